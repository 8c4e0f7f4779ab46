abbrev P_Mo_runTime_90_b (F : ov_H × ov_Z) (z : ov_Z) (h : ov_H) : Option ov_V → ov_Z → ov_H → Prop := fun r0 z' h' => ∃ r : Int, r0 = some (ov_i r) ∧ z = z' ∧ h = h' ∧ (r = ov_rt (h 96) ∧ 0 ≤ r ∧ r ≤ 30)
set_option maxHeartbeats 4000000 in
theorem c_Mo_runTime_90_b {u : ov_U} {F : ov_H × ov_Z} {z : ov_Z} {h : ov_H} (d : Nat) (hd : 0 ≤ d) (U : ov_cap u) (I : ov_N F z h) : ov_T u d ov_m256 [ov_r 90] z h (P_Mo_runTime_90_b F z h) := by
  refine ov_en rfl (Nat.le_of_ble_eq_true rfl) ?_
  show ov_R u d ov_m256 0 [(0, ov_r 90)] [] z h (P_Mo_runTime_90_b F z h)
  refine ov_blk (ls2 := [(0, ov_r 90)]) (st2 := [ov_r 90]) (pc2 := 1) b_256_0_1 rfl rfl ?_
  refine ov_getf (v := ov_r 96) d_256_1 fl_Mo_81 (zb_90 I) (zs_90 I) (congrArg ov_r (rg_90_10 I)) ?_
  refine ov_blk (ls2 := [(0, ov_r 90)]) (st2 := [ov_i 3, ov_r 96]) (pc2 := 5) b_256_4_1 rfl rfl ?_
  refine ov_iald d_256_5 (zb_96 I) (zs_96 I) (by omega) ?_
  have g1 := t96_3 I
  refine ov_ifge (tgt := 18) d_256_6 (by decide) (by omega) (fun c2 => ?_) (fun c2 => ?_)
  · skip
    refine ov_blk (ls2 := [(0, ov_r 90)]) (st2 := [ov_r 90]) (pc2 := 19) b_256_18_1 rfl rfl ?_
    refine ov_getf (v := ov_r 96) d_256_19 fl_Mo_81 (zb_90 I) (zs_90 I) (congrArg ov_r (rg_90_10 I)) ?_
    refine ov_blk (ls2 := [(0, ov_r 90)]) (st2 := [ov_i 3, ov_r 96]) (pc2 := 23) b_256_22_1 rfl rfl ?_
    refine ov_iald d_256_23 (zb_96 I) (zs_96 I) (by omega) ?_
    have qv : ov_rt (h 96) = (h 96 3) := by unfold ov_rt; repeat (first | rw [if_pos (by omega)] | rw [if_neg (by omega)])
    exact ov_reti (st := []) d_256_24 rfl ⟨_, rfl, rfl, rfl, (by show (h 96 3) = ov_rt (h 96) ∧ 0 ≤ (h 96 3) ∧ (h 96 3) ≤ 30; omega)⟩
  · skip
    refine ov_blk (ls2 := [(0, ov_r 90)]) (st2 := [ov_r 90]) (pc2 := 10) b_256_9_1 rfl rfl ?_
    refine ov_getf (v := ov_r 96) d_256_10 fl_Mo_81 (zb_90 I) (zs_90 I) (congrArg ov_r (rg_90_10 I)) ?_
    refine ov_blk (ls2 := [(0, ov_r 90)]) (st2 := [ov_i 2, ov_r 96]) (pc2 := 14) b_256_13_1 rfl rfl ?_
    refine ov_iald d_256_14 (zb_96 I) (zs_96 I) (by omega) ?_
    have g4 := t96_2 I
    refine ov_goto (tgt := 24) d_256_15 (by decide) ?_
    have qv : ov_rt (h 96) = (h 96 2) := by unfold ov_rt; repeat (first | rw [if_pos (by omega)] | rw [if_neg (by omega)])
    exact ov_reti (st := []) d_256_24 rfl ⟨_, rfl, rfl, rfl, (by show (h 96 2) = ov_rt (h 96) ∧ 0 ≤ (h 96 2) ∧ (h 96 2) ≤ 30; omega)⟩
abbrev P_Mo_slowTime_90_b (F : ov_H × ov_Z) (z : ov_Z) (h : ov_H) : Option ov_V → ov_Z → ov_H → Prop := fun r0 z' h' => ∃ r : Int, r0 = some (ov_i r) ∧ z = z' ∧ h = h' ∧ (r = ov_slt (h 96) ∧ 0 ≤ r ∧ r ≤ 30)
set_option maxHeartbeats 4000000 in
theorem c_Mo_slowTime_90_b {u : ov_U} {F : ov_H × ov_Z} {z : ov_Z} {h : ov_H} (d : Nat) (hd : 0 ≤ d) (U : ov_cap u) (I : ov_N F z h) : ov_T u d ov_m291 [ov_r 90] z h (P_Mo_slowTime_90_b F z h) := by
  refine ov_en rfl (Nat.le_of_ble_eq_true rfl) ?_
  show ov_R u d ov_m291 0 [(0, ov_r 90)] [] z h (P_Mo_slowTime_90_b F z h)
  refine ov_blk (ls2 := [(0, ov_r 90)]) (st2 := [ov_r 90]) (pc2 := 1) b_291_0_1 rfl rfl ?_
  refine ov_getf (v := ov_r 96) d_291_1 fl_Mo_81 (zb_90 I) (zs_90 I) (congrArg ov_r (rg_90_10 I)) ?_
  refine ov_blk (ls2 := [(0, ov_r 90)]) (st2 := [ov_i 4, ov_r 96]) (pc2 := 5) b_291_4_1 rfl rfl ?_
  refine ov_iald d_291_5 (zb_96 I) (zs_96 I) (by omega) ?_
  have g1 := t96_4 I
  refine ov_ifge (tgt := 18) d_291_6 (by decide) (by omega) (fun c2 => ?_) (fun c2 => ?_)
  · skip
    refine ov_blk (ls2 := [(0, ov_r 90)]) (st2 := [ov_r 90]) (pc2 := 19) b_291_18_1 rfl rfl ?_
    refine ov_getf (v := ov_r 96) d_291_19 fl_Mo_81 (zb_90 I) (zs_90 I) (congrArg ov_r (rg_90_10 I)) ?_
    refine ov_blk (ls2 := [(0, ov_r 90)]) (st2 := [ov_i 4, ov_r 96]) (pc2 := 23) b_291_22_1 rfl rfl ?_
    refine ov_iald d_291_23 (zb_96 I) (zs_96 I) (by omega) ?_
    have qv : ov_slt (h 96) = (h 96 4) := by unfold ov_slt; repeat (first | rw [if_pos (by omega)] | rw [if_neg (by omega)])
    exact ov_reti (st := []) d_291_24 rfl ⟨_, rfl, rfl, rfl, (by show (h 96 4) = ov_slt (h 96) ∧ 0 ≤ (h 96 4) ∧ (h 96 4) ≤ 30; omega)⟩
  · skip
    refine ov_blk (ls2 := [(0, ov_r 90)]) (st2 := [ov_r 90]) (pc2 := 10) b_291_9_1 rfl rfl ?_
    refine ov_getf (v := ov_r 96) d_291_10 fl_Mo_81 (zb_90 I) (zs_90 I) (congrArg ov_r (rg_90_10 I)) ?_
    refine ov_blk (ls2 := [(0, ov_r 90)]) (st2 := [ov_i 2, ov_r 96]) (pc2 := 14) b_291_13_1 rfl rfl ?_
    refine ov_iald d_291_14 (zb_96 I) (zs_96 I) (by omega) ?_
    have g4 := t96_2 I
    refine ov_goto (tgt := 24) d_291_15 (by decide) ?_
    have qv : ov_slt (h 96) = (h 96 2) := by unfold ov_slt; repeat (first | rw [if_pos (by omega)] | rw [if_neg (by omega)])
    exact ov_reti (st := []) d_291_24 rfl ⟨_, rfl, rfl, rfl, (by show (h 96 2) = ov_slt (h 96) ∧ 0 ≤ (h 96 2) ∧ (h 96 2) ≤ 30; omega)⟩
abbrev P_Mo_fastest_90_b (F : ov_H × ov_Z) (z : ov_Z) (h : ov_H) : Option ov_V → ov_Z → ov_H → Prop := fun r0 z' h' => ∃ r : Int, r0 = some (ov_i r) ∧ z = z' ∧ h = h' ∧ (r = ov_fst (h 96) ∧ 0 ≤ r ∧ r ≤ 30)
set_option maxHeartbeats 4000000 in
theorem c_Mo_fastest_90_b {u : ov_U} {F : ov_H × ov_Z} {z : ov_Z} {h : ov_H} (d : Nat) (hd : 1 ≤ d) (U : ov_cap u) (I : ov_N F z h) : ov_T u d ov_m290 [ov_r 90] z h (P_Mo_fastest_90_b F z h) := by
  refine ov_en rfl (Nat.le_of_ble_eq_true rfl) ?_
  show ov_R u d ov_m290 0 [(0, ov_r 90)] [] z h (P_Mo_fastest_90_b F z h)
  refine ov_blk (ls2 := [(0, ov_r 90)]) (st2 := [ov_r 90]) (pc2 := 1) b_290_0_1 rfl rfl ?_
  refine ov_cV (as := []) (st := []) (d2 := d - 1) d_290_1 lk_Mo_332 rfl (Nat.le_of_ble_eq_true rfl) (c := 1) (zb_90 I) (zs_90 I) ⟨by decide, rfl⟩ (by omega) (c_Mo_runTime_90_b (d - 1) (by omega) U I) ?_
  rintro _ _ _ ⟨v2, rfl, rfl, rfl, f1⟩
  show ov_R u d ov_m290 4 [(0, ov_r 90)] [ov_i v2] z h (P_Mo_fastest_90_b F z h)
  have f3 : v2 = ov_rt (h 96) ∧ 0 ≤ v2 ∧ v2 ≤ 30 := f1
  clear f1
  refine ov_blk (ls2 := [(0, ov_r 90)]) (st2 := [ov_r 90, ov_i v2]) (pc2 := 5) b_290_4_1 rfl rfl ?_
  refine ov_cV (as := []) (st := [ov_i v2]) (d2 := d - 1) d_290_5 lk_Mo_411 rfl (Nat.le_of_ble_eq_true rfl) (c := 1) (zb_90 I) (zs_90 I) ⟨by decide, rfl⟩ (by omega) (c_Mo_slowTime_90_b (d - 1) (by omega) U I) ?_
  rintro _ _ _ ⟨v5, rfl, rfl, rfl, f4⟩
  show ov_R u d ov_m290 8 [(0, ov_r 90)] [ov_i v5, ov_i v2] z h (P_Mo_fastest_90_b F z h)
  have f6 : v5 = ov_slt (h 96) ∧ 0 ≤ v5 ∧ v5 ≤ 30 := f4
  clear f4
  refine ov_icle (tgt := 20) d_290_8 (by decide) (by omega) (by omega) (fun c7 => ?_) (fun c7 => ?_)
  · skip
    refine ov_blk (ls2 := [(0, ov_r 90)]) (st2 := [ov_r 90]) (pc2 := 21) b_290_20_1 rfl rfl ?_
    refine ov_cV (as := []) (st := []) (d2 := d - 1) d_290_21 lk_Mo_332 rfl (Nat.le_of_ble_eq_true rfl) (c := 1) (zb_90 I) (zs_90 I) ⟨by decide, rfl⟩ (by omega) (c_Mo_runTime_90_b (d - 1) (by omega) U I) ?_
    rintro _ _ _ ⟨v9, rfl, rfl, rfl, f8⟩
    show ov_R u d ov_m290 24 [(0, ov_r 90)] [ov_i v9] z h (P_Mo_fastest_90_b F z h)
    have f10 : v9 = ov_rt (h 96) ∧ 0 ≤ v9 ∧ v9 ≤ 30 := f8
    clear f8
    have qv : ov_fst (h 96) = v9 := by unfold ov_fst; first | (rw [if_pos (by omega)]; omega) | (rw [if_neg (by omega)]; omega) | rw [if_pos (by omega)]
    exact ov_reti (st := []) d_290_24 rfl ⟨_, rfl, rfl, rfl, (by show v9 = ov_fst (h 96) ∧ 0 ≤ v9 ∧ v9 ≤ 30; omega)⟩
  · skip
    refine ov_blk (ls2 := [(0, ov_r 90)]) (st2 := [ov_r 90]) (pc2 := 12) b_290_11_1 rfl rfl ?_
    refine ov_getf (v := ov_r 96) d_290_12 fl_Mo_81 (zb_90 I) (zs_90 I) (congrArg ov_r (rg_90_10 I)) ?_
    refine ov_blk (ls2 := [(0, ov_r 90)]) (st2 := [ov_i 2, ov_r 96]) (pc2 := 16) b_290_15_1 rfl rfl ?_
    refine ov_iald d_290_16 (zb_96 I) (zs_96 I) (by omega) ?_
    have g11 := t96_2 I
    refine ov_goto (tgt := 24) d_290_17 (by decide) ?_
    have qv : ov_fst (h 96) = (h 96 2) := by unfold ov_fst; first | (rw [if_pos (by omega)]; omega) | (rw [if_neg (by omega)]; omega) | rw [if_pos (by omega)]
    exact ov_reti (st := []) d_290_24 rfl ⟨_, rfl, rfl, rfl, (by show (h 96 2) = ov_fst (h 96) ∧ 0 ≤ (h 96 2) ∧ (h 96 2) ≤ 30; omega)⟩
abbrev P_Mo_slowest_90_b (F : ov_H × ov_Z) (z : ov_Z) (h : ov_H) : Option ov_V → ov_Z → ov_H → Prop := fun r0 z' h' => ∃ r : Int, r0 = some (ov_i r) ∧ z = z' ∧ h = h' ∧ (r = ov_slw (h 96) ∧ 0 ≤ r ∧ r ≤ 30)
set_option maxHeartbeats 4000000 in
theorem c_Mo_slowest_90_b {u : ov_U} {F : ov_H × ov_Z} {z : ov_Z} {h : ov_H} (d : Nat) (hd : 1 ≤ d) (U : ov_cap u) (I : ov_N F z h) : ov_T u d ov_m292 [ov_r 90] z h (P_Mo_slowest_90_b F z h) := by
  refine ov_en rfl (Nat.le_of_ble_eq_true rfl) ?_
  show ov_R u d ov_m292 0 [(0, ov_r 90)] [] z h (P_Mo_slowest_90_b F z h)
  refine ov_blk (ls2 := [(0, ov_r 90)]) (st2 := [ov_r 90]) (pc2 := 1) b_292_0_1 rfl rfl ?_
  refine ov_cV (as := []) (st := []) (d2 := d - 1) d_292_1 lk_Mo_332 rfl (Nat.le_of_ble_eq_true rfl) (c := 1) (zb_90 I) (zs_90 I) ⟨by decide, rfl⟩ (by omega) (c_Mo_runTime_90_b (d - 1) (by omega) U I) ?_
  rintro _ _ _ ⟨v2, rfl, rfl, rfl, f1⟩
  show ov_R u d ov_m292 4 [(0, ov_r 90)] [ov_i v2] z h (P_Mo_slowest_90_b F z h)
  have f3 : v2 = ov_rt (h 96) ∧ 0 ≤ v2 ∧ v2 ≤ 30 := f1
  clear f1
  refine ov_blk (ls2 := [(0, ov_r 90)]) (st2 := [ov_r 90, ov_i v2]) (pc2 := 5) b_292_4_1 rfl rfl ?_
  refine ov_cV (as := []) (st := [ov_i v2]) (d2 := d - 1) d_292_5 lk_Mo_411 rfl (Nat.le_of_ble_eq_true rfl) (c := 1) (zb_90 I) (zs_90 I) ⟨by decide, rfl⟩ (by omega) (c_Mo_slowTime_90_b (d - 1) (by omega) U I) ?_
  rintro _ _ _ ⟨v5, rfl, rfl, rfl, f4⟩
  show ov_R u d ov_m292 8 [(0, ov_r 90)] [ov_i v5, ov_i v2] z h (P_Mo_slowest_90_b F z h)
  have f6 : v5 = ov_slt (h 96) ∧ 0 ≤ v5 ∧ v5 ≤ 30 := f4
  clear f4
  refine ov_icle (tgt := 20) d_292_8 (by decide) (by omega) (by omega) (fun c7 => ?_) (fun c7 => ?_)
  · skip
    refine ov_blk (ls2 := [(0, ov_r 90)]) (st2 := [ov_r 90]) (pc2 := 21) b_292_20_1 rfl rfl ?_
    refine ov_cV (as := []) (st := []) (d2 := d - 1) d_292_21 lk_Mo_411 rfl (Nat.le_of_ble_eq_true rfl) (c := 1) (zb_90 I) (zs_90 I) ⟨by decide, rfl⟩ (by omega) (c_Mo_slowTime_90_b (d - 1) (by omega) U I) ?_
    rintro _ _ _ ⟨v9, rfl, rfl, rfl, f8⟩
    show ov_R u d ov_m292 24 [(0, ov_r 90)] [ov_i v9] z h (P_Mo_slowest_90_b F z h)
    have f10 : v9 = ov_slt (h 96) ∧ 0 ≤ v9 ∧ v9 ≤ 30 := f8
    clear f8
    have qv : ov_slw (h 96) = v9 := by unfold ov_slw; first | (rw [if_pos (by omega)]; omega) | (rw [if_neg (by omega)]; omega) | rw [if_pos (by omega)]
    exact ov_reti (st := []) d_292_24 rfl ⟨_, rfl, rfl, rfl, (by show v9 = ov_slw (h 96) ∧ 0 ≤ v9 ∧ v9 ≤ 30; omega)⟩
  · skip
    refine ov_blk (ls2 := [(0, ov_r 90)]) (st2 := [ov_r 90]) (pc2 := 12) b_292_11_1 rfl rfl ?_
    refine ov_getf (v := ov_r 96) d_292_12 fl_Mo_81 (zb_90 I) (zs_90 I) (congrArg ov_r (rg_90_10 I)) ?_
    refine ov_blk (ls2 := [(0, ov_r 90)]) (st2 := [ov_i 2, ov_r 96]) (pc2 := 16) b_292_15_1 rfl rfl ?_
    refine ov_iald d_292_16 (zb_96 I) (zs_96 I) (by omega) ?_
    have g11 := t96_2 I
    refine ov_goto (tgt := 24) d_292_17 (by decide) ?_
    have qv : ov_slw (h 96) = (h 96 2) := by unfold ov_slw; first | (rw [if_pos (by omega)]; omega) | (rw [if_neg (by omega)]; omega) | rw [if_pos (by omega)]
    exact ov_reti (st := []) d_292_24 rfl ⟨_, rfl, rfl, rfl, (by show (h 96 2) = ov_slw (h 96) ∧ 0 ≤ (h 96 2) ∧ (h 96 2) ≤ 30; omega)⟩
abbrev P_Mo_bestPace_90 (F : ov_H × ov_Z) (z : ov_Z) (h : ov_H) (so : Int) (ln : Int) (tm : Int) (rn : Int) : Option ov_V → ov_Z → ov_H → Prop := fun r0 z' h' => ∃ r : Int, r0 = some (ov_i r) ∧ ov_N F z' h' ∧ ((h' 90 2) = (h 90 2) ∧ (h' 90 7) = (h 90 7) ∧ (h' 90 8) = (h 90 8) ∧ (h' 90 13) = (h 90 13) ∧ (h' 90 20) = (h 90 20) ∧ (h' 90 22) = (h 90 22) ∧ (h' 90 25) = (h 90 25) ∧ (h' 90 26) = (h 90 26) ∧ (h' 90 28) = (h 90 28) ∧ (h' 90 29) = (h 90 29) ∧ (h' 90 30) = (h 90 30) ∧ (h' 90 34) = (h 90 34) ∧ (h' 90 37) = (h 90 37) ∧ r = (ov_bp (h 96) (h 100) so) ln tm rn ∧ 1 ≤ r ∧ (r = 2000000000 ∨ r ≤ 1201 + 100000 * (13 - ln))) ∧ h' 91 = h 91 ∧ h' 92 = h 92 ∧ h' 93 = h 93 ∧ h' 94 = h 94 ∧ h' 95 = h 95 ∧ h' 96 = h 96 ∧ h' 97 = h 97 ∧ h' 98 = h 98 ∧ h' 99 = h 99 ∧ h' 100 = h 100 ∧ h' 103 = h 103 ∧ h' 105 = h 105 ∧ h' 106 = h 106 ∧ h' 114 = h 114 ∧ (ov_PI (h 96) (h 100) so (h' 109))
abbrev P_Mo_paceBy_90 (F : ov_H × ov_Z) (z : ov_Z) (h : ov_H) (so : Int) (ln : Int) (tm : Int) (rn : Int) (s : Int) : Option ov_V → ov_Z → ov_H → Prop := fun r0 z' h' => ∃ r : Int, r0 = some (ov_i r) ∧ ov_N F z' h' ∧ ((h' 90 2) = (h 90 2) ∧ (h' 90 7) = (h 90 7) ∧ (h' 90 8) = (h 90 8) ∧ (h' 90 13) = (h 90 13) ∧ (h' 90 20) = (h 90 20) ∧ (h' 90 22) = (h 90 22) ∧ (h' 90 25) = (h 90 25) ∧ (h' 90 26) = (h 90 26) ∧ (h' 90 28) = (h 90 28) ∧ (h' 90 29) = (h 90 29) ∧ (h' 90 30) = (h 90 30) ∧ (h' 90 34) = (h 90 34) ∧ (h' 90 37) = (h 90 37) ∧ r = (ov_pq (h 96) (h 100) so (ov_bp (h 96) (h 100) so) ln tm rn) s ∧ 1 ≤ r ∧ (r = 2000000000 ∨ r ≤ 1201 + 100000 * (13 - ln))) ∧ h' 91 = h 91 ∧ h' 92 = h 92 ∧ h' 93 = h 93 ∧ h' 94 = h 94 ∧ h' 95 = h 95 ∧ h' 96 = h 96 ∧ h' 97 = h 97 ∧ h' 98 = h 98 ∧ h' 99 = h 99 ∧ h' 100 = h 100 ∧ h' 103 = h 103 ∧ h' 105 = h 105 ∧ h' 106 = h 106 ∧ h' 114 = h 114 ∧ (ov_PI (h 96) (h 100) so (h' 109))
set_option maxHeartbeats 4000000 in
theorem c_Mo_paceBy_90 {u : ov_U} {F : ov_H × ov_Z} (so : Int) (k : Nat) (HV : ∀ k' : Nat, k' < k → ∀ {z : ov_Z} {h : ov_H} (d : Nat) (hd : (10 + 2 * k' + 1) ≤ d) (U : ov_cap u) (I : ov_N F z h) (ln : Int) (tm : Int) (rn : Int) (g_ln : ov_g ln) (g_tm : ov_g tm) (g_rn : ov_g rn) (p0 : 0 ≤ ln ∧ ln + (k' : Int) = (h 100 0)) (p1 : 0 ≤ tm ∧ tm + 89 * (k' : Int) ≤ 1157) (p2 : 0 ≤ rn ∧ rn ≤ 9) (p3 : (h 90 37) = so) (W : ov_WT (h 96)) (W2 : ov_WK (h 100)) (PI : ov_PI (h 96) (h 100) so (h 109)), ov_T u d ov_m289 [ov_r 90, ov_i ln, ov_i tm, ov_i rn] z h (P_Mo_bestPace_90 F z h so ln tm rn)) {z : ov_Z} {h : ov_H} (d : Nat) (hd : (10 + 2 * k + 0) ≤ d) (U : ov_cap u) (I : ov_N F z h) (ln : Int) (tm : Int) (rn : Int) (s : Int) (g_ln : ov_g ln) (g_tm : ov_g tm) (g_rn : ov_g rn) (g_s : ov_g s) (p0 : 0 ≤ ln ∧ ln + (k : Int) = (h 100 0)) (p1 : ln < (h 100 0)) (p2 : 0 ≤ tm ∧ tm + 89 * (k : Int) ≤ 1157) (p3 : 0 ≤ rn ∧ rn ≤ 9) (p4 : 0 ≤ s ∧ s ≤ 30) (p5 : (h 90 37) = so) (W : ov_WT (h 96)) (W2 : ov_WK (h 100)) (PI : ov_PI (h 96) (h 100) so (h 109)) : ov_T u d ov_m293 [ov_r 90, ov_i ln, ov_i tm, ov_i rn, ov_i s] z h (P_Mo_paceBy_90 F z h so ln tm rn s) := by
  refine ov_en rfl (Nat.le_of_ble_eq_true rfl) ?_
  show ov_R u d ov_m293 0 [(0, ov_r 90), (1, ov_i ln), (2, ov_i tm), (3, ov_i rn), (4, ov_i s)] [] z h (P_Mo_paceBy_90 F z h so ln tm rn s)
  have t0 := t96_0 I
  have t1 := t96_1 I
  have wk : ∀ j : Int, 0 ≤ j → j ≤ 12 → 0 ≤ h 100 (1 + 2 * j) ∧ h 100 (1 + 2 * j) ≤ 1 := fun j h1 h2 => s100_w I ⟨h1, h2⟩
  have wz := s100_0 I
  refine ov_blk (ls2 := [(0, ov_r 90), (1, ov_i ln), (2, ov_i tm), (3, ov_i rn), (4, ov_i s)]) (st2 := [ov_i ln, ov_r 90]) (pc2 := 2) b_293_0_2 rfl rfl ?_
  refine ov_cV (as := [ov_i ln]) (st := []) (d2 := d - 1) d_293_2 lk_Mo_423 rfl (Nat.le_of_ble_eq_true rfl) (c := 1) (zb_90 I) (zs_90 I) ⟨by decide, rfl⟩ (by omega) (c_Mo_xAt_90 (d - 1) (by omega) U I ln (by omega) (by omega)) ?_
  rintro _ _ _ ⟨v2, rfl, rfl, rfl, f1⟩
  show ov_R u d ov_m293 5 [(0, ov_r 90), (1, ov_i ln), (2, ov_i tm), (3, ov_i rn), (4, ov_i s)] [ov_i v2] z h (P_Mo_paceBy_90 F z h so ln tm rn s)
  have f3 : v2 = ov_sx (h 100) (Int.toNat ln) ∧ 0 ≤ v2 ∧ v2 ≤ ln := f1
  clear f1
  have ev : v2 = ov_sx (h 100) (Int.toNat ln) := by omega
  have wi := ov_WK_in W2 wk (by omega) (k := ln) (by omega)
  have ww := wk ln (by omega) (by omega)
  refine ov_blk (ls2 := [(0, ov_r 90), (1, ov_i ln), (2, ov_i tm), (3, ov_i rn), (4, ov_i s), (5, ov_i v2), (6, ov_i (ln - v2))]) (st2 := [ov_r 90]) (pc2 := 14) b_293_5_6 rfl rfl ?_
  refine ov_getf (v := ov_r 100) d_293_14 fl_Mo_93 (zb_90 I) (zs_90 I) (congrArg ov_r (rg_90_16 I)) ?_
  refine ov_blk (ls2 := [(0, ov_r 90), (1, ov_i ln), (2, ov_i tm), (3, ov_i rn), (4, ov_i s), (5, ov_i v2), (6, ov_i (ln - v2))]) (st2 := [ov_i (1 + (2 * ln)), ov_r 100]) (pc2 := 22) b_293_17_5 rfl rfl ?_
  refine ov_iald d_293_22 (zb_100 I) (zs_100 I) (by omega) ?_
  have g4 := s100_g I (1 + (2 * ln))
  refine ov_blk (ls2 := [(0, ov_r 90), (1, ov_i ln), (2, ov_i tm), (3, ov_i rn), (4, ov_i s), (5, ov_i v2), (6, ov_i (ln - v2)), (7, ov_i (h 100 (1 + (2 * ln))))]) (st2 := [ov_r 90, ov_i s]) (pc2 := 28) b_293_23_3 rfl rfl ?_
  refine ov_getf (v := ov_r 96) d_293_28 fl_Mo_81 (zb_90 I) (zs_90 I) (congrArg ov_r (rg_90_10 I)) ?_
  refine ov_blk (ls2 := [(0, ov_r 90), (1, ov_i ln), (2, ov_i tm), (3, ov_i rn), (4, ov_i s), (5, ov_i v2), (6, ov_i (ln - v2)), (7, ov_i (h 100 (1 + (2 * ln))))]) (st2 := [ov_i 2, ov_r 96, ov_i s]) (pc2 := 32) b_293_31_1 rfl rfl ?_
  refine ov_iald d_293_32 (zb_96 I) (zs_96 I) (by omega) ?_
  have g5 := t96_2 I
  refine ov_icge (tgt := 40) d_293_33 (by decide) (by omega) (by omega) (fun c6 => ?_) (fun c6 => ?_)
  · skip
    refine ov_blk (ls2 := [(0, ov_r 90), (1, ov_i ln), (2, ov_i tm), (3, ov_i rn), (4, ov_i s), (5, ov_i v2), (6, ov_i (ln - v2)), (7, ov_i (h 100 (1 + (2 * ln)))), (8, ov_i 0)]) (st2 := [ov_i (h 100 (1 + (2 * ln))), ov_i (ln - v2), ov_i v2, ov_r 90]) (pc2 := 50) b_293_40_6 rfl rfl ?_
    refine ov_cV (as := [ov_i v2, ov_i (ln - v2), ov_i (h 100 (1 + (2 * ln)))]) (st := []) (d2 := d - 1) d_293_50 lk_Mo_309 rfl (Nat.le_of_ble_eq_true rfl) (c := 1) (zb_90 I) (zs_90 I) ⟨by decide, rfl⟩ (by omega) (c_Mo_canGo_90 (d - 1) (by omega) U I v2 (ln - v2) (h 100 (1 + (2 * ln))) (by omega) (by omega) (by omega) (by omega) (by omega)) ?_
    rintro _ _ _ ⟨v8, rfl, rfl, rfl, f7⟩
    show ov_R u d ov_m293 53 [(0, ov_r 90), (1, ov_i ln), (2, ov_i tm), (3, ov_i rn), (4, ov_i s), (5, ov_i v2), (6, ov_i (ln - v2)), (7, ov_i (h 100 (1 + (2 * ln)))), (8, ov_i 0)] [ov_i v8] z h (P_Mo_paceBy_90 F z h so ln tm rn s)
    have f9 : (v8 = 0 ∨ v8 = 1) ∧ v8 = ov_cgi (h 96) v2 (ln - v2) (h 100 (1 + (2 * ln))) ∧ (v8 = 1 → (((h 100 (1 + (2 * ln))) = 0 → v2 < (h 96 0) - 1) ∧ (¬ (h 100 (1 + (2 * ln))) = 0 → (ln - v2) < (h 96 1) - 1)) ∧ (((h 96 (10 + 4 * (6 * (ln - v2) + v2))) = 1 ∨ (h 96 (10 + 4 * (6 * (ln - v2) + v2))) = 2) → ((h 100 (1 + (2 * ln))) = 0 → 0 < (h 96 (10 + 4 * (6 * (ln - v2) + v2) + 3))) ∧ (¬ (h 100 (1 + (2 * ln))) = 0 → (h 96 (10 + 4 * (6 * (ln - v2) + v2) + 3)) < (h 96 (10 + 4 * (6 * (ln - v2) + v2) + 1))))) := f7
    clear f7
    refine ov_ifeq (tgt := 65) d_293_53 (by decide) (by omega) (fun c10 => ?_) (fun c10 => ?_)
    · skip
      have f9_ : v8 = 0 := by omega
      have f11 : v8 = ov_cgi (h 96) v2 (ln - v2) (h 100 (1 + (2 * ln))) := f9.2.1
      clear f9
      refine ov_ldcw (n := 2000000000) d_293_65 kc_Mo_338 ?_
      have e9 : ov_pq (h 96) (h 100) so (ov_bp (h 96) (h 100) so) ln tm rn s = 2000000000 := ov_pq_0 ev (by omega)
      exact ov_reti (st := []) d_293_68 rfl ⟨_, rfl, I, ⟨rfl, rfl, rfl, rfl, rfl, rfl, rfl, rfl, rfl, rfl, rfl, rfl, (by show (h 90 37) = (h 90 37) ∧ 2000000000 = (ov_pq (h 96) (h 100) so (ov_bp (h 96) (h 100) so) ln tm rn) s ∧ 1 ≤ 2000000000 ∧ (2000000000 = 2000000000 ∨ 2000000000 ≤ 1201 + 100000 * (13 - ln)); omega)⟩, rfl, rfl, rfl, rfl, rfl, rfl, rfl, rfl, rfl, rfl, rfl, rfl, rfl, rfl, PI⟩
    · skip
      have f9_ : v8 = 1 := by omega
      have f12 : v8 = ov_cgi (h 96) v2 (ln - v2) (h 100 (1 + (2 * ln))) := f9.2.1
      have f13 : (((h 100 (1 + (2 * ln))) = 0 → v2 < (h 96 0) - 1) ∧ (¬ (h 100 (1 + (2 * ln))) = 0 → (ln - v2) < (h 96 1) - 1)) ∧ (((h 96 (10 + 4 * (6 * (ln - v2) + v2))) = 1 ∨ (h 96 (10 + 4 * (6 * (ln - v2) + v2))) = 2) → ((h 100 (1 + (2 * ln))) = 0 → 0 < (h 96 (10 + 4 * (6 * (ln - v2) + v2) + 3))) ∧ (¬ (h 100 (1 + (2 * ln))) = 0 → (h 96 (10 + 4 * (6 * (ln - v2) + v2) + 3)) < (h 96 (10 + 4 * (6 * (ln - v2) + v2) + 1)))) := f9.2.2 (by omega)
      clear f9
      refine ov_blk (ls2 := [(0, ov_r 90), (1, ov_i ln), (2, ov_i tm), (3, ov_i rn), (4, ov_i s), (5, ov_i v2), (6, ov_i (ln - v2)), (7, ov_i (h 100 (1 + (2 * ln)))), (8, ov_i 0)]) (st2 := [ov_i 0]) (pc2 := 58) b_293_56_1 rfl rfl ?_
      refine ov_ifeq (tgt := 69) d_293_58 (by decide) (by omega) (fun c14 => ?_) (fun c14 => ?_)
      · skip
        refine ov_blk (ls2 := [(0, ov_r 90), (1, ov_i ln), (2, ov_i tm), (3, ov_i rn), (4, ov_i s), (5, ov_i v2), (6, ov_i (ln - v2)), (7, ov_i (h 100 (1 + (2 * ln)))), (8, ov_i 0)]) (st2 := [ov_r 90, ov_i (h 100 (1 + (2 * ln))), ov_i (ln - v2), ov_i v2, ov_r 90]) (pc2 := 77) b_293_69_5 rfl rfl ?_
        refine ov_getf (v := ov_i (h 90 37)) d_293_77 fl_Mo_426 (zb_90 I) (zs_90 I) rfl ?_
        have g15 := rg_90_37 I
        refine ov_blk (ls2 := [(0, ov_r 90), (1, ov_i ln), (2, ov_i tm), (3, ov_i rn), (4, ov_i s), (5, ov_i v2), (6, ov_i (ln - v2)), (7, ov_i (h 100 (1 + (2 * ln)))), (8, ov_i 0)]) (st2 := [ov_i ((h 90 37) + tm), ov_i (h 100 (1 + (2 * ln))), ov_i (ln - v2), ov_i v2, ov_r 90]) (pc2 := 82) b_293_80_2 rfl rfl ?_
        refine ov_cV (as := [ov_i v2, ov_i (ln - v2), ov_i (h 100 (1 + (2 * ln))), ov_i ((h 90 37) + tm)]) (st := []) (d2 := d - 1) d_293_82 lk_Mo_315 rfl (Nat.le_of_ble_eq_true rfl) (c := 1) (zb_90 I) (zs_90 I) ⟨by decide, rfl⟩ (by omega) (c_Mo_waitFor_90 (d - 1) (by omega) U I v2 (ln - v2) (h 100 (1 + (2 * ln))) ((h 90 37) + tm) (by omega) (by omega) (by omega) (by omega) (by omega) (by omega) (by omega) (by show (((h 96 (10 + 4 * (6 * (ln - v2) + v2))) = 1 ∨ (h 96 (10 + 4 * (6 * (ln - v2) + v2))) = 2) → ((h 100 (1 + (2 * ln))) = 0 → 0 < (h 96 (10 + 4 * (6 * (ln - v2) + v2) + 3))) ∧ (¬ (h 100 (1 + (2 * ln))) = 0 → (h 96 (10 + 4 * (6 * (ln - v2) + v2) + 3)) < (h 96 (10 + 4 * (6 * (ln - v2) + v2) + 1)))); omega) W) ?_
        rintro _ _ _ ⟨v17, rfl, rfl, rfl, f16⟩
        show ov_R u d ov_m293 85 [(0, ov_r 90), (1, ov_i ln), (2, ov_i tm), (3, ov_i rn), (4, ov_i s), (5, ov_i v2), (6, ov_i (ln - v2)), (7, ov_i (h 100 (1 + (2 * ln)))), (8, ov_i 0)] [ov_i v17] z h (P_Mo_paceBy_90 F z h so ln tm rn s)
        have f18 : 0 ≤ v17 ∧ v17 ≤ 59 ∧ v17 = ov_wm (h 96) (6 * (ln - v2) + v2) (h 100 (1 + (2 * ln))) ((h 90 37) + tm) := f16
        clear f16
        have hw : v17 = ov_wm (h 96) (6 * (ln - v2) + v2) (h 100 (1 + 2 * ln)) (so + tm) := by rw [show so = h 90 37 by omega]; omega
        refine ov_blk (ls2 := [(0, ov_r 90), (1, ov_i ln), (2, ov_i tm), (3, ov_i rn), (4, ov_i s), (5, ov_i v2), (6, ov_i (ln - v2)), (7, ov_i (h 100 (1 + (2 * ln)))), (8, ov_i 0), (9, ov_i v17)]) (st2 := [ov_i 0, ov_i ((tm + v17) + s), ov_i (ln + 1), ov_r 90]) (pc2 := 100) b_293_85_11 rfl rfl ?_
        refine ov_ifeq (tgt := 109) d_293_100 (by decide) (by omega) (fun c19 => ?_) (fun c19 => ?_)
        · skip
          refine ov_blk (ls2 := [(0, ov_r 90), (1, ov_i ln), (2, ov_i tm), (3, ov_i rn), (4, ov_i s), (5, ov_i v2), (6, ov_i (ln - v2)), (7, ov_i (h 100 (1 + (2 * ln)))), (8, ov_i 0), (9, ov_i v17)]) (st2 := [ov_i rn, ov_i ((tm + v17) + s), ov_i (ln + 1), ov_r 90]) (pc2 := 110) b_293_109_1 rfl rfl ?_
          refine ov_cV (as := [ov_i (ln + 1), ov_i ((tm + v17) + s), ov_i rn]) (st := []) (d2 := d - 1) d_293_110 lk_Mo_429 rfl (Nat.le_of_ble_eq_true rfl) (c := 1) (zb_90 I) (zs_90 I) ⟨by decide, rfl⟩ (by omega) (HV (Int.toNat (h 100 0 - ((ln + 1)))) (by omega) (d - 1) (by omega) U I (ln + 1) ((tm + v17) + s) rn (by omega) (by omega) (by omega) (by show 0 ≤ (ln + 1) ∧ (ln + 1) + ((Int.toNat (h 100 0 - ((ln + 1))) : Nat) : Int) = (h 100 0); omega) (by omega) (by omega) (by show (h 90 37) = so; omega) W W2 PI) ?_
          rintro _ z37 h38 ⟨v21, rfl, I39, f20, e22, e23, e24, e25, e26, e27, e28, e29, e30, e31, e32, e33, e34, e35, y36⟩
          have E40 : h38 91 = h 91 := e22
          have E41 : h38 92 = h 92 := e23
          have E42 : h38 93 = h 93 := e24
          have E43 : h38 94 = h 94 := e25
          have E44 : h38 95 = h 95 := e26
          have E45 : h38 96 = h 96 := e27
          have E46 : h38 97 = h 97 := e28
          have E47 : h38 98 = h 98 := e29
          have E48 : h38 99 = h 99 := e30
          have E49 : h38 100 = h 100 := e31
          have E50 : h38 103 = h 103 := e32
          have E51 : h38 105 = h 105 := e33
          have E52 : h38 106 = h 106 := e34
          have E53 : h38 114 = h 114 := e35
          show ov_R u d ov_m293 113 [(0, ov_r 90), (1, ov_i ln), (2, ov_i tm), (3, ov_i rn), (4, ov_i s), (5, ov_i v2), (6, ov_i (ln - v2)), (7, ov_i (h 100 (1 + (2 * ln)))), (8, ov_i 0), (9, ov_i v17)] [ov_i v21] z37 h38 (P_Mo_paceBy_90 F z h so ln tm rn s)
          have f54 : (h38 90 2) = (h 90 2) ∧ (h38 90 7) = (h 90 7) ∧ (h38 90 8) = (h 90 8) ∧ (h38 90 13) = (h 90 13) ∧ (h38 90 20) = (h 90 20) ∧ (h38 90 22) = (h 90 22) ∧ (h38 90 25) = (h 90 25) ∧ (h38 90 26) = (h 90 26) ∧ (h38 90 28) = (h 90 28) ∧ (h38 90 29) = (h 90 29) ∧ (h38 90 30) = (h 90 30) ∧ (h38 90 34) = (h 90 34) ∧ (h38 90 37) = (h 90 37) ∧ v21 = (ov_bp (h 96) (h 100) so) (ln + 1) ((tm + v17) + s) rn ∧ 1 ≤ v21 ∧ (v21 = 2000000000 ∨ v21 ≤ 1201 + 100000 * (13 - (ln + 1))) := f20
          clear f20
          have y36_ : ov_PI (h 96) (h 100) so (h38 109) := y36
          refine ov_blk (ls2 := [(0, ov_r 90), (1, ov_i ln), (2, ov_i tm), (3, ov_i rn), (4, ov_i s), (5, ov_i v2), (6, ov_i (ln - v2)), (7, ov_i (h 100 (1 + (2 * ln)))), (8, ov_i 0), (9, ov_i v17), (10, ov_i v21)]) (st2 := [ov_i v21]) (pc2 := 117) b_293_113_2 rfl rfl ?_
          refine ov_ldcw (n := 2000000000) d_293_117 kc_Mo_338 ?_
          refine ov_iceq (tgt := 128) d_293_120 (by decide) (by omega) (by omega) (fun c55 => ?_) (fun c55 => ?_)
          · skip
            refine ov_blk (ls2 := [(0, ov_r 90), (1, ov_i ln), (2, ov_i tm), (3, ov_i rn), (4, ov_i s), (5, ov_i v2), (6, ov_i (ln - v2)), (7, ov_i (h 100 (1 + (2 * ln)))), (8, ov_i 0), (9, ov_i v17), (10, ov_i v21)]) (st2 := [ov_i v21]) (pc2 := 130) b_293_128_1 rfl rfl ?_
            refine ov_goto (tgt := 139) d_293_130 (by decide) ?_
            have e9 : ov_pq (h 96) (h 100) so (ov_bp (h 96) (h 100) so) ln tm rn s = v21 := (ov_pq_1 (rr := rn) (b := v21) ev (by omega) (by omega) hw (by omega) (by omega)).trans (by rw [if_pos (by omega)])
            exact ov_reti (st := []) d_293_139 rfl ⟨_, rfl, I39, (by show (h38 90 2) = (h 90 2) ∧ (h38 90 7) = (h 90 7) ∧ (h38 90 8) = (h 90 8) ∧ (h38 90 13) = (h 90 13) ∧ (h38 90 20) = (h 90 20) ∧ (h38 90 22) = (h 90 22) ∧ (h38 90 25) = (h 90 25) ∧ (h38 90 26) = (h 90 26) ∧ (h38 90 28) = (h 90 28) ∧ (h38 90 29) = (h 90 29) ∧ (h38 90 30) = (h 90 30) ∧ (h38 90 34) = (h 90 34) ∧ (h38 90 37) = (h 90 37) ∧ v21 = (ov_pq (h 96) (h 100) so (ov_bp (h 96) (h 100) so) ln tm rn) s ∧ 1 ≤ v21 ∧ (v21 = 2000000000 ∨ v21 ≤ 1201 + 100000 * (13 - ln)); omega), E40, E41, E42, E43, E44, E45, E46, E47, E48, E49, E50, E51, E52, E53, y36_⟩
          · skip
            refine ov_blk (ls2 := [(0, ov_r 90), (1, ov_i ln), (2, ov_i tm), (3, ov_i rn), (4, ov_i s), (5, ov_i v2), (6, ov_i (ln - v2)), (7, ov_i (h 100 (1 + (2 * ln)))), (8, ov_i 0), (9, ov_i v17), (10, ov_i v21)]) (st2 := [ov_i v17]) (pc2 := 125) b_293_123_1 rfl rfl ?_
            refine ov_ifne (tgt := 133) d_293_125 (by decide) (by omega) (fun c56 => ?_) (fun c56 => ?_)
            · skip
              refine ov_blk (ls2 := [(0, ov_r 90), (1, ov_i ln), (2, ov_i tm), (3, ov_i rn), (4, ov_i s), (5, ov_i v2), (6, ov_i (ln - v2)), (7, ov_i (h 100 (1 + (2 * ln)))), (8, ov_i 0), (9, ov_i v17), (10, ov_i v21)]) (st2 := [ov_i v21]) (pc2 := 135) b_293_133_1 rfl rfl ?_
              refine ov_ldcw (n := 100000) d_293_135 kc_Mo_432 ?_
              refine ov_blk (ls2 := [(0, ov_r 90), (1, ov_i ln), (2, ov_i tm), (3, ov_i rn), (4, ov_i s), (5, ov_i v2), (6, ov_i (ln - v2)), (7, ov_i (h 100 (1 + (2 * ln)))), (8, ov_i 0), (9, ov_i v17), (10, ov_i v21)]) (st2 := [ov_i (v21 + 100000)]) (pc2 := 139) b_293_138_1 rfl rfl ?_
              have e9 : ov_pq (h 96) (h 100) so (ov_bp (h 96) (h 100) so) ln tm rn s = (v21 + 100000) := (ov_pq_1 (rr := rn) (b := v21) ev (by omega) (by omega) hw (by omega) (by omega)).trans (by rw [if_neg (by omega)])
              exact ov_reti (st := []) d_293_139 rfl ⟨_, rfl, I39, (by show (h38 90 2) = (h 90 2) ∧ (h38 90 7) = (h 90 7) ∧ (h38 90 8) = (h 90 8) ∧ (h38 90 13) = (h 90 13) ∧ (h38 90 20) = (h 90 20) ∧ (h38 90 22) = (h 90 22) ∧ (h38 90 25) = (h 90 25) ∧ (h38 90 26) = (h 90 26) ∧ (h38 90 28) = (h 90 28) ∧ (h38 90 29) = (h 90 29) ∧ (h38 90 30) = (h 90 30) ∧ (h38 90 34) = (h 90 34) ∧ (h38 90 37) = (h 90 37) ∧ (v21 + 100000) = (ov_pq (h 96) (h 100) so (ov_bp (h 96) (h 100) so) ln tm rn) s ∧ 1 ≤ (v21 + 100000) ∧ ((v21 + 100000) = 2000000000 ∨ (v21 + 100000) ≤ 1201 + 100000 * (13 - ln)); omega), E40, E41, E42, E43, E44, E45, E46, E47, E48, E49, E50, E51, E52, E53, y36_⟩
            · skip
              refine ov_blk (ls2 := [(0, ov_r 90), (1, ov_i ln), (2, ov_i tm), (3, ov_i rn), (4, ov_i s), (5, ov_i v2), (6, ov_i (ln - v2)), (7, ov_i (h 100 (1 + (2 * ln)))), (8, ov_i 0), (9, ov_i v17), (10, ov_i v21)]) (st2 := [ov_i v21]) (pc2 := 130) b_293_128_1 rfl rfl ?_
              refine ov_goto (tgt := 139) d_293_130 (by decide) ?_
              have e9 : ov_pq (h 96) (h 100) so (ov_bp (h 96) (h 100) so) ln tm rn s = v21 := (ov_pq_1 (rr := rn) (b := v21) ev (by omega) (by omega) hw (by omega) (by omega)).trans (by rw [if_pos (by omega)])
              exact ov_reti (st := []) d_293_139 rfl ⟨_, rfl, I39, (by show (h38 90 2) = (h 90 2) ∧ (h38 90 7) = (h 90 7) ∧ (h38 90 8) = (h 90 8) ∧ (h38 90 13) = (h 90 13) ∧ (h38 90 20) = (h 90 20) ∧ (h38 90 22) = (h 90 22) ∧ (h38 90 25) = (h 90 25) ∧ (h38 90 26) = (h 90 26) ∧ (h38 90 28) = (h 90 28) ∧ (h38 90 29) = (h 90 29) ∧ (h38 90 30) = (h 90 30) ∧ (h38 90 34) = (h 90 34) ∧ (h38 90 37) = (h 90 37) ∧ v21 = (ov_pq (h 96) (h 100) so (ov_bp (h 96) (h 100) so) ln tm rn) s ∧ 1 ≤ v21 ∧ (v21 = 2000000000 ∨ v21 ≤ 1201 + 100000 * (13 - ln)); omega), E40, E41, E42, E43, E44, E45, E46, E47, E48, E49, E50, E51, E52, E53, y36_⟩
        · omega
      · omega
  · skip
    refine ov_blk (ls2 := [(0, ov_r 90), (1, ov_i ln), (2, ov_i tm), (3, ov_i rn), (4, ov_i s), (5, ov_i v2), (6, ov_i (ln - v2)), (7, ov_i (h 100 (1 + (2 * ln))))]) (st2 := [ov_i 1]) (pc2 := 37) b_293_36_1 rfl rfl ?_
    refine ov_goto (tgt := 41) d_293_37 (by decide) ?_
    refine ov_blk (ls2 := [(0, ov_r 90), (1, ov_i ln), (2, ov_i tm), (3, ov_i rn), (4, ov_i s), (5, ov_i v2), (6, ov_i (ln - v2)), (7, ov_i (h 100 (1 + (2 * ln)))), (8, ov_i 1)]) (st2 := [ov_i (h 100 (1 + (2 * ln))), ov_i (ln - v2), ov_i v2, ov_r 90]) (pc2 := 50) b_293_41_5 rfl rfl ?_
    refine ov_cV (as := [ov_i v2, ov_i (ln - v2), ov_i (h 100 (1 + (2 * ln)))]) (st := []) (d2 := d - 1) d_293_50 lk_Mo_309 rfl (Nat.le_of_ble_eq_true rfl) (c := 1) (zb_90 I) (zs_90 I) ⟨by decide, rfl⟩ (by omega) (c_Mo_canGo_90 (d - 1) (by omega) U I v2 (ln - v2) (h 100 (1 + (2 * ln))) (by omega) (by omega) (by omega) (by omega) (by omega)) ?_
    rintro _ _ _ ⟨v58, rfl, rfl, rfl, f57⟩
    show ov_R u d ov_m293 53 [(0, ov_r 90), (1, ov_i ln), (2, ov_i tm), (3, ov_i rn), (4, ov_i s), (5, ov_i v2), (6, ov_i (ln - v2)), (7, ov_i (h 100 (1 + (2 * ln)))), (8, ov_i 1)] [ov_i v58] z h (P_Mo_paceBy_90 F z h so ln tm rn s)
    have f59 : (v58 = 0 ∨ v58 = 1) ∧ v58 = ov_cgi (h 96) v2 (ln - v2) (h 100 (1 + (2 * ln))) ∧ (v58 = 1 → (((h 100 (1 + (2 * ln))) = 0 → v2 < (h 96 0) - 1) ∧ (¬ (h 100 (1 + (2 * ln))) = 0 → (ln - v2) < (h 96 1) - 1)) ∧ (((h 96 (10 + 4 * (6 * (ln - v2) + v2))) = 1 ∨ (h 96 (10 + 4 * (6 * (ln - v2) + v2))) = 2) → ((h 100 (1 + (2 * ln))) = 0 → 0 < (h 96 (10 + 4 * (6 * (ln - v2) + v2) + 3))) ∧ (¬ (h 100 (1 + (2 * ln))) = 0 → (h 96 (10 + 4 * (6 * (ln - v2) + v2) + 3)) < (h 96 (10 + 4 * (6 * (ln - v2) + v2) + 1))))) := f57
    clear f57
    refine ov_ifeq (tgt := 65) d_293_53 (by decide) (by omega) (fun c60 => ?_) (fun c60 => ?_)
    · skip
      have f59_ : v58 = 0 := by omega
      have f61 : v58 = ov_cgi (h 96) v2 (ln - v2) (h 100 (1 + (2 * ln))) := f59.2.1
      clear f59
      refine ov_ldcw (n := 2000000000) d_293_65 kc_Mo_338 ?_
      have e9 : ov_pq (h 96) (h 100) so (ov_bp (h 96) (h 100) so) ln tm rn s = 2000000000 := ov_pq_0 ev (by omega)
      exact ov_reti (st := []) d_293_68 rfl ⟨_, rfl, I, ⟨rfl, rfl, rfl, rfl, rfl, rfl, rfl, rfl, rfl, rfl, rfl, rfl, (by show (h 90 37) = (h 90 37) ∧ 2000000000 = (ov_pq (h 96) (h 100) so (ov_bp (h 96) (h 100) so) ln tm rn) s ∧ 1 ≤ 2000000000 ∧ (2000000000 = 2000000000 ∨ 2000000000 ≤ 1201 + 100000 * (13 - ln)); omega)⟩, rfl, rfl, rfl, rfl, rfl, rfl, rfl, rfl, rfl, rfl, rfl, rfl, rfl, rfl, PI⟩
    · skip
      have f59_ : v58 = 1 := by omega
      have f62 : v58 = ov_cgi (h 96) v2 (ln - v2) (h 100 (1 + (2 * ln))) := f59.2.1
      have f63 : (((h 100 (1 + (2 * ln))) = 0 → v2 < (h 96 0) - 1) ∧ (¬ (h 100 (1 + (2 * ln))) = 0 → (ln - v2) < (h 96 1) - 1)) ∧ (((h 96 (10 + 4 * (6 * (ln - v2) + v2))) = 1 ∨ (h 96 (10 + 4 * (6 * (ln - v2) + v2))) = 2) → ((h 100 (1 + (2 * ln))) = 0 → 0 < (h 96 (10 + 4 * (6 * (ln - v2) + v2) + 3))) ∧ (¬ (h 100 (1 + (2 * ln))) = 0 → (h 96 (10 + 4 * (6 * (ln - v2) + v2) + 3)) < (h 96 (10 + 4 * (6 * (ln - v2) + v2) + 1)))) := f59.2.2 (by omega)
      clear f59
      refine ov_blk (ls2 := [(0, ov_r 90), (1, ov_i ln), (2, ov_i tm), (3, ov_i rn), (4, ov_i s), (5, ov_i v2), (6, ov_i (ln - v2)), (7, ov_i (h 100 (1 + (2 * ln)))), (8, ov_i 1)]) (st2 := [ov_i 1]) (pc2 := 58) b_293_56_1 rfl rfl ?_
      refine ov_ifeq (tgt := 69) d_293_58 (by decide) (by omega) (fun c64 => ?_) (fun c64 => ?_)
      · omega
      · skip
        refine ov_blk (ls2 := [(0, ov_r 90), (1, ov_i ln), (2, ov_i tm), (3, ov_i rn), (4, ov_i s), (5, ov_i v2), (6, ov_i (ln - v2)), (7, ov_i (h 100 (1 + (2 * ln)))), (8, ov_i 1)]) (st2 := [ov_i rn]) (pc2 := 62) b_293_61_1 rfl rfl ?_
        refine ov_ifne (tgt := 69) d_293_62 (by decide) (by omega) (fun c65 => ?_) (fun c65 => ?_)
        · skip
          refine ov_blk (ls2 := [(0, ov_r 90), (1, ov_i ln), (2, ov_i tm), (3, ov_i rn), (4, ov_i s), (5, ov_i v2), (6, ov_i (ln - v2)), (7, ov_i (h 100 (1 + (2 * ln)))), (8, ov_i 1)]) (st2 := [ov_r 90, ov_i (h 100 (1 + (2 * ln))), ov_i (ln - v2), ov_i v2, ov_r 90]) (pc2 := 77) b_293_69_5 rfl rfl ?_
          refine ov_getf (v := ov_i (h 90 37)) d_293_77 fl_Mo_426 (zb_90 I) (zs_90 I) rfl ?_
          have g66 := rg_90_37 I
          refine ov_blk (ls2 := [(0, ov_r 90), (1, ov_i ln), (2, ov_i tm), (3, ov_i rn), (4, ov_i s), (5, ov_i v2), (6, ov_i (ln - v2)), (7, ov_i (h 100 (1 + (2 * ln)))), (8, ov_i 1)]) (st2 := [ov_i ((h 90 37) + tm), ov_i (h 100 (1 + (2 * ln))), ov_i (ln - v2), ov_i v2, ov_r 90]) (pc2 := 82) b_293_80_2 rfl rfl ?_
          refine ov_cV (as := [ov_i v2, ov_i (ln - v2), ov_i (h 100 (1 + (2 * ln))), ov_i ((h 90 37) + tm)]) (st := []) (d2 := d - 1) d_293_82 lk_Mo_315 rfl (Nat.le_of_ble_eq_true rfl) (c := 1) (zb_90 I) (zs_90 I) ⟨by decide, rfl⟩ (by omega) (c_Mo_waitFor_90 (d - 1) (by omega) U I v2 (ln - v2) (h 100 (1 + (2 * ln))) ((h 90 37) + tm) (by omega) (by omega) (by omega) (by omega) (by omega) (by omega) (by omega) (by show (((h 96 (10 + 4 * (6 * (ln - v2) + v2))) = 1 ∨ (h 96 (10 + 4 * (6 * (ln - v2) + v2))) = 2) → ((h 100 (1 + (2 * ln))) = 0 → 0 < (h 96 (10 + 4 * (6 * (ln - v2) + v2) + 3))) ∧ (¬ (h 100 (1 + (2 * ln))) = 0 → (h 96 (10 + 4 * (6 * (ln - v2) + v2) + 3)) < (h 96 (10 + 4 * (6 * (ln - v2) + v2) + 1)))); omega) W) ?_
          rintro _ _ _ ⟨v68, rfl, rfl, rfl, f67⟩
          show ov_R u d ov_m293 85 [(0, ov_r 90), (1, ov_i ln), (2, ov_i tm), (3, ov_i rn), (4, ov_i s), (5, ov_i v2), (6, ov_i (ln - v2)), (7, ov_i (h 100 (1 + (2 * ln)))), (8, ov_i 1)] [ov_i v68] z h (P_Mo_paceBy_90 F z h so ln tm rn s)
          have f69 : 0 ≤ v68 ∧ v68 ≤ 59 ∧ v68 = ov_wm (h 96) (6 * (ln - v2) + v2) (h 100 (1 + (2 * ln))) ((h 90 37) + tm) := f67
          clear f67
          have hw : v68 = ov_wm (h 96) (6 * (ln - v2) + v2) (h 100 (1 + 2 * ln)) (so + tm) := by rw [show so = h 90 37 by omega]; omega
          refine ov_blk (ls2 := [(0, ov_r 90), (1, ov_i ln), (2, ov_i tm), (3, ov_i rn), (4, ov_i s), (5, ov_i v2), (6, ov_i (ln - v2)), (7, ov_i (h 100 (1 + (2 * ln)))), (8, ov_i 1), (9, ov_i v68)]) (st2 := [ov_i 1, ov_i ((tm + v68) + s), ov_i (ln + 1), ov_r 90]) (pc2 := 100) b_293_85_11 rfl rfl ?_
          refine ov_ifeq (tgt := 109) d_293_100 (by decide) (by omega) (fun c70 => ?_) (fun c70 => ?_)
          · omega
          · skip
            refine ov_blk (ls2 := [(0, ov_r 90), (1, ov_i ln), (2, ov_i tm), (3, ov_i rn), (4, ov_i s), (5, ov_i v2), (6, ov_i (ln - v2)), (7, ov_i (h 100 (1 + (2 * ln)))), (8, ov_i 1), (9, ov_i v68)]) (st2 := [ov_i (rn - 1), ov_i ((tm + v68) + s), ov_i (ln + 1), ov_r 90]) (pc2 := 106) b_293_103_3 rfl rfl ?_
            refine ov_goto (tgt := 110) d_293_106 (by decide) ?_
            refine ov_cV (as := [ov_i (ln + 1), ov_i ((tm + v68) + s), ov_i (rn - 1)]) (st := []) (d2 := d - 1) d_293_110 lk_Mo_429 rfl (Nat.le_of_ble_eq_true rfl) (c := 1) (zb_90 I) (zs_90 I) ⟨by decide, rfl⟩ (by omega) (HV (Int.toNat (h 100 0 - ((ln + 1)))) (by omega) (d - 1) (by omega) U I (ln + 1) ((tm + v68) + s) (rn - 1) (by omega) (by omega) (by omega) (by show 0 ≤ (ln + 1) ∧ (ln + 1) + ((Int.toNat (h 100 0 - ((ln + 1))) : Nat) : Int) = (h 100 0); omega) (by omega) (by omega) (by show (h 90 37) = so; omega) W W2 PI) ?_
            rintro _ z88 h89 ⟨v72, rfl, I90, f71, e73, e74, e75, e76, e77, e78, e79, e80, e81, e82, e83, e84, e85, e86, y87⟩
            have E91 : h89 91 = h 91 := e73
            have E92 : h89 92 = h 92 := e74
            have E93 : h89 93 = h 93 := e75
            have E94 : h89 94 = h 94 := e76
            have E95 : h89 95 = h 95 := e77
            have E96 : h89 96 = h 96 := e78
            have E97 : h89 97 = h 97 := e79
            have E98 : h89 98 = h 98 := e80
            have E99 : h89 99 = h 99 := e81
            have E100 : h89 100 = h 100 := e82
            have E101 : h89 103 = h 103 := e83
            have E102 : h89 105 = h 105 := e84
            have E103 : h89 106 = h 106 := e85
            have E104 : h89 114 = h 114 := e86
            show ov_R u d ov_m293 113 [(0, ov_r 90), (1, ov_i ln), (2, ov_i tm), (3, ov_i rn), (4, ov_i s), (5, ov_i v2), (6, ov_i (ln - v2)), (7, ov_i (h 100 (1 + (2 * ln)))), (8, ov_i 1), (9, ov_i v68)] [ov_i v72] z88 h89 (P_Mo_paceBy_90 F z h so ln tm rn s)
            have f105 : (h89 90 2) = (h 90 2) ∧ (h89 90 7) = (h 90 7) ∧ (h89 90 8) = (h 90 8) ∧ (h89 90 13) = (h 90 13) ∧ (h89 90 20) = (h 90 20) ∧ (h89 90 22) = (h 90 22) ∧ (h89 90 25) = (h 90 25) ∧ (h89 90 26) = (h 90 26) ∧ (h89 90 28) = (h 90 28) ∧ (h89 90 29) = (h 90 29) ∧ (h89 90 30) = (h 90 30) ∧ (h89 90 34) = (h 90 34) ∧ (h89 90 37) = (h 90 37) ∧ v72 = (ov_bp (h 96) (h 100) so) (ln + 1) ((tm + v68) + s) (rn - 1) ∧ 1 ≤ v72 ∧ (v72 = 2000000000 ∨ v72 ≤ 1201 + 100000 * (13 - (ln + 1))) := f71
            clear f71
            have y87_ : ov_PI (h 96) (h 100) so (h89 109) := y87
            refine ov_blk (ls2 := [(0, ov_r 90), (1, ov_i ln), (2, ov_i tm), (3, ov_i rn), (4, ov_i s), (5, ov_i v2), (6, ov_i (ln - v2)), (7, ov_i (h 100 (1 + (2 * ln)))), (8, ov_i 1), (9, ov_i v68), (10, ov_i v72)]) (st2 := [ov_i v72]) (pc2 := 117) b_293_113_2 rfl rfl ?_
            refine ov_ldcw (n := 2000000000) d_293_117 kc_Mo_338 ?_
            refine ov_iceq (tgt := 128) d_293_120 (by decide) (by omega) (by omega) (fun c106 => ?_) (fun c106 => ?_)
            · skip
              refine ov_blk (ls2 := [(0, ov_r 90), (1, ov_i ln), (2, ov_i tm), (3, ov_i rn), (4, ov_i s), (5, ov_i v2), (6, ov_i (ln - v2)), (7, ov_i (h 100 (1 + (2 * ln)))), (8, ov_i 1), (9, ov_i v68), (10, ov_i v72)]) (st2 := [ov_i v72]) (pc2 := 130) b_293_128_1 rfl rfl ?_
              refine ov_goto (tgt := 139) d_293_130 (by decide) ?_
              have e9 : ov_pq (h 96) (h 100) so (ov_bp (h 96) (h 100) so) ln tm rn s = v72 := (ov_pq_1 (rr := (rn - 1)) (b := v72) ev (by omega) (by omega) hw (by omega) (by omega)).trans (by rw [if_pos (by omega)])
              exact ov_reti (st := []) d_293_139 rfl ⟨_, rfl, I90, (by show (h89 90 2) = (h 90 2) ∧ (h89 90 7) = (h 90 7) ∧ (h89 90 8) = (h 90 8) ∧ (h89 90 13) = (h 90 13) ∧ (h89 90 20) = (h 90 20) ∧ (h89 90 22) = (h 90 22) ∧ (h89 90 25) = (h 90 25) ∧ (h89 90 26) = (h 90 26) ∧ (h89 90 28) = (h 90 28) ∧ (h89 90 29) = (h 90 29) ∧ (h89 90 30) = (h 90 30) ∧ (h89 90 34) = (h 90 34) ∧ (h89 90 37) = (h 90 37) ∧ v72 = (ov_pq (h 96) (h 100) so (ov_bp (h 96) (h 100) so) ln tm rn) s ∧ 1 ≤ v72 ∧ (v72 = 2000000000 ∨ v72 ≤ 1201 + 100000 * (13 - ln)); omega), E91, E92, E93, E94, E95, E96, E97, E98, E99, E100, E101, E102, E103, E104, y87_⟩
            · skip
              refine ov_blk (ls2 := [(0, ov_r 90), (1, ov_i ln), (2, ov_i tm), (3, ov_i rn), (4, ov_i s), (5, ov_i v2), (6, ov_i (ln - v2)), (7, ov_i (h 100 (1 + (2 * ln)))), (8, ov_i 1), (9, ov_i v68), (10, ov_i v72)]) (st2 := [ov_i v68]) (pc2 := 125) b_293_123_1 rfl rfl ?_
              refine ov_ifne (tgt := 133) d_293_125 (by decide) (by omega) (fun c107 => ?_) (fun c107 => ?_)
              · skip
                refine ov_blk (ls2 := [(0, ov_r 90), (1, ov_i ln), (2, ov_i tm), (3, ov_i rn), (4, ov_i s), (5, ov_i v2), (6, ov_i (ln - v2)), (7, ov_i (h 100 (1 + (2 * ln)))), (8, ov_i 1), (9, ov_i v68), (10, ov_i v72)]) (st2 := [ov_i v72]) (pc2 := 135) b_293_133_1 rfl rfl ?_
                refine ov_ldcw (n := 100000) d_293_135 kc_Mo_432 ?_
                refine ov_blk (ls2 := [(0, ov_r 90), (1, ov_i ln), (2, ov_i tm), (3, ov_i rn), (4, ov_i s), (5, ov_i v2), (6, ov_i (ln - v2)), (7, ov_i (h 100 (1 + (2 * ln)))), (8, ov_i 1), (9, ov_i v68), (10, ov_i v72)]) (st2 := [ov_i (v72 + 100000)]) (pc2 := 139) b_293_138_1 rfl rfl ?_
                have e9 : ov_pq (h 96) (h 100) so (ov_bp (h 96) (h 100) so) ln tm rn s = (v72 + 100000) := (ov_pq_1 (rr := (rn - 1)) (b := v72) ev (by omega) (by omega) hw (by omega) (by omega)).trans (by rw [if_neg (by omega)])
                exact ov_reti (st := []) d_293_139 rfl ⟨_, rfl, I90, (by show (h89 90 2) = (h 90 2) ∧ (h89 90 7) = (h 90 7) ∧ (h89 90 8) = (h 90 8) ∧ (h89 90 13) = (h 90 13) ∧ (h89 90 20) = (h 90 20) ∧ (h89 90 22) = (h 90 22) ∧ (h89 90 25) = (h 90 25) ∧ (h89 90 26) = (h 90 26) ∧ (h89 90 28) = (h 90 28) ∧ (h89 90 29) = (h 90 29) ∧ (h89 90 30) = (h 90 30) ∧ (h89 90 34) = (h 90 34) ∧ (h89 90 37) = (h 90 37) ∧ (v72 + 100000) = (ov_pq (h 96) (h 100) so (ov_bp (h 96) (h 100) so) ln tm rn) s ∧ 1 ≤ (v72 + 100000) ∧ ((v72 + 100000) = 2000000000 ∨ (v72 + 100000) ≤ 1201 + 100000 * (13 - ln)); omega), E91, E92, E93, E94, E95, E96, E97, E98, E99, E100, E101, E102, E103, E104, y87_⟩
              · skip
                refine ov_blk (ls2 := [(0, ov_r 90), (1, ov_i ln), (2, ov_i tm), (3, ov_i rn), (4, ov_i s), (5, ov_i v2), (6, ov_i (ln - v2)), (7, ov_i (h 100 (1 + (2 * ln)))), (8, ov_i 1), (9, ov_i v68), (10, ov_i v72)]) (st2 := [ov_i v72]) (pc2 := 130) b_293_128_1 rfl rfl ?_
                refine ov_goto (tgt := 139) d_293_130 (by decide) ?_
                have e9 : ov_pq (h 96) (h 100) so (ov_bp (h 96) (h 100) so) ln tm rn s = v72 := (ov_pq_1 (rr := (rn - 1)) (b := v72) ev (by omega) (by omega) hw (by omega) (by omega)).trans (by rw [if_pos (by omega)])
                exact ov_reti (st := []) d_293_139 rfl ⟨_, rfl, I90, (by show (h89 90 2) = (h 90 2) ∧ (h89 90 7) = (h 90 7) ∧ (h89 90 8) = (h 90 8) ∧ (h89 90 13) = (h 90 13) ∧ (h89 90 20) = (h 90 20) ∧ (h89 90 22) = (h 90 22) ∧ (h89 90 25) = (h 90 25) ∧ (h89 90 26) = (h 90 26) ∧ (h89 90 28) = (h 90 28) ∧ (h89 90 29) = (h 90 29) ∧ (h89 90 30) = (h 90 30) ∧ (h89 90 34) = (h 90 34) ∧ (h89 90 37) = (h 90 37) ∧ v72 = (ov_pq (h 96) (h 100) so (ov_bp (h 96) (h 100) so) ln tm rn) s ∧ 1 ≤ v72 ∧ (v72 = 2000000000 ∨ v72 ≤ 1201 + 100000 * (13 - ln)); omega), E91, E92, E93, E94, E95, E96, E97, E98, E99, E100, E101, E102, E103, E104, y87_⟩
        · skip
          refine ov_ldcw (n := 2000000000) d_293_65 kc_Mo_338 ?_
          have e9 : ov_pq (h 96) (h 100) so (ov_bp (h 96) (h 100) so) ln tm rn s = 2000000000 := ov_pq_0 ev (by omega)
          exact ov_reti (st := []) d_293_68 rfl ⟨_, rfl, I, ⟨rfl, rfl, rfl, rfl, rfl, rfl, rfl, rfl, rfl, rfl, rfl, rfl, (by show (h 90 37) = (h 90 37) ∧ 2000000000 = (ov_pq (h 96) (h 100) so (ov_bp (h 96) (h 100) so) ln tm rn) s ∧ 1 ≤ 2000000000 ∧ (2000000000 = 2000000000 ∨ 2000000000 ≤ 1201 + 100000 * (13 - ln)); omega)⟩, rfl, rfl, rfl, rfl, rfl, rfl, rfl, rfl, rfl, rfl, rfl, rfl, rfl, rfl, PI⟩
set_option maxHeartbeats 4000000 in
theorem c_Mo_bestPace_90 {u : ov_U} {F : ov_H × ov_Z} (so : Int) (k : Nat) (HV : ∀ k' : Nat, k' < k → ∀ {z : ov_Z} {h : ov_H} (d : Nat) (hd : (10 + 2 * k' + 1) ≤ d) (U : ov_cap u) (I : ov_N F z h) (ln : Int) (tm : Int) (rn : Int) (g_ln : ov_g ln) (g_tm : ov_g tm) (g_rn : ov_g rn) (p0 : 0 ≤ ln ∧ ln + (k' : Int) = (h 100 0)) (p1 : 0 ≤ tm ∧ tm + 89 * (k' : Int) ≤ 1157) (p2 : 0 ≤ rn ∧ rn ≤ 9) (p3 : (h 90 37) = so) (W : ov_WT (h 96)) (W2 : ov_WK (h 100)) (PI : ov_PI (h 96) (h 100) so (h 109)), ov_T u d ov_m289 [ov_r 90, ov_i ln, ov_i tm, ov_i rn] z h (P_Mo_bestPace_90 F z h so ln tm rn)) {z : ov_Z} {h : ov_H} (d : Nat) (hd : (10 + 2 * k + 1) ≤ d) (U : ov_cap u) (I : ov_N F z h) (ln : Int) (tm : Int) (rn : Int) (g_ln : ov_g ln) (g_tm : ov_g tm) (g_rn : ov_g rn) (p0 : 0 ≤ ln ∧ ln + (k : Int) = (h 100 0)) (p1 : 0 ≤ tm ∧ tm + 89 * (k : Int) ≤ 1157) (p2 : 0 ≤ rn ∧ rn ≤ 9) (p3 : (h 90 37) = so) (W : ov_WT (h 96)) (W2 : ov_WK (h 100)) (PI : ov_PI (h 96) (h 100) so (h 109)) : ov_T u d ov_m289 [ov_r 90, ov_i ln, ov_i tm, ov_i rn] z h (P_Mo_bestPace_90 F z h so ln tm rn) := by
  refine ov_en rfl (Nat.le_of_ble_eq_true rfl) ?_
  show ov_R u d ov_m289 0 [(0, ov_r 90), (1, ov_i ln), (2, ov_i tm), (3, ov_i rn)] [] z h (P_Mo_bestPace_90 F z h so ln tm rn)
  have t0 := t96_0 I
  have t1 := t96_1 I
  have wk : ∀ j : Int, 0 ≤ j → j ≤ 12 → 0 ≤ h 100 (1 + 2 * j) ∧ h 100 (1 + 2 * j) ≤ 1 := fun j h1 h2 => s100_w I ⟨h1, h2⟩
  have wz := s100_0 I
  refine ov_blk (ls2 := [(0, ov_r 90), (1, ov_i ln), (2, ov_i tm), (3, ov_i rn)]) (st2 := [ov_r 90, ov_i ln]) (pc2 := 2) b_289_0_2 rfl rfl ?_
  refine ov_getf (v := ov_r 100) d_289_2 fl_Mo_93 (zb_90 I) (zs_90 I) (congrArg ov_r (rg_90_16 I)) ?_
  refine ov_blk (ls2 := [(0, ov_r 90), (1, ov_i ln), (2, ov_i tm), (3, ov_i rn)]) (st2 := [ov_i 0, ov_r 100, ov_i ln]) (pc2 := 6) b_289_5_1 rfl rfl ?_
  refine ov_iald d_289_6 (zb_100 I) (zs_100 I) (by omega) ?_
  have g1 := s100_0 I
  refine ov_icne (tgt := 14) d_289_7 (by decide) (by omega) (by omega) (fun c2 => ?_) (fun c2 => ?_)
  · skip
    refine ov_blk (ls2 := [(0, ov_r 90), (1, ov_i ln), (2, ov_i tm), (3, ov_i rn), (4, ov_i ((((ln * 1200) + tm) * 10) + rn))]) (st2 := [ov_r 90]) (pc2 := 29) b_289_14_11 rfl rfl ?_
    refine ov_getf (v := ov_r 109) d_289_29 fl_Mo_129 (zb_90 I) (zs_90 I) (congrArg ov_r (rg_90_36 I)) ?_
    refine ov_blk (ls2 := [(0, ov_r 90), (1, ov_i ln), (2, ov_i tm), (3, ov_i rn), (4, ov_i ((((ln * 1200) + tm) * 10) + rn))]) (st2 := [ov_i ((((ln * 1200) + tm) * 10) + rn), ov_r 109]) (pc2 := 34) b_289_32_1 rfl rfl ?_
    refine ov_iald d_289_34 (zb_109 I) (zs_109 I) (by omega) ?_
    have g3 := s109_g I ((((ln * 1200) + tm) * 10) + rn)
    refine ov_ifne (tgt := 100) d_289_35 (by decide) (by omega) (fun c4 => ?_) (fun c4 => ?_)
    · skip
      have be : h 109 ((((ln * 1200) + tm) * 10) + rn) = ov_bp (h 96) (h 100) so ln tm rn := (PI ln tm rn (by omega) (by omega) (by omega) (by omega) (by omega) (by omega)).resolve_left (by omega)
      have hr := (ra_109 I ((((ln * 1200) + tm) * 10) + rn)).2.2 (by omega) (by omega)
      refine ov_blk (ls2 := [(0, ov_r 90), (1, ov_i ln), (2, ov_i tm), (3, ov_i rn), (4, ov_i ((((ln * 1200) + tm) * 10) + rn))]) (st2 := [ov_r 90]) (pc2 := 101) b_289_100_1 rfl rfl ?_
      refine ov_getf (v := ov_r 109) d_289_101 fl_Mo_129 (zb_90 I) (zs_90 I) (congrArg ov_r (rg_90_36 I)) ?_
      refine ov_blk (ls2 := [(0, ov_r 90), (1, ov_i ln), (2, ov_i tm), (3, ov_i rn), (4, ov_i ((((ln * 1200) + tm) * 10) + rn))]) (st2 := [ov_i ((((ln * 1200) + tm) * 10) + rn), ov_r 109]) (pc2 := 106) b_289_104_1 rfl rfl ?_
      refine ov_iald d_289_106 (zb_109 I) (zs_109 I) (by omega) ?_
      exact ov_reti (st := []) d_289_107 rfl ⟨_, rfl, I, ⟨rfl, rfl, rfl, rfl, rfl, rfl, rfl, rfl, rfl, rfl, rfl, rfl, (by show (h 90 37) = (h 90 37) ∧ (h 109 ((((ln * 1200) + tm) * 10) + rn)) = (ov_bp (h 96) (h 100) so) ln tm rn ∧ 1 ≤ (h 109 ((((ln * 1200) + tm) * 10) + rn)) ∧ ((h 109 ((((ln * 1200) + tm) * 10) + rn)) = 2000000000 ∨ (h 109 ((((ln * 1200) + tm) * 10) + rn)) ≤ 1201 + 100000 * (13 - ln)); omega)⟩, rfl, rfl, rfl, rfl, rfl, rfl, rfl, rfl, rfl, rfl, rfl, rfl, rfl, rfl, PI⟩
    · skip
      refine ov_ldcw (n := 2000000000) d_289_38 kc_Mo_338 ?_
      refine ov_blk (ls2 := [(0, ov_r 90), (1, ov_i ln), (2, ov_i tm), (3, ov_i rn), (4, ov_i ((((ln * 1200) + tm) * 10) + rn)), (5, ov_i 2000000000)]) (st2 := [ov_r 90]) (pc2 := 44) b_289_41_2 rfl rfl ?_
      refine ov_cV (as := []) (st := []) (d2 := d - 1) d_289_44 lk_Mo_414 rfl (Nat.le_of_ble_eq_true rfl) (c := 1) (zb_90 I) (zs_90 I) ⟨by decide, rfl⟩ (by omega) (c_Mo_fastest_90_b (d - 1) (by omega) U I) ?_
      rintro _ _ _ ⟨v7, rfl, rfl, rfl, f6⟩
      show ov_R u d ov_m289 47 [(0, ov_r 90), (1, ov_i ln), (2, ov_i tm), (3, ov_i rn), (4, ov_i ((((ln * 1200) + tm) * 10) + rn)), (5, ov_i 2000000000)] [ov_i v7] z h (P_Mo_bestPace_90 F z h so ln tm rn)
      have f8 : v7 = ov_fst (h 96) ∧ 0 ≤ v7 ∧ v7 ≤ 30 := f6
      clear f6
      refine ov_blk (ls2 := [(0, ov_r 90), (1, ov_i ln), (2, ov_i tm), (3, ov_i rn), (4, ov_i ((((ln * 1200) + tm) * 10) + rn)), (5, ov_i 2000000000), (6, ov_i v7)]) (st2 := []) (pc2 := 49) b_289_47_1 rfl rfl ?_
      have m0 : ov_mn (ov_pq (h 96) (h 100) so (ov_bp (h 96) (h 100) so) ln tm rn) (ov_fst (h 96)) (Int.toNat (v7 - ov_fst (h 96))) = 2000000000 := by rw [show Int.toNat (v7 - ov_fst (h 96)) = 0 by omega]; rfl
      have fl := ov_fsl (h 96)
      have L12 : ∀ (n9 : Nat) (x5 : Int) (x6 : Int) (z13 : ov_Z) (h14 : ov_H) (I15 : ov_N F z13 h14) (E16 : h14 91 = h 91) (E17 : h14 92 = h 92) (E18 : h14 93 = h 93) (E19 : h14 94 = h 94) (E20 : h14 95 = h 95) (E21 : h14 96 = h 96) (E22 : h14 97 = h 97) (E23 : h14 98 = h 98) (E24 : h14 99 = h 99) (E25 : h14 100 = h 100) (E26 : h14 103 = h 103) (E27 : h14 105 = h 105) (E28 : h14 106 = h 106) (E29 : h14 114 = h 114) (xm : ov_PI (h 96) (h 100) so (h14 109)) (q11 : ov_fst (h 96) ≤ x6 ∧ x6 ≤ ov_slw (h 96) + 1 ∧ 0 ≤ x6 ∧ x6 ≤ 31 ∧ 1 ≤ x5 ∧ (x5 = 2000000000 ∨ x5 ≤ 1201 + 100000 * (13 - ln)) ∧ x5 = ov_mn (ov_pq (h 96) (h 100) so (ov_bp (h 96) (h 100) so) ln tm rn) (ov_fst (h 96)) (Int.toNat (x6 - ov_fst (h 96))) ∧ (h14 90 37) = (h 90 37) ∧ (h14 90 2) = (h 90 2) ∧ (h14 90 7) = (h 90 7) ∧ (h14 90 8) = (h 90 8) ∧ (h14 90 13) = (h 90 13) ∧ (h14 90 20) = (h 90 20) ∧ (h14 90 22) = (h 90 22) ∧ (h14 90 25) = (h 90 25) ∧ (h14 90 26) = (h 90 26) ∧ (h14 90 28) = (h 90 28) ∧ (h14 90 29) = (h 90 29) ∧ (h14 90 30) = (h 90 30) ∧ (h14 90 34) = (h 90 34)), 31 - x6 < (n9 : Int) → ov_R u d ov_m289 49 [(0, ov_r 90), (1, ov_i ln), (2, ov_i tm), (3, ov_i rn), (4, ov_i ((((ln * 1200) + tm) * 10) + rn)), (5, ov_i x5), (6, ov_i x6)] [] z13 h14 (P_Mo_bestPace_90 F z h so ln tm rn) := by
        intro n9
        induction n9 with
        | zero =>
          intro x5 x6 z13 h14 I15 E16 E17 E18 E19 E20 E21 E22 E23 E24 E25 E26 E27 E28 E29 xm q11 hn30
          exact absurd hn30 (by omega)
        | succ n9 ih10 =>
          intro x5 x6 z13 h14 I15 E16 E17 E18 E19 E20 E21 E22 E23 E24 E25 E26 E27 E28 E29 xm q11 hn30
          refine ov_blk (ls2 := [(0, ov_r 90), (1, ov_i ln), (2, ov_i tm), (3, ov_i rn), (4, ov_i ((((ln * 1200) + tm) * 10) + rn)), (5, ov_i x5), (6, ov_i x6)]) (st2 := [ov_r 90, ov_i x6]) (pc2 := 52) b_289_49_2 rfl rfl ?_
          refine ov_cV (as := []) (st := [ov_i x6]) (d2 := d - 1) d_289_52 lk_Mo_417 rfl (Nat.le_of_ble_eq_true rfl) (c := 1) (zb_90 I15) (zs_90 I15) ⟨by decide, rfl⟩ (by omega) (c_Mo_slowest_90_b (d - 1) (by omega) U I15) ?_
          rintro _ _ _ ⟨v32, rfl, rfl, rfl, f31⟩
          show ov_R u d ov_m289 55 [(0, ov_r 90), (1, ov_i ln), (2, ov_i tm), (3, ov_i rn), (4, ov_i ((((ln * 1200) + tm) * 10) + rn)), (5, ov_i x5), (6, ov_i x6)] [ov_i v32, ov_i x6] z13 h14 (P_Mo_bestPace_90 F z h so ln tm rn)
          rw [show h14 96 = h 96 from E21] at f31
          have f33 : v32 = ov_slw (h 96) ∧ 0 ≤ v32 ∧ v32 ≤ 30 := f31
          clear f31
          refine ov_icgt (tgt := 91) d_289_55 (by decide) (by omega) (by omega) (fun c34 => ?_) (fun c34 => ?_)
          · skip
            have be : x5 = ov_bp (h 96) (h 100) so ln tm rn := by rw [ov_bp_eq (by omega), show Int.toNat (ov_slw (h 96) + 1 - ov_fst (h 96)) = Int.toNat (x6 - ov_fst (h 96)) by omega]; omega
            refine ov_blk (ls2 := [(0, ov_r 90), (1, ov_i ln), (2, ov_i tm), (3, ov_i rn), (4, ov_i ((((ln * 1200) + tm) * 10) + rn)), (5, ov_i x5), (6, ov_i x6)]) (st2 := [ov_r 90]) (pc2 := 92) b_289_91_1 rfl rfl ?_
            refine ov_getf (v := ov_r 109) d_289_92 fl_Mo_129 (zb_90 I15) (zs_90 I15) (congrArg ov_r (rg_90_36 I15)) ?_
            refine ov_blk (ls2 := [(0, ov_r 90), (1, ov_i ln), (2, ov_i tm), (3, ov_i rn), (4, ov_i ((((ln * 1200) + tm) * 10) + rn)), (5, ov_i x5), (6, ov_i x6)]) (st2 := [ov_i x5, ov_i ((((ln * 1200) + tm) * 10) + rn), ov_r 109]) (pc2 := 99) b_289_95_2 rfl rfl ?_
            refine ov_iast d_289_99 (zb_109 I15) (zs_109 I15) (by omega) ?_
            have I35 := ua_109 (k := ((((ln * 1200) + tm) * 10) + rn)) (x := x5) I15 (by omega)
            have mw := ov_PI_w (ln := ln) (tm := tm) (rn := rn) (v := x5) xm (by omega) (by omega) be
            have e5 : (ov_up h14 109 ((((ln * 1200) + tm) * 10) + rn) x5) 109 = ov_rs (h14 109) ((((ln * 1200) + tm) * 10) + rn) x5 := ov_up_row h14 109 ((((ln * 1200) + tm) * 10) + rn) x5
            have mi9 : ov_PI (h 96) (h 100) so ((ov_up h14 109 ((((ln * 1200) + tm) * 10) + rn) x5) 109) := by rw [e5]; exact mw
            have er : ((ov_up h14 109 ((((ln * 1200) + tm) * 10) + rn) x5) 109 ((((ln * 1200) + tm) * 10) + rn)) = x5 := by show (ov_up h14 109 ((((ln * 1200) + tm) * 10) + rn) x5) 109 ((((ln * 1200) + tm) * 10) + rn) = _; rw [ov_up_row, ov_rs_eq]
            refine ov_blk (ls2 := [(0, ov_r 90), (1, ov_i ln), (2, ov_i tm), (3, ov_i rn), (4, ov_i ((((ln * 1200) + tm) * 10) + rn)), (5, ov_i x5), (6, ov_i x6)]) (st2 := [ov_r 90]) (pc2 := 101) b_289_100_1 rfl rfl ?_
            refine ov_getf (v := ov_r 109) d_289_101 fl_Mo_129 (zb_90 I35) (zs_90 I35) (congrArg ov_r (rg_90_36 I35)) ?_
            refine ov_blk (ls2 := [(0, ov_r 90), (1, ov_i ln), (2, ov_i tm), (3, ov_i rn), (4, ov_i ((((ln * 1200) + tm) * 10) + rn)), (5, ov_i x5), (6, ov_i x6)]) (st2 := [ov_i ((((ln * 1200) + tm) * 10) + rn), ov_r 109]) (pc2 := 106) b_289_104_1 rfl rfl ?_
            refine ov_iald d_289_106 (zb_109 I35) (zs_109 I35) (by omega) ?_
            show ov_R u d ov_m289 107 [(0, ov_r 90), (1, ov_i ln), (2, ov_i tm), (3, ov_i rn), (4, ov_i ((((ln * 1200) + tm) * 10) + rn)), (5, ov_i x5), (6, ov_i x6)] [ov_i ((ov_up h14 109 ((((ln * 1200) + tm) * 10) + rn) x5) 109 ((((ln * 1200) + tm) * 10) + rn))] z13 (ov_up h14 109 ((((ln * 1200) + tm) * 10) + rn) x5) (P_Mo_bestPace_90 F z h so ln tm rn)
            exact ov_reti (st := []) d_289_107 rfl ⟨_, rfl, I35, (by show (h14 90 2) = (h 90 2) ∧ (h14 90 7) = (h 90 7) ∧ (h14 90 8) = (h 90 8) ∧ (h14 90 13) = (h 90 13) ∧ (h14 90 20) = (h 90 20) ∧ (h14 90 22) = (h 90 22) ∧ (h14 90 25) = (h 90 25) ∧ (h14 90 26) = (h 90 26) ∧ (h14 90 28) = (h 90 28) ∧ (h14 90 29) = (h 90 29) ∧ (h14 90 30) = (h 90 30) ∧ (h14 90 34) = (h 90 34) ∧ (h14 90 37) = (h 90 37) ∧ ((ov_up h14 109 ((((ln * 1200) + tm) * 10) + rn) x5) 109 ((((ln * 1200) + tm) * 10) + rn)) = (ov_bp (h 96) (h 100) so) ln tm rn ∧ 1 ≤ ((ov_up h14 109 ((((ln * 1200) + tm) * 10) + rn) x5) 109 ((((ln * 1200) + tm) * 10) + rn)) ∧ (((ov_up h14 109 ((((ln * 1200) + tm) * 10) + rn) x5) 109 ((((ln * 1200) + tm) * 10) + rn)) = 2000000000 ∨ ((ov_up h14 109 ((((ln * 1200) + tm) * 10) + rn) x5) 109 ((((ln * 1200) + tm) * 10) + rn)) ≤ 1201 + 100000 * (13 - ln)); omega), E16, E17, E18, E19, E20, E21, E22, E23, E24, E25, E26, E27, E28, E29, mi9⟩
          · skip
            refine ov_blk (ls2 := [(0, ov_r 90), (1, ov_i ln), (2, ov_i tm), (3, ov_i rn), (4, ov_i ((((ln * 1200) + tm) * 10) + rn)), (5, ov_i x5), (6, ov_i x6)]) (st2 := [ov_i x6, ov_i rn, ov_i tm, ov_i ln, ov_r 90]) (pc2 := 64) b_289_58_5 rfl rfl ?_
            have cf36 : h14 100 (0) = h 100 (0) := congrFun E25 (0)
            refine ov_cV (as := [ov_i ln, ov_i tm, ov_i rn, ov_i x6]) (st := []) (d2 := d - 1) d_289_64 lk_Mo_420 rfl (Nat.le_of_ble_eq_true rfl) (c := 1) (zb_90 I15) (zs_90 I15) ⟨by decide, rfl⟩ (by omega) (c_Mo_paceBy_90 so k HV (d - 1) (by omega) U I15 ln tm rn x6 (by omega) (by omega) (by omega) (by omega) (by show 0 ≤ ln ∧ ln + (k : Int) = (h14 100 0); omega) (by show ln < (h14 100 0); omega) (by omega) (by omega) (by omega) (by show (h14 90 37) = so; omega) (by rw [show h14 96 = h 96 from E21]; exact W) (by rw [show h14 100 = h 100 from E25]; exact W2) (by rw [show h14 96 = h 96 from E21, show h14 100 = h 100 from E25]; exact xm)) ?_
            rintro _ z54 h55 ⟨v38, rfl, I56, f37, e39, e40, e41, e42, e43, e44, e45, e46, e47, e48, e49, e50, e51, e52, y53⟩
            have E57 : h55 91 = h 91 := Eq.trans e39 E16
            have E58 : h55 92 = h 92 := Eq.trans e40 E17
            have E59 : h55 93 = h 93 := Eq.trans e41 E18
            have E60 : h55 94 = h 94 := Eq.trans e42 E19
            have E61 : h55 95 = h 95 := Eq.trans e43 E20
            have E62 : h55 96 = h 96 := Eq.trans e44 E21
            have E63 : h55 97 = h 97 := Eq.trans e45 E22
            have E64 : h55 98 = h 98 := Eq.trans e46 E23
            have E65 : h55 99 = h 99 := Eq.trans e47 E24
            have E66 : h55 100 = h 100 := Eq.trans e48 E25
            have E67 : h55 103 = h 103 := Eq.trans e49 E26
            have E68 : h55 105 = h 105 := Eq.trans e50 E27
            have E69 : h55 106 = h 106 := Eq.trans e51 E28
            have E70 : h55 114 = h 114 := Eq.trans e52 E29
            show ov_R u d ov_m289 67 [(0, ov_r 90), (1, ov_i ln), (2, ov_i tm), (3, ov_i rn), (4, ov_i ((((ln * 1200) + tm) * 10) + rn)), (5, ov_i x5), (6, ov_i x6)] [ov_i v38] z54 h55 (P_Mo_bestPace_90 F z h so ln tm rn)
            rw [show h14 100 = h 100 from E25] at f37
            rw [show h14 96 = h 96 from E21] at f37
            have f71 : (h55 90 2) = (h14 90 2) ∧ (h55 90 7) = (h14 90 7) ∧ (h55 90 8) = (h14 90 8) ∧ (h55 90 13) = (h14 90 13) ∧ (h55 90 20) = (h14 90 20) ∧ (h55 90 22) = (h14 90 22) ∧ (h55 90 25) = (h14 90 25) ∧ (h55 90 26) = (h14 90 26) ∧ (h55 90 28) = (h14 90 28) ∧ (h55 90 29) = (h14 90 29) ∧ (h55 90 30) = (h14 90 30) ∧ (h55 90 34) = (h14 90 34) ∧ (h55 90 37) = (h14 90 37) ∧ v38 = (ov_pq (h 96) (h 100) so (ov_bp (h 96) (h 100) so) ln tm rn) x6 ∧ 1 ≤ v38 ∧ (v38 = 2000000000 ∨ v38 ≤ 1201 + 100000 * (13 - ln)) := f37
            clear f37
            rw [show h14 100 = h 100 from E25] at y53
            rw [show h14 96 = h 96 from E21] at y53
            have y53_ : ov_PI (h 96) (h 100) so (h55 109) := y53
            have ms : (ov_pq (h 96) (h 100) so (ov_bp (h 96) (h 100) so) ln tm rn x6 < ov_mn (ov_pq (h 96) (h 100) so (ov_bp (h 96) (h 100) so) ln tm rn) (ov_fst (h 96)) (Int.toNat (x6 - ov_fst (h 96))) → ov_mn (ov_pq (h 96) (h 100) so (ov_bp (h 96) (h 100) so) ln tm rn) (ov_fst (h 96)) (Int.toNat (x6 + 1 - ov_fst (h 96))) = ov_pq (h 96) (h 100) so (ov_bp (h 96) (h 100) so) ln tm rn x6) ∧ (¬ ov_pq (h 96) (h 100) so (ov_bp (h 96) (h 100) so) ln tm rn x6 < ov_mn (ov_pq (h 96) (h 100) so (ov_bp (h 96) (h 100) so) ln tm rn) (ov_fst (h 96)) (Int.toNat (x6 - ov_fst (h 96))) → ov_mn (ov_pq (h 96) (h 100) so (ov_bp (h 96) (h 100) so) ln tm rn) (ov_fst (h 96)) (Int.toNat (x6 + 1 - ov_fst (h 96))) = ov_mn (ov_pq (h 96) (h 100) so (ov_bp (h 96) (h 100) so) ln tm rn) (ov_fst (h 96)) (Int.toNat (x6 - ov_fst (h 96)))) := ov_mn_s (by omega)
            refine ov_blk (ls2 := [(0, ov_r 90), (1, ov_i ln), (2, ov_i tm), (3, ov_i rn), (4, ov_i ((((ln * 1200) + tm) * 10) + rn)), (5, ov_i x5), (6, ov_i x6), (7, ov_i v38)]) (st2 := [ov_i x5, ov_i v38]) (pc2 := 73) b_289_67_3 rfl rfl ?_
            refine ov_icge (tgt := 81) d_289_73 (by decide) (by omega) (by omega) (fun c72 => ?_) (fun c72 => ?_)
            · skip
              refine ov_blk (ls2 := [(0, ov_r 90), (1, ov_i ln), (2, ov_i tm), (3, ov_i rn), (4, ov_i ((((ln * 1200) + tm) * 10) + rn)), (5, ov_i x5), (6, ov_i (x6 + 1)), (7, ov_i v38)]) (st2 := []) (pc2 := 88) b_289_81_3 rfl rfl ?_
              refine ov_goto (tgt := 49) d_289_88 (by decide) ?_
              refine ov_sub (ls2 := [(0, ov_r 90), (1, ov_i ln), (2, ov_i tm), (3, ov_i rn), (4, ov_i ((((ln * 1200) + tm) * 10) + rn)), (5, ov_i x5), (6, ov_i (x6 + 1))]) (List.Sublist.subset (by repeat (first | exact List.Sublist.refl _ | apply List.Sublist.cons_cons | apply List.Sublist.cons))) ?_
              exact ih10 x5 (x6 + 1) _ _ I56 E57 E58 E59 E60 E61 E62 E63 E64 E65 E66 E67 E68 E69 E70 y53_ (by show ov_fst (h 96) ≤ (x6 + 1) ∧ (x6 + 1) ≤ ov_slw (h 96) + 1 ∧ 0 ≤ (x6 + 1) ∧ (x6 + 1) ≤ 31 ∧ 1 ≤ x5 ∧ (x5 = 2000000000 ∨ x5 ≤ 1201 + 100000 * (13 - ln)) ∧ x5 = ov_mn (ov_pq (h 96) (h 100) so (ov_bp (h 96) (h 100) so) ln tm rn) (ov_fst (h 96)) (Int.toNat ((x6 + 1) - ov_fst (h 96))) ∧ (h55 90 37) = (h 90 37) ∧ (h55 90 2) = (h 90 2) ∧ (h55 90 7) = (h 90 7) ∧ (h55 90 8) = (h 90 8) ∧ (h55 90 13) = (h 90 13) ∧ (h55 90 20) = (h 90 20) ∧ (h55 90 22) = (h 90 22) ∧ (h55 90 25) = (h 90 25) ∧ (h55 90 26) = (h 90 26) ∧ (h55 90 28) = (h 90 28) ∧ (h55 90 29) = (h 90 29) ∧ (h55 90 30) = (h 90 30) ∧ (h55 90 34) = (h 90 34); omega) (by omega)
            · skip
              refine ov_blk (ls2 := [(0, ov_r 90), (1, ov_i ln), (2, ov_i tm), (3, ov_i rn), (4, ov_i ((((ln * 1200) + tm) * 10) + rn)), (5, ov_i x5), (6, ov_i x6), (7, ov_i v38)]) (st2 := [ov_i v38]) (pc2 := 78) b_289_76_1 rfl rfl ?_
              refine ov_goto (tgt := 83) d_289_78 (by decide) ?_
              refine ov_blk (ls2 := [(0, ov_r 90), (1, ov_i ln), (2, ov_i tm), (3, ov_i rn), (4, ov_i ((((ln * 1200) + tm) * 10) + rn)), (5, ov_i v38), (6, ov_i (x6 + 1)), (7, ov_i v38)]) (st2 := []) (pc2 := 88) b_289_83_2 rfl rfl ?_
              refine ov_goto (tgt := 49) d_289_88 (by decide) ?_
              refine ov_sub (ls2 := [(0, ov_r 90), (1, ov_i ln), (2, ov_i tm), (3, ov_i rn), (4, ov_i ((((ln * 1200) + tm) * 10) + rn)), (5, ov_i v38), (6, ov_i (x6 + 1))]) (List.Sublist.subset (by repeat (first | exact List.Sublist.refl _ | apply List.Sublist.cons_cons | apply List.Sublist.cons))) ?_
              exact ih10 v38 (x6 + 1) _ _ I56 E57 E58 E59 E60 E61 E62 E63 E64 E65 E66 E67 E68 E69 E70 y53_ (by show ov_fst (h 96) ≤ (x6 + 1) ∧ (x6 + 1) ≤ ov_slw (h 96) + 1 ∧ 0 ≤ (x6 + 1) ∧ (x6 + 1) ≤ 31 ∧ 1 ≤ v38 ∧ (v38 = 2000000000 ∨ v38 ≤ 1201 + 100000 * (13 - ln)) ∧ v38 = ov_mn (ov_pq (h 96) (h 100) so (ov_bp (h 96) (h 100) so) ln tm rn) (ov_fst (h 96)) (Int.toNat ((x6 + 1) - ov_fst (h 96))) ∧ (h55 90 37) = (h 90 37) ∧ (h55 90 2) = (h 90 2) ∧ (h55 90 7) = (h 90 7) ∧ (h55 90 8) = (h 90 8) ∧ (h55 90 13) = (h 90 13) ∧ (h55 90 20) = (h 90 20) ∧ (h55 90 22) = (h 90 22) ∧ (h55 90 25) = (h 90 25) ∧ (h55 90 26) = (h 90 26) ∧ (h55 90 28) = (h 90 28) ∧ (h55 90 29) = (h 90 29) ∧ (h55 90 30) = (h 90 30) ∧ (h55 90 34) = (h 90 34); omega) (by omega)
      exact L12 32 2000000000 v7 _ _ I rfl rfl rfl rfl rfl rfl rfl rfl rfl rfl rfl rfl rfl rfl PI (by show ov_fst (h 96) ≤ v7 ∧ v7 ≤ ov_slw (h 96) + 1 ∧ 0 ≤ v7 ∧ v7 ≤ 31 ∧ 1 ≤ 2000000000 ∧ (2000000000 = 2000000000 ∨ 2000000000 ≤ 1201 + 100000 * (13 - ln)) ∧ 2000000000 = ov_mn (ov_pq (h 96) (h 100) so (ov_bp (h 96) (h 100) so) ln tm rn) (ov_fst (h 96)) (Int.toNat (v7 - ov_fst (h 96))) ∧ (h 90 37) = (h 90 37) ∧ (h 90 2) = (h 90 2) ∧ (h 90 7) = (h 90 7) ∧ (h 90 8) = (h 90 8) ∧ (h 90 13) = (h 90 13) ∧ (h 90 20) = (h 90 20) ∧ (h 90 22) = (h 90 22) ∧ (h 90 25) = (h 90 25) ∧ (h 90 26) = (h 90 26) ∧ (h 90 28) = (h 90 28) ∧ (h 90 29) = (h 90 29) ∧ (h 90 30) = (h 90 30) ∧ (h 90 34) = (h 90 34); omega) (by omega)
  · skip
    refine ov_blk (ls2 := [(0, ov_r 90), (1, ov_i ln), (2, ov_i tm), (3, ov_i rn)]) (st2 := [ov_i (1 + tm)]) (pc2 := 13) b_289_10_3 rfl rfl ?_
    have e9 : ov_bp (h 96) (h 100) so ln tm rn = 1 + tm := ov_bp_end (by omega)
    exact ov_reti (st := []) d_289_13 rfl ⟨_, rfl, I, ⟨rfl, rfl, rfl, rfl, rfl, rfl, rfl, rfl, rfl, rfl, rfl, rfl, (by show (h 90 37) = (h 90 37) ∧ (1 + tm) = (ov_bp (h 96) (h 100) so) ln tm rn ∧ 1 ≤ (1 + tm) ∧ ((1 + tm) = 2000000000 ∨ (1 + tm) ≤ 1201 + 100000 * (13 - ln)); omega)⟩, rfl, rfl, rfl, rfl, rfl, rfl, rfl, rfl, rfl, rfl, rfl, rfl, rfl, rfl, PI⟩
theorem c_Mo_bestPace_90_all {u : ov_U} {F : ov_H × ov_Z} (so : Int) (k : Nat) : ∀ {z : ov_Z} {h : ov_H} (d : Nat) (hd : (10 + 2 * k + 1) ≤ d) (U : ov_cap u) (I : ov_N F z h) (ln : Int) (tm : Int) (rn : Int) (g_ln : ov_g ln) (g_tm : ov_g tm) (g_rn : ov_g rn) (p0 : 0 ≤ ln ∧ ln + (k : Int) = (h 100 0)) (p1 : 0 ≤ tm ∧ tm + 89 * (k : Int) ≤ 1157) (p2 : 0 ≤ rn ∧ rn ≤ 9) (p3 : (h 90 37) = so) (W : ov_WT (h 96)) (W2 : ov_WK (h 100)) (PI : ov_PI (h 96) (h 100) so (h 109)), ov_T u d ov_m289 [ov_r 90, ov_i ln, ov_i tm, ov_i rn] z h (P_Mo_bestPace_90 F z h so ln tm rn) := by
  induction k using Nat.strongRecOn with
  | ind k ih => exact fun {z} {h} => @c_Mo_bestPace_90 u F so k (fun k' hk => @ih k' hk) z h
theorem c_Mo_paceBy_90_all {u : ov_U} {F : ov_H × ov_Z} (so : Int) (k : Nat) : ∀ {z : ov_Z} {h : ov_H} (d : Nat) (hd : (10 + 2 * k + 0) ≤ d) (U : ov_cap u) (I : ov_N F z h) (ln : Int) (tm : Int) (rn : Int) (s : Int) (g_ln : ov_g ln) (g_tm : ov_g tm) (g_rn : ov_g rn) (g_s : ov_g s) (p0 : 0 ≤ ln ∧ ln + (k : Int) = (h 100 0)) (p1 : ln < (h 100 0)) (p2 : 0 ≤ tm ∧ tm + 89 * (k : Int) ≤ 1157) (p3 : 0 ≤ rn ∧ rn ≤ 9) (p4 : 0 ≤ s ∧ s ≤ 30) (p5 : (h 90 37) = so) (W : ov_WT (h 96)) (W2 : ov_WK (h 100)) (PI : ov_PI (h 96) (h 100) so (h 109)), ov_T u d ov_m293 [ov_r 90, ov_i ln, ov_i tm, ov_i rn, ov_i s] z h (P_Mo_paceBy_90 F z h so ln tm rn s) := fun {z} {h} => @c_Mo_paceBy_90 u F so k (fun k' _ => @c_Mo_bestPace_90_all u F so k') z h
theorem ov_slw_b {F : ov_H × ov_Z} {z : ov_Z} {h : ov_H} (I : ov_N F z h) : ov_slw (h 96) ≤ 30 := by
  have a := t96_2 I
  have b := t96_3 I
  have c := t96_4 I
  unfold ov_slw ov_rt ov_slt
  (repeat' split) <;> omega
abbrev P_Mo_pace_90 (F : ov_H × ov_Z) (z : ov_Z) (h : ov_H) (s : Int) (m : Int) : Option ov_V → ov_Z → ov_H → Prop := fun r0 z' h' => ∃ r : Int, r0 = some (ov_i r) ∧ ov_N F z' h' ∧ ((h' 90 2) = (h 90 2) ∧ (h' 90 7) = (h 90 7) ∧ (h' 90 8) = (h 90 8) ∧ (h' 90 13) = (h 90 13) ∧ (h' 90 20) = (h 90 20) ∧ (h' 90 22) = (h 90 22) ∧ (h' 90 25) = (h 90 25) ∧ (h' 90 26) = (h 90 26) ∧ (h' 90 28) = (h 90 28) ∧ (h' 90 29) = (h 90 29) ∧ (h' 90 30) = (h 90 30) ∧ (h' 90 34) = (h 90 34) ∧ -2147483648 ≤ r ∧ r ≤ 2147483647) ∧ h' 91 = h 91 ∧ h' 92 = h 92 ∧ h' 93 = h 93 ∧ h' 94 = h 94 ∧ h' 95 = h 95 ∧ h' 96 = h 96 ∧ h' 97 = h 97 ∧ h' 98 = h 98 ∧ h' 99 = h 99 ∧ h' 100 = h 100 ∧ h' 103 = h 103 ∧ h' 105 = h 105 ∧ h' 106 = h 106 ∧ h' 114 = h 114
set_option maxHeartbeats 4000000 in
theorem c_Mo_pace_90 {u : ov_U} {F : ov_H × ov_Z} {z : ov_Z} {h : ov_H} (d : Nat) (hd : 60 ≤ d) (U : ov_cap u) (I : ov_N F z h) (s : Int) (m : Int) (g_s : ov_g s) (g_m : ov_g m) (W : ov_WT (h 96)) (W2 : ov_WK (h 100)) : ov_T u d ov_m288 [ov_r 90, ov_i s, ov_i m] z h (P_Mo_pace_90 F z h s m) := by
  refine ov_en rfl (Nat.le_of_ble_eq_true rfl) ?_
  show ov_R u d ov_m288 0 [(0, ov_r 90), (1, ov_i s), (2, ov_i m)] [] z h (P_Mo_pace_90 F z h s m)
  have t0 := t96_0 I
  have t1 := t96_1 I
  have wk : ∀ j : Int, 0 ≤ j → j ≤ 12 → 0 ≤ h 100 (1 + 2 * j) ∧ h 100 (1 + 2 * j) ≤ 1 := fun j h1 h2 => s100_w I ⟨h1, h2⟩
  have wz := s100_0 I
  refine ov_blk (ls2 := [(0, ov_r 90), (1, ov_i s), (2, ov_i m)]) (st2 := [ov_i 0, ov_r 90]) (pc2 := 2) b_288_0_2 rfl rfl ?_
  refine ov_putf (x := 0) d_288_2 fl_Mo_1 (zb_90 I) (zs_90 I) rfl nk_0 rfl ?_
  have I1 := up_90_0 (x := 0) I (by omega)
  refine ov_blk (ls2 := [(0, ov_r 90), (1, ov_i s), (2, ov_i m)]) (st2 := [ov_i s, ov_r 90]) (pc2 := 7) b_288_5_2 rfl rfl ?_
  refine ov_cV (as := [ov_i s]) (st := []) (d2 := d - 1) d_288_7 lk_Mo_306 rfl (Nat.le_of_ble_eq_true rfl) (c := 1) (zb_90 I1) (zs_90 I1) ⟨by decide, rfl⟩ (by omega) (c_Mo_isSecond_90 (d - 1) (by omega) U I1 s (by omega)) ?_
  rintro _ _ _ ⟨v3, rfl, rfl, rfl, f2⟩
  show ov_R u d ov_m288 10 [(0, ov_r 90), (1, ov_i s), (2, ov_i m)] [ov_i v3] z (ov_up h 90 0 0) (P_Mo_pace_90 F z h s m)
  have f4 : (v3 = 0 ∨ v3 = 1) ∧ (v3 = 1 → 0 ≤ s ∧ s ≤ 1000000) := f2
  clear f2
  refine ov_ifeq (tgt := 38) d_288_10 (by decide) (by omega) (fun c5 => ?_) (fun c5 => ?_)
  · skip
    have f4_ : v3 = 0 := by omega
    clear f4
    refine ov_blk (ls2 := [(0, ov_r 90), (1, ov_i s), (2, ov_i m)]) (st2 := [ov_i (-1)]) (pc2 := 39) b_288_38_1 rfl rfl ?_
    exact ov_reti (st := []) d_288_39 rfl ⟨_, rfl, I1, ⟨rfl, rfl, rfl, rfl, rfl, rfl, rfl, rfl, rfl, rfl, rfl, rfl, (by show -2147483648 ≤ (-1) ∧ (-1) ≤ 2147483647; omega)⟩, rfl, rfl, rfl, rfl, rfl, rfl, rfl, rfl, rfl, rfl, rfl, rfl, rfl, rfl⟩
  · skip
    have f4_ : v3 = 1 := by omega
    have f6 : 0 ≤ s ∧ s ≤ 1000000 := f4.2 (by omega)
    clear f4
    refine ov_blk (ls2 := [(0, ov_r 90), (1, ov_i s), (2, ov_i m)]) (st2 := [ov_r 90, ov_i 1, ov_i 0, ov_i m]) (pc2 := 17) b_288_13_4 rfl rfl ?_
    refine ov_getf (v := ov_r 100) d_288_17 fl_Mo_93 (zb_90 I1) (zs_90 I1) (congrArg ov_r (rg_90_16 I1)) ?_
    refine ov_blk (ls2 := [(0, ov_r 90), (1, ov_i s), (2, ov_i m)]) (st2 := [ov_i 0, ov_r 100, ov_i 1, ov_i 0, ov_i m]) (pc2 := 21) b_288_20_1 rfl rfl ?_
    refine ov_iald d_288_21 (zb_100 I1) (zs_100 I1) (by omega) ?_
    show ov_R u d ov_m288 22 [(0, ov_r 90), (1, ov_i s), (2, ov_i m)] [ov_i (h 100 0), ov_i 1, ov_i 0, ov_i m] z (ov_up h 90 0 0) (P_Mo_pace_90 F z h s m)
    have g7 := s100_0 I
    refine ov_blk (ls2 := [(0, ov_r 90), (1, ov_i s), (2, ov_i m)]) (st2 := [ov_i (1 + (h 100 0)), ov_i 0, ov_i m]) (pc2 := 23) b_288_22_1 rfl rfl ?_
    refine ov_cS (as := [ov_i m, ov_i 0, ov_i (1 + (h 100 0))]) (st := []) (d2 := d - 1) d_288_23 lk_Mo_299 rfl (Nat.le_of_ble_eq_true rfl) (by omega) (c_Mo_within (d - 1) (by omega) U I1 m 0 (1 + (h 100 0)) (by omega) (by omega) (by omega)) ?_
    rintro _ _ _ ⟨v9, rfl, rfl, rfl, f8⟩
    show ov_R u d ov_m288 26 [(0, ov_r 90), (1, ov_i s), (2, ov_i m)] [ov_i v9] z (ov_up h 90 0 0) (P_Mo_pace_90 F z h s m)
    have f10 : (v9 = 0 ∨ v9 = 1) ∧ (v9 = 1 → (0 : Int) ≤ m ∧ m ≤ (1 + (h 100 0))) ∧ (v9 = 0 → m < (0 : Int) ∨ (1 + (h 100 0)) < m) := f8
    clear f8
    refine ov_ifeq (tgt := 38) d_288_26 (by decide) (by omega) (fun c11 => ?_) (fun c11 => ?_)
    · skip
      have f10_ : v9 = 0 := by omega
      have f12 : m < (0 : Int) ∨ (1 + (h 100 0)) < m := f10.2.2 (by omega)
      clear f10
      refine ov_blk (ls2 := [(0, ov_r 90), (1, ov_i s), (2, ov_i m)]) (st2 := [ov_i (-1)]) (pc2 := 39) b_288_38_1 rfl rfl ?_
      exact ov_reti (st := []) d_288_39 rfl ⟨_, rfl, I1, ⟨rfl, rfl, rfl, rfl, rfl, rfl, rfl, rfl, rfl, rfl, rfl, rfl, (by show -2147483648 ≤ (-1) ∧ (-1) ≤ 2147483647; omega)⟩, rfl, rfl, rfl, rfl, rfl, rfl, rfl, rfl, rfl, rfl, rfl, rfl, rfl, rfl⟩
    · skip
      have f10_ : v9 = 1 := by omega
      have f13 : (0 : Int) ≤ m ∧ m ≤ (1 + (h 100 0)) := f10.2.1 (by omega)
      clear f10
      refine ov_blk (ls2 := [(0, ov_r 90), (1, ov_i s), (2, ov_i m)]) (st2 := [ov_r 90]) (pc2 := 30) b_288_29_1 rfl rfl ?_
      refine ov_getf (v := ov_r 100) d_288_30 fl_Mo_93 (zb_90 I1) (zs_90 I1) (congrArg ov_r (rg_90_16 I1)) ?_
      refine ov_blk (ls2 := [(0, ov_r 90), (1, ov_i s), (2, ov_i m)]) (st2 := [ov_i 0, ov_r 100]) (pc2 := 34) b_288_33_1 rfl rfl ?_
      refine ov_iald d_288_34 (zb_100 I1) (zs_100 I1) (by omega) ?_
      show ov_R u d ov_m288 35 [(0, ov_r 90), (1, ov_i s), (2, ov_i m)] [ov_i (h 100 0)] z (ov_up h 90 0 0) (P_Mo_pace_90 F z h s m)
      refine ov_ifne (tgt := 40) d_288_35 (by decide) (by omega) (fun c15 => ?_) (fun c15 => ?_)
      · skip
        refine ov_blk (ls2 := [(0, ov_r 90), (1, ov_i s), (2, ov_i m), (3, ov_i 0)]) (st2 := []) (pc2 := 42) b_288_40_2 rfl rfl ?_
        have L19 : ∀ (n16 : Nat) (x3 : Int) (z20 : ov_Z) (h21 : ov_H) (I22 : ov_N F z20 h21) (E23 : h21 91 = h 91) (E24 : h21 92 = h 92) (E25 : h21 93 = h 93) (E26 : h21 94 = h 94) (E27 : h21 95 = h 95) (E28 : h21 96 = h 96) (E29 : h21 97 = h 97) (E30 : h21 98 = h 98) (E31 : h21 99 = h 99) (E32 : h21 100 = h 100) (E33 : h21 103 = h 103) (E34 : h21 105 = h 105) (E35 : h21 106 = h 106) (E36 : h21 114 = h 114) (xz : ∀ j : Int, 0 ≤ j → j < x3 → (h21 109) j = 0) (q18 : 0 ≤ x3 ∧ x3 ≤ 156000 ∧ (h21 90 2) = (h 90 2) ∧ (h21 90 7) = (h 90 7) ∧ (h21 90 8) = (h 90 8) ∧ (h21 90 13) = (h 90 13) ∧ (h21 90 20) = (h 90 20) ∧ (h21 90 22) = (h 90 22) ∧ (h21 90 25) = (h 90 25) ∧ (h21 90 26) = (h 90 26) ∧ (h21 90 28) = (h 90 28) ∧ (h21 90 29) = (h 90 29) ∧ (h21 90 30) = (h 90 30) ∧ (h21 90 34) = (h 90 34)), 156000 - x3 < (n16 : Int) → ov_R u d ov_m288 42 [(0, ov_r 90), (1, ov_i s), (2, ov_i m), (3, ov_i x3)] [] z20 h21 (P_Mo_pace_90 F z h s m) := by
          intro n16
          induction n16 with
          | zero =>
            intro x3 z20 h21 I22 E23 E24 E25 E26 E27 E28 E29 E30 E31 E32 E33 E34 E35 E36 xz q18 hn37
            exact absurd hn37 (by omega)
          | succ n16 ih17 =>
            intro x3 z20 h21 I22 E23 E24 E25 E26 E27 E28 E29 E30 E31 E32 E33 E34 E35 E36 xz q18 hn37
            refine ov_blk (ls2 := [(0, ov_r 90), (1, ov_i s), (2, ov_i m), (3, ov_i x3)]) (st2 := [ov_i x3]) (pc2 := 43) b_288_42_1 rfl rfl ?_
            refine ov_ldc (n := 156000) d_288_43 kc_Mo_128 ?_
            refine ov_icge (tgt := 61) d_288_45 (by decide) (by omega) (by omega) (fun c38 => ?_) (fun c38 => ?_)
            · skip
              refine ov_blk (ls2 := [(0, ov_r 90), (1, ov_i s), (2, ov_i m), (3, ov_i x3)]) (st2 := [ov_i s, ov_r 90]) (pc2 := 63) b_288_61_2 rfl rfl ?_
              refine ov_putf (x := s) d_288_63 fl_Mo_426 (zb_90 I22) (zs_90 I22) rfl nk_0 rfl ?_
              have I39 := up_90_37 (x := s) I22 (by omega)
              have pi0 : ov_PI (h 96) (h 100) s (h21 109) := ov_PI_0 (by omega) (fun j a b => xz j a (by omega))
              refine ov_blk (ls2 := [(0, ov_r 90), (1, ov_i s), (2, ov_i m), (3, ov_i x3)]) (st2 := [ov_r 90]) (pc2 := 67) b_288_66_1 rfl rfl ?_
              refine ov_getf (v := ov_r 96) d_288_67 fl_Mo_81 (zb_90 I39) (zs_90 I39) (congrArg ov_r (rg_90_10 I39)) ?_
              refine ov_blk (ls2 := [(0, ov_r 90), (1, ov_i s), (2, ov_i m), (3, ov_i x3)]) (st2 := [ov_i 6, ov_r 96]) (pc2 := 72) b_288_70_1 rfl rfl ?_
              refine ov_iald d_288_72 (zb_96 I39) (zs_96 I39) (by omega) ?_
              show ov_R u d ov_m288 73 [(0, ov_r 90), (1, ov_i s), (2, ov_i m), (3, ov_i x3)] [ov_i ((ov_up h21 90 37 s) 96 6)] z20 (ov_up h21 90 37 s) (P_Mo_pace_90 F z h s m)
              rw [show (ov_up h21 90 37 s) 96 = h 96 from E28]
              have g40 := t96_6 I
              refine ov_blk (ls2 := [(0, ov_r 90), (1, ov_i s), (2, ov_i m), (3, ov_i x3)]) (st2 := [ov_i 1, ov_i (h 96 6)]) (pc2 := 74) b_288_73_1 rfl rfl ?_
              refine ov_icne (tgt := 81) d_288_74 (by decide) (by omega) (by omega) (fun c41 => ?_) (fun c41 => ?_)
              · skip
                refine ov_blk (ls2 := [(0, ov_r 90), (1, ov_i s), (2, ov_i m), (3, ov_i x3)]) (st2 := [ov_r 90]) (pc2 := 82) b_288_81_1 rfl rfl ?_
                refine ov_getf (v := ov_r 96) d_288_82 fl_Mo_81 (zb_90 I39) (zs_90 I39) (congrArg ov_r (rg_90_10 I39)) ?_
                refine ov_blk (ls2 := [(0, ov_r 90), (1, ov_i s), (2, ov_i m), (3, ov_i x3)]) (st2 := [ov_i 5, ov_r 96]) (pc2 := 86) b_288_85_1 rfl rfl ?_
                refine ov_iald d_288_86 (zb_96 I39) (zs_96 I39) (by omega) ?_
                show ov_R u d ov_m288 87 [(0, ov_r 90), (1, ov_i s), (2, ov_i m), (3, ov_i x3)] [ov_i ((ov_up h21 90 37 s) 96 5)] z20 (ov_up h21 90 37 s) (P_Mo_pace_90 F z h s m)
                rw [show (ov_up h21 90 37 s) 96 = h 96 from E28]
                have g42 := t96_5 I
                refine ov_blk (ls2 := [(0, ov_r 90), (1, ov_i s), (2, ov_i m), (3, ov_i (h 96 5))]) (st2 := [ov_i (h 96 5), ov_i 0, ov_i 0, ov_r 90]) (pc2 := 92) b_288_87_5 rfl rfl ?_
                have cf43 : h21 100 (0) = h 100 (0) := congrFun E32 (0)
                refine ov_cV (as := [ov_i 0, ov_i 0, ov_i (h 96 5)]) (st := []) (d2 := d - 1) d_288_92 lk_Mo_429 rfl (Nat.le_of_ble_eq_true rfl) (c := 1) (zb_90 I39) (zs_90 I39) ⟨by decide, rfl⟩ (by omega) (c_Mo_bestPace_90_all s (Int.toNat (h 100 0 - (0))) (d - 1) (by omega) U I39 0 0 (h 96 5) (by omega) (by omega) (by omega) (by show 0 ≤ (0 : Int) ∧ (0 : Int) + ((Int.toNat (h 100 0 - (0)) : Nat) : Int) = (h21 100 0); omega) (by omega) (by omega) (by show s = s; omega) (by rw [show (ov_up h21 90 37 s) 96 = h 96 from E28]; exact W) (by rw [show (ov_up h21 90 37 s) 100 = h 100 from E32]; exact W2) (by rw [show (ov_up h21 90 37 s) 96 = h 96 from E28, show (ov_up h21 90 37 s) 100 = h 100 from E32]; exact pi0)) ?_
                rintro _ z61 h62 ⟨v45, rfl, I63, f44, e46, e47, e48, e49, e50, e51, e52, e53, e54, e55, e56, e57, e58, e59, y60⟩
                have E64 : h62 91 = h 91 := Eq.trans e46 E23
                have E65 : h62 92 = h 92 := Eq.trans e47 E24
                have E66 : h62 93 = h 93 := Eq.trans e48 E25
                have E67 : h62 94 = h 94 := Eq.trans e49 E26
                have E68 : h62 95 = h 95 := Eq.trans e50 E27
                have E69 : h62 96 = h 96 := Eq.trans e51 E28
                have E70 : h62 97 = h 97 := Eq.trans e52 E29
                have E71 : h62 98 = h 98 := Eq.trans e53 E30
                have E72 : h62 99 = h 99 := Eq.trans e54 E31
                have E73 : h62 100 = h 100 := Eq.trans e55 E32
                have E74 : h62 103 = h 103 := Eq.trans e56 E33
                have E75 : h62 105 = h 105 := Eq.trans e57 E34
                have E76 : h62 106 = h 106 := Eq.trans e58 E35
                have E77 : h62 114 = h 114 := Eq.trans e59 E36
                show ov_R u d ov_m288 95 [(0, ov_r 90), (1, ov_i s), (2, ov_i m), (3, ov_i (h 96 5))] [ov_i v45] z61 h62 (P_Mo_pace_90 F z h s m)
                rw [show (ov_up h21 90 37 s) 100 = h 100 from E32] at f44
                rw [show (ov_up h21 90 37 s) 96 = h 96 from E28] at f44
                have f78 : (h62 90 2) = (h21 90 2) ∧ (h62 90 7) = (h21 90 7) ∧ (h62 90 8) = (h21 90 8) ∧ (h62 90 13) = (h21 90 13) ∧ (h62 90 20) = (h21 90 20) ∧ (h62 90 22) = (h21 90 22) ∧ (h62 90 25) = (h21 90 25) ∧ (h62 90 26) = (h21 90 26) ∧ (h62 90 28) = (h21 90 28) ∧ (h62 90 29) = (h21 90 29) ∧ (h62 90 30) = (h21 90 30) ∧ (h62 90 34) = (h21 90 34) ∧ (h62 90 37) = s ∧ v45 = (ov_bp (h 96) (h 100) s) (0 : Int) (0 : Int) (h 96 5) ∧ 1 ≤ v45 ∧ (v45 = 2000000000 ∨ v45 ≤ 1201 + 100000 * (13 - (0 : Int))) := f44
                clear f44
                rw [show (ov_up h21 90 37 s) 100 = h 100 from E32] at y60
                rw [show (ov_up h21 90 37 s) 96 = h 96 from E28] at y60
                have y60_ : ov_PI (h 96) (h 100) s (h62 109) := y60
                refine ov_blk (ls2 := [(0, ov_r 90), (1, ov_i s), (2, ov_i m), (3, ov_i (h 96 5)), (4, ov_i v45)]) (st2 := [ov_i v45]) (pc2 := 99) b_288_95_2 rfl rfl ?_
                refine ov_ldcw (n := 2000000000) d_288_99 kc_Mo_338 ?_
                refine ov_iceq (tgt := 110) d_288_102 (by decide) (by omega) (by omega) (fun c79 => ?_) (fun c79 => ?_)
                · skip
                  refine ov_blk (ls2 := [(0, ov_r 90), (1, ov_i s), (2, ov_i m), (3, ov_i (h 96 5)), (4, ov_i v45)]) (st2 := [ov_i v45]) (pc2 := 112) b_288_110_1 rfl rfl ?_
                  refine ov_ldcw (n := 2000000000) d_288_112 kc_Mo_338 ?_
                  refine ov_icne (tgt := 122) d_288_115 (by decide) (by omega) (by omega) (fun c80 => ?_) (fun c80 => ?_)
                  · omega
                  · skip
                    refine ov_blk (ls2 := [(0, ov_r 90), (1, ov_i s), (2, ov_i m), (3, ov_i (h 96 5)), (4, ov_i v45)]) (st2 := [ov_i (-1)]) (pc2 := 119) b_288_118_1 rfl rfl ?_
                    refine ov_goto (tgt := 145) d_288_119 (by decide) ?_
                    exact ov_reti (st := []) d_288_145 rfl ⟨_, rfl, I63, (by show (h62 90 2) = (h 90 2) ∧ (h62 90 7) = (h 90 7) ∧ (h62 90 8) = (h 90 8) ∧ (h62 90 13) = (h 90 13) ∧ (h62 90 20) = (h 90 20) ∧ (h62 90 22) = (h 90 22) ∧ (h62 90 25) = (h 90 25) ∧ (h62 90 26) = (h 90 26) ∧ (h62 90 28) = (h 90 28) ∧ (h62 90 29) = (h 90 29) ∧ (h62 90 30) = (h 90 30) ∧ (h62 90 34) = (h 90 34) ∧ -2147483648 ≤ (-1) ∧ (-1) ≤ 2147483647; omega), E64, E65, E66, E67, E68, E69, E70, E71, E72, E73, E74, E75, E76, E77⟩
                · skip
                  refine ov_blk (ls2 := [(0, ov_r 90), (1, ov_i s), (2, ov_i m), (3, ov_i (h 96 5)), (4, ov_i v45)]) (st2 := [ov_i 2, ov_i m]) (pc2 := 107) b_288_105_2 rfl rfl ?_
                  refine ov_icge (tgt := 146) d_288_107 (by decide) (by omega) (by omega) (fun c81 => ?_) (fun c81 => ?_)
                  · skip
                    refine ov_blk (ls2 := [(0, ov_r 90), (1, ov_i s), (2, ov_i m), (3, ov_i (h 96 5)), (4, ov_i v45), (5, ov_i 0), (6, ov_i 0), (7, ov_i 0)]) (st2 := []) (pc2 := 155) b_288_146_6 rfl rfl ?_
                    have L85 : ∀ (n82 : Nat) (x3_ : Int) (x5 : Int) (x6 : Int) (x7 : Int) (z86 : ov_Z) (h87 : ov_H) (I88 : ov_N F z86 h87) (E89 : h87 91 = h 91) (E90 : h87 92 = h 92) (E91 : h87 93 = h 93) (E92 : h87 94 = h 94) (E93 : h87 95 = h 95) (E94 : h87 96 = h 96) (E95 : h87 97 = h 97) (E96 : h87 98 = h 98) (E97 : h87 99 = h 99) (E98 : h87 100 = h 100) (E99 : h87 103 = h 103) (E100 : h87 105 = h 105) (E101 : h87 106 = h 106) (E102 : h87 114 = h 114) (xm : ov_PI (h 96) (h 100) s (h87 109)) (q84 : 0 ≤ x7 ∧ x7 ≤ m - 1 ∧ 0 ≤ x5 ∧ x5 ≤ 89 * x7 ∧ 0 ≤ x3_ ∧ x3_ ≤ 9 ∧ 0 ≤ x6 ∧ x6 ≤ 31 ∧ ¬ ov_bp (h 96) (h 100) s x7 x5 x3_ = 2000000000 ∧ (h87 90 37) = s ∧ (h87 90 2) = (h62 90 2) ∧ (h87 90 7) = (h62 90 7) ∧ (h87 90 8) = (h62 90 8) ∧ (h87 90 13) = (h62 90 13) ∧ (h87 90 20) = (h62 90 20) ∧ (h87 90 22) = (h62 90 22) ∧ (h87 90 25) = (h62 90 25) ∧ (h87 90 26) = (h62 90 26) ∧ (h87 90 28) = (h62 90 28) ∧ (h87 90 29) = (h62 90 29) ∧ (h87 90 30) = (h62 90 30) ∧ (h87 90 34) = (h62 90 34)), 13 - x7 < (n82 : Int) → ov_R u d ov_m288 155 [(0, ov_r 90), (1, ov_i s), (2, ov_i m), (3, ov_i x3_), (4, ov_i v45), (5, ov_i x5), (6, ov_i x6), (7, ov_i x7)] [] z86 h87 (P_Mo_pace_90 F z h s m) := by
                      intro n82
                      induction n82 with
                      | zero =>
                        intro x3_ x5 x6 x7 z86 h87 I88 E89 E90 E91 E92 E93 E94 E95 E96 E97 E98 E99 E100 E101 E102 xm q84 hn103
                        exact absurd hn103 (by omega)
                      | succ n82 ih83 =>
                        intro x3_ x5 x6 x7 z86 h87 I88 E89 E90 E91 E92 E93 E94 E95 E96 E97 E98 E99 E100 E101 E102 xm q84 hn103
                        refine ov_blk (ls2 := [(0, ov_r 90), (1, ov_i s), (2, ov_i m), (3, ov_i x3_), (4, ov_i v45), (5, ov_i x5), (6, ov_i x6), (7, ov_i x7)]) (st2 := [ov_i (m - 2), ov_i x7]) (pc2 := 160) b_288_155_4 rfl rfl ?_
                        refine ov_icgt (tgt := 265) d_288_160 (by decide) (by omega) (by omega) (fun c104 => ?_) (fun c104 => ?_)
                        · skip
                          refine ov_blk (ls2 := [(0, ov_r 90), (1, ov_i s), (2, ov_i m), (3, ov_i x3_), (4, ov_i v45), (5, ov_i x5), (6, ov_i x6), (7, ov_i x7)]) (st2 := [ov_i x6]) (pc2 := 267) b_288_265_1 rfl rfl ?_
                          exact ov_reti (st := []) d_288_267 rfl ⟨_, rfl, I88, (by show (h87 90 2) = (h 90 2) ∧ (h87 90 7) = (h 90 7) ∧ (h87 90 8) = (h 90 8) ∧ (h87 90 13) = (h 90 13) ∧ (h87 90 20) = (h 90 20) ∧ (h87 90 22) = (h 90 22) ∧ (h87 90 25) = (h 90 25) ∧ (h87 90 26) = (h 90 26) ∧ (h87 90 28) = (h 90 28) ∧ (h87 90 29) = (h 90 29) ∧ (h87 90 30) = (h 90 30) ∧ (h87 90 34) = (h 90 34) ∧ -2147483648 ≤ x6 ∧ x6 ≤ 2147483647; omega), E89, E90, E91, E92, E93, E94, E95, E96, E97, E98, E99, E100, E101, E102⟩
                        · skip
                          refine ov_blk (ls2 := [(0, ov_r 90), (1, ov_i s), (2, ov_i m), (3, ov_i x3_), (4, ov_i v45), (5, ov_i x5), (6, ov_i x6), (7, ov_i x7)]) (st2 := [ov_r 90]) (pc2 := 164) b_288_163_1 rfl rfl ?_
                          refine ov_cV (as := []) (st := []) (d2 := d - 1) d_288_164 lk_Mo_414 rfl (Nat.le_of_ble_eq_true rfl) (c := 1) (zb_90 I88) (zs_90 I88) ⟨by decide, rfl⟩ (by omega) (c_Mo_fastest_90_b (d - 1) (by omega) U I88) ?_
                          rintro _ _ _ ⟨v106, rfl, rfl, rfl, f105⟩
                          show ov_R u d ov_m288 167 [(0, ov_r 90), (1, ov_i s), (2, ov_i m), (3, ov_i x3_), (4, ov_i v45), (5, ov_i x5), (6, ov_i x6), (7, ov_i x7)] [ov_i v106] z86 h87 (P_Mo_pace_90 F z h s m)
                          rw [show h87 96 = h 96 from E94] at f105
                          have f107 : v106 = ov_fst (h 96) ∧ 0 ≤ v106 ∧ v106 ≤ 30 := f105
                          clear f105
                          have fl := ov_fsl (h 96)
                          refine ov_blk (ls2 := [(0, ov_r 90), (1, ov_i s), (2, ov_i m), (3, ov_i x3_), (4, ov_i v45), (5, ov_i x5), (6, ov_i v106), (7, ov_i x7)]) (st2 := []) (pc2 := 169) b_288_167_1 rfl rfl ?_
                          have L111 : ∀ (n108 : Nat) (x6_ : Int) (z112 : ov_Z) (h113 : ov_H) (I114 : ov_N F z112 h113) (E115 : h113 91 = h 91) (E116 : h113 92 = h 92) (E117 : h113 93 = h 93) (E118 : h113 94 = h 94) (E119 : h113 95 = h 95) (E120 : h113 96 = h 96) (E121 : h113 97 = h 97) (E122 : h113 98 = h 98) (E123 : h113 99 = h 99) (E124 : h113 100 = h 100) (E125 : h113 103 = h 103) (E126 : h113 105 = h 105) (E127 : h113 106 = h 106) (E128 : h113 114 = h 114) (xw : ∀ q : Int, ov_fst (h 96) ≤ q → q < x6_ → ¬ ov_pq (h 96) (h 100) s (ov_bp (h 96) (h 100) s) x7 x5 x3_ q = ov_bp (h 96) (h 100) s x7 x5 x3_) (xn : ov_PI (h 96) (h 100) s (h113 109)) (q110 : ov_fst (h 96) ≤ x6_ ∧ x6_ ≤ ov_slw (h 96) ∧ 0 ≤ x6_ ∧ x6_ ≤ 30 ∧ (h113 90 37) = s ∧ (h113 90 2) = (h87 90 2) ∧ (h113 90 7) = (h87 90 7) ∧ (h113 90 8) = (h87 90 8) ∧ (h113 90 13) = (h87 90 13) ∧ (h113 90 20) = (h87 90 20) ∧ (h113 90 22) = (h87 90 22) ∧ (h113 90 25) = (h87 90 25) ∧ (h113 90 26) = (h87 90 26) ∧ (h113 90 28) = (h87 90 28) ∧ (h113 90 29) = (h87 90 29) ∧ (h113 90 30) = (h87 90 30) ∧ (h113 90 34) = (h87 90 34)), 30 - x6_ < (n108 : Int) → ov_R u d ov_m288 169 [(0, ov_r 90), (1, ov_i s), (2, ov_i m), (3, ov_i x3_), (4, ov_i v45), (5, ov_i x5), (6, ov_i x6_), (7, ov_i x7)] [] z112 h113 (P_Mo_pace_90 F z h s m) := by
                            intro n108
                            induction n108 with
                            | zero =>
                              intro x6_ z112 h113 I114 E115 E116 E117 E118 E119 E120 E121 E122 E123 E124 E125 E126 E127 E128 xw xn q110 hn129
                              exact absurd hn129 (by omega)
                            | succ n108 ih109 =>
                              intro x6_ z112 h113 I114 E115 E116 E117 E118 E119 E120 E121 E122 E123 E124 E125 E126 E127 E128 xw xn q110 hn129
                              refine ov_blk (ls2 := [(0, ov_r 90), (1, ov_i s), (2, ov_i m), (3, ov_i x3_), (4, ov_i v45), (5, ov_i x5), (6, ov_i x6_), (7, ov_i x7)]) (st2 := [ov_r 90]) (pc2 := 170) b_288_169_1 rfl rfl ?_
                              refine ov_blk (ls2 := [(0, ov_r 90), (1, ov_i s), (2, ov_i m), (3, ov_i x3_), (4, ov_i v45), (5, ov_i x5), (6, ov_i x6_), (7, ov_i x7)]) (st2 := [ov_i x6_, ov_i x3_, ov_i x5, ov_i x7, ov_r 90]) (pc2 := 177) b_288_170_4 rfl rfl ?_
                              have cf130 : h113 100 (0) = h 100 (0) := congrFun E124 (0)
                              refine ov_cV (as := [ov_i x7, ov_i x5, ov_i x3_, ov_i x6_]) (st := []) (d2 := d - 1) d_288_177 lk_Mo_420 rfl (Nat.le_of_ble_eq_true rfl) (c := 1) (zb_90 I114) (zs_90 I114) ⟨by decide, rfl⟩ (by omega) (c_Mo_paceBy_90_all s (Int.toNat (h 100 0 - (x7))) (d - 1) (by omega) U I114 x7 x5 x3_ x6_ (by omega) (by omega) (by omega) (by omega) (by show 0 ≤ x7 ∧ x7 + ((Int.toNat (h 100 0 - (x7)) : Nat) : Int) = (h113 100 0); omega) (by show x7 < (h113 100 0); omega) (by omega) (by omega) (by omega) (by show (h113 90 37) = s; omega) (by rw [show h113 96 = h 96 from E120]; exact W) (by rw [show h113 100 = h 100 from E124]; exact W2) (by rw [show h113 96 = h 96 from E120, show h113 100 = h 100 from E124]; exact xn)) ?_
                              rintro _ z148 h149 ⟨v132, rfl, I150, f131, e133, e134, e135, e136, e137, e138, e139, e140, e141, e142, e143, e144, e145, e146, y147⟩
                              have E151 : h149 91 = h 91 := Eq.trans e133 E115
                              have E152 : h149 92 = h 92 := Eq.trans e134 E116
                              have E153 : h149 93 = h 93 := Eq.trans e135 E117
                              have E154 : h149 94 = h 94 := Eq.trans e136 E118
                              have E155 : h149 95 = h 95 := Eq.trans e137 E119
                              have E156 : h149 96 = h 96 := Eq.trans e138 E120
                              have E157 : h149 97 = h 97 := Eq.trans e139 E121
                              have E158 : h149 98 = h 98 := Eq.trans e140 E122
                              have E159 : h149 99 = h 99 := Eq.trans e141 E123
                              have E160 : h149 100 = h 100 := Eq.trans e142 E124
                              have E161 : h149 103 = h 103 := Eq.trans e143 E125
                              have E162 : h149 105 = h 105 := Eq.trans e144 E126
                              have E163 : h149 106 = h 106 := Eq.trans e145 E127
                              have E164 : h149 114 = h 114 := Eq.trans e146 E128
                              show ov_R u d ov_m288 180 [(0, ov_r 90), (1, ov_i s), (2, ov_i m), (3, ov_i x3_), (4, ov_i v45), (5, ov_i x5), (6, ov_i x6_), (7, ov_i x7)] [ov_i v132] z148 h149 (P_Mo_pace_90 F z h s m)
                              rw [show h113 100 = h 100 from E124] at f131
                              rw [show h113 96 = h 96 from E120] at f131
                              have f165 : (h149 90 2) = (h113 90 2) ∧ (h149 90 7) = (h113 90 7) ∧ (h149 90 8) = (h113 90 8) ∧ (h149 90 13) = (h113 90 13) ∧ (h149 90 20) = (h113 90 20) ∧ (h149 90 22) = (h113 90 22) ∧ (h149 90 25) = (h113 90 25) ∧ (h149 90 26) = (h113 90 26) ∧ (h149 90 28) = (h113 90 28) ∧ (h149 90 29) = (h113 90 29) ∧ (h149 90 30) = (h113 90 30) ∧ (h149 90 34) = (h113 90 34) ∧ (h149 90 37) = (h113 90 37) ∧ v132 = (ov_pq (h 96) (h 100) s (ov_bp (h 96) (h 100) s) x7 x5 x3_) x6_ ∧ 1 ≤ v132 ∧ (v132 = 2000000000 ∨ v132 ≤ 1201 + 100000 * (13 - x7)) := f131
                              clear f131
                              rw [show h113 100 = h 100 from E124] at y147
                              rw [show h113 96 = h 96 from E120] at y147
                              have y147_ : ov_PI (h 96) (h 100) s (h149 109) := y147
                              refine ov_blk (ls2 := [(0, ov_r 90), (1, ov_i s), (2, ov_i m), (3, ov_i x3_), (4, ov_i v45), (5, ov_i x5), (6, ov_i x6_), (7, ov_i x7)]) (st2 := [ov_i x3_, ov_i x5, ov_i x7, ov_r 90, ov_i v132]) (pc2 := 186) b_288_180_4 rfl rfl ?_
                              have cf166 : h149 100 (0) = h 100 (0) := congrFun E160 (0)
                              refine ov_cV (as := [ov_i x7, ov_i x5, ov_i x3_]) (st := [ov_i v132]) (d2 := d - 1) d_288_186 lk_Mo_429 rfl (Nat.le_of_ble_eq_true rfl) (c := 1) (zb_90 I150) (zs_90 I150) ⟨by decide, rfl⟩ (by omega) (c_Mo_bestPace_90_all s (Int.toNat (h 100 0 - (x7))) (d - 1) (by omega) U I150 x7 x5 x3_ (by omega) (by omega) (by omega) (by show 0 ≤ x7 ∧ x7 + ((Int.toNat (h 100 0 - (x7)) : Nat) : Int) = (h149 100 0); omega) (by omega) (by omega) (by show (h149 90 37) = s; omega) (by rw [show h149 96 = h 96 from E156]; exact W) (by rw [show h149 100 = h 100 from E160]; exact W2) (by rw [show h149 96 = h 96 from E156, show h149 100 = h 100 from E160]; exact y147_)) ?_
                              rintro _ z184 h185 ⟨v168, rfl, I186, f167, e169, e170, e171, e172, e173, e174, e175, e176, e177, e178, e179, e180, e181, e182, y183⟩
                              have E187 : h185 91 = h 91 := Eq.trans e169 E151
                              have E188 : h185 92 = h 92 := Eq.trans e170 E152
                              have E189 : h185 93 = h 93 := Eq.trans e171 E153
                              have E190 : h185 94 = h 94 := Eq.trans e172 E154
                              have E191 : h185 95 = h 95 := Eq.trans e173 E155
                              have E192 : h185 96 = h 96 := Eq.trans e174 E156
                              have E193 : h185 97 = h 97 := Eq.trans e175 E157
                              have E194 : h185 98 = h 98 := Eq.trans e176 E158
                              have E195 : h185 99 = h 99 := Eq.trans e177 E159
                              have E196 : h185 100 = h 100 := Eq.trans e178 E160
                              have E197 : h185 103 = h 103 := Eq.trans e179 E161
                              have E198 : h185 105 = h 105 := Eq.trans e180 E162
                              have E199 : h185 106 = h 106 := Eq.trans e181 E163
                              have E200 : h185 114 = h 114 := Eq.trans e182 E164
                              show ov_R u d ov_m288 189 [(0, ov_r 90), (1, ov_i s), (2, ov_i m), (3, ov_i x3_), (4, ov_i v45), (5, ov_i x5), (6, ov_i x6_), (7, ov_i x7)] [ov_i v168, ov_i v132] z184 h185 (P_Mo_pace_90 F z h s m)
                              rw [show h149 100 = h 100 from E160] at f167
                              rw [show h149 96 = h 96 from E156] at f167
                              have f201 : (h185 90 2) = (h149 90 2) ∧ (h185 90 7) = (h149 90 7) ∧ (h185 90 8) = (h149 90 8) ∧ (h185 90 13) = (h149 90 13) ∧ (h185 90 20) = (h149 90 20) ∧ (h185 90 22) = (h149 90 22) ∧ (h185 90 25) = (h149 90 25) ∧ (h185 90 26) = (h149 90 26) ∧ (h185 90 28) = (h149 90 28) ∧ (h185 90 29) = (h149 90 29) ∧ (h185 90 30) = (h149 90 30) ∧ (h185 90 34) = (h149 90 34) ∧ (h185 90 37) = (h149 90 37) ∧ v168 = (ov_bp (h 96) (h 100) s) x7 x5 x3_ ∧ 1 ≤ v168 ∧ (v168 = 2000000000 ∨ v168 ≤ 1201 + 100000 * (13 - x7)) := f167
                              clear f167
                              rw [show h149 100 = h 100 from E160] at y183
                              rw [show h149 96 = h 96 from E156] at y183
                              have y183_ : ov_PI (h 96) (h 100) s (h185 109) := y183
                              refine ov_iceq (tgt := 198) d_288_189 (by decide) (by omega) (by omega) (fun c202 => ?_) (fun c202 => ?_)
                              · skip
                                have npq : ¬ ov_pq (h 96) (h 100) s (ov_bp (h 96) (h 100) s) x7 x5 x3_ x6_ = 2000000000 := by omega
                                refine ov_blk (ls2 := [(0, ov_r 90), (1, ov_i s), (2, ov_i m), (3, ov_i x3_), (4, ov_i v45), (5, ov_i x5), (6, ov_i x6_), (7, ov_i x7)]) (st2 := [ov_i x7, ov_r 90]) (pc2 := 201) b_288_198_2 rfl rfl ?_
                                refine ov_cV (as := [ov_i x7]) (st := []) (d2 := d - 1) d_288_201 lk_Mo_423 rfl (Nat.le_of_ble_eq_true rfl) (c := 1) (zb_90 I186) (zs_90 I186) ⟨by decide, rfl⟩ (by omega) (c_Mo_xAt_90 (d - 1) (by omega) U I186 x7 (by omega) (by omega)) ?_
                                rintro _ _ _ ⟨v204, rfl, rfl, rfl, f203⟩
                                show ov_R u d ov_m288 204 [(0, ov_r 90), (1, ov_i s), (2, ov_i m), (3, ov_i x3_), (4, ov_i v45), (5, ov_i x5), (6, ov_i x6_), (7, ov_i x7)] [ov_i v204] z184 h185 (P_Mo_pace_90 F z h s m)
                                rw [show h185 100 = h 100 from E196] at f203
                                have f205 : v204 = ov_sx (h 100) (Int.toNat x7) ∧ 0 ≤ v204 ∧ v204 ≤ x7 := f203
                                clear f203
                                have ev : v204 = ov_sx (h 100) (Int.toNat x7) := by omega
                                have wi := ov_WK_in W2 wk (by omega) (k := x7) (by omega)
                                have ww := wk x7 (by omega) (by omega)
                                have pcg := ov_pq_cg ev npq
                                have cg := (ov_cgi_sp (h 96) v204 (x7 - v204) (h 100 (1 + 2 * x7))).2 pcg.1
                                refine ov_blk (ls2 := [(0, ov_r 90), (1, ov_i s), (2, ov_i m), (3, ov_i x3_), (4, ov_i v45), (5, ov_i x5), (6, ov_i x6_), (7, ov_i x7), (8, ov_i v204)]) (st2 := [ov_r 90, ov_i (x7 - v204), ov_i v204, ov_r 90, ov_i x5]) (pc2 := 217) b_288_204_8 rfl rfl ?_
                                refine ov_getf (v := ov_r 100) d_288_217 fl_Mo_93 (zb_90 I186) (zs_90 I186) (congrArg ov_r (rg_90_16 I186)) ?_
                                refine ov_blk (ls2 := [(0, ov_r 90), (1, ov_i s), (2, ov_i m), (3, ov_i x3_), (4, ov_i v45), (5, ov_i x5), (6, ov_i x6_), (7, ov_i x7), (8, ov_i v204)]) (st2 := [ov_i (1 + (2 * x7)), ov_r 100, ov_i (x7 - v204), ov_i v204, ov_r 90, ov_i x5]) (pc2 := 226) b_288_220_5 rfl rfl ?_
                                refine ov_iald d_288_226 (zb_100 I186) (zs_100 I186) (by omega) ?_
                                rw [show h185 100 = h 100 from E196]
                                have g206 := s100_g I (1 + (2 * x7))
                                refine ov_blk (ls2 := [(0, ov_r 90), (1, ov_i s), (2, ov_i m), (3, ov_i x3_), (4, ov_i v45), (5, ov_i x5), (6, ov_i x6_), (7, ov_i x7), (8, ov_i v204)]) (st2 := [ov_i (s + x5), ov_i (h 100 (1 + (2 * x7))), ov_i (x7 - v204), ov_i v204, ov_r 90, ov_i x5]) (pc2 := 231) b_288_227_3 rfl rfl ?_
                                have cf207 : h185 96 (10 + 4 * (6 * (x7 - v204) + v204)) = h 96 (10 + 4 * (6 * (x7 - v204) + v204)) := congrFun E192 (10 + 4 * (6 * (x7 - v204) + v204))
                                have cf208 : h185 96 (10 + 4 * (6 * (x7 - v204) + v204) + 3) = h 96 (10 + 4 * (6 * (x7 - v204) + v204) + 3) := congrFun E192 (10 + 4 * (6 * (x7 - v204) + v204) + 3)
                                have cf209 : h185 96 (10 + 4 * (6 * (x7 - v204) + v204) + 1) = h 96 (10 + 4 * (6 * (x7 - v204) + v204) + 1) := congrFun E192 (10 + 4 * (6 * (x7 - v204) + v204) + 1)
                                refine ov_cV (as := [ov_i v204, ov_i (x7 - v204), ov_i (h 100 (1 + (2 * x7))), ov_i (s + x5)]) (st := [ov_i x5]) (d2 := d - 1) d_288_231 lk_Mo_315 rfl (Nat.le_of_ble_eq_true rfl) (c := 1) (zb_90 I186) (zs_90 I186) ⟨by decide, rfl⟩ (by omega) (c_Mo_waitFor_90 (d - 1) (by omega) U I186 v204 (x7 - v204) (h 100 (1 + (2 * x7))) (s + x5) (by omega) (by omega) (by omega) (by omega) (by omega) (by omega) (by omega) (by show (((h185 96 (10 + 4 * (6 * (x7 - v204) + v204))) = 1 ∨ (h185 96 (10 + 4 * (6 * (x7 - v204) + v204))) = 2) → ((h 100 (1 + (2 * x7))) = 0 → 0 < (h185 96 (10 + 4 * (6 * (x7 - v204) + v204) + 3))) ∧ (¬ (h 100 (1 + (2 * x7))) = 0 → (h185 96 (10 + 4 * (6 * (x7 - v204) + v204) + 3)) < (h185 96 (10 + 4 * (6 * (x7 - v204) + v204) + 1)))); omega) (by rw [show h185 96 = h 96 from E192]; exact W)) ?_
                                rintro _ _ _ ⟨v211, rfl, rfl, rfl, f210⟩
                                show ov_R u d ov_m288 234 [(0, ov_r 90), (1, ov_i s), (2, ov_i m), (3, ov_i x3_), (4, ov_i v45), (5, ov_i x5), (6, ov_i x6_), (7, ov_i x7), (8, ov_i v204)] [ov_i v211, ov_i x5] z184 h185 (P_Mo_pace_90 F z h s m)
                                rw [show h185 96 = h 96 from E192] at f210
                                have f212 : 0 ≤ v211 ∧ v211 ≤ 59 ∧ v211 = ov_wm (h 96) (6 * (x7 - v204) + v204) (h 100 (1 + (2 * x7))) (s + x5) := f210
                                clear f210
                                have hw : v211 = ov_wm (h 96) (6 * (x7 - v204) + v204) (h 100 (1 + 2 * x7)) (s + x5) := by omega
                                have pk := ov_pq_ok ev hw npq
                                refine ov_blk (ls2 := [(0, ov_r 90), (1, ov_i s), (2, ov_i m), (3, ov_i x3_), (4, ov_i v45), (5, ov_i (x5 + (v211 + x6_))), (6, ov_i x6_), (7, ov_i x7), (8, ov_i v204)]) (st2 := [ov_r 90, ov_i x6_, ov_i x3_]) (pc2 := 244) b_288_234_7 rfl rfl ?_
                                refine ov_getf (v := ov_r 96) d_288_244 fl_Mo_81 (zb_90 I186) (zs_90 I186) (congrArg ov_r (rg_90_10 I186)) ?_
                                refine ov_blk (ls2 := [(0, ov_r 90), (1, ov_i s), (2, ov_i m), (3, ov_i x3_), (4, ov_i v45), (5, ov_i (x5 + (v211 + x6_))), (6, ov_i x6_), (7, ov_i x7), (8, ov_i v204)]) (st2 := [ov_i 2, ov_r 96, ov_i x6_, ov_i x3_]) (pc2 := 248) b_288_247_1 rfl rfl ?_
                                refine ov_iald d_288_248 (zb_96 I186) (zs_96 I186) (by omega) ?_
                                rw [show h185 96 = h 96 from E192]
                                have g213 := t96_2 I
                                refine ov_icge (tgt := 256) d_288_249 (by decide) (by omega) (by omega) (fun c214 => ?_) (fun c214 => ?_)
                                · skip
                                  refine ov_blk (ls2 := [(0, ov_r 90), (1, ov_i s), (2, ov_i m), (3, ov_i x3_), (4, ov_i v45), (5, ov_i (x5 + (v211 + x6_))), (6, ov_i x6_), (7, ov_i x7), (8, ov_i v204)]) (st2 := [ov_i (x3_ - 0)]) (pc2 := 258) b_288_256_2 rfl rfl ?_
                                  have nb0 : ¬ ov_bp (h 96) (h 100) s (x7 + 1) (x5 + v211 + x6_) x3_ = 2000000000 := pk.2 (by omega)
                                  have nb : ¬ ov_bp (h 96) (h 100) s (x7 + 1) (x5 + (v211 + x6_)) (x3_ - 0) = 2000000000 := by rw [show (x5 + (v211 + x6_)) = x5 + v211 + x6_ by omega, show (x3_ - 0) = x3_ by omega]; exact nb0
                                  refine ov_blk (ls2 := [(0, ov_r 90), (1, ov_i s), (2, ov_i m), (3, ov_i (x3_ - 0)), (4, ov_i v45), (5, ov_i (x5 + (v211 + x6_))), (6, ov_i x6_), (7, ov_i (x7 + 1)), (8, ov_i v204)]) (st2 := []) (pc2 := 262) b_288_258_2 rfl rfl ?_
                                  refine ov_goto (tgt := 155) d_288_262 (by decide) ?_
                                  refine ov_sub (ls2 := [(0, ov_r 90), (1, ov_i s), (2, ov_i m), (3, ov_i (x3_ - 0)), (4, ov_i v45), (5, ov_i (x5 + (v211 + x6_))), (6, ov_i x6_), (7, ov_i (x7 + 1))]) (List.Sublist.subset (by repeat (first | exact List.Sublist.refl _ | apply List.Sublist.cons_cons | apply List.Sublist.cons))) ?_
                                  exact ih83 (x3_ - 0) (x5 + (v211 + x6_)) x6_ (x7 + 1) _ _ I186 E187 E188 E189 E190 E191 E192 E193 E194 E195 E196 E197 E198 E199 E200 y183_ (by show 0 ≤ (x7 + 1) ∧ (x7 + 1) ≤ m - 1 ∧ 0 ≤ (x5 + (v211 + x6_)) ∧ (x5 + (v211 + x6_)) ≤ 89 * (x7 + 1) ∧ 0 ≤ (x3_ - 0) ∧ (x3_ - 0) ≤ 9 ∧ 0 ≤ x6_ ∧ x6_ ≤ 31 ∧ ¬ ov_bp (h 96) (h 100) s (x7 + 1) (x5 + (v211 + x6_)) (x3_ - 0) = 2000000000 ∧ (h185 90 37) = s ∧ (h185 90 2) = (h62 90 2) ∧ (h185 90 7) = (h62 90 7) ∧ (h185 90 8) = (h62 90 8) ∧ (h185 90 13) = (h62 90 13) ∧ (h185 90 20) = (h62 90 20) ∧ (h185 90 22) = (h62 90 22) ∧ (h185 90 25) = (h62 90 25) ∧ (h185 90 26) = (h62 90 26) ∧ (h185 90 28) = (h62 90 28) ∧ (h185 90 29) = (h62 90 29) ∧ (h185 90 30) = (h62 90 30) ∧ (h185 90 34) = (h62 90 34); omega) (by omega)
                                · skip
                                  refine ov_blk (ls2 := [(0, ov_r 90), (1, ov_i s), (2, ov_i m), (3, ov_i x3_), (4, ov_i v45), (5, ov_i (x5 + (v211 + x6_))), (6, ov_i x6_), (7, ov_i x7), (8, ov_i v204)]) (st2 := [ov_i 1, ov_i x3_]) (pc2 := 253) b_288_252_1 rfl rfl ?_
                                  refine ov_goto (tgt := 257) d_288_253 (by decide) ?_
                                  refine ov_blk (ls2 := [(0, ov_r 90), (1, ov_i s), (2, ov_i m), (3, ov_i x3_), (4, ov_i v45), (5, ov_i (x5 + (v211 + x6_))), (6, ov_i x6_), (7, ov_i x7), (8, ov_i v204)]) (st2 := [ov_i (x3_ - 1)]) (pc2 := 258) b_288_257_1 rfl rfl ?_
                                  have nb0 : ¬ ov_bp (h 96) (h 100) s (x7 + 1) (x5 + v211 + x6_) (x3_ - 1) = 2000000000 := pk.1 (by omega)
                                  have nb : ¬ ov_bp (h 96) (h 100) s (x7 + 1) (x5 + (v211 + x6_)) (x3_ - 1) = 2000000000 := by rw [show (x5 + (v211 + x6_)) = x5 + v211 + x6_ by omega, show (x3_ - 1) = (x3_ - 1) by omega]; exact nb0
                                  refine ov_blk (ls2 := [(0, ov_r 90), (1, ov_i s), (2, ov_i m), (3, ov_i (x3_ - 1)), (4, ov_i v45), (5, ov_i (x5 + (v211 + x6_))), (6, ov_i x6_), (7, ov_i (x7 + 1)), (8, ov_i v204)]) (st2 := []) (pc2 := 262) b_288_258_2 rfl rfl ?_
                                  refine ov_goto (tgt := 155) d_288_262 (by decide) ?_
                                  refine ov_sub (ls2 := [(0, ov_r 90), (1, ov_i s), (2, ov_i m), (3, ov_i (x3_ - 1)), (4, ov_i v45), (5, ov_i (x5 + (v211 + x6_))), (6, ov_i x6_), (7, ov_i (x7 + 1))]) (List.Sublist.subset (by repeat (first | exact List.Sublist.refl _ | apply List.Sublist.cons_cons | apply List.Sublist.cons))) ?_
                                  exact ih83 (x3_ - 1) (x5 + (v211 + x6_)) x6_ (x7 + 1) _ _ I186 E187 E188 E189 E190 E191 E192 E193 E194 E195 E196 E197 E198 E199 E200 y183_ (by show 0 ≤ (x7 + 1) ∧ (x7 + 1) ≤ m - 1 ∧ 0 ≤ (x5 + (v211 + x6_)) ∧ (x5 + (v211 + x6_)) ≤ 89 * (x7 + 1) ∧ 0 ≤ (x3_ - 1) ∧ (x3_ - 1) ≤ 9 ∧ 0 ≤ x6_ ∧ x6_ ≤ 31 ∧ ¬ ov_bp (h 96) (h 100) s (x7 + 1) (x5 + (v211 + x6_)) (x3_ - 1) = 2000000000 ∧ (h185 90 37) = s ∧ (h185 90 2) = (h62 90 2) ∧ (h185 90 7) = (h62 90 7) ∧ (h185 90 8) = (h62 90 8) ∧ (h185 90 13) = (h62 90 13) ∧ (h185 90 20) = (h62 90 20) ∧ (h185 90 22) = (h62 90 22) ∧ (h185 90 25) = (h62 90 25) ∧ (h185 90 26) = (h62 90 26) ∧ (h185 90 28) = (h62 90 28) ∧ (h185 90 29) = (h62 90 29) ∧ (h185 90 30) = (h62 90 30) ∧ (h185 90 34) = (h62 90 34); omega) (by omega)
                              · skip
                                have nq : ¬ ov_pq (h 96) (h 100) s (ov_bp (h 96) (h 100) s) x7 x5 x3_ x6_ = ov_bp (h 96) (h 100) s x7 x5 x3_ := by omega
                                have nx := ov_bp_find (by omega) (by omega) (by omega) xw nq
                                have sl := ov_slw_b I
                                have xw2 : ∀ q : Int, ov_fst (h 96) ≤ q → q < x6_ + 1 → ¬ ov_pq (h 96) (h 100) s (ov_bp (h 96) (h 100) s) x7 x5 x3_ q = ov_bp (h 96) (h 100) s x7 x5 x3_ := fun q a b => if c : q = x6_ then (by rw [c]; exact nq) else xw q a (by omega)
                                refine ov_blk (ls2 := [(0, ov_r 90), (1, ov_i s), (2, ov_i m), (3, ov_i x3_), (4, ov_i v45), (5, ov_i x5), (6, ov_i (x6_ + 1)), (7, ov_i x7)]) (st2 := []) (pc2 := 195) b_288_192_1 rfl rfl ?_
                                refine ov_goto (tgt := 169) d_288_195 (by decide) ?_
                                exact ih109 (x6_ + 1) _ _ I186 E187 E188 E189 E190 E191 E192 E193 E194 E195 E196 E197 E198 E199 E200 xw2 y183_ (by show ov_fst (h 96) ≤ (x6_ + 1) ∧ (x6_ + 1) ≤ ov_slw (h 96) ∧ 0 ≤ (x6_ + 1) ∧ (x6_ + 1) ≤ 30 ∧ (h185 90 37) = s ∧ (h185 90 2) = (h87 90 2) ∧ (h185 90 7) = (h87 90 7) ∧ (h185 90 8) = (h87 90 8) ∧ (h185 90 13) = (h87 90 13) ∧ (h185 90 20) = (h87 90 20) ∧ (h185 90 22) = (h87 90 22) ∧ (h185 90 25) = (h87 90 25) ∧ (h185 90 26) = (h87 90 26) ∧ (h185 90 28) = (h87 90 28) ∧ (h185 90 29) = (h87 90 29) ∧ (h185 90 30) = (h87 90 30) ∧ (h185 90 34) = (h87 90 34); omega) (by omega)
                          exact L111 31 v106 _ _ I88 E89 E90 E91 E92 E93 E94 E95 E96 E97 E98 E99 E100 E101 E102 (fun q a b => absurd a (by omega)) xm (by show ov_fst (h 96) ≤ v106 ∧ v106 ≤ ov_slw (h 96) ∧ 0 ≤ v106 ∧ v106 ≤ 30 ∧ (h87 90 37) = s ∧ (h87 90 2) = (h87 90 2) ∧ (h87 90 7) = (h87 90 7) ∧ (h87 90 8) = (h87 90 8) ∧ (h87 90 13) = (h87 90 13) ∧ (h87 90 20) = (h87 90 20) ∧ (h87 90 22) = (h87 90 22) ∧ (h87 90 25) = (h87 90 25) ∧ (h87 90 26) = (h87 90 26) ∧ (h87 90 28) = (h87 90 28) ∧ (h87 90 29) = (h87 90 29) ∧ (h87 90 30) = (h87 90 30) ∧ (h87 90 34) = (h87 90 34); omega) (by omega)
                    exact L85 14 (h 96 5) 0 0 0 _ _ I63 E64 E65 E66 E67 E68 E69 E70 E71 E72 E73 E74 E75 E76 E77 y60_ (by show 0 ≤ 0 ∧ 0 ≤ m - 1 ∧ 0 ≤ 0 ∧ 0 ≤ 89 * 0 ∧ 0 ≤ (h 96 5) ∧ (h 96 5) ≤ 9 ∧ 0 ≤ 0 ∧ 0 ≤ 31 ∧ ¬ ov_bp (h 96) (h 100) s 0 0 (h 96 5) = 2000000000 ∧ (h62 90 37) = s ∧ (h62 90 2) = (h62 90 2) ∧ (h62 90 7) = (h62 90 7) ∧ (h62 90 8) = (h62 90 8) ∧ (h62 90 13) = (h62 90 13) ∧ (h62 90 20) = (h62 90 20) ∧ (h62 90 22) = (h62 90 22) ∧ (h62 90 25) = (h62 90 25) ∧ (h62 90 26) = (h62 90 26) ∧ (h62 90 28) = (h62 90 28) ∧ (h62 90 29) = (h62 90 29) ∧ (h62 90 30) = (h62 90 30) ∧ (h62 90 34) = (h62 90 34); omega) (by omega)
                  · skip
                    refine ov_blk (ls2 := [(0, ov_r 90), (1, ov_i s), (2, ov_i m), (3, ov_i (h 96 5)), (4, ov_i v45)]) (st2 := [ov_i v45]) (pc2 := 112) b_288_110_1 rfl rfl ?_
                    refine ov_ldcw (n := 2000000000) d_288_112 kc_Mo_338 ?_
                    refine ov_icne (tgt := 122) d_288_115 (by decide) (by omega) (by omega) (fun c215 => ?_) (fun c215 => ?_)
                    · skip
                      refine ov_blk (ls2 := [(0, ov_r 90), (1, ov_i s), (2, ov_i m), (3, ov_i (h 96 5)), (4, ov_i v45)]) (st2 := [ov_i m]) (pc2 := 123) b_288_122_1 rfl rfl ?_
                      refine ov_ifne (tgt := 135) d_288_123 (by decide) (by omega) (fun c216 => ?_) (fun c216 => ?_)
                      · skip
                        refine ov_blk (ls2 := [(0, ov_r 90), (1, ov_i s), (2, ov_i m), (3, ov_i (h 96 5)), (4, ov_i v45)]) (st2 := [ov_i v45, ov_i s]) (pc2 := 138) b_288_135_2 rfl rfl ?_
                        refine ov_ldcw (n := 100000) d_288_138 kc_Mo_432 ?_
                        refine ov_irem d_288_141 (by omega) (by omega) (by omega) ?_
                        have g217 := ov_tm (a := v45) (b := 100000) (by omega)
                        have g218 := ov_tmg (a := v45) (b := 100000) (by omega) (by omega)
                        refine ov_blk (ls2 := [(0, ov_r 90), (1, ov_i s), (2, ov_i m), (3, ov_i (h 96 5)), (4, ov_i v45)]) (st2 := [ov_i ((s + (Int.tmod v45 100000)) - 1)]) (pc2 := 145) b_288_142_3 rfl rfl ?_
                        exact ov_reti (st := []) d_288_145 rfl ⟨_, rfl, I63, (by show (h62 90 2) = (h 90 2) ∧ (h62 90 7) = (h 90 7) ∧ (h62 90 8) = (h 90 8) ∧ (h62 90 13) = (h 90 13) ∧ (h62 90 20) = (h 90 20) ∧ (h62 90 22) = (h 90 22) ∧ (h62 90 25) = (h 90 25) ∧ (h62 90 26) = (h 90 26) ∧ (h62 90 28) = (h 90 28) ∧ (h62 90 29) = (h 90 29) ∧ (h62 90 30) = (h 90 30) ∧ (h62 90 34) = (h 90 34) ∧ -2147483648 ≤ ((s + (Int.tmod v45 100000)) - 1) ∧ ((s + (Int.tmod v45 100000)) - 1) ≤ 2147483647; omega), E64, E65, E66, E67, E68, E69, E70, E71, E72, E73, E74, E75, E76, E77⟩
                      · skip
                        refine ov_blk (ls2 := [(0, ov_r 90), (1, ov_i s), (2, ov_i m), (3, ov_i (h 96 5)), (4, ov_i v45)]) (st2 := [ov_i v45]) (pc2 := 128) b_288_126_1 rfl rfl ?_
                        refine ov_ldcw (n := 100000) d_288_128 kc_Mo_432 ?_
                        refine ov_idiv d_288_131 (by omega) (by omega) (by omega) ?_
                        have g219 := ov_td (a := v45) (b := 100000) (by omega)
                        refine ov_goto (tgt := 145) d_288_132 (by decide) ?_
                        exact ov_reti (st := []) d_288_145 rfl ⟨_, rfl, I63, (by show (h62 90 2) = (h 90 2) ∧ (h62 90 7) = (h 90 7) ∧ (h62 90 8) = (h 90 8) ∧ (h62 90 13) = (h 90 13) ∧ (h62 90 20) = (h 90 20) ∧ (h62 90 22) = (h 90 22) ∧ (h62 90 25) = (h 90 25) ∧ (h62 90 26) = (h 90 26) ∧ (h62 90 28) = (h 90 28) ∧ (h62 90 29) = (h 90 29) ∧ (h62 90 30) = (h 90 30) ∧ (h62 90 34) = (h 90 34) ∧ -2147483648 ≤ (Int.tdiv v45 100000) ∧ (Int.tdiv v45 100000) ≤ 2147483647; omega), E64, E65, E66, E67, E68, E69, E70, E71, E72, E73, E74, E75, E76, E77⟩
                    · omega
              · skip
                refine ov_blk (ls2 := [(0, ov_r 90), (1, ov_i s), (2, ov_i m), (3, ov_i x3)]) (st2 := [ov_i 0]) (pc2 := 78) b_288_77_1 rfl rfl ?_
                refine ov_goto (tgt := 87) d_288_78 (by decide) ?_
                refine ov_blk (ls2 := [(0, ov_r 90), (1, ov_i s), (2, ov_i m), (3, ov_i 0)]) (st2 := [ov_i 0, ov_i 0, ov_i 0, ov_r 90]) (pc2 := 92) b_288_87_5 rfl rfl ?_
                have cf220 : h21 100 (0) = h 100 (0) := congrFun E32 (0)
                refine ov_cV (as := [ov_i 0, ov_i 0, ov_i 0]) (st := []) (d2 := d - 1) d_288_92 lk_Mo_429 rfl (Nat.le_of_ble_eq_true rfl) (c := 1) (zb_90 I39) (zs_90 I39) ⟨by decide, rfl⟩ (by omega) (c_Mo_bestPace_90_all s (Int.toNat (h 100 0 - (0))) (d - 1) (by omega) U I39 0 0 0 (by omega) (by omega) (by omega) (by show 0 ≤ (0 : Int) ∧ (0 : Int) + ((Int.toNat (h 100 0 - (0)) : Nat) : Int) = (h21 100 0); omega) (by omega) (by omega) (by show s = s; omega) (by rw [show (ov_up h21 90 37 s) 96 = h 96 from E28]; exact W) (by rw [show (ov_up h21 90 37 s) 100 = h 100 from E32]; exact W2) (by rw [show (ov_up h21 90 37 s) 96 = h 96 from E28, show (ov_up h21 90 37 s) 100 = h 100 from E32]; exact pi0)) ?_
                rintro _ z238 h239 ⟨v222, rfl, I240, f221, e223, e224, e225, e226, e227, e228, e229, e230, e231, e232, e233, e234, e235, e236, y237⟩
                have E241 : h239 91 = h 91 := Eq.trans e223 E23
                have E242 : h239 92 = h 92 := Eq.trans e224 E24
                have E243 : h239 93 = h 93 := Eq.trans e225 E25
                have E244 : h239 94 = h 94 := Eq.trans e226 E26
                have E245 : h239 95 = h 95 := Eq.trans e227 E27
                have E246 : h239 96 = h 96 := Eq.trans e228 E28
                have E247 : h239 97 = h 97 := Eq.trans e229 E29
                have E248 : h239 98 = h 98 := Eq.trans e230 E30
                have E249 : h239 99 = h 99 := Eq.trans e231 E31
                have E250 : h239 100 = h 100 := Eq.trans e232 E32
                have E251 : h239 103 = h 103 := Eq.trans e233 E33
                have E252 : h239 105 = h 105 := Eq.trans e234 E34
                have E253 : h239 106 = h 106 := Eq.trans e235 E35
                have E254 : h239 114 = h 114 := Eq.trans e236 E36
                show ov_R u d ov_m288 95 [(0, ov_r 90), (1, ov_i s), (2, ov_i m), (3, ov_i 0)] [ov_i v222] z238 h239 (P_Mo_pace_90 F z h s m)
                rw [show (ov_up h21 90 37 s) 100 = h 100 from E32] at f221
                rw [show (ov_up h21 90 37 s) 96 = h 96 from E28] at f221
                have f255 : (h239 90 2) = (h21 90 2) ∧ (h239 90 7) = (h21 90 7) ∧ (h239 90 8) = (h21 90 8) ∧ (h239 90 13) = (h21 90 13) ∧ (h239 90 20) = (h21 90 20) ∧ (h239 90 22) = (h21 90 22) ∧ (h239 90 25) = (h21 90 25) ∧ (h239 90 26) = (h21 90 26) ∧ (h239 90 28) = (h21 90 28) ∧ (h239 90 29) = (h21 90 29) ∧ (h239 90 30) = (h21 90 30) ∧ (h239 90 34) = (h21 90 34) ∧ (h239 90 37) = s ∧ v222 = (ov_bp (h 96) (h 100) s) (0 : Int) (0 : Int) (0 : Int) ∧ 1 ≤ v222 ∧ (v222 = 2000000000 ∨ v222 ≤ 1201 + 100000 * (13 - (0 : Int))) := f221
                clear f221
                rw [show (ov_up h21 90 37 s) 100 = h 100 from E32] at y237
                rw [show (ov_up h21 90 37 s) 96 = h 96 from E28] at y237
                have y237_ : ov_PI (h 96) (h 100) s (h239 109) := y237
                refine ov_blk (ls2 := [(0, ov_r 90), (1, ov_i s), (2, ov_i m), (3, ov_i 0), (4, ov_i v222)]) (st2 := [ov_i v222]) (pc2 := 99) b_288_95_2 rfl rfl ?_
                refine ov_ldcw (n := 2000000000) d_288_99 kc_Mo_338 ?_
                refine ov_iceq (tgt := 110) d_288_102 (by decide) (by omega) (by omega) (fun c256 => ?_) (fun c256 => ?_)
                · skip
                  refine ov_blk (ls2 := [(0, ov_r 90), (1, ov_i s), (2, ov_i m), (3, ov_i 0), (4, ov_i v222)]) (st2 := [ov_i v222]) (pc2 := 112) b_288_110_1 rfl rfl ?_
                  refine ov_ldcw (n := 2000000000) d_288_112 kc_Mo_338 ?_
                  refine ov_icne (tgt := 122) d_288_115 (by decide) (by omega) (by omega) (fun c257 => ?_) (fun c257 => ?_)
                  · omega
                  · skip
                    refine ov_blk (ls2 := [(0, ov_r 90), (1, ov_i s), (2, ov_i m), (3, ov_i 0), (4, ov_i v222)]) (st2 := [ov_i (-1)]) (pc2 := 119) b_288_118_1 rfl rfl ?_
                    refine ov_goto (tgt := 145) d_288_119 (by decide) ?_
                    exact ov_reti (st := []) d_288_145 rfl ⟨_, rfl, I240, (by show (h239 90 2) = (h 90 2) ∧ (h239 90 7) = (h 90 7) ∧ (h239 90 8) = (h 90 8) ∧ (h239 90 13) = (h 90 13) ∧ (h239 90 20) = (h 90 20) ∧ (h239 90 22) = (h 90 22) ∧ (h239 90 25) = (h 90 25) ∧ (h239 90 26) = (h 90 26) ∧ (h239 90 28) = (h 90 28) ∧ (h239 90 29) = (h 90 29) ∧ (h239 90 30) = (h 90 30) ∧ (h239 90 34) = (h 90 34) ∧ -2147483648 ≤ (-1) ∧ (-1) ≤ 2147483647; omega), E241, E242, E243, E244, E245, E246, E247, E248, E249, E250, E251, E252, E253, E254⟩
                · skip
                  refine ov_blk (ls2 := [(0, ov_r 90), (1, ov_i s), (2, ov_i m), (3, ov_i 0), (4, ov_i v222)]) (st2 := [ov_i 2, ov_i m]) (pc2 := 107) b_288_105_2 rfl rfl ?_
                  refine ov_icge (tgt := 146) d_288_107 (by decide) (by omega) (by omega) (fun c258 => ?_) (fun c258 => ?_)
                  · skip
                    refine ov_blk (ls2 := [(0, ov_r 90), (1, ov_i s), (2, ov_i m), (3, ov_i 0), (4, ov_i v222), (5, ov_i 0), (6, ov_i 0), (7, ov_i 0)]) (st2 := []) (pc2 := 155) b_288_146_6 rfl rfl ?_
                    have L262 : ∀ (n259 : Nat) (x3__ : Int) (x5_ : Int) (x6__ : Int) (x7_ : Int) (z263 : ov_Z) (h264 : ov_H) (I265 : ov_N F z263 h264) (E266 : h264 91 = h 91) (E267 : h264 92 = h 92) (E268 : h264 93 = h 93) (E269 : h264 94 = h 94) (E270 : h264 95 = h 95) (E271 : h264 96 = h 96) (E272 : h264 97 = h 97) (E273 : h264 98 = h 98) (E274 : h264 99 = h 99) (E275 : h264 100 = h 100) (E276 : h264 103 = h 103) (E277 : h264 105 = h 105) (E278 : h264 106 = h 106) (E279 : h264 114 = h 114) (xm : ov_PI (h 96) (h 100) s (h264 109)) (q261 : 0 ≤ x7_ ∧ x7_ ≤ m - 1 ∧ 0 ≤ x5_ ∧ x5_ ≤ 89 * x7_ ∧ 0 ≤ x3__ ∧ x3__ ≤ 9 ∧ 0 ≤ x6__ ∧ x6__ ≤ 31 ∧ ¬ ov_bp (h 96) (h 100) s x7_ x5_ x3__ = 2000000000 ∧ (h264 90 37) = s ∧ (h264 90 2) = (h239 90 2) ∧ (h264 90 7) = (h239 90 7) ∧ (h264 90 8) = (h239 90 8) ∧ (h264 90 13) = (h239 90 13) ∧ (h264 90 20) = (h239 90 20) ∧ (h264 90 22) = (h239 90 22) ∧ (h264 90 25) = (h239 90 25) ∧ (h264 90 26) = (h239 90 26) ∧ (h264 90 28) = (h239 90 28) ∧ (h264 90 29) = (h239 90 29) ∧ (h264 90 30) = (h239 90 30) ∧ (h264 90 34) = (h239 90 34)), 13 - x7_ < (n259 : Int) → ov_R u d ov_m288 155 [(0, ov_r 90), (1, ov_i s), (2, ov_i m), (3, ov_i x3__), (4, ov_i v222), (5, ov_i x5_), (6, ov_i x6__), (7, ov_i x7_)] [] z263 h264 (P_Mo_pace_90 F z h s m) := by
                      intro n259
                      induction n259 with
                      | zero =>
                        intro x3__ x5_ x6__ x7_ z263 h264 I265 E266 E267 E268 E269 E270 E271 E272 E273 E274 E275 E276 E277 E278 E279 xm q261 hn280
                        exact absurd hn280 (by omega)
                      | succ n259 ih260 =>
                        intro x3__ x5_ x6__ x7_ z263 h264 I265 E266 E267 E268 E269 E270 E271 E272 E273 E274 E275 E276 E277 E278 E279 xm q261 hn280
                        refine ov_blk (ls2 := [(0, ov_r 90), (1, ov_i s), (2, ov_i m), (3, ov_i x3__), (4, ov_i v222), (5, ov_i x5_), (6, ov_i x6__), (7, ov_i x7_)]) (st2 := [ov_i (m - 2), ov_i x7_]) (pc2 := 160) b_288_155_4 rfl rfl ?_
                        refine ov_icgt (tgt := 265) d_288_160 (by decide) (by omega) (by omega) (fun c281 => ?_) (fun c281 => ?_)
                        · skip
                          refine ov_blk (ls2 := [(0, ov_r 90), (1, ov_i s), (2, ov_i m), (3, ov_i x3__), (4, ov_i v222), (5, ov_i x5_), (6, ov_i x6__), (7, ov_i x7_)]) (st2 := [ov_i x6__]) (pc2 := 267) b_288_265_1 rfl rfl ?_
                          exact ov_reti (st := []) d_288_267 rfl ⟨_, rfl, I265, (by show (h264 90 2) = (h 90 2) ∧ (h264 90 7) = (h 90 7) ∧ (h264 90 8) = (h 90 8) ∧ (h264 90 13) = (h 90 13) ∧ (h264 90 20) = (h 90 20) ∧ (h264 90 22) = (h 90 22) ∧ (h264 90 25) = (h 90 25) ∧ (h264 90 26) = (h 90 26) ∧ (h264 90 28) = (h 90 28) ∧ (h264 90 29) = (h 90 29) ∧ (h264 90 30) = (h 90 30) ∧ (h264 90 34) = (h 90 34) ∧ -2147483648 ≤ x6__ ∧ x6__ ≤ 2147483647; omega), E266, E267, E268, E269, E270, E271, E272, E273, E274, E275, E276, E277, E278, E279⟩
                        · skip
                          refine ov_blk (ls2 := [(0, ov_r 90), (1, ov_i s), (2, ov_i m), (3, ov_i x3__), (4, ov_i v222), (5, ov_i x5_), (6, ov_i x6__), (7, ov_i x7_)]) (st2 := [ov_r 90]) (pc2 := 164) b_288_163_1 rfl rfl ?_
                          refine ov_cV (as := []) (st := []) (d2 := d - 1) d_288_164 lk_Mo_414 rfl (Nat.le_of_ble_eq_true rfl) (c := 1) (zb_90 I265) (zs_90 I265) ⟨by decide, rfl⟩ (by omega) (c_Mo_fastest_90_b (d - 1) (by omega) U I265) ?_
                          rintro _ _ _ ⟨v283, rfl, rfl, rfl, f282⟩
                          show ov_R u d ov_m288 167 [(0, ov_r 90), (1, ov_i s), (2, ov_i m), (3, ov_i x3__), (4, ov_i v222), (5, ov_i x5_), (6, ov_i x6__), (7, ov_i x7_)] [ov_i v283] z263 h264 (P_Mo_pace_90 F z h s m)
                          rw [show h264 96 = h 96 from E271] at f282
                          have f284 : v283 = ov_fst (h 96) ∧ 0 ≤ v283 ∧ v283 ≤ 30 := f282
                          clear f282
                          have fl := ov_fsl (h 96)
                          refine ov_blk (ls2 := [(0, ov_r 90), (1, ov_i s), (2, ov_i m), (3, ov_i x3__), (4, ov_i v222), (5, ov_i x5_), (6, ov_i v283), (7, ov_i x7_)]) (st2 := []) (pc2 := 169) b_288_167_1 rfl rfl ?_
                          have L288 : ∀ (n285 : Nat) (x6___ : Int) (z289 : ov_Z) (h290 : ov_H) (I291 : ov_N F z289 h290) (E292 : h290 91 = h 91) (E293 : h290 92 = h 92) (E294 : h290 93 = h 93) (E295 : h290 94 = h 94) (E296 : h290 95 = h 95) (E297 : h290 96 = h 96) (E298 : h290 97 = h 97) (E299 : h290 98 = h 98) (E300 : h290 99 = h 99) (E301 : h290 100 = h 100) (E302 : h290 103 = h 103) (E303 : h290 105 = h 105) (E304 : h290 106 = h 106) (E305 : h290 114 = h 114) (xw : ∀ q : Int, ov_fst (h 96) ≤ q → q < x6___ → ¬ ov_pq (h 96) (h 100) s (ov_bp (h 96) (h 100) s) x7_ x5_ x3__ q = ov_bp (h 96) (h 100) s x7_ x5_ x3__) (xn : ov_PI (h 96) (h 100) s (h290 109)) (q287 : ov_fst (h 96) ≤ x6___ ∧ x6___ ≤ ov_slw (h 96) ∧ 0 ≤ x6___ ∧ x6___ ≤ 30 ∧ (h290 90 37) = s ∧ (h290 90 2) = (h264 90 2) ∧ (h290 90 7) = (h264 90 7) ∧ (h290 90 8) = (h264 90 8) ∧ (h290 90 13) = (h264 90 13) ∧ (h290 90 20) = (h264 90 20) ∧ (h290 90 22) = (h264 90 22) ∧ (h290 90 25) = (h264 90 25) ∧ (h290 90 26) = (h264 90 26) ∧ (h290 90 28) = (h264 90 28) ∧ (h290 90 29) = (h264 90 29) ∧ (h290 90 30) = (h264 90 30) ∧ (h290 90 34) = (h264 90 34)), 30 - x6___ < (n285 : Int) → ov_R u d ov_m288 169 [(0, ov_r 90), (1, ov_i s), (2, ov_i m), (3, ov_i x3__), (4, ov_i v222), (5, ov_i x5_), (6, ov_i x6___), (7, ov_i x7_)] [] z289 h290 (P_Mo_pace_90 F z h s m) := by
                            intro n285
                            induction n285 with
                            | zero =>
                              intro x6___ z289 h290 I291 E292 E293 E294 E295 E296 E297 E298 E299 E300 E301 E302 E303 E304 E305 xw xn q287 hn306
                              exact absurd hn306 (by omega)
                            | succ n285 ih286 =>
                              intro x6___ z289 h290 I291 E292 E293 E294 E295 E296 E297 E298 E299 E300 E301 E302 E303 E304 E305 xw xn q287 hn306
                              refine ov_blk (ls2 := [(0, ov_r 90), (1, ov_i s), (2, ov_i m), (3, ov_i x3__), (4, ov_i v222), (5, ov_i x5_), (6, ov_i x6___), (7, ov_i x7_)]) (st2 := [ov_r 90]) (pc2 := 170) b_288_169_1 rfl rfl ?_
                              refine ov_blk (ls2 := [(0, ov_r 90), (1, ov_i s), (2, ov_i m), (3, ov_i x3__), (4, ov_i v222), (5, ov_i x5_), (6, ov_i x6___), (7, ov_i x7_)]) (st2 := [ov_i x6___, ov_i x3__, ov_i x5_, ov_i x7_, ov_r 90]) (pc2 := 177) b_288_170_4 rfl rfl ?_
                              have cf307 : h290 100 (0) = h 100 (0) := congrFun E301 (0)
                              refine ov_cV (as := [ov_i x7_, ov_i x5_, ov_i x3__, ov_i x6___]) (st := []) (d2 := d - 1) d_288_177 lk_Mo_420 rfl (Nat.le_of_ble_eq_true rfl) (c := 1) (zb_90 I291) (zs_90 I291) ⟨by decide, rfl⟩ (by omega) (c_Mo_paceBy_90_all s (Int.toNat (h 100 0 - (x7_))) (d - 1) (by omega) U I291 x7_ x5_ x3__ x6___ (by omega) (by omega) (by omega) (by omega) (by show 0 ≤ x7_ ∧ x7_ + ((Int.toNat (h 100 0 - (x7_)) : Nat) : Int) = (h290 100 0); omega) (by show x7_ < (h290 100 0); omega) (by omega) (by omega) (by omega) (by show (h290 90 37) = s; omega) (by rw [show h290 96 = h 96 from E297]; exact W) (by rw [show h290 100 = h 100 from E301]; exact W2) (by rw [show h290 96 = h 96 from E297, show h290 100 = h 100 from E301]; exact xn)) ?_
                              rintro _ z325 h326 ⟨v309, rfl, I327, f308, e310, e311, e312, e313, e314, e315, e316, e317, e318, e319, e320, e321, e322, e323, y324⟩
                              have E328 : h326 91 = h 91 := Eq.trans e310 E292
                              have E329 : h326 92 = h 92 := Eq.trans e311 E293
                              have E330 : h326 93 = h 93 := Eq.trans e312 E294
                              have E331 : h326 94 = h 94 := Eq.trans e313 E295
                              have E332 : h326 95 = h 95 := Eq.trans e314 E296
                              have E333 : h326 96 = h 96 := Eq.trans e315 E297
                              have E334 : h326 97 = h 97 := Eq.trans e316 E298
                              have E335 : h326 98 = h 98 := Eq.trans e317 E299
                              have E336 : h326 99 = h 99 := Eq.trans e318 E300
                              have E337 : h326 100 = h 100 := Eq.trans e319 E301
                              have E338 : h326 103 = h 103 := Eq.trans e320 E302
                              have E339 : h326 105 = h 105 := Eq.trans e321 E303
                              have E340 : h326 106 = h 106 := Eq.trans e322 E304
                              have E341 : h326 114 = h 114 := Eq.trans e323 E305
                              show ov_R u d ov_m288 180 [(0, ov_r 90), (1, ov_i s), (2, ov_i m), (3, ov_i x3__), (4, ov_i v222), (5, ov_i x5_), (6, ov_i x6___), (7, ov_i x7_)] [ov_i v309] z325 h326 (P_Mo_pace_90 F z h s m)
                              rw [show h290 100 = h 100 from E301] at f308
                              rw [show h290 96 = h 96 from E297] at f308
                              have f342 : (h326 90 2) = (h290 90 2) ∧ (h326 90 7) = (h290 90 7) ∧ (h326 90 8) = (h290 90 8) ∧ (h326 90 13) = (h290 90 13) ∧ (h326 90 20) = (h290 90 20) ∧ (h326 90 22) = (h290 90 22) ∧ (h326 90 25) = (h290 90 25) ∧ (h326 90 26) = (h290 90 26) ∧ (h326 90 28) = (h290 90 28) ∧ (h326 90 29) = (h290 90 29) ∧ (h326 90 30) = (h290 90 30) ∧ (h326 90 34) = (h290 90 34) ∧ (h326 90 37) = (h290 90 37) ∧ v309 = (ov_pq (h 96) (h 100) s (ov_bp (h 96) (h 100) s) x7_ x5_ x3__) x6___ ∧ 1 ≤ v309 ∧ (v309 = 2000000000 ∨ v309 ≤ 1201 + 100000 * (13 - x7_)) := f308
                              clear f308
                              rw [show h290 100 = h 100 from E301] at y324
                              rw [show h290 96 = h 96 from E297] at y324
                              have y324_ : ov_PI (h 96) (h 100) s (h326 109) := y324
                              refine ov_blk (ls2 := [(0, ov_r 90), (1, ov_i s), (2, ov_i m), (3, ov_i x3__), (4, ov_i v222), (5, ov_i x5_), (6, ov_i x6___), (7, ov_i x7_)]) (st2 := [ov_i x3__, ov_i x5_, ov_i x7_, ov_r 90, ov_i v309]) (pc2 := 186) b_288_180_4 rfl rfl ?_
                              have cf343 : h326 100 (0) = h 100 (0) := congrFun E337 (0)
                              refine ov_cV (as := [ov_i x7_, ov_i x5_, ov_i x3__]) (st := [ov_i v309]) (d2 := d - 1) d_288_186 lk_Mo_429 rfl (Nat.le_of_ble_eq_true rfl) (c := 1) (zb_90 I327) (zs_90 I327) ⟨by decide, rfl⟩ (by omega) (c_Mo_bestPace_90_all s (Int.toNat (h 100 0 - (x7_))) (d - 1) (by omega) U I327 x7_ x5_ x3__ (by omega) (by omega) (by omega) (by show 0 ≤ x7_ ∧ x7_ + ((Int.toNat (h 100 0 - (x7_)) : Nat) : Int) = (h326 100 0); omega) (by omega) (by omega) (by show (h326 90 37) = s; omega) (by rw [show h326 96 = h 96 from E333]; exact W) (by rw [show h326 100 = h 100 from E337]; exact W2) (by rw [show h326 96 = h 96 from E333, show h326 100 = h 100 from E337]; exact y324_)) ?_
                              rintro _ z361 h362 ⟨v345, rfl, I363, f344, e346, e347, e348, e349, e350, e351, e352, e353, e354, e355, e356, e357, e358, e359, y360⟩
                              have E364 : h362 91 = h 91 := Eq.trans e346 E328
                              have E365 : h362 92 = h 92 := Eq.trans e347 E329
                              have E366 : h362 93 = h 93 := Eq.trans e348 E330
                              have E367 : h362 94 = h 94 := Eq.trans e349 E331
                              have E368 : h362 95 = h 95 := Eq.trans e350 E332
                              have E369 : h362 96 = h 96 := Eq.trans e351 E333
                              have E370 : h362 97 = h 97 := Eq.trans e352 E334
                              have E371 : h362 98 = h 98 := Eq.trans e353 E335
                              have E372 : h362 99 = h 99 := Eq.trans e354 E336
                              have E373 : h362 100 = h 100 := Eq.trans e355 E337
                              have E374 : h362 103 = h 103 := Eq.trans e356 E338
                              have E375 : h362 105 = h 105 := Eq.trans e357 E339
                              have E376 : h362 106 = h 106 := Eq.trans e358 E340
                              have E377 : h362 114 = h 114 := Eq.trans e359 E341
                              show ov_R u d ov_m288 189 [(0, ov_r 90), (1, ov_i s), (2, ov_i m), (3, ov_i x3__), (4, ov_i v222), (5, ov_i x5_), (6, ov_i x6___), (7, ov_i x7_)] [ov_i v345, ov_i v309] z361 h362 (P_Mo_pace_90 F z h s m)
                              rw [show h326 100 = h 100 from E337] at f344
                              rw [show h326 96 = h 96 from E333] at f344
                              have f378 : (h362 90 2) = (h326 90 2) ∧ (h362 90 7) = (h326 90 7) ∧ (h362 90 8) = (h326 90 8) ∧ (h362 90 13) = (h326 90 13) ∧ (h362 90 20) = (h326 90 20) ∧ (h362 90 22) = (h326 90 22) ∧ (h362 90 25) = (h326 90 25) ∧ (h362 90 26) = (h326 90 26) ∧ (h362 90 28) = (h326 90 28) ∧ (h362 90 29) = (h326 90 29) ∧ (h362 90 30) = (h326 90 30) ∧ (h362 90 34) = (h326 90 34) ∧ (h362 90 37) = (h326 90 37) ∧ v345 = (ov_bp (h 96) (h 100) s) x7_ x5_ x3__ ∧ 1 ≤ v345 ∧ (v345 = 2000000000 ∨ v345 ≤ 1201 + 100000 * (13 - x7_)) := f344
                              clear f344
                              rw [show h326 100 = h 100 from E337] at y360
                              rw [show h326 96 = h 96 from E333] at y360
                              have y360_ : ov_PI (h 96) (h 100) s (h362 109) := y360
                              refine ov_iceq (tgt := 198) d_288_189 (by decide) (by omega) (by omega) (fun c379 => ?_) (fun c379 => ?_)
                              · skip
                                have npq : ¬ ov_pq (h 96) (h 100) s (ov_bp (h 96) (h 100) s) x7_ x5_ x3__ x6___ = 2000000000 := by omega
                                refine ov_blk (ls2 := [(0, ov_r 90), (1, ov_i s), (2, ov_i m), (3, ov_i x3__), (4, ov_i v222), (5, ov_i x5_), (6, ov_i x6___), (7, ov_i x7_)]) (st2 := [ov_i x7_, ov_r 90]) (pc2 := 201) b_288_198_2 rfl rfl ?_
                                refine ov_cV (as := [ov_i x7_]) (st := []) (d2 := d - 1) d_288_201 lk_Mo_423 rfl (Nat.le_of_ble_eq_true rfl) (c := 1) (zb_90 I363) (zs_90 I363) ⟨by decide, rfl⟩ (by omega) (c_Mo_xAt_90 (d - 1) (by omega) U I363 x7_ (by omega) (by omega)) ?_
                                rintro _ _ _ ⟨v381, rfl, rfl, rfl, f380⟩
                                show ov_R u d ov_m288 204 [(0, ov_r 90), (1, ov_i s), (2, ov_i m), (3, ov_i x3__), (4, ov_i v222), (5, ov_i x5_), (6, ov_i x6___), (7, ov_i x7_)] [ov_i v381] z361 h362 (P_Mo_pace_90 F z h s m)
                                rw [show h362 100 = h 100 from E373] at f380
                                have f382 : v381 = ov_sx (h 100) (Int.toNat x7_) ∧ 0 ≤ v381 ∧ v381 ≤ x7_ := f380
                                clear f380
                                have ev : v381 = ov_sx (h 100) (Int.toNat x7_) := by omega
                                have wi := ov_WK_in W2 wk (by omega) (k := x7_) (by omega)
                                have ww := wk x7_ (by omega) (by omega)
                                have pcg := ov_pq_cg ev npq
                                have cg := (ov_cgi_sp (h 96) v381 (x7_ - v381) (h 100 (1 + 2 * x7_))).2 pcg.1
                                refine ov_blk (ls2 := [(0, ov_r 90), (1, ov_i s), (2, ov_i m), (3, ov_i x3__), (4, ov_i v222), (5, ov_i x5_), (6, ov_i x6___), (7, ov_i x7_), (8, ov_i v381)]) (st2 := [ov_r 90, ov_i (x7_ - v381), ov_i v381, ov_r 90, ov_i x5_]) (pc2 := 217) b_288_204_8 rfl rfl ?_
                                refine ov_getf (v := ov_r 100) d_288_217 fl_Mo_93 (zb_90 I363) (zs_90 I363) (congrArg ov_r (rg_90_16 I363)) ?_
                                refine ov_blk (ls2 := [(0, ov_r 90), (1, ov_i s), (2, ov_i m), (3, ov_i x3__), (4, ov_i v222), (5, ov_i x5_), (6, ov_i x6___), (7, ov_i x7_), (8, ov_i v381)]) (st2 := [ov_i (1 + (2 * x7_)), ov_r 100, ov_i (x7_ - v381), ov_i v381, ov_r 90, ov_i x5_]) (pc2 := 226) b_288_220_5 rfl rfl ?_
                                refine ov_iald d_288_226 (zb_100 I363) (zs_100 I363) (by omega) ?_
                                rw [show h362 100 = h 100 from E373]
                                have g383 := s100_g I (1 + (2 * x7_))
                                refine ov_blk (ls2 := [(0, ov_r 90), (1, ov_i s), (2, ov_i m), (3, ov_i x3__), (4, ov_i v222), (5, ov_i x5_), (6, ov_i x6___), (7, ov_i x7_), (8, ov_i v381)]) (st2 := [ov_i (s + x5_), ov_i (h 100 (1 + (2 * x7_))), ov_i (x7_ - v381), ov_i v381, ov_r 90, ov_i x5_]) (pc2 := 231) b_288_227_3 rfl rfl ?_
                                have cf384 : h362 96 (10 + 4 * (6 * (x7_ - v381) + v381)) = h 96 (10 + 4 * (6 * (x7_ - v381) + v381)) := congrFun E369 (10 + 4 * (6 * (x7_ - v381) + v381))
                                have cf385 : h362 96 (10 + 4 * (6 * (x7_ - v381) + v381) + 3) = h 96 (10 + 4 * (6 * (x7_ - v381) + v381) + 3) := congrFun E369 (10 + 4 * (6 * (x7_ - v381) + v381) + 3)
                                have cf386 : h362 96 (10 + 4 * (6 * (x7_ - v381) + v381) + 1) = h 96 (10 + 4 * (6 * (x7_ - v381) + v381) + 1) := congrFun E369 (10 + 4 * (6 * (x7_ - v381) + v381) + 1)
                                refine ov_cV (as := [ov_i v381, ov_i (x7_ - v381), ov_i (h 100 (1 + (2 * x7_))), ov_i (s + x5_)]) (st := [ov_i x5_]) (d2 := d - 1) d_288_231 lk_Mo_315 rfl (Nat.le_of_ble_eq_true rfl) (c := 1) (zb_90 I363) (zs_90 I363) ⟨by decide, rfl⟩ (by omega) (c_Mo_waitFor_90 (d - 1) (by omega) U I363 v381 (x7_ - v381) (h 100 (1 + (2 * x7_))) (s + x5_) (by omega) (by omega) (by omega) (by omega) (by omega) (by omega) (by omega) (by show (((h362 96 (10 + 4 * (6 * (x7_ - v381) + v381))) = 1 ∨ (h362 96 (10 + 4 * (6 * (x7_ - v381) + v381))) = 2) → ((h 100 (1 + (2 * x7_))) = 0 → 0 < (h362 96 (10 + 4 * (6 * (x7_ - v381) + v381) + 3))) ∧ (¬ (h 100 (1 + (2 * x7_))) = 0 → (h362 96 (10 + 4 * (6 * (x7_ - v381) + v381) + 3)) < (h362 96 (10 + 4 * (6 * (x7_ - v381) + v381) + 1)))); omega) (by rw [show h362 96 = h 96 from E369]; exact W)) ?_
                                rintro _ _ _ ⟨v388, rfl, rfl, rfl, f387⟩
                                show ov_R u d ov_m288 234 [(0, ov_r 90), (1, ov_i s), (2, ov_i m), (3, ov_i x3__), (4, ov_i v222), (5, ov_i x5_), (6, ov_i x6___), (7, ov_i x7_), (8, ov_i v381)] [ov_i v388, ov_i x5_] z361 h362 (P_Mo_pace_90 F z h s m)
                                rw [show h362 96 = h 96 from E369] at f387
                                have f389 : 0 ≤ v388 ∧ v388 ≤ 59 ∧ v388 = ov_wm (h 96) (6 * (x7_ - v381) + v381) (h 100 (1 + (2 * x7_))) (s + x5_) := f387
                                clear f387
                                have hw : v388 = ov_wm (h 96) (6 * (x7_ - v381) + v381) (h 100 (1 + 2 * x7_)) (s + x5_) := by omega
                                have pk := ov_pq_ok ev hw npq
                                refine ov_blk (ls2 := [(0, ov_r 90), (1, ov_i s), (2, ov_i m), (3, ov_i x3__), (4, ov_i v222), (5, ov_i (x5_ + (v388 + x6___))), (6, ov_i x6___), (7, ov_i x7_), (8, ov_i v381)]) (st2 := [ov_r 90, ov_i x6___, ov_i x3__]) (pc2 := 244) b_288_234_7 rfl rfl ?_
                                refine ov_getf (v := ov_r 96) d_288_244 fl_Mo_81 (zb_90 I363) (zs_90 I363) (congrArg ov_r (rg_90_10 I363)) ?_
                                refine ov_blk (ls2 := [(0, ov_r 90), (1, ov_i s), (2, ov_i m), (3, ov_i x3__), (4, ov_i v222), (5, ov_i (x5_ + (v388 + x6___))), (6, ov_i x6___), (7, ov_i x7_), (8, ov_i v381)]) (st2 := [ov_i 2, ov_r 96, ov_i x6___, ov_i x3__]) (pc2 := 248) b_288_247_1 rfl rfl ?_
                                refine ov_iald d_288_248 (zb_96 I363) (zs_96 I363) (by omega) ?_
                                rw [show h362 96 = h 96 from E369]
                                have g390 := t96_2 I
                                refine ov_icge (tgt := 256) d_288_249 (by decide) (by omega) (by omega) (fun c391 => ?_) (fun c391 => ?_)
                                · skip
                                  refine ov_blk (ls2 := [(0, ov_r 90), (1, ov_i s), (2, ov_i m), (3, ov_i x3__), (4, ov_i v222), (5, ov_i (x5_ + (v388 + x6___))), (6, ov_i x6___), (7, ov_i x7_), (8, ov_i v381)]) (st2 := [ov_i (x3__ - 0)]) (pc2 := 258) b_288_256_2 rfl rfl ?_
                                  have nb0 : ¬ ov_bp (h 96) (h 100) s (x7_ + 1) (x5_ + v388 + x6___) x3__ = 2000000000 := pk.2 (by omega)
                                  have nb : ¬ ov_bp (h 96) (h 100) s (x7_ + 1) (x5_ + (v388 + x6___)) (x3__ - 0) = 2000000000 := by rw [show (x5_ + (v388 + x6___)) = x5_ + v388 + x6___ by omega, show (x3__ - 0) = x3__ by omega]; exact nb0
                                  refine ov_blk (ls2 := [(0, ov_r 90), (1, ov_i s), (2, ov_i m), (3, ov_i (x3__ - 0)), (4, ov_i v222), (5, ov_i (x5_ + (v388 + x6___))), (6, ov_i x6___), (7, ov_i (x7_ + 1)), (8, ov_i v381)]) (st2 := []) (pc2 := 262) b_288_258_2 rfl rfl ?_
                                  refine ov_goto (tgt := 155) d_288_262 (by decide) ?_
                                  refine ov_sub (ls2 := [(0, ov_r 90), (1, ov_i s), (2, ov_i m), (3, ov_i (x3__ - 0)), (4, ov_i v222), (5, ov_i (x5_ + (v388 + x6___))), (6, ov_i x6___), (7, ov_i (x7_ + 1))]) (List.Sublist.subset (by repeat (first | exact List.Sublist.refl _ | apply List.Sublist.cons_cons | apply List.Sublist.cons))) ?_
                                  exact ih260 (x3__ - 0) (x5_ + (v388 + x6___)) x6___ (x7_ + 1) _ _ I363 E364 E365 E366 E367 E368 E369 E370 E371 E372 E373 E374 E375 E376 E377 y360_ (by show 0 ≤ (x7_ + 1) ∧ (x7_ + 1) ≤ m - 1 ∧ 0 ≤ (x5_ + (v388 + x6___)) ∧ (x5_ + (v388 + x6___)) ≤ 89 * (x7_ + 1) ∧ 0 ≤ (x3__ - 0) ∧ (x3__ - 0) ≤ 9 ∧ 0 ≤ x6___ ∧ x6___ ≤ 31 ∧ ¬ ov_bp (h 96) (h 100) s (x7_ + 1) (x5_ + (v388 + x6___)) (x3__ - 0) = 2000000000 ∧ (h362 90 37) = s ∧ (h362 90 2) = (h239 90 2) ∧ (h362 90 7) = (h239 90 7) ∧ (h362 90 8) = (h239 90 8) ∧ (h362 90 13) = (h239 90 13) ∧ (h362 90 20) = (h239 90 20) ∧ (h362 90 22) = (h239 90 22) ∧ (h362 90 25) = (h239 90 25) ∧ (h362 90 26) = (h239 90 26) ∧ (h362 90 28) = (h239 90 28) ∧ (h362 90 29) = (h239 90 29) ∧ (h362 90 30) = (h239 90 30) ∧ (h362 90 34) = (h239 90 34); omega) (by omega)
                                · skip
                                  refine ov_blk (ls2 := [(0, ov_r 90), (1, ov_i s), (2, ov_i m), (3, ov_i x3__), (4, ov_i v222), (5, ov_i (x5_ + (v388 + x6___))), (6, ov_i x6___), (7, ov_i x7_), (8, ov_i v381)]) (st2 := [ov_i 1, ov_i x3__]) (pc2 := 253) b_288_252_1 rfl rfl ?_
                                  refine ov_goto (tgt := 257) d_288_253 (by decide) ?_
                                  refine ov_blk (ls2 := [(0, ov_r 90), (1, ov_i s), (2, ov_i m), (3, ov_i x3__), (4, ov_i v222), (5, ov_i (x5_ + (v388 + x6___))), (6, ov_i x6___), (7, ov_i x7_), (8, ov_i v381)]) (st2 := [ov_i (x3__ - 1)]) (pc2 := 258) b_288_257_1 rfl rfl ?_
                                  have nb0 : ¬ ov_bp (h 96) (h 100) s (x7_ + 1) (x5_ + v388 + x6___) (x3__ - 1) = 2000000000 := pk.1 (by omega)
                                  have nb : ¬ ov_bp (h 96) (h 100) s (x7_ + 1) (x5_ + (v388 + x6___)) (x3__ - 1) = 2000000000 := by rw [show (x5_ + (v388 + x6___)) = x5_ + v388 + x6___ by omega, show (x3__ - 1) = (x3__ - 1) by omega]; exact nb0
                                  refine ov_blk (ls2 := [(0, ov_r 90), (1, ov_i s), (2, ov_i m), (3, ov_i (x3__ - 1)), (4, ov_i v222), (5, ov_i (x5_ + (v388 + x6___))), (6, ov_i x6___), (7, ov_i (x7_ + 1)), (8, ov_i v381)]) (st2 := []) (pc2 := 262) b_288_258_2 rfl rfl ?_
                                  refine ov_goto (tgt := 155) d_288_262 (by decide) ?_
                                  refine ov_sub (ls2 := [(0, ov_r 90), (1, ov_i s), (2, ov_i m), (3, ov_i (x3__ - 1)), (4, ov_i v222), (5, ov_i (x5_ + (v388 + x6___))), (6, ov_i x6___), (7, ov_i (x7_ + 1))]) (List.Sublist.subset (by repeat (first | exact List.Sublist.refl _ | apply List.Sublist.cons_cons | apply List.Sublist.cons))) ?_
                                  exact ih260 (x3__ - 1) (x5_ + (v388 + x6___)) x6___ (x7_ + 1) _ _ I363 E364 E365 E366 E367 E368 E369 E370 E371 E372 E373 E374 E375 E376 E377 y360_ (by show 0 ≤ (x7_ + 1) ∧ (x7_ + 1) ≤ m - 1 ∧ 0 ≤ (x5_ + (v388 + x6___)) ∧ (x5_ + (v388 + x6___)) ≤ 89 * (x7_ + 1) ∧ 0 ≤ (x3__ - 1) ∧ (x3__ - 1) ≤ 9 ∧ 0 ≤ x6___ ∧ x6___ ≤ 31 ∧ ¬ ov_bp (h 96) (h 100) s (x7_ + 1) (x5_ + (v388 + x6___)) (x3__ - 1) = 2000000000 ∧ (h362 90 37) = s ∧ (h362 90 2) = (h239 90 2) ∧ (h362 90 7) = (h239 90 7) ∧ (h362 90 8) = (h239 90 8) ∧ (h362 90 13) = (h239 90 13) ∧ (h362 90 20) = (h239 90 20) ∧ (h362 90 22) = (h239 90 22) ∧ (h362 90 25) = (h239 90 25) ∧ (h362 90 26) = (h239 90 26) ∧ (h362 90 28) = (h239 90 28) ∧ (h362 90 29) = (h239 90 29) ∧ (h362 90 30) = (h239 90 30) ∧ (h362 90 34) = (h239 90 34); omega) (by omega)
                              · skip
                                have nq : ¬ ov_pq (h 96) (h 100) s (ov_bp (h 96) (h 100) s) x7_ x5_ x3__ x6___ = ov_bp (h 96) (h 100) s x7_ x5_ x3__ := by omega
                                have nx := ov_bp_find (by omega) (by omega) (by omega) xw nq
                                have sl := ov_slw_b I
                                have xw2 : ∀ q : Int, ov_fst (h 96) ≤ q → q < x6___ + 1 → ¬ ov_pq (h 96) (h 100) s (ov_bp (h 96) (h 100) s) x7_ x5_ x3__ q = ov_bp (h 96) (h 100) s x7_ x5_ x3__ := fun q a b => if c : q = x6___ then (by rw [c]; exact nq) else xw q a (by omega)
                                refine ov_blk (ls2 := [(0, ov_r 90), (1, ov_i s), (2, ov_i m), (3, ov_i x3__), (4, ov_i v222), (5, ov_i x5_), (6, ov_i (x6___ + 1)), (7, ov_i x7_)]) (st2 := []) (pc2 := 195) b_288_192_1 rfl rfl ?_
                                refine ov_goto (tgt := 169) d_288_195 (by decide) ?_
                                exact ih286 (x6___ + 1) _ _ I363 E364 E365 E366 E367 E368 E369 E370 E371 E372 E373 E374 E375 E376 E377 xw2 y360_ (by show ov_fst (h 96) ≤ (x6___ + 1) ∧ (x6___ + 1) ≤ ov_slw (h 96) ∧ 0 ≤ (x6___ + 1) ∧ (x6___ + 1) ≤ 30 ∧ (h362 90 37) = s ∧ (h362 90 2) = (h264 90 2) ∧ (h362 90 7) = (h264 90 7) ∧ (h362 90 8) = (h264 90 8) ∧ (h362 90 13) = (h264 90 13) ∧ (h362 90 20) = (h264 90 20) ∧ (h362 90 22) = (h264 90 22) ∧ (h362 90 25) = (h264 90 25) ∧ (h362 90 26) = (h264 90 26) ∧ (h362 90 28) = (h264 90 28) ∧ (h362 90 29) = (h264 90 29) ∧ (h362 90 30) = (h264 90 30) ∧ (h362 90 34) = (h264 90 34); omega) (by omega)
                          exact L288 31 v283 _ _ I265 E266 E267 E268 E269 E270 E271 E272 E273 E274 E275 E276 E277 E278 E279 (fun q a b => absurd a (by omega)) xm (by show ov_fst (h 96) ≤ v283 ∧ v283 ≤ ov_slw (h 96) ∧ 0 ≤ v283 ∧ v283 ≤ 30 ∧ (h264 90 37) = s ∧ (h264 90 2) = (h264 90 2) ∧ (h264 90 7) = (h264 90 7) ∧ (h264 90 8) = (h264 90 8) ∧ (h264 90 13) = (h264 90 13) ∧ (h264 90 20) = (h264 90 20) ∧ (h264 90 22) = (h264 90 22) ∧ (h264 90 25) = (h264 90 25) ∧ (h264 90 26) = (h264 90 26) ∧ (h264 90 28) = (h264 90 28) ∧ (h264 90 29) = (h264 90 29) ∧ (h264 90 30) = (h264 90 30) ∧ (h264 90 34) = (h264 90 34); omega) (by omega)
                    exact L262 14 0 0 0 0 _ _ I240 E241 E242 E243 E244 E245 E246 E247 E248 E249 E250 E251 E252 E253 E254 y237_ (by show 0 ≤ 0 ∧ 0 ≤ m - 1 ∧ 0 ≤ 0 ∧ 0 ≤ 89 * 0 ∧ 0 ≤ 0 ∧ 0 ≤ 9 ∧ 0 ≤ 0 ∧ 0 ≤ 31 ∧ ¬ ov_bp (h 96) (h 100) s 0 0 0 = 2000000000 ∧ (h239 90 37) = s ∧ (h239 90 2) = (h239 90 2) ∧ (h239 90 7) = (h239 90 7) ∧ (h239 90 8) = (h239 90 8) ∧ (h239 90 13) = (h239 90 13) ∧ (h239 90 20) = (h239 90 20) ∧ (h239 90 22) = (h239 90 22) ∧ (h239 90 25) = (h239 90 25) ∧ (h239 90 26) = (h239 90 26) ∧ (h239 90 28) = (h239 90 28) ∧ (h239 90 29) = (h239 90 29) ∧ (h239 90 30) = (h239 90 30) ∧ (h239 90 34) = (h239 90 34); omega) (by omega)
                  · skip
                    refine ov_blk (ls2 := [(0, ov_r 90), (1, ov_i s), (2, ov_i m), (3, ov_i 0), (4, ov_i v222)]) (st2 := [ov_i v222]) (pc2 := 112) b_288_110_1 rfl rfl ?_
                    refine ov_ldcw (n := 2000000000) d_288_112 kc_Mo_338 ?_
                    refine ov_icne (tgt := 122) d_288_115 (by decide) (by omega) (by omega) (fun c392 => ?_) (fun c392 => ?_)
                    · skip
                      refine ov_blk (ls2 := [(0, ov_r 90), (1, ov_i s), (2, ov_i m), (3, ov_i 0), (4, ov_i v222)]) (st2 := [ov_i m]) (pc2 := 123) b_288_122_1 rfl rfl ?_
                      refine ov_ifne (tgt := 135) d_288_123 (by decide) (by omega) (fun c393 => ?_) (fun c393 => ?_)
                      · skip
                        refine ov_blk (ls2 := [(0, ov_r 90), (1, ov_i s), (2, ov_i m), (3, ov_i 0), (4, ov_i v222)]) (st2 := [ov_i v222, ov_i s]) (pc2 := 138) b_288_135_2 rfl rfl ?_
                        refine ov_ldcw (n := 100000) d_288_138 kc_Mo_432 ?_
                        refine ov_irem d_288_141 (by omega) (by omega) (by omega) ?_
                        have g394 := ov_tm (a := v222) (b := 100000) (by omega)
                        have g395 := ov_tmg (a := v222) (b := 100000) (by omega) (by omega)
                        refine ov_blk (ls2 := [(0, ov_r 90), (1, ov_i s), (2, ov_i m), (3, ov_i 0), (4, ov_i v222)]) (st2 := [ov_i ((s + (Int.tmod v222 100000)) - 1)]) (pc2 := 145) b_288_142_3 rfl rfl ?_
                        exact ov_reti (st := []) d_288_145 rfl ⟨_, rfl, I240, (by show (h239 90 2) = (h 90 2) ∧ (h239 90 7) = (h 90 7) ∧ (h239 90 8) = (h 90 8) ∧ (h239 90 13) = (h 90 13) ∧ (h239 90 20) = (h 90 20) ∧ (h239 90 22) = (h 90 22) ∧ (h239 90 25) = (h 90 25) ∧ (h239 90 26) = (h 90 26) ∧ (h239 90 28) = (h 90 28) ∧ (h239 90 29) = (h 90 29) ∧ (h239 90 30) = (h 90 30) ∧ (h239 90 34) = (h 90 34) ∧ -2147483648 ≤ ((s + (Int.tmod v222 100000)) - 1) ∧ ((s + (Int.tmod v222 100000)) - 1) ≤ 2147483647; omega), E241, E242, E243, E244, E245, E246, E247, E248, E249, E250, E251, E252, E253, E254⟩
                      · skip
                        refine ov_blk (ls2 := [(0, ov_r 90), (1, ov_i s), (2, ov_i m), (3, ov_i 0), (4, ov_i v222)]) (st2 := [ov_i v222]) (pc2 := 128) b_288_126_1 rfl rfl ?_
                        refine ov_ldcw (n := 100000) d_288_128 kc_Mo_432 ?_
                        refine ov_idiv d_288_131 (by omega) (by omega) (by omega) ?_
                        have g396 := ov_td (a := v222) (b := 100000) (by omega)
                        refine ov_goto (tgt := 145) d_288_132 (by decide) ?_
                        exact ov_reti (st := []) d_288_145 rfl ⟨_, rfl, I240, (by show (h239 90 2) = (h 90 2) ∧ (h239 90 7) = (h 90 7) ∧ (h239 90 8) = (h 90 8) ∧ (h239 90 13) = (h 90 13) ∧ (h239 90 20) = (h 90 20) ∧ (h239 90 22) = (h 90 22) ∧ (h239 90 25) = (h 90 25) ∧ (h239 90 26) = (h 90 26) ∧ (h239 90 28) = (h 90 28) ∧ (h239 90 29) = (h 90 29) ∧ (h239 90 30) = (h 90 30) ∧ (h239 90 34) = (h 90 34) ∧ -2147483648 ≤ (Int.tdiv v222 100000) ∧ (Int.tdiv v222 100000) ≤ 2147483647; omega), E241, E242, E243, E244, E245, E246, E247, E248, E249, E250, E251, E252, E253, E254⟩
                    · omega
            · skip
              refine ov_blk (ls2 := [(0, ov_r 90), (1, ov_i s), (2, ov_i m), (3, ov_i x3)]) (st2 := [ov_r 90]) (pc2 := 49) b_288_48_1 rfl rfl ?_
              refine ov_getf (v := ov_r 109) d_288_49 fl_Mo_129 (zb_90 I22) (zs_90 I22) (congrArg ov_r (rg_90_36 I22)) ?_
              refine ov_blk (ls2 := [(0, ov_r 90), (1, ov_i s), (2, ov_i m), (3, ov_i x3)]) (st2 := [ov_i 0, ov_i x3, ov_r 109]) (pc2 := 54) b_288_52_2 rfl rfl ?_
              refine ov_iast d_288_54 (zb_109 I22) (zs_109 I22) (by omega) ?_
              have I397 := ua_109 (k := x3) (x := 0) I22 (by omega)
              refine ov_blk (ls2 := [(0, ov_r 90), (1, ov_i s), (2, ov_i m), (3, ov_i (x3 + 1))]) (st2 := []) (pc2 := 58) b_288_55_1 rfl rfl ?_
              refine ov_goto (tgt := 42) d_288_58 (by decide) ?_
              exact ih17 (x3 + 1) _ _ I397 E23 E24 E25 E26 E27 E28 E29 E30 E31 E32 E33 E34 E35 E36 (fun j a b => if c : j = x3 then (by rw [c]; show ov_up _ 109 _ _ 109 _ = _; rw [ov_up_row, ov_rs_eq]) else (by rw [ov_up_j c]; exact xz j a (by omega))) (by show 0 ≤ (x3 + 1) ∧ (x3 + 1) ≤ 156000 ∧ (h21 90 2) = (h 90 2) ∧ (h21 90 7) = (h 90 7) ∧ (h21 90 8) = (h 90 8) ∧ (h21 90 13) = (h 90 13) ∧ (h21 90 20) = (h 90 20) ∧ (h21 90 22) = (h 90 22) ∧ (h21 90 25) = (h 90 25) ∧ (h21 90 26) = (h 90 26) ∧ (h21 90 28) = (h 90 28) ∧ (h21 90 29) = (h 90 29) ∧ (h21 90 30) = (h 90 30) ∧ (h21 90 34) = (h 90 34); omega) (by omega)
        exact L19 156001 0 _ _ I1 rfl rfl rfl rfl rfl rfl rfl rfl rfl rfl rfl rfl rfl rfl (fun j a b => absurd a (by omega)) (by show 0 ≤ 0 ∧ 0 ≤ 156000 ∧ (h 90 2) = (h 90 2) ∧ (h 90 7) = (h 90 7) ∧ (h 90 8) = (h 90 8) ∧ (h 90 13) = (h 90 13) ∧ (h 90 20) = (h 90 20) ∧ (h 90 22) = (h 90 22) ∧ (h 90 25) = (h 90 25) ∧ (h 90 26) = (h 90 26) ∧ (h 90 28) = (h 90 28) ∧ (h 90 29) = (h 90 29) ∧ (h 90 30) = (h 90 30) ∧ (h 90 34) = (h 90 34); omega) (by omega)
      · skip
        refine ov_blk (ls2 := [(0, ov_r 90), (1, ov_i s), (2, ov_i m)]) (st2 := [ov_i (-1)]) (pc2 := 39) b_288_38_1 rfl rfl ?_
        exact ov_reti (st := []) d_288_39 rfl ⟨_, rfl, I1, ⟨rfl, rfl, rfl, rfl, rfl, rfl, rfl, rfl, rfl, rfl, rfl, rfl, (by show -2147483648 ≤ (-1) ∧ (-1) ≤ 2147483647; omega)⟩, rfl, rfl, rfl, rfl, rfl, rfl, rfl, rfl, rfl, rfl, rfl, rfl, rfl, rfl⟩

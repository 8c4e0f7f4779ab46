abbrev P_Mo_runTime_90_b (F : ov_H × ov_Z) (z : ov_Z) (h : ov_H) : Option ov_V → ov_Z → ov_H → Prop := fun r0 z' h' => ∃ r : Int, r0 = some (ov_i r) ∧ z = z' ∧ h = h' ∧ (r = ov_rt (h 96) ∧ 0 ≤ r ∧ r ≤ 30)
set_option maxHeartbeats 4000000 in
theorem c_Mo_runTime_90_b {u : ov_U} {F : ov_H × ov_Z} {z : ov_Z} {h : ov_H} (d : Nat) (hd : 0 ≤ d) (U : ov_cap u) (I : ov_N F z h) : ov_T u d ov_m256 [ov_r 90] z h (P_Mo_runTime_90_b F z h) := by
  refine ov_en rfl (Nat.le_of_ble_eq_true rfl) ?_
  show ov_R u d ov_m256 0 [(0, ov_r 90)] [] z h (P_Mo_runTime_90_b F z h)
  refine ov_blk (ls2 := [(0, ov_r 90)]) (st2 := [ov_r 90]) (pc2 := 1) b_256_0_1 rfl rfl ?_
  refine ov_getf (v := ov_r 96) d_256_1 fl_Mo_81 (zb_90 I) (zs_90 I) (congrArg ov_r (rg_90_10 I)) ?_
  refine ov_blk (ls2 := [(0, ov_r 90)]) (st2 := [ov_i 3, ov_r 96]) (pc2 := 5) b_256_4_1 rfl rfl ?_
  refine ov_iald d_256_5 (zb_96 I) (zs_96 I) (by omega) ?_
  have g1 := t96_3 I
  refine ov_ifge (tgt := 18) d_256_6 (by decide) (by omega) (fun c2 => ?_) (fun c2 => ?_)
  · skip
    refine ov_blk (ls2 := [(0, ov_r 90)]) (st2 := [ov_r 90]) (pc2 := 19) b_256_18_1 rfl rfl ?_
    refine ov_getf (v := ov_r 96) d_256_19 fl_Mo_81 (zb_90 I) (zs_90 I) (congrArg ov_r (rg_90_10 I)) ?_
    refine ov_blk (ls2 := [(0, ov_r 90)]) (st2 := [ov_i 3, ov_r 96]) (pc2 := 23) b_256_22_1 rfl rfl ?_
    refine ov_iald d_256_23 (zb_96 I) (zs_96 I) (by omega) ?_
    have qv : ov_rt (h 96) = (h 96 3) := by unfold ov_rt; repeat (first | rw [if_pos (by omega)] | rw [if_neg (by omega)])
    exact ov_reti (st := []) d_256_24 rfl ⟨_, rfl, rfl, rfl, (by show (h 96 3) = ov_rt (h 96) ∧ 0 ≤ (h 96 3) ∧ (h 96 3) ≤ 30; omega)⟩
  · skip
    refine ov_blk (ls2 := [(0, ov_r 90)]) (st2 := [ov_r 90]) (pc2 := 10) b_256_9_1 rfl rfl ?_
    refine ov_getf (v := ov_r 96) d_256_10 fl_Mo_81 (zb_90 I) (zs_90 I) (congrArg ov_r (rg_90_10 I)) ?_
    refine ov_blk (ls2 := [(0, ov_r 90)]) (st2 := [ov_i 2, ov_r 96]) (pc2 := 14) b_256_13_1 rfl rfl ?_
    refine ov_iald d_256_14 (zb_96 I) (zs_96 I) (by omega) ?_
    have g4 := t96_2 I
    refine ov_goto (tgt := 24) d_256_15 (by decide) ?_
    have qv : ov_rt (h 96) = (h 96 2) := by unfold ov_rt; repeat (first | rw [if_pos (by omega)] | rw [if_neg (by omega)])
    exact ov_reti (st := []) d_256_24 rfl ⟨_, rfl, rfl, rfl, (by show (h 96 2) = ov_rt (h 96) ∧ 0 ≤ (h 96 2) ∧ (h 96 2) ≤ 30; omega)⟩
abbrev P_Mo_slowTime_90_b (F : ov_H × ov_Z) (z : ov_Z) (h : ov_H) : Option ov_V → ov_Z → ov_H → Prop := fun r0 z' h' => ∃ r : Int, r0 = some (ov_i r) ∧ z = z' ∧ h = h' ∧ (r = ov_slt (h 96) ∧ 0 ≤ r ∧ r ≤ 30)
set_option maxHeartbeats 4000000 in
theorem c_Mo_slowTime_90_b {u : ov_U} {F : ov_H × ov_Z} {z : ov_Z} {h : ov_H} (d : Nat) (hd : 0 ≤ d) (U : ov_cap u) (I : ov_N F z h) : ov_T u d ov_m291 [ov_r 90] z h (P_Mo_slowTime_90_b F z h) := by
  refine ov_en rfl (Nat.le_of_ble_eq_true rfl) ?_
  show ov_R u d ov_m291 0 [(0, ov_r 90)] [] z h (P_Mo_slowTime_90_b F z h)
  refine ov_blk (ls2 := [(0, ov_r 90)]) (st2 := [ov_r 90]) (pc2 := 1) b_291_0_1 rfl rfl ?_
  refine ov_getf (v := ov_r 96) d_291_1 fl_Mo_81 (zb_90 I) (zs_90 I) (congrArg ov_r (rg_90_10 I)) ?_
  refine ov_blk (ls2 := [(0, ov_r 90)]) (st2 := [ov_i 4, ov_r 96]) (pc2 := 5) b_291_4_1 rfl rfl ?_
  refine ov_iald d_291_5 (zb_96 I) (zs_96 I) (by omega) ?_
  have g1 := t96_4 I
  refine ov_ifge (tgt := 18) d_291_6 (by decide) (by omega) (fun c2 => ?_) (fun c2 => ?_)
  · skip
    refine ov_blk (ls2 := [(0, ov_r 90)]) (st2 := [ov_r 90]) (pc2 := 19) b_291_18_1 rfl rfl ?_
    refine ov_getf (v := ov_r 96) d_291_19 fl_Mo_81 (zb_90 I) (zs_90 I) (congrArg ov_r (rg_90_10 I)) ?_
    refine ov_blk (ls2 := [(0, ov_r 90)]) (st2 := [ov_i 4, ov_r 96]) (pc2 := 23) b_291_22_1 rfl rfl ?_
    refine ov_iald d_291_23 (zb_96 I) (zs_96 I) (by omega) ?_
    have qv : ov_slt (h 96) = (h 96 4) := by unfold ov_slt; repeat (first | rw [if_pos (by omega)] | rw [if_neg (by omega)])
    exact ov_reti (st := []) d_291_24 rfl ⟨_, rfl, rfl, rfl, (by show (h 96 4) = ov_slt (h 96) ∧ 0 ≤ (h 96 4) ∧ (h 96 4) ≤ 30; omega)⟩
  · skip
    refine ov_blk (ls2 := [(0, ov_r 90)]) (st2 := [ov_r 90]) (pc2 := 10) b_291_9_1 rfl rfl ?_
    refine ov_getf (v := ov_r 96) d_291_10 fl_Mo_81 (zb_90 I) (zs_90 I) (congrArg ov_r (rg_90_10 I)) ?_
    refine ov_blk (ls2 := [(0, ov_r 90)]) (st2 := [ov_i 2, ov_r 96]) (pc2 := 14) b_291_13_1 rfl rfl ?_
    refine ov_iald d_291_14 (zb_96 I) (zs_96 I) (by omega) ?_
    have g4 := t96_2 I
    refine ov_goto (tgt := 24) d_291_15 (by decide) ?_
    have qv : ov_slt (h 96) = (h 96 2) := by unfold ov_slt; repeat (first | rw [if_pos (by omega)] | rw [if_neg (by omega)])
    exact ov_reti (st := []) d_291_24 rfl ⟨_, rfl, rfl, rfl, (by show (h 96 2) = ov_slt (h 96) ∧ 0 ≤ (h 96 2) ∧ (h 96 2) ≤ 30; omega)⟩
abbrev P_Mo_fastest_90_b (F : ov_H × ov_Z) (z : ov_Z) (h : ov_H) : Option ov_V → ov_Z → ov_H → Prop := fun r0 z' h' => ∃ r : Int, r0 = some (ov_i r) ∧ z = z' ∧ h = h' ∧ (r = ov_fst (h 96) ∧ 0 ≤ r ∧ r ≤ 30)
set_option maxHeartbeats 4000000 in
theorem c_Mo_fastest_90_b {u : ov_U} {F : ov_H × ov_Z} {z : ov_Z} {h : ov_H} (d : Nat) (hd : 1 ≤ d) (U : ov_cap u) (I : ov_N F z h) : ov_T u d ov_m290 [ov_r 90] z h (P_Mo_fastest_90_b F z h) := by
  refine ov_en rfl (Nat.le_of_ble_eq_true rfl) ?_
  show ov_R u d ov_m290 0 [(0, ov_r 90)] [] z h (P_Mo_fastest_90_b F z h)
  refine ov_blk (ls2 := [(0, ov_r 90)]) (st2 := [ov_r 90]) (pc2 := 1) b_290_0_1 rfl rfl ?_
  refine ov_cV (as := []) (st := []) (d2 := d - 1) d_290_1 lk_Mo_332 rfl (Nat.le_of_ble_eq_true rfl) (c := 1) (zb_90 I) (zs_90 I) ⟨by decide, rfl⟩ (by omega) (c_Mo_runTime_90_b (d - 1) (by omega) U I) ?_
  rintro _ _ _ ⟨v2, rfl, rfl, rfl, f1⟩
  show ov_R u d ov_m290 4 [(0, ov_r 90)] [ov_i v2] z h (P_Mo_fastest_90_b F z h)
  have f3 : v2 = ov_rt (h 96) ∧ 0 ≤ v2 ∧ v2 ≤ 30 := f1
  clear f1
  refine ov_blk (ls2 := [(0, ov_r 90)]) (st2 := [ov_r 90, ov_i v2]) (pc2 := 5) b_290_4_1 rfl rfl ?_
  refine ov_cV (as := []) (st := [ov_i v2]) (d2 := d - 1) d_290_5 lk_Mo_411 rfl (Nat.le_of_ble_eq_true rfl) (c := 1) (zb_90 I) (zs_90 I) ⟨by decide, rfl⟩ (by omega) (c_Mo_slowTime_90_b (d - 1) (by omega) U I) ?_
  rintro _ _ _ ⟨v5, rfl, rfl, rfl, f4⟩
  show ov_R u d ov_m290 8 [(0, ov_r 90)] [ov_i v5, ov_i v2] z h (P_Mo_fastest_90_b F z h)
  have f6 : v5 = ov_slt (h 96) ∧ 0 ≤ v5 ∧ v5 ≤ 30 := f4
  clear f4
  refine ov_icle (tgt := 20) d_290_8 (by decide) (by omega) (by omega) (fun c7 => ?_) (fun c7 => ?_)
  · skip
    refine ov_blk (ls2 := [(0, ov_r 90)]) (st2 := [ov_r 90]) (pc2 := 21) b_290_20_1 rfl rfl ?_
    refine ov_cV (as := []) (st := []) (d2 := d - 1) d_290_21 lk_Mo_332 rfl (Nat.le_of_ble_eq_true rfl) (c := 1) (zb_90 I) (zs_90 I) ⟨by decide, rfl⟩ (by omega) (c_Mo_runTime_90_b (d - 1) (by omega) U I) ?_
    rintro _ _ _ ⟨v9, rfl, rfl, rfl, f8⟩
    show ov_R u d ov_m290 24 [(0, ov_r 90)] [ov_i v9] z h (P_Mo_fastest_90_b F z h)
    have f10 : v9 = ov_rt (h 96) ∧ 0 ≤ v9 ∧ v9 ≤ 30 := f8
    clear f8
    have qv : ov_fst (h 96) = v9 := by unfold ov_fst; first | (rw [if_pos (by omega)]; omega) | (rw [if_neg (by omega)]; omega) | rw [if_pos (by omega)]
    exact ov_reti (st := []) d_290_24 rfl ⟨_, rfl, rfl, rfl, (by show v9 = ov_fst (h 96) ∧ 0 ≤ v9 ∧ v9 ≤ 30; omega)⟩
  · skip
    refine ov_blk (ls2 := [(0, ov_r 90)]) (st2 := [ov_r 90]) (pc2 := 12) b_290_11_1 rfl rfl ?_
    refine ov_getf (v := ov_r 96) d_290_12 fl_Mo_81 (zb_90 I) (zs_90 I) (congrArg ov_r (rg_90_10 I)) ?_
    refine ov_blk (ls2 := [(0, ov_r 90)]) (st2 := [ov_i 2, ov_r 96]) (pc2 := 16) b_290_15_1 rfl rfl ?_
    refine ov_iald d_290_16 (zb_96 I) (zs_96 I) (by omega) ?_
    have g11 := t96_2 I
    refine ov_goto (tgt := 24) d_290_17 (by decide) ?_
    have qv : ov_fst (h 96) = (h 96 2) := by unfold ov_fst; first | (rw [if_pos (by omega)]; omega) | (rw [if_neg (by omega)]; omega) | rw [if_pos (by omega)]
    exact ov_reti (st := []) d_290_24 rfl ⟨_, rfl, rfl, rfl, (by show (h 96 2) = ov_fst (h 96) ∧ 0 ≤ (h 96 2) ∧ (h 96 2) ≤ 30; omega)⟩
abbrev P_Mo_slowest_90_b (F : ov_H × ov_Z) (z : ov_Z) (h : ov_H) : Option ov_V → ov_Z → ov_H → Prop := fun r0 z' h' => ∃ r : Int, r0 = some (ov_i r) ∧ z = z' ∧ h = h' ∧ (r = ov_slw (h 96) ∧ 0 ≤ r ∧ r ≤ 30)
set_option maxHeartbeats 4000000 in
theorem c_Mo_slowest_90_b {u : ov_U} {F : ov_H × ov_Z} {z : ov_Z} {h : ov_H} (d : Nat) (hd : 1 ≤ d) (U : ov_cap u) (I : ov_N F z h) : ov_T u d ov_m292 [ov_r 90] z h (P_Mo_slowest_90_b F z h) := by
  refine ov_en rfl (Nat.le_of_ble_eq_true rfl) ?_
  show ov_R u d ov_m292 0 [(0, ov_r 90)] [] z h (P_Mo_slowest_90_b F z h)
  refine ov_blk (ls2 := [(0, ov_r 90)]) (st2 := [ov_r 90]) (pc2 := 1) b_292_0_1 rfl rfl ?_
  refine ov_cV (as := []) (st := []) (d2 := d - 1) d_292_1 lk_Mo_332 rfl (Nat.le_of_ble_eq_true rfl) (c := 1) (zb_90 I) (zs_90 I) ⟨by decide, rfl⟩ (by omega) (c_Mo_runTime_90_b (d - 1) (by omega) U I) ?_
  rintro _ _ _ ⟨v2, rfl, rfl, rfl, f1⟩
  show ov_R u d ov_m292 4 [(0, ov_r 90)] [ov_i v2] z h (P_Mo_slowest_90_b F z h)
  have f3 : v2 = ov_rt (h 96) ∧ 0 ≤ v2 ∧ v2 ≤ 30 := f1
  clear f1
  refine ov_blk (ls2 := [(0, ov_r 90)]) (st2 := [ov_r 90, ov_i v2]) (pc2 := 5) b_292_4_1 rfl rfl ?_
  refine ov_cV (as := []) (st := [ov_i v2]) (d2 := d - 1) d_292_5 lk_Mo_411 rfl (Nat.le_of_ble_eq_true rfl) (c := 1) (zb_90 I) (zs_90 I) ⟨by decide, rfl⟩ (by omega) (c_Mo_slowTime_90_b (d - 1) (by omega) U I) ?_
  rintro _ _ _ ⟨v5, rfl, rfl, rfl, f4⟩
  show ov_R u d ov_m292 8 [(0, ov_r 90)] [ov_i v5, ov_i v2] z h (P_Mo_slowest_90_b F z h)
  have f6 : v5 = ov_slt (h 96) ∧ 0 ≤ v5 ∧ v5 ≤ 30 := f4
  clear f4
  refine ov_icle (tgt := 20) d_292_8 (by decide) (by omega) (by omega) (fun c7 => ?_) (fun c7 => ?_)
  · skip
    refine ov_blk (ls2 := [(0, ov_r 90)]) (st2 := [ov_r 90]) (pc2 := 21) b_292_20_1 rfl rfl ?_
    refine ov_cV (as := []) (st := []) (d2 := d - 1) d_292_21 lk_Mo_411 rfl (Nat.le_of_ble_eq_true rfl) (c := 1) (zb_90 I) (zs_90 I) ⟨by decide, rfl⟩ (by omega) (c_Mo_slowTime_90_b (d - 1) (by omega) U I) ?_
    rintro _ _ _ ⟨v9, rfl, rfl, rfl, f8⟩
    show ov_R u d ov_m292 24 [(0, ov_r 90)] [ov_i v9] z h (P_Mo_slowest_90_b F z h)
    have f10 : v9 = ov_slt (h 96) ∧ 0 ≤ v9 ∧ v9 ≤ 30 := f8
    clear f8
    have qv : ov_slw (h 96) = v9 := by unfold ov_slw; first | (rw [if_pos (by omega)]; omega) | (rw [if_neg (by omega)]; omega) | rw [if_pos (by omega)]
    exact ov_reti (st := []) d_292_24 rfl ⟨_, rfl, rfl, rfl, (by show v9 = ov_slw (h 96) ∧ 0 ≤ v9 ∧ v9 ≤ 30; omega)⟩
  · skip
    refine ov_blk (ls2 := [(0, ov_r 90)]) (st2 := [ov_r 90]) (pc2 := 12) b_292_11_1 rfl rfl ?_
    refine ov_getf (v := ov_r 96) d_292_12 fl_Mo_81 (zb_90 I) (zs_90 I) (congrArg ov_r (rg_90_10 I)) ?_
    refine ov_blk (ls2 := [(0, ov_r 90)]) (st2 := [ov_i 2, ov_r 96]) (pc2 := 16) b_292_15_1 rfl rfl ?_
    refine ov_iald d_292_16 (zb_96 I) (zs_96 I) (by omega) ?_
    have g11 := t96_2 I
    refine ov_goto (tgt := 24) d_292_17 (by decide) ?_
    have qv : ov_slw (h 96) = (h 96 2) := by unfold ov_slw; first | (rw [if_pos (by omega)]; omega) | (rw [if_neg (by omega)]; omega) | rw [if_pos (by omega)]
    exact ov_reti (st := []) d_292_24 rfl ⟨_, rfl, rfl, rfl, (by show (h 96 2) = ov_slw (h 96) ∧ 0 ≤ (h 96 2) ∧ (h 96 2) ≤ 30; omega)⟩
abbrev P_Mo_bestPace_90 (F : ov_H × ov_Z) (z : ov_Z) (h : ov_H) (so : Int) (ln : Int) (tm : Int) (rn : Int) : Option ov_V → ov_Z → ov_H → Prop := fun r0 z' h' => ∃ r : Int, r0 = some (ov_i r) ∧ ov_N F z' h' ∧ ((h' 90 2) = (h 90 2) ∧ (h' 90 7) = (h 90 7) ∧ (h' 90 8) = (h 90 8) ∧ (h' 90 13) = (h 90 13) ∧ (h' 90 20) = (h 90 20) ∧ (h' 90 22) = (h 90 22) ∧ (h' 90 25) = (h 90 25) ∧ (h' 90 26) = (h 90 26) ∧ (h' 90 28) = (h 90 28) ∧ (h' 90 29) = (h 90 29) ∧ (h' 90 30) = (h 90 30) ∧ (h' 90 34) = (h 90 34) ∧ (h' 90 37) = (h 90 37) ∧ r = (ov_bp (h 96) (h 100) so) ln tm rn ∧ 1 ≤ r ∧ (r = 2000000000 ∨ r ≤ 1201 + 100000 * (13 - ln))) ∧ h' 92 = h 92 ∧ h' 93 = h 93 ∧ h' 94 = h 94 ∧ h' 95 = h 95 ∧ h' 96 = h 96 ∧ h' 97 = h 97 ∧ h' 98 = h 98 ∧ h' 99 = h 99 ∧ h' 100 = h 100 ∧ h' 103 = h 103 ∧ h' 105 = h 105 ∧ h' 106 = h 106 ∧ h' 114 = h 114 ∧ (ov_PI (h 96) (h 100) so (h' 109))
abbrev P_Mo_paceBy_90 (F : ov_H × ov_Z) (z : ov_Z) (h : ov_H) (so : Int) (ln : Int) (tm : Int) (rn : Int) (s : Int) : Option ov_V → ov_Z → ov_H → Prop := fun r0 z' h' => ∃ r : Int, r0 = some (ov_i r) ∧ ov_N F z' h' ∧ ((h' 90 2) = (h 90 2) ∧ (h' 90 7) = (h 90 7) ∧ (h' 90 8) = (h 90 8) ∧ (h' 90 13) = (h 90 13) ∧ (h' 90 20) = (h 90 20) ∧ (h' 90 22) = (h 90 22) ∧ (h' 90 25) = (h 90 25) ∧ (h' 90 26) = (h 90 26) ∧ (h' 90 28) = (h 90 28) ∧ (h' 90 29) = (h 90 29) ∧ (h' 90 30) = (h 90 30) ∧ (h' 90 34) = (h 90 34) ∧ (h' 90 37) = (h 90 37) ∧ r = (ov_pq (h 96) (h 100) so (ov_bp (h 96) (h 100) so) ln tm rn) s ∧ 1 ≤ r ∧ (r = 2000000000 ∨ r ≤ 1201 + 100000 * (13 - ln))) ∧ h' 92 = h 92 ∧ h' 93 = h 93 ∧ h' 94 = h 94 ∧ h' 95 = h 95 ∧ h' 96 = h 96 ∧ h' 97 = h 97 ∧ h' 98 = h 98 ∧ h' 99 = h 99 ∧ h' 100 = h 100 ∧ h' 103 = h 103 ∧ h' 105 = h 105 ∧ h' 106 = h 106 ∧ h' 114 = h 114 ∧ (ov_PI (h 96) (h 100) so (h' 109))
set_option maxHeartbeats 4000000 in
theorem c_Mo_paceBy_90 {u : ov_U} {F : ov_H × ov_Z} (so : Int) (k : Nat) (HV : ∀ k' : Nat, k' < k → ∀ {z : ov_Z} {h : ov_H} (d : Nat) (hd : (10 + 2 * k' + 1) ≤ d) (U : ov_cap u) (I : ov_N F z h) (ln : Int) (tm : Int) (rn : Int) (g_ln : ov_g ln) (g_tm : ov_g tm) (g_rn : ov_g rn) (p0 : 0 ≤ ln ∧ ln + (k' : Int) = (h 100 0)) (p1 : 0 ≤ tm ∧ tm + 89 * (k' : Int) ≤ 1157) (p2 : 0 ≤ rn ∧ rn ≤ 9) (p3 : (h 90 37) = so) (W : ov_WT (h 96)) (W2 : ov_WK (h 100)) (PI : ov_PI (h 96) (h 100) so (h 109)), ov_T u d ov_m289 [ov_r 90, ov_i ln, ov_i tm, ov_i rn] z h (P_Mo_bestPace_90 F z h so ln tm rn)) {z : ov_Z} {h : ov_H} (d : Nat) (hd : (10 + 2 * k + 0) ≤ d) (U : ov_cap u) (I : ov_N F z h) (ln : Int) (tm : Int) (rn : Int) (s : Int) (g_ln : ov_g ln) (g_tm : ov_g tm) (g_rn : ov_g rn) (g_s : ov_g s) (p0 : 0 ≤ ln ∧ ln + (k : Int) = (h 100 0)) (p1 : ln < (h 100 0)) (p2 : 0 ≤ tm ∧ tm + 89 * (k : Int) ≤ 1157) (p3 : 0 ≤ rn ∧ rn ≤ 9) (p4 : 0 ≤ s ∧ s ≤ 30) (p5 : (h 90 37) = so) (W : ov_WT (h 96)) (W2 : ov_WK (h 100)) (PI : ov_PI (h 96) (h 100) so (h 109)) : ov_T u d ov_m293 [ov_r 90, ov_i ln, ov_i tm, ov_i rn, ov_i s] z h (P_Mo_paceBy_90 F z h so ln tm rn s) := by
  refine ov_en rfl (Nat.le_of_ble_eq_true rfl) ?_
  show ov_R u d ov_m293 0 [(0, ov_r 90), (1, ov_i ln), (2, ov_i tm), (3, ov_i rn), (4, ov_i s)] [] z h (P_Mo_paceBy_90 F z h so ln tm rn s)
  have t0 := t96_0 I
  have t1 := t96_1 I
  have wk : ∀ j : Int, 0 ≤ j → j ≤ 12 → 0 ≤ h 100 (1 + 2 * j) ∧ h 100 (1 + 2 * j) ≤ 1 := fun j h1 h2 => s100_w I ⟨h1, h2⟩
  have wz := s100_0 I
  refine ov_blk (ls2 := [(0, ov_r 90), (1, ov_i ln), (2, ov_i tm), (3, ov_i rn), (4, ov_i s)]) (st2 := [ov_i ln, ov_r 90]) (pc2 := 2) b_293_0_2 rfl rfl ?_
  refine ov_cV (as := [ov_i ln]) (st := []) (d2 := d - 1) d_293_2 lk_Mo_423 rfl (Nat.le_of_ble_eq_true rfl) (c := 1) (zb_90 I) (zs_90 I) ⟨by decide, rfl⟩ (by omega) (c_Mo_xAt_90 (d - 1) (by omega) U I ln (by omega) (by omega)) ?_
  rintro _ _ _ ⟨v2, rfl, rfl, rfl, f1⟩
  show ov_R u d ov_m293 5 [(0, ov_r 90), (1, ov_i ln), (2, ov_i tm), (3, ov_i rn), (4, ov_i s)] [ov_i v2] z h (P_Mo_paceBy_90 F z h so ln tm rn s)
  have f3 : v2 = ov_sx (h 100) (Int.toNat ln) ∧ 0 ≤ v2 ∧ v2 ≤ ln := f1
  clear f1
  have ev : v2 = ov_sx (h 100) (Int.toNat ln) := by omega
  have wi := ov_WK_in W2 wk (by omega) (k := ln) (by omega)
  have ww := wk ln (by omega) (by omega)
  refine ov_blk (ls2 := [(0, ov_r 90), (1, ov_i ln), (2, ov_i tm), (3, ov_i rn), (4, ov_i s), (5, ov_i v2), (6, ov_i (ln - v2))]) (st2 := [ov_r 90]) (pc2 := 14) b_293_5_6 rfl rfl ?_
  refine ov_getf (v := ov_r 100) d_293_14 fl_Mo_93 (zb_90 I) (zs_90 I) (congrArg ov_r (rg_90_16 I)) ?_
  refine ov_blk (ls2 := [(0, ov_r 90), (1, ov_i ln), (2, ov_i tm), (3, ov_i rn), (4, ov_i s), (5, ov_i v2), (6, ov_i (ln - v2))]) (st2 := [ov_i (1 + (2 * ln)), ov_r 100]) (pc2 := 22) b_293_17_5 rfl rfl ?_
  refine ov_iald d_293_22 (zb_100 I) (zs_100 I) (by omega) ?_
  have g4 := s100_g I (1 + (2 * ln))
  refine ov_blk (ls2 := [(0, ov_r 90), (1, ov_i ln), (2, ov_i tm), (3, ov_i rn), (4, ov_i s), (5, ov_i v2), (6, ov_i (ln - v2)), (7, ov_i (h 100 (1 + (2 * ln))))]) (st2 := [ov_r 90, ov_i s]) (pc2 := 28) b_293_23_3 rfl rfl ?_
  refine ov_getf (v := ov_r 96) d_293_28 fl_Mo_81 (zb_90 I) (zs_90 I) (congrArg ov_r (rg_90_10 I)) ?_
  refine ov_blk (ls2 := [(0, ov_r 90), (1, ov_i ln), (2, ov_i tm), (3, ov_i rn), (4, ov_i s), (5, ov_i v2), (6, ov_i (ln - v2)), (7, ov_i (h 100 (1 + (2 * ln))))]) (st2 := [ov_i 2, ov_r 96, ov_i s]) (pc2 := 32) b_293_31_1 rfl rfl ?_
  refine ov_iald d_293_32 (zb_96 I) (zs_96 I) (by omega) ?_
  have g5 := t96_2 I
  refine ov_icge (tgt := 40) d_293_33 (by decide) (by omega) (by omega) (fun c6 => ?_) (fun c6 => ?_)
  · skip
    refine ov_blk (ls2 := [(0, ov_r 90), (1, ov_i ln), (2, ov_i tm), (3, ov_i rn), (4, ov_i s), (5, ov_i v2), (6, ov_i (ln - v2)), (7, ov_i (h 100 (1 + (2 * ln)))), (8, ov_i 0)]) (st2 := [ov_i (h 100 (1 + (2 * ln))), ov_i (ln - v2), ov_i v2, ov_r 90]) (pc2 := 50) b_293_40_6 rfl rfl ?_
    refine ov_cV (as := [ov_i v2, ov_i (ln - v2), ov_i (h 100 (1 + (2 * ln)))]) (st := []) (d2 := d - 1) d_293_50 lk_Mo_309 rfl (Nat.le_of_ble_eq_true rfl) (c := 1) (zb_90 I) (zs_90 I) ⟨by decide, rfl⟩ (by omega) (c_Mo_canGo_90 (d - 1) (by omega) U I v2 (ln - v2) (h 100 (1 + (2 * ln))) (by omega) (by omega) (by omega) (by omega) (by omega)) ?_
    rintro _ _ _ ⟨v8, rfl, rfl, rfl, f7⟩
    show ov_R u d ov_m293 53 [(0, ov_r 90), (1, ov_i ln), (2, ov_i tm), (3, ov_i rn), (4, ov_i s), (5, ov_i v2), (6, ov_i (ln - v2)), (7, ov_i (h 100 (1 + (2 * ln)))), (8, ov_i 0)] [ov_i v8] z h (P_Mo_paceBy_90 F z h so ln tm rn s)
    have f9 : (v8 = 0 ∨ v8 = 1) ∧ v8 = ov_cgi (h 96) v2 (ln - v2) (h 100 (1 + (2 * ln))) ∧ (v8 = 1 → (((h 100 (1 + (2 * ln))) = 0 → v2 < (h 96 0) - 1) ∧ (¬ (h 100 (1 + (2 * ln))) = 0 → (ln - v2) < (h 96 1) - 1)) ∧ (((h 96 (10 + 4 * (6 * (ln - v2) + v2))) = 1 ∨ (h 96 (10 + 4 * (6 * (ln - v2) + v2))) = 2) → ((h 100 (1 + (2 * ln))) = 0 → 0 < (h 96 (10 + 4 * (6 * (ln - v2) + v2) + 3))) ∧ (¬ (h 100 (1 + (2 * ln))) = 0 → (h 96 (10 + 4 * (6 * (ln - v2) + v2) + 3)) < (h 96 (10 + 4 * (6 * (ln - v2) + v2) + 1))))) := f7
    clear f7
    refine ov_ifeq (tgt := 65) d_293_53 (by decide) (by omega) (fun c10 => ?_) (fun c10 => ?_)
    · skip
      have f9_ : v8 = 0 := by omega
      have f11 : v8 = ov_cgi (h 96) v2 (ln - v2) (h 100 (1 + (2 * ln))) := f9.2.1
      clear f9
      refine ov_ldcw (n := 2000000000) d_293_65 kc_Mo_338 ?_
      have e9 : ov_pq (h 96) (h 100) so (ov_bp (h 96) (h 100) so) ln tm rn s = 2000000000 := ov_pq_0 ev (by omega)
      exact ov_reti (st := []) d_293_68 rfl ⟨_, rfl, I, ⟨rfl, rfl, rfl, rfl, rfl, rfl, rfl, rfl, rfl, rfl, rfl, rfl, (by show (h 90 37) = (h 90 37) ∧ 2000000000 = (ov_pq (h 96) (h 100) so (ov_bp (h 96) (h 100) so) ln tm rn) s ∧ 1 ≤ 2000000000 ∧ (2000000000 = 2000000000 ∨ 2000000000 ≤ 1201 + 100000 * (13 - ln)); omega)⟩, rfl, rfl, rfl, rfl, rfl, rfl, rfl, rfl, rfl, rfl, rfl, rfl, rfl, PI⟩
    · skip
      have f9_ : v8 = 1 := by omega
      have f12 : v8 = ov_cgi (h 96) v2 (ln - v2) (h 100 (1 + (2 * ln))) := f9.2.1
      have f13 : (((h 100 (1 + (2 * ln))) = 0 → v2 < (h 96 0) - 1) ∧ (¬ (h 100 (1 + (2 * ln))) = 0 → (ln - v2) < (h 96 1) - 1)) ∧ (((h 96 (10 + 4 * (6 * (ln - v2) + v2))) = 1 ∨ (h 96 (10 + 4 * (6 * (ln - v2) + v2))) = 2) → ((h 100 (1 + (2 * ln))) = 0 → 0 < (h 96 (10 + 4 * (6 * (ln - v2) + v2) + 3))) ∧ (¬ (h 100 (1 + (2 * ln))) = 0 → (h 96 (10 + 4 * (6 * (ln - v2) + v2) + 3)) < (h 96 (10 + 4 * (6 * (ln - v2) + v2) + 1)))) := f9.2.2 (by omega)
      clear f9
      refine ov_blk (ls2 := [(0, ov_r 90), (1, ov_i ln), (2, ov_i tm), (3, ov_i rn), (4, ov_i s), (5, ov_i v2), (6, ov_i (ln - v2)), (7, ov_i (h 100 (1 + (2 * ln)))), (8, ov_i 0)]) (st2 := [ov_i 0]) (pc2 := 58) b_293_56_1 rfl rfl ?_
      refine ov_ifeq (tgt := 69) d_293_58 (by decide) (by omega) (fun c14 => ?_) (fun c14 => ?_)
      · skip
        refine ov_blk (ls2 := [(0, ov_r 90), (1, ov_i ln), (2, ov_i tm), (3, ov_i rn), (4, ov_i s), (5, ov_i v2), (6, ov_i (ln - v2)), (7, ov_i (h 100 (1 + (2 * ln)))), (8, ov_i 0)]) (st2 := [ov_r 90, ov_i (h 100 (1 + (2 * ln))), ov_i (ln - v2), ov_i v2, ov_r 90]) (pc2 := 77) b_293_69_5 rfl rfl ?_
        refine ov_getf (v := ov_i (h 90 37)) d_293_77 fl_Mo_426 (zb_90 I) (zs_90 I) rfl ?_
        have g15 := rg_90_37 I
        refine ov_blk (ls2 := [(0, ov_r 90), (1, ov_i ln), (2, ov_i tm), (3, ov_i rn), (4, ov_i s), (5, ov_i v2), (6, ov_i (ln - v2)), (7, ov_i (h 100 (1 + (2 * ln)))), (8, ov_i 0)]) (st2 := [ov_i ((h 90 37) + tm), ov_i (h 100 (1 + (2 * ln))), ov_i (ln - v2), ov_i v2, ov_r 90]) (pc2 := 82) b_293_80_2 rfl rfl ?_
        refine ov_cV (as := [ov_i v2, ov_i (ln - v2), ov_i (h 100 (1 + (2 * ln))), ov_i ((h 90 37) + tm)]) (st := []) (d2 := d - 1) d_293_82 lk_Mo_315 rfl (Nat.le_of_ble_eq_true rfl) (c := 1) (zb_90 I) (zs_90 I) ⟨by decide, rfl⟩ (by omega) (c_Mo_waitFor_90 (d - 1) (by omega) U I v2 (ln - v2) (h 100 (1 + (2 * ln))) ((h 90 37) + tm) (by omega) (by omega) (by omega) (by omega) (by omega) (by omega) (by omega) (by show (((h 96 (10 + 4 * (6 * (ln - v2) + v2))) = 1 ∨ (h 96 (10 + 4 * (6 * (ln - v2) + v2))) = 2) → ((h 100 (1 + (2 * ln))) = 0 → 0 < (h 96 (10 + 4 * (6 * (ln - v2) + v2) + 3))) ∧ (¬ (h 100 (1 + (2 * ln))) = 0 → (h 96 (10 + 4 * (6 * (ln - v2) + v2) + 3)) < (h 96 (10 + 4 * (6 * (ln - v2) + v2) + 1)))); omega) W) ?_
        rintro _ _ _ ⟨v17, rfl, rfl, rfl, f16⟩
        show ov_R u d ov_m293 85 [(0, ov_r 90), (1, ov_i ln), (2, ov_i tm), (3, ov_i rn), (4, ov_i s), (5, ov_i v2), (6, ov_i (ln - v2)), (7, ov_i (h 100 (1 + (2 * ln)))), (8, ov_i 0)] [ov_i v17] z h (P_Mo_paceBy_90 F z h so ln tm rn s)
        have f18 : 0 ≤ v17 ∧ v17 ≤ 59 ∧ v17 = ov_wm (h 96) (6 * (ln - v2) + v2) (h 100 (1 + (2 * ln))) ((h 90 37) + tm) := f16
        clear f16
        have hw : v17 = ov_wm (h 96) (6 * (ln - v2) + v2) (h 100 (1 + 2 * ln)) (so + tm) := by rw [show so = h 90 37 by omega]; omega
        refine ov_blk (ls2 := [(0, ov_r 90), (1, ov_i ln), (2, ov_i tm), (3, ov_i rn), (4, ov_i s), (5, ov_i v2), (6, ov_i (ln - v2)), (7, ov_i (h 100 (1 + (2 * ln)))), (8, ov_i 0), (9, ov_i v17)]) (st2 := [ov_i 0, ov_i ((tm + v17) + s), ov_i (ln + 1), ov_r 90]) (pc2 := 100) b_293_85_11 rfl rfl ?_
        refine ov_ifeq (tgt := 109) d_293_100 (by decide) (by omega) (fun c19 => ?_) (fun c19 => ?_)
        · skip
          refine ov_blk (ls2 := [(0, ov_r 90), (1, ov_i ln), (2, ov_i tm), (3, ov_i rn), (4, ov_i s), (5, ov_i v2), (6, ov_i (ln - v2)), (7, ov_i (h 100 (1 + (2 * ln)))), (8, ov_i 0), (9, ov_i v17)]) (st2 := [ov_i rn, ov_i ((tm + v17) + s), ov_i (ln + 1), ov_r 90]) (pc2 := 110) b_293_109_1 rfl rfl ?_
          refine ov_cV (as := [ov_i (ln + 1), ov_i ((tm + v17) + s), ov_i rn]) (st := []) (d2 := d - 1) d_293_110 lk_Mo_429 rfl (Nat.le_of_ble_eq_true rfl) (c := 1) (zb_90 I) (zs_90 I) ⟨by decide, rfl⟩ (by omega) (HV (Int.toNat (h 100 0 - ((ln + 1)))) (by omega) (d - 1) (by omega) U I (ln + 1) ((tm + v17) + s) rn (by omega) (by omega) (by omega) (by show 0 ≤ (ln + 1) ∧ (ln + 1) + ((Int.toNat (h 100 0 - ((ln + 1))) : Nat) : Int) = (h 100 0); omega) (by omega) (by omega) (by show (h 90 37) = so; omega) W W2 PI) ?_
          rintro _ z36 h37 ⟨v21, rfl, I38, f20, e22, e23, e24, e25, e26, e27, e28, e29, e30, e31, e32, e33, e34, y35⟩
          have E39 : h37 92 = h 92 := e22
          have E40 : h37 93 = h 93 := e23
          have E41 : h37 94 = h 94 := e24
          have E42 : h37 95 = h 95 := e25
          have E43 : h37 96 = h 96 := e26
          have E44 : h37 97 = h 97 := e27
          have E45 : h37 98 = h 98 := e28
          have E46 : h37 99 = h 99 := e29
          have E47 : h37 100 = h 100 := e30
          have E48 : h37 103 = h 103 := e31
          have E49 : h37 105 = h 105 := e32
          have E50 : h37 106 = h 106 := e33
          have E51 : h37 114 = h 114 := e34
          show ov_R u d ov_m293 113 [(0, ov_r 90), (1, ov_i ln), (2, ov_i tm), (3, ov_i rn), (4, ov_i s), (5, ov_i v2), (6, ov_i (ln - v2)), (7, ov_i (h 100 (1 + (2 * ln)))), (8, ov_i 0), (9, ov_i v17)] [ov_i v21] z36 h37 (P_Mo_paceBy_90 F z h so ln tm rn s)
          have f52 : (h37 90 2) = (h 90 2) ∧ (h37 90 7) = (h 90 7) ∧ (h37 90 8) = (h 90 8) ∧ (h37 90 13) = (h 90 13) ∧ (h37 90 20) = (h 90 20) ∧ (h37 90 22) = (h 90 22) ∧ (h37 90 25) = (h 90 25) ∧ (h37 90 26) = (h 90 26) ∧ (h37 90 28) = (h 90 28) ∧ (h37 90 29) = (h 90 29) ∧ (h37 90 30) = (h 90 30) ∧ (h37 90 34) = (h 90 34) ∧ (h37 90 37) = (h 90 37) ∧ v21 = (ov_bp (h 96) (h 100) so) (ln + 1) ((tm + v17) + s) rn ∧ 1 ≤ v21 ∧ (v21 = 2000000000 ∨ v21 ≤ 1201 + 100000 * (13 - (ln + 1))) := f20
          clear f20
          have y35_ : ov_PI (h 96) (h 100) so (h37 109) := y35
          refine ov_blk (ls2 := [(0, ov_r 90), (1, ov_i ln), (2, ov_i tm), (3, ov_i rn), (4, ov_i s), (5, ov_i v2), (6, ov_i (ln - v2)), (7, ov_i (h 100 (1 + (2 * ln)))), (8, ov_i 0), (9, ov_i v17), (10, ov_i v21)]) (st2 := [ov_i v21]) (pc2 := 117) b_293_113_2 rfl rfl ?_
          refine ov_ldcw (n := 2000000000) d_293_117 kc_Mo_338 ?_
          refine ov_iceq (tgt := 128) d_293_120 (by decide) (by omega) (by omega) (fun c53 => ?_) (fun c53 => ?_)
          · skip
            refine ov_blk (ls2 := [(0, ov_r 90), (1, ov_i ln), (2, ov_i tm), (3, ov_i rn), (4, ov_i s), (5, ov_i v2), (6, ov_i (ln - v2)), (7, ov_i (h 100 (1 + (2 * ln)))), (8, ov_i 0), (9, ov_i v17), (10, ov_i v21)]) (st2 := [ov_i v21]) (pc2 := 130) b_293_128_1 rfl rfl ?_
            refine ov_goto (tgt := 139) d_293_130 (by decide) ?_
            have e9 : ov_pq (h 96) (h 100) so (ov_bp (h 96) (h 100) so) ln tm rn s = v21 := (ov_pq_1 (rr := rn) (b := v21) ev (by omega) (by omega) hw (by omega) (by omega)).trans (by rw [if_pos (by omega)])
            exact ov_reti (st := []) d_293_139 rfl ⟨_, rfl, I38, (by show (h37 90 2) = (h 90 2) ∧ (h37 90 7) = (h 90 7) ∧ (h37 90 8) = (h 90 8) ∧ (h37 90 13) = (h 90 13) ∧ (h37 90 20) = (h 90 20) ∧ (h37 90 22) = (h 90 22) ∧ (h37 90 25) = (h 90 25) ∧ (h37 90 26) = (h 90 26) ∧ (h37 90 28) = (h 90 28) ∧ (h37 90 29) = (h 90 29) ∧ (h37 90 30) = (h 90 30) ∧ (h37 90 34) = (h 90 34) ∧ (h37 90 37) = (h 90 37) ∧ v21 = (ov_pq (h 96) (h 100) so (ov_bp (h 96) (h 100) so) ln tm rn) s ∧ 1 ≤ v21 ∧ (v21 = 2000000000 ∨ v21 ≤ 1201 + 100000 * (13 - ln)); omega), E39, E40, E41, E42, E43, E44, E45, E46, E47, E48, E49, E50, E51, y35_⟩
          · skip
            refine ov_blk (ls2 := [(0, ov_r 90), (1, ov_i ln), (2, ov_i tm), (3, ov_i rn), (4, ov_i s), (5, ov_i v2), (6, ov_i (ln - v2)), (7, ov_i (h 100 (1 + (2 * ln)))), (8, ov_i 0), (9, ov_i v17), (10, ov_i v21)]) (st2 := [ov_i v17]) (pc2 := 125) b_293_123_1 rfl rfl ?_
            refine ov_ifne (tgt := 133) d_293_125 (by decide) (by omega) (fun c54 => ?_) (fun c54 => ?_)
            · skip
              refine ov_blk (ls2 := [(0, ov_r 90), (1, ov_i ln), (2, ov_i tm), (3, ov_i rn), (4, ov_i s), (5, ov_i v2), (6, ov_i (ln - v2)), (7, ov_i (h 100 (1 + (2 * ln)))), (8, ov_i 0), (9, ov_i v17), (10, ov_i v21)]) (st2 := [ov_i v21]) (pc2 := 135) b_293_133_1 rfl rfl ?_
              refine ov_ldcw (n := 100000) d_293_135 kc_Mo_432 ?_
              refine ov_blk (ls2 := [(0, ov_r 90), (1, ov_i ln), (2, ov_i tm), (3, ov_i rn), (4, ov_i s), (5, ov_i v2), (6, ov_i (ln - v2)), (7, ov_i (h 100 (1 + (2 * ln)))), (8, ov_i 0), (9, ov_i v17), (10, ov_i v21)]) (st2 := [ov_i (v21 + 100000)]) (pc2 := 139) b_293_138_1 rfl rfl ?_
              have e9 : ov_pq (h 96) (h 100) so (ov_bp (h 96) (h 100) so) ln tm rn s = (v21 + 100000) := (ov_pq_1 (rr := rn) (b := v21) ev (by omega) (by omega) hw (by omega) (by omega)).trans (by rw [if_neg (by omega)])
              exact ov_reti (st := []) d_293_139 rfl ⟨_, rfl, I38, (by show (h37 90 2) = (h 90 2) ∧ (h37 90 7) = (h 90 7) ∧ (h37 90 8) = (h 90 8) ∧ (h37 90 13) = (h 90 13) ∧ (h37 90 20) = (h 90 20) ∧ (h37 90 22) = (h 90 22) ∧ (h37 90 25) = (h 90 25) ∧ (h37 90 26) = (h 90 26) ∧ (h37 90 28) = (h 90 28) ∧ (h37 90 29) = (h 90 29) ∧ (h37 90 30) = (h 90 30) ∧ (h37 90 34) = (h 90 34) ∧ (h37 90 37) = (h 90 37) ∧ (v21 + 100000) = (ov_pq (h 96) (h 100) so (ov_bp (h 96) (h 100) so) ln tm rn) s ∧ 1 ≤ (v21 + 100000) ∧ ((v21 + 100000) = 2000000000 ∨ (v21 + 100000) ≤ 1201 + 100000 * (13 - ln)); omega), E39, E40, E41, E42, E43, E44, E45, E46, E47, E48, E49, E50, E51, y35_⟩
            · skip
              refine ov_blk (ls2 := [(0, ov_r 90), (1, ov_i ln), (2, ov_i tm), (3, ov_i rn), (4, ov_i s), (5, ov_i v2), (6, ov_i (ln - v2)), (7, ov_i (h 100 (1 + (2 * ln)))), (8, ov_i 0), (9, ov_i v17), (10, ov_i v21)]) (st2 := [ov_i v21]) (pc2 := 130) b_293_128_1 rfl rfl ?_
              refine ov_goto (tgt := 139) d_293_130 (by decide) ?_
              have e9 : ov_pq (h 96) (h 100) so (ov_bp (h 96) (h 100) so) ln tm rn s = v21 := (ov_pq_1 (rr := rn) (b := v21) ev (by omega) (by omega) hw (by omega) (by omega)).trans (by rw [if_pos (by omega)])
              exact ov_reti (st := []) d_293_139 rfl ⟨_, rfl, I38, (by show (h37 90 2) = (h 90 2) ∧ (h37 90 7) = (h 90 7) ∧ (h37 90 8) = (h 90 8) ∧ (h37 90 13) = (h 90 13) ∧ (h37 90 20) = (h 90 20) ∧ (h37 90 22) = (h 90 22) ∧ (h37 90 25) = (h 90 25) ∧ (h37 90 26) = (h 90 26) ∧ (h37 90 28) = (h 90 28) ∧ (h37 90 29) = (h 90 29) ∧ (h37 90 30) = (h 90 30) ∧ (h37 90 34) = (h 90 34) ∧ (h37 90 37) = (h 90 37) ∧ v21 = (ov_pq (h 96) (h 100) so (ov_bp (h 96) (h 100) so) ln tm rn) s ∧ 1 ≤ v21 ∧ (v21 = 2000000000 ∨ v21 ≤ 1201 + 100000 * (13 - ln)); omega), E39, E40, E41, E42, E43, E44, E45, E46, E47, E48, E49, E50, E51, y35_⟩
        · omega
      · omega
  · skip
    refine ov_blk (ls2 := [(0, ov_r 90), (1, ov_i ln), (2, ov_i tm), (3, ov_i rn), (4, ov_i s), (5, ov_i v2), (6, ov_i (ln - v2)), (7, ov_i (h 100 (1 + (2 * ln))))]) (st2 := [ov_i 1]) (pc2 := 37) b_293_36_1 rfl rfl ?_
    refine ov_goto (tgt := 41) d_293_37 (by decide) ?_
    refine ov_blk (ls2 := [(0, ov_r 90), (1, ov_i ln), (2, ov_i tm), (3, ov_i rn), (4, ov_i s), (5, ov_i v2), (6, ov_i (ln - v2)), (7, ov_i (h 100 (1 + (2 * ln)))), (8, ov_i 1)]) (st2 := [ov_i (h 100 (1 + (2 * ln))), ov_i (ln - v2), ov_i v2, ov_r 90]) (pc2 := 50) b_293_41_5 rfl rfl ?_
    refine ov_cV (as := [ov_i v2, ov_i (ln - v2), ov_i (h 100 (1 + (2 * ln)))]) (st := []) (d2 := d - 1) d_293_50 lk_Mo_309 rfl (Nat.le_of_ble_eq_true rfl) (c := 1) (zb_90 I) (zs_90 I) ⟨by decide, rfl⟩ (by omega) (c_Mo_canGo_90 (d - 1) (by omega) U I v2 (ln - v2) (h 100 (1 + (2 * ln))) (by omega) (by omega) (by omega) (by omega) (by omega)) ?_
    rintro _ _ _ ⟨v56, rfl, rfl, rfl, f55⟩
    show ov_R u d ov_m293 53 [(0, ov_r 90), (1, ov_i ln), (2, ov_i tm), (3, ov_i rn), (4, ov_i s), (5, ov_i v2), (6, ov_i (ln - v2)), (7, ov_i (h 100 (1 + (2 * ln)))), (8, ov_i 1)] [ov_i v56] z h (P_Mo_paceBy_90 F z h so ln tm rn s)
    have f57 : (v56 = 0 ∨ v56 = 1) ∧ v56 = ov_cgi (h 96) v2 (ln - v2) (h 100 (1 + (2 * ln))) ∧ (v56 = 1 → (((h 100 (1 + (2 * ln))) = 0 → v2 < (h 96 0) - 1) ∧ (¬ (h 100 (1 + (2 * ln))) = 0 → (ln - v2) < (h 96 1) - 1)) ∧ (((h 96 (10 + 4 * (6 * (ln - v2) + v2))) = 1 ∨ (h 96 (10 + 4 * (6 * (ln - v2) + v2))) = 2) → ((h 100 (1 + (2 * ln))) = 0 → 0 < (h 96 (10 + 4 * (6 * (ln - v2) + v2) + 3))) ∧ (¬ (h 100 (1 + (2 * ln))) = 0 → (h 96 (10 + 4 * (6 * (ln - v2) + v2) + 3)) < (h 96 (10 + 4 * (6 * (ln - v2) + v2) + 1))))) := f55
    clear f55
    refine ov_ifeq (tgt := 65) d_293_53 (by decide) (by omega) (fun c58 => ?_) (fun c58 => ?_)
    · skip
      have f57_ : v56 = 0 := by omega
      have f59 : v56 = ov_cgi (h 96) v2 (ln - v2) (h 100 (1 + (2 * ln))) := f57.2.1
      clear f57
      refine ov_ldcw (n := 2000000000) d_293_65 kc_Mo_338 ?_
      have e9 : ov_pq (h 96) (h 100) so (ov_bp (h 96) (h 100) so) ln tm rn s = 2000000000 := ov_pq_0 ev (by omega)
      exact ov_reti (st := []) d_293_68 rfl ⟨_, rfl, I, ⟨rfl, rfl, rfl, rfl, rfl, rfl, rfl, rfl, rfl, rfl, rfl, rfl, (by show (h 90 37) = (h 90 37) ∧ 2000000000 = (ov_pq (h 96) (h 100) so (ov_bp (h 96) (h 100) so) ln tm rn) s ∧ 1 ≤ 2000000000 ∧ (2000000000 = 2000000000 ∨ 2000000000 ≤ 1201 + 100000 * (13 - ln)); omega)⟩, rfl, rfl, rfl, rfl, rfl, rfl, rfl, rfl, rfl, rfl, rfl, rfl, rfl, PI⟩
    · skip
      have f57_ : v56 = 1 := by omega
      have f60 : v56 = ov_cgi (h 96) v2 (ln - v2) (h 100 (1 + (2 * ln))) := f57.2.1
      have f61 : (((h 100 (1 + (2 * ln))) = 0 → v2 < (h 96 0) - 1) ∧ (¬ (h 100 (1 + (2 * ln))) = 0 → (ln - v2) < (h 96 1) - 1)) ∧ (((h 96 (10 + 4 * (6 * (ln - v2) + v2))) = 1 ∨ (h 96 (10 + 4 * (6 * (ln - v2) + v2))) = 2) → ((h 100 (1 + (2 * ln))) = 0 → 0 < (h 96 (10 + 4 * (6 * (ln - v2) + v2) + 3))) ∧ (¬ (h 100 (1 + (2 * ln))) = 0 → (h 96 (10 + 4 * (6 * (ln - v2) + v2) + 3)) < (h 96 (10 + 4 * (6 * (ln - v2) + v2) + 1)))) := f57.2.2 (by omega)
      clear f57
      refine ov_blk (ls2 := [(0, ov_r 90), (1, ov_i ln), (2, ov_i tm), (3, ov_i rn), (4, ov_i s), (5, ov_i v2), (6, ov_i (ln - v2)), (7, ov_i (h 100 (1 + (2 * ln)))), (8, ov_i 1)]) (st2 := [ov_i 1]) (pc2 := 58) b_293_56_1 rfl rfl ?_
      refine ov_ifeq (tgt := 69) d_293_58 (by decide) (by omega) (fun c62 => ?_) (fun c62 => ?_)
      · omega
      · skip
        refine ov_blk (ls2 := [(0, ov_r 90), (1, ov_i ln), (2, ov_i tm), (3, ov_i rn), (4, ov_i s), (5, ov_i v2), (6, ov_i (ln - v2)), (7, ov_i (h 100 (1 + (2 * ln)))), (8, ov_i 1)]) (st2 := [ov_i rn]) (pc2 := 62) b_293_61_1 rfl rfl ?_
        refine ov_ifne (tgt := 69) d_293_62 (by decide) (by omega) (fun c63 => ?_) (fun c63 => ?_)
        · skip
          refine ov_blk (ls2 := [(0, ov_r 90), (1, ov_i ln), (2, ov_i tm), (3, ov_i rn), (4, ov_i s), (5, ov_i v2), (6, ov_i (ln - v2)), (7, ov_i (h 100 (1 + (2 * ln)))), (8, ov_i 1)]) (st2 := [ov_r 90, ov_i (h 100 (1 + (2 * ln))), ov_i (ln - v2), ov_i v2, ov_r 90]) (pc2 := 77) b_293_69_5 rfl rfl ?_
          refine ov_getf (v := ov_i (h 90 37)) d_293_77 fl_Mo_426 (zb_90 I) (zs_90 I) rfl ?_
          have g64 := rg_90_37 I
          refine ov_blk (ls2 := [(0, ov_r 90), (1, ov_i ln), (2, ov_i tm), (3, ov_i rn), (4, ov_i s), (5, ov_i v2), (6, ov_i (ln - v2)), (7, ov_i (h 100 (1 + (2 * ln)))), (8, ov_i 1)]) (st2 := [ov_i ((h 90 37) + tm), ov_i (h 100 (1 + (2 * ln))), ov_i (ln - v2), ov_i v2, ov_r 90]) (pc2 := 82) b_293_80_2 rfl rfl ?_
          refine ov_cV (as := [ov_i v2, ov_i (ln - v2), ov_i (h 100 (1 + (2 * ln))), ov_i ((h 90 37) + tm)]) (st := []) (d2 := d - 1) d_293_82 lk_Mo_315 rfl (Nat.le_of_ble_eq_true rfl) (c := 1) (zb_90 I) (zs_90 I) ⟨by decide, rfl⟩ (by omega) (c_Mo_waitFor_90 (d - 1) (by omega) U I v2 (ln - v2) (h 100 (1 + (2 * ln))) ((h 90 37) + tm) (by omega) (by omega) (by omega) (by omega) (by omega) (by omega) (by omega) (by show (((h 96 (10 + 4 * (6 * (ln - v2) + v2))) = 1 ∨ (h 96 (10 + 4 * (6 * (ln - v2) + v2))) = 2) → ((h 100 (1 + (2 * ln))) = 0 → 0 < (h 96 (10 + 4 * (6 * (ln - v2) + v2) + 3))) ∧ (¬ (h 100 (1 + (2 * ln))) = 0 → (h 96 (10 + 4 * (6 * (ln - v2) + v2) + 3)) < (h 96 (10 + 4 * (6 * (ln - v2) + v2) + 1)))); omega) W) ?_
          rintro _ _ _ ⟨v66, rfl, rfl, rfl, f65⟩
          show ov_R u d ov_m293 85 [(0, ov_r 90), (1, ov_i ln), (2, ov_i tm), (3, ov_i rn), (4, ov_i s), (5, ov_i v2), (6, ov_i (ln - v2)), (7, ov_i (h 100 (1 + (2 * ln)))), (8, ov_i 1)] [ov_i v66] z h (P_Mo_paceBy_90 F z h so ln tm rn s)
          have f67 : 0 ≤ v66 ∧ v66 ≤ 59 ∧ v66 = ov_wm (h 96) (6 * (ln - v2) + v2) (h 100 (1 + (2 * ln))) ((h 90 37) + tm) := f65
          clear f65
          have hw : v66 = ov_wm (h 96) (6 * (ln - v2) + v2) (h 100 (1 + 2 * ln)) (so + tm) := by rw [show so = h 90 37 by omega]; omega
          refine ov_blk (ls2 := [(0, ov_r 90), (1, ov_i ln), (2, ov_i tm), (3, ov_i rn), (4, ov_i s), (5, ov_i v2), (6, ov_i (ln - v2)), (7, ov_i (h 100 (1 + (2 * ln)))), (8, ov_i 1), (9, ov_i v66)]) (st2 := [ov_i 1, ov_i ((tm + v66) + s), ov_i (ln + 1), ov_r 90]) (pc2 := 100) b_293_85_11 rfl rfl ?_
          refine ov_ifeq (tgt := 109) d_293_100 (by decide) (by omega) (fun c68 => ?_) (fun c68 => ?_)
          · omega
          · skip
            refine ov_blk (ls2 := [(0, ov_r 90), (1, ov_i ln), (2, ov_i tm), (3, ov_i rn), (4, ov_i s), (5, ov_i v2), (6, ov_i (ln - v2)), (7, ov_i (h 100 (1 + (2 * ln)))), (8, ov_i 1), (9, ov_i v66)]) (st2 := [ov_i (rn - 1), ov_i ((tm + v66) + s), ov_i (ln + 1), ov_r 90]) (pc2 := 106) b_293_103_3 rfl rfl ?_
            refine ov_goto (tgt := 110) d_293_106 (by decide) ?_
            refine ov_cV (as := [ov_i (ln + 1), ov_i ((tm + v66) + s), ov_i (rn - 1)]) (st := []) (d2 := d - 1) d_293_110 lk_Mo_429 rfl (Nat.le_of_ble_eq_true rfl) (c := 1) (zb_90 I) (zs_90 I) ⟨by decide, rfl⟩ (by omega) (HV (Int.toNat (h 100 0 - ((ln + 1)))) (by omega) (d - 1) (by omega) U I (ln + 1) ((tm + v66) + s) (rn - 1) (by omega) (by omega) (by omega) (by show 0 ≤ (ln + 1) ∧ (ln + 1) + ((Int.toNat (h 100 0 - ((ln + 1))) : Nat) : Int) = (h 100 0); omega) (by omega) (by omega) (by show (h 90 37) = so; omega) W W2 PI) ?_
            rintro _ z85 h86 ⟨v70, rfl, I87, f69, e71, e72, e73, e74, e75, e76, e77, e78, e79, e80, e81, e82, e83, y84⟩
            have E88 : h86 92 = h 92 := e71
            have E89 : h86 93 = h 93 := e72
            have E90 : h86 94 = h 94 := e73
            have E91 : h86 95 = h 95 := e74
            have E92 : h86 96 = h 96 := e75
            have E93 : h86 97 = h 97 := e76
            have E94 : h86 98 = h 98 := e77
            have E95 : h86 99 = h 99 := e78
            have E96 : h86 100 = h 100 := e79
            have E97 : h86 103 = h 103 := e80
            have E98 : h86 105 = h 105 := e81
            have E99 : h86 106 = h 106 := e82
            have E100 : h86 114 = h 114 := e83
            show ov_R u d ov_m293 113 [(0, ov_r 90), (1, ov_i ln), (2, ov_i tm), (3, ov_i rn), (4, ov_i s), (5, ov_i v2), (6, ov_i (ln - v2)), (7, ov_i (h 100 (1 + (2 * ln)))), (8, ov_i 1), (9, ov_i v66)] [ov_i v70] z85 h86 (P_Mo_paceBy_90 F z h so ln tm rn s)
            have f101 : (h86 90 2) = (h 90 2) ∧ (h86 90 7) = (h 90 7) ∧ (h86 90 8) = (h 90 8) ∧ (h86 90 13) = (h 90 13) ∧ (h86 90 20) = (h 90 20) ∧ (h86 90 22) = (h 90 22) ∧ (h86 90 25) = (h 90 25) ∧ (h86 90 26) = (h 90 26) ∧ (h86 90 28) = (h 90 28) ∧ (h86 90 29) = (h 90 29) ∧ (h86 90 30) = (h 90 30) ∧ (h86 90 34) = (h 90 34) ∧ (h86 90 37) = (h 90 37) ∧ v70 = (ov_bp (h 96) (h 100) so) (ln + 1) ((tm + v66) + s) (rn - 1) ∧ 1 ≤ v70 ∧ (v70 = 2000000000 ∨ v70 ≤ 1201 + 100000 * (13 - (ln + 1))) := f69
            clear f69
            have y84_ : ov_PI (h 96) (h 100) so (h86 109) := y84
            refine ov_blk (ls2 := [(0, ov_r 90), (1, ov_i ln), (2, ov_i tm), (3, ov_i rn), (4, ov_i s), (5, ov_i v2), (6, ov_i (ln - v2)), (7, ov_i (h 100 (1 + (2 * ln)))), (8, ov_i 1), (9, ov_i v66), (10, ov_i v70)]) (st2 := [ov_i v70]) (pc2 := 117) b_293_113_2 rfl rfl ?_
            refine ov_ldcw (n := 2000000000) d_293_117 kc_Mo_338 ?_
            refine ov_iceq (tgt := 128) d_293_120 (by decide) (by omega) (by omega) (fun c102 => ?_) (fun c102 => ?_)
            · skip
              refine ov_blk (ls2 := [(0, ov_r 90), (1, ov_i ln), (2, ov_i tm), (3, ov_i rn), (4, ov_i s), (5, ov_i v2), (6, ov_i (ln - v2)), (7, ov_i (h 100 (1 + (2 * ln)))), (8, ov_i 1), (9, ov_i v66), (10, ov_i v70)]) (st2 := [ov_i v70]) (pc2 := 130) b_293_128_1 rfl rfl ?_
              refine ov_goto (tgt := 139) d_293_130 (by decide) ?_
              have e9 : ov_pq (h 96) (h 100) so (ov_bp (h 96) (h 100) so) ln tm rn s = v70 := (ov_pq_1 (rr := (rn - 1)) (b := v70) ev (by omega) (by omega) hw (by omega) (by omega)).trans (by rw [if_pos (by omega)])
              exact ov_reti (st := []) d_293_139 rfl ⟨_, rfl, I87, (by show (h86 90 2) = (h 90 2) ∧ (h86 90 7) = (h 90 7) ∧ (h86 90 8) = (h 90 8) ∧ (h86 90 13) = (h 90 13) ∧ (h86 90 20) = (h 90 20) ∧ (h86 90 22) = (h 90 22) ∧ (h86 90 25) = (h 90 25) ∧ (h86 90 26) = (h 90 26) ∧ (h86 90 28) = (h 90 28) ∧ (h86 90 29) = (h 90 29) ∧ (h86 90 30) = (h 90 30) ∧ (h86 90 34) = (h 90 34) ∧ (h86 90 37) = (h 90 37) ∧ v70 = (ov_pq (h 96) (h 100) so (ov_bp (h 96) (h 100) so) ln tm rn) s ∧ 1 ≤ v70 ∧ (v70 = 2000000000 ∨ v70 ≤ 1201 + 100000 * (13 - ln)); omega), E88, E89, E90, E91, E92, E93, E94, E95, E96, E97, E98, E99, E100, y84_⟩
            · skip
              refine ov_blk (ls2 := [(0, ov_r 90), (1, ov_i ln), (2, ov_i tm), (3, ov_i rn), (4, ov_i s), (5, ov_i v2), (6, ov_i (ln - v2)), (7, ov_i (h 100 (1 + (2 * ln)))), (8, ov_i 1), (9, ov_i v66), (10, ov_i v70)]) (st2 := [ov_i v66]) (pc2 := 125) b_293_123_1 rfl rfl ?_
              refine ov_ifne (tgt := 133) d_293_125 (by decide) (by omega) (fun c103 => ?_) (fun c103 => ?_)
              · skip
                refine ov_blk (ls2 := [(0, ov_r 90), (1, ov_i ln), (2, ov_i tm), (3, ov_i rn), (4, ov_i s), (5, ov_i v2), (6, ov_i (ln - v2)), (7, ov_i (h 100 (1 + (2 * ln)))), (8, ov_i 1), (9, ov_i v66), (10, ov_i v70)]) (st2 := [ov_i v70]) (pc2 := 135) b_293_133_1 rfl rfl ?_
                refine ov_ldcw (n := 100000) d_293_135 kc_Mo_432 ?_
                refine ov_blk (ls2 := [(0, ov_r 90), (1, ov_i ln), (2, ov_i tm), (3, ov_i rn), (4, ov_i s), (5, ov_i v2), (6, ov_i (ln - v2)), (7, ov_i (h 100 (1 + (2 * ln)))), (8, ov_i 1), (9, ov_i v66), (10, ov_i v70)]) (st2 := [ov_i (v70 + 100000)]) (pc2 := 139) b_293_138_1 rfl rfl ?_
                have e9 : ov_pq (h 96) (h 100) so (ov_bp (h 96) (h 100) so) ln tm rn s = (v70 + 100000) := (ov_pq_1 (rr := (rn - 1)) (b := v70) ev (by omega) (by omega) hw (by omega) (by omega)).trans (by rw [if_neg (by omega)])
                exact ov_reti (st := []) d_293_139 rfl ⟨_, rfl, I87, (by show (h86 90 2) = (h 90 2) ∧ (h86 90 7) = (h 90 7) ∧ (h86 90 8) = (h 90 8) ∧ (h86 90 13) = (h 90 13) ∧ (h86 90 20) = (h 90 20) ∧ (h86 90 22) = (h 90 22) ∧ (h86 90 25) = (h 90 25) ∧ (h86 90 26) = (h 90 26) ∧ (h86 90 28) = (h 90 28) ∧ (h86 90 29) = (h 90 29) ∧ (h86 90 30) = (h 90 30) ∧ (h86 90 34) = (h 90 34) ∧ (h86 90 37) = (h 90 37) ∧ (v70 + 100000) = (ov_pq (h 96) (h 100) so (ov_bp (h 96) (h 100) so) ln tm rn) s ∧ 1 ≤ (v70 + 100000) ∧ ((v70 + 100000) = 2000000000 ∨ (v70 + 100000) ≤ 1201 + 100000 * (13 - ln)); omega), E88, E89, E90, E91, E92, E93, E94, E95, E96, E97, E98, E99, E100, y84_⟩
              · skip
                refine ov_blk (ls2 := [(0, ov_r 90), (1, ov_i ln), (2, ov_i tm), (3, ov_i rn), (4, ov_i s), (5, ov_i v2), (6, ov_i (ln - v2)), (7, ov_i (h 100 (1 + (2 * ln)))), (8, ov_i 1), (9, ov_i v66), (10, ov_i v70)]) (st2 := [ov_i v70]) (pc2 := 130) b_293_128_1 rfl rfl ?_
                refine ov_goto (tgt := 139) d_293_130 (by decide) ?_
                have e9 : ov_pq (h 96) (h 100) so (ov_bp (h 96) (h 100) so) ln tm rn s = v70 := (ov_pq_1 (rr := (rn - 1)) (b := v70) ev (by omega) (by omega) hw (by omega) (by omega)).trans (by rw [if_pos (by omega)])
                exact ov_reti (st := []) d_293_139 rfl ⟨_, rfl, I87, (by show (h86 90 2) = (h 90 2) ∧ (h86 90 7) = (h 90 7) ∧ (h86 90 8) = (h 90 8) ∧ (h86 90 13) = (h 90 13) ∧ (h86 90 20) = (h 90 20) ∧ (h86 90 22) = (h 90 22) ∧ (h86 90 25) = (h 90 25) ∧ (h86 90 26) = (h 90 26) ∧ (h86 90 28) = (h 90 28) ∧ (h86 90 29) = (h 90 29) ∧ (h86 90 30) = (h 90 30) ∧ (h86 90 34) = (h 90 34) ∧ (h86 90 37) = (h 90 37) ∧ v70 = (ov_pq (h 96) (h 100) so (ov_bp (h 96) (h 100) so) ln tm rn) s ∧ 1 ≤ v70 ∧ (v70 = 2000000000 ∨ v70 ≤ 1201 + 100000 * (13 - ln)); omega), E88, E89, E90, E91, E92, E93, E94, E95, E96, E97, E98, E99, E100, y84_⟩
        · skip
          refine ov_ldcw (n := 2000000000) d_293_65 kc_Mo_338 ?_
          have e9 : ov_pq (h 96) (h 100) so (ov_bp (h 96) (h 100) so) ln tm rn s = 2000000000 := ov_pq_0 ev (by omega)
          exact ov_reti (st := []) d_293_68 rfl ⟨_, rfl, I, ⟨rfl, rfl, rfl, rfl, rfl, rfl, rfl, rfl, rfl, rfl, rfl, rfl, (by show (h 90 37) = (h 90 37) ∧ 2000000000 = (ov_pq (h 96) (h 100) so (ov_bp (h 96) (h 100) so) ln tm rn) s ∧ 1 ≤ 2000000000 ∧ (2000000000 = 2000000000 ∨ 2000000000 ≤ 1201 + 100000 * (13 - ln)); omega)⟩, rfl, rfl, rfl, rfl, rfl, rfl, rfl, rfl, rfl, rfl, rfl, rfl, rfl, PI⟩
set_option maxHeartbeats 4000000 in
theorem c_Mo_bestPace_90 {u : ov_U} {F : ov_H × ov_Z} (so : Int) (k : Nat) (HV : ∀ k' : Nat, k' < k → ∀ {z : ov_Z} {h : ov_H} (d : Nat) (hd : (10 + 2 * k' + 1) ≤ d) (U : ov_cap u) (I : ov_N F z h) (ln : Int) (tm : Int) (rn : Int) (g_ln : ov_g ln) (g_tm : ov_g tm) (g_rn : ov_g rn) (p0 : 0 ≤ ln ∧ ln + (k' : Int) = (h 100 0)) (p1 : 0 ≤ tm ∧ tm + 89 * (k' : Int) ≤ 1157) (p2 : 0 ≤ rn ∧ rn ≤ 9) (p3 : (h 90 37) = so) (W : ov_WT (h 96)) (W2 : ov_WK (h 100)) (PI : ov_PI (h 96) (h 100) so (h 109)), ov_T u d ov_m289 [ov_r 90, ov_i ln, ov_i tm, ov_i rn] z h (P_Mo_bestPace_90 F z h so ln tm rn)) {z : ov_Z} {h : ov_H} (d : Nat) (hd : (10 + 2 * k + 1) ≤ d) (U : ov_cap u) (I : ov_N F z h) (ln : Int) (tm : Int) (rn : Int) (g_ln : ov_g ln) (g_tm : ov_g tm) (g_rn : ov_g rn) (p0 : 0 ≤ ln ∧ ln + (k : Int) = (h 100 0)) (p1 : 0 ≤ tm ∧ tm + 89 * (k : Int) ≤ 1157) (p2 : 0 ≤ rn ∧ rn ≤ 9) (p3 : (h 90 37) = so) (W : ov_WT (h 96)) (W2 : ov_WK (h 100)) (PI : ov_PI (h 96) (h 100) so (h 109)) : ov_T u d ov_m289 [ov_r 90, ov_i ln, ov_i tm, ov_i rn] z h (P_Mo_bestPace_90 F z h so ln tm rn) := by
  refine ov_en rfl (Nat.le_of_ble_eq_true rfl) ?_
  show ov_R u d ov_m289 0 [(0, ov_r 90), (1, ov_i ln), (2, ov_i tm), (3, ov_i rn)] [] z h (P_Mo_bestPace_90 F z h so ln tm rn)
  have t0 := t96_0 I
  have t1 := t96_1 I
  have wk : ∀ j : Int, 0 ≤ j → j ≤ 12 → 0 ≤ h 100 (1 + 2 * j) ∧ h 100 (1 + 2 * j) ≤ 1 := fun j h1 h2 => s100_w I ⟨h1, h2⟩
  have wz := s100_0 I
  refine ov_blk (ls2 := [(0, ov_r 90), (1, ov_i ln), (2, ov_i tm), (3, ov_i rn)]) (st2 := [ov_r 90, ov_i ln]) (pc2 := 2) b_289_0_2 rfl rfl ?_
  refine ov_getf (v := ov_r 100) d_289_2 fl_Mo_93 (zb_90 I) (zs_90 I) (congrArg ov_r (rg_90_16 I)) ?_
  refine ov_blk (ls2 := [(0, ov_r 90), (1, ov_i ln), (2, ov_i tm), (3, ov_i rn)]) (st2 := [ov_i 0, ov_r 100, ov_i ln]) (pc2 := 6) b_289_5_1 rfl rfl ?_
  refine ov_iald d_289_6 (zb_100 I) (zs_100 I) (by omega) ?_
  have g1 := s100_0 I
  refine ov_icne (tgt := 14) d_289_7 (by decide) (by omega) (by omega) (fun c2 => ?_) (fun c2 => ?_)
  · skip
    refine ov_blk (ls2 := [(0, ov_r 90), (1, ov_i ln), (2, ov_i tm), (3, ov_i rn), (4, ov_i ((((ln * 1200) + tm) * 10) + rn))]) (st2 := [ov_r 90]) (pc2 := 29) b_289_14_11 rfl rfl ?_
    refine ov_getf (v := ov_r 109) d_289_29 fl_Mo_129 (zb_90 I) (zs_90 I) (congrArg ov_r (rg_90_36 I)) ?_
    refine ov_blk (ls2 := [(0, ov_r 90), (1, ov_i ln), (2, ov_i tm), (3, ov_i rn), (4, ov_i ((((ln * 1200) + tm) * 10) + rn))]) (st2 := [ov_i ((((ln * 1200) + tm) * 10) + rn), ov_r 109]) (pc2 := 34) b_289_32_1 rfl rfl ?_
    refine ov_iald d_289_34 (zb_109 I) (zs_109 I) (by omega) ?_
    have g3 := s109_g I ((((ln * 1200) + tm) * 10) + rn)
    refine ov_ifne (tgt := 100) d_289_35 (by decide) (by omega) (fun c4 => ?_) (fun c4 => ?_)
    · skip
      have be : h 109 ((((ln * 1200) + tm) * 10) + rn) = ov_bp (h 96) (h 100) so ln tm rn := (PI ln tm rn (by omega) (by omega) (by omega) (by omega) (by omega) (by omega)).resolve_left (by omega)
      have hr := (ra_109 I ((((ln * 1200) + tm) * 10) + rn)).2.2 (by omega) (by omega)
      refine ov_blk (ls2 := [(0, ov_r 90), (1, ov_i ln), (2, ov_i tm), (3, ov_i rn), (4, ov_i ((((ln * 1200) + tm) * 10) + rn))]) (st2 := [ov_r 90]) (pc2 := 101) b_289_100_1 rfl rfl ?_
      refine ov_getf (v := ov_r 109) d_289_101 fl_Mo_129 (zb_90 I) (zs_90 I) (congrArg ov_r (rg_90_36 I)) ?_
      refine ov_blk (ls2 := [(0, ov_r 90), (1, ov_i ln), (2, ov_i tm), (3, ov_i rn), (4, ov_i ((((ln * 1200) + tm) * 10) + rn))]) (st2 := [ov_i ((((ln * 1200) + tm) * 10) + rn), ov_r 109]) (pc2 := 106) b_289_104_1 rfl rfl ?_
      refine ov_iald d_289_106 (zb_109 I) (zs_109 I) (by omega) ?_
      exact ov_reti (st := []) d_289_107 rfl ⟨_, rfl, I, ⟨rfl, rfl, rfl, rfl, rfl, rfl, rfl, rfl, rfl, rfl, rfl, rfl, (by show (h 90 37) = (h 90 37) ∧ (h 109 ((((ln * 1200) + tm) * 10) + rn)) = (ov_bp (h 96) (h 100) so) ln tm rn ∧ 1 ≤ (h 109 ((((ln * 1200) + tm) * 10) + rn)) ∧ ((h 109 ((((ln * 1200) + tm) * 10) + rn)) = 2000000000 ∨ (h 109 ((((ln * 1200) + tm) * 10) + rn)) ≤ 1201 + 100000 * (13 - ln)); omega)⟩, rfl, rfl, rfl, rfl, rfl, rfl, rfl, rfl, rfl, rfl, rfl, rfl, rfl, PI⟩
    · skip
      refine ov_ldcw (n := 2000000000) d_289_38 kc_Mo_338 ?_
      refine ov_blk (ls2 := [(0, ov_r 90), (1, ov_i ln), (2, ov_i tm), (3, ov_i rn), (4, ov_i ((((ln * 1200) + tm) * 10) + rn)), (5, ov_i 2000000000)]) (st2 := [ov_r 90]) (pc2 := 44) b_289_41_2 rfl rfl ?_
      refine ov_cV (as := []) (st := []) (d2 := d - 1) d_289_44 lk_Mo_414 rfl (Nat.le_of_ble_eq_true rfl) (c := 1) (zb_90 I) (zs_90 I) ⟨by decide, rfl⟩ (by omega) (c_Mo_fastest_90_b (d - 1) (by omega) U I) ?_
      rintro _ _ _ ⟨v7, rfl, rfl, rfl, f6⟩
      show ov_R u d ov_m289 47 [(0, ov_r 90), (1, ov_i ln), (2, ov_i tm), (3, ov_i rn), (4, ov_i ((((ln * 1200) + tm) * 10) + rn)), (5, ov_i 2000000000)] [ov_i v7] z h (P_Mo_bestPace_90 F z h so ln tm rn)
      have f8 : v7 = ov_fst (h 96) ∧ 0 ≤ v7 ∧ v7 ≤ 30 := f6
      clear f6
      refine ov_blk (ls2 := [(0, ov_r 90), (1, ov_i ln), (2, ov_i tm), (3, ov_i rn), (4, ov_i ((((ln * 1200) + tm) * 10) + rn)), (5, ov_i 2000000000), (6, ov_i v7)]) (st2 := []) (pc2 := 49) b_289_47_1 rfl rfl ?_
      have m0 : ov_mn (ov_pq (h 96) (h 100) so (ov_bp (h 96) (h 100) so) ln tm rn) (ov_fst (h 96)) (Int.toNat (v7 - ov_fst (h 96))) = 2000000000 := by rw [show Int.toNat (v7 - ov_fst (h 96)) = 0 by omega]; rfl
      have fl := ov_fsl (h 96)
      have L12 : ∀ (n9 : Nat) (x5 : Int) (x6 : Int) (z13 : ov_Z) (h14 : ov_H) (I15 : ov_N F z13 h14) (E16 : h14 92 = h 92) (E17 : h14 93 = h 93) (E18 : h14 94 = h 94) (E19 : h14 95 = h 95) (E20 : h14 96 = h 96) (E21 : h14 97 = h 97) (E22 : h14 98 = h 98) (E23 : h14 99 = h 99) (E24 : h14 100 = h 100) (E25 : h14 103 = h 103) (E26 : h14 105 = h 105) (E27 : h14 106 = h 106) (E28 : h14 114 = h 114) (xm : ov_PI (h 96) (h 100) so (h14 109)) (q11 : ov_fst (h 96) ≤ x6 ∧ x6 ≤ ov_slw (h 96) + 1 ∧ 0 ≤ x6 ∧ x6 ≤ 31 ∧ 1 ≤ x5 ∧ (x5 = 2000000000 ∨ x5 ≤ 1201 + 100000 * (13 - ln)) ∧ x5 = ov_mn (ov_pq (h 96) (h 100) so (ov_bp (h 96) (h 100) so) ln tm rn) (ov_fst (h 96)) (Int.toNat (x6 - ov_fst (h 96))) ∧ (h14 90 37) = (h 90 37) ∧ (h14 90 2) = (h 90 2) ∧ (h14 90 7) = (h 90 7) ∧ (h14 90 8) = (h 90 8) ∧ (h14 90 13) = (h 90 13) ∧ (h14 90 20) = (h 90 20) ∧ (h14 90 22) = (h 90 22) ∧ (h14 90 25) = (h 90 25) ∧ (h14 90 26) = (h 90 26) ∧ (h14 90 28) = (h 90 28) ∧ (h14 90 29) = (h 90 29) ∧ (h14 90 30) = (h 90 30) ∧ (h14 90 34) = (h 90 34)), 31 - x6 < (n9 : Int) → ov_R u d ov_m289 49 [(0, ov_r 90), (1, ov_i ln), (2, ov_i tm), (3, ov_i rn), (4, ov_i ((((ln * 1200) + tm) * 10) + rn)), (5, ov_i x5), (6, ov_i x6)] [] z13 h14 (P_Mo_bestPace_90 F z h so ln tm rn) := by
        intro n9
        induction n9 with
        | zero =>
          intro x5 x6 z13 h14 I15 E16 E17 E18 E19 E20 E21 E22 E23 E24 E25 E26 E27 E28 xm q11 hn29
          exact absurd hn29 (by omega)
        | succ n9 ih10 =>
          intro x5 x6 z13 h14 I15 E16 E17 E18 E19 E20 E21 E22 E23 E24 E25 E26 E27 E28 xm q11 hn29
          refine ov_blk (ls2 := [(0, ov_r 90), (1, ov_i ln), (2, ov_i tm), (3, ov_i rn), (4, ov_i ((((ln * 1200) + tm) * 10) + rn)), (5, ov_i x5), (6, ov_i x6)]) (st2 := [ov_r 90, ov_i x6]) (pc2 := 52) b_289_49_2 rfl rfl ?_
          refine ov_cV (as := []) (st := [ov_i x6]) (d2 := d - 1) d_289_52 lk_Mo_417 rfl (Nat.le_of_ble_eq_true rfl) (c := 1) (zb_90 I15) (zs_90 I15) ⟨by decide, rfl⟩ (by omega) (c_Mo_slowest_90_b (d - 1) (by omega) U I15) ?_
          rintro _ _ _ ⟨v31, rfl, rfl, rfl, f30⟩
          show ov_R u d ov_m289 55 [(0, ov_r 90), (1, ov_i ln), (2, ov_i tm), (3, ov_i rn), (4, ov_i ((((ln * 1200) + tm) * 10) + rn)), (5, ov_i x5), (6, ov_i x6)] [ov_i v31, ov_i x6] z13 h14 (P_Mo_bestPace_90 F z h so ln tm rn)
          rw [show h14 96 = h 96 from E20] at f30
          have f32 : v31 = ov_slw (h 96) ∧ 0 ≤ v31 ∧ v31 ≤ 30 := f30
          clear f30
          refine ov_icgt (tgt := 91) d_289_55 (by decide) (by omega) (by omega) (fun c33 => ?_) (fun c33 => ?_)
          · skip
            have be : x5 = ov_bp (h 96) (h 100) so ln tm rn := by rw [ov_bp_eq (by omega), show Int.toNat (ov_slw (h 96) + 1 - ov_fst (h 96)) = Int.toNat (x6 - ov_fst (h 96)) by omega]; omega
            refine ov_blk (ls2 := [(0, ov_r 90), (1, ov_i ln), (2, ov_i tm), (3, ov_i rn), (4, ov_i ((((ln * 1200) + tm) * 10) + rn)), (5, ov_i x5), (6, ov_i x6)]) (st2 := [ov_r 90]) (pc2 := 92) b_289_91_1 rfl rfl ?_
            refine ov_getf (v := ov_r 109) d_289_92 fl_Mo_129 (zb_90 I15) (zs_90 I15) (congrArg ov_r (rg_90_36 I15)) ?_
            refine ov_blk (ls2 := [(0, ov_r 90), (1, ov_i ln), (2, ov_i tm), (3, ov_i rn), (4, ov_i ((((ln * 1200) + tm) * 10) + rn)), (5, ov_i x5), (6, ov_i x6)]) (st2 := [ov_i x5, ov_i ((((ln * 1200) + tm) * 10) + rn), ov_r 109]) (pc2 := 99) b_289_95_2 rfl rfl ?_
            refine ov_iast d_289_99 (zb_109 I15) (zs_109 I15) (by omega) ?_
            have I34 := ua_109 (k := ((((ln * 1200) + tm) * 10) + rn)) (x := x5) I15 (by omega)
            have mw := ov_PI_w (ln := ln) (tm := tm) (rn := rn) (v := x5) xm (by omega) (by omega) be
            have e5 : (ov_up h14 109 ((((ln * 1200) + tm) * 10) + rn) x5) 109 = ov_rs (h14 109) ((((ln * 1200) + tm) * 10) + rn) x5 := ov_up_row h14 109 ((((ln * 1200) + tm) * 10) + rn) x5
            have mi9 : ov_PI (h 96) (h 100) so ((ov_up h14 109 ((((ln * 1200) + tm) * 10) + rn) x5) 109) := by rw [e5]; exact mw
            have er : ((ov_up h14 109 ((((ln * 1200) + tm) * 10) + rn) x5) 109 ((((ln * 1200) + tm) * 10) + rn)) = x5 := by show (ov_up h14 109 ((((ln * 1200) + tm) * 10) + rn) x5) 109 ((((ln * 1200) + tm) * 10) + rn) = _; rw [ov_up_row, ov_rs_eq]
            refine ov_blk (ls2 := [(0, ov_r 90), (1, ov_i ln), (2, ov_i tm), (3, ov_i rn), (4, ov_i ((((ln * 1200) + tm) * 10) + rn)), (5, ov_i x5), (6, ov_i x6)]) (st2 := [ov_r 90]) (pc2 := 101) b_289_100_1 rfl rfl ?_
            refine ov_getf (v := ov_r 109) d_289_101 fl_Mo_129 (zb_90 I34) (zs_90 I34) (congrArg ov_r (rg_90_36 I34)) ?_
            refine ov_blk (ls2 := [(0, ov_r 90), (1, ov_i ln), (2, ov_i tm), (3, ov_i rn), (4, ov_i ((((ln * 1200) + tm) * 10) + rn)), (5, ov_i x5), (6, ov_i x6)]) (st2 := [ov_i ((((ln * 1200) + tm) * 10) + rn), ov_r 109]) (pc2 := 106) b_289_104_1 rfl rfl ?_
            refine ov_iald d_289_106 (zb_109 I34) (zs_109 I34) (by omega) ?_
            show ov_R u d ov_m289 107 [(0, ov_r 90), (1, ov_i ln), (2, ov_i tm), (3, ov_i rn), (4, ov_i ((((ln * 1200) + tm) * 10) + rn)), (5, ov_i x5), (6, ov_i x6)] [ov_i ((ov_up h14 109 ((((ln * 1200) + tm) * 10) + rn) x5) 109 ((((ln * 1200) + tm) * 10) + rn))] z13 (ov_up h14 109 ((((ln * 1200) + tm) * 10) + rn) x5) (P_Mo_bestPace_90 F z h so ln tm rn)
            exact ov_reti (st := []) d_289_107 rfl ⟨_, rfl, I34, (by show (h14 90 2) = (h 90 2) ∧ (h14 90 7) = (h 90 7) ∧ (h14 90 8) = (h 90 8) ∧ (h14 90 13) = (h 90 13) ∧ (h14 90 20) = (h 90 20) ∧ (h14 90 22) = (h 90 22) ∧ (h14 90 25) = (h 90 25) ∧ (h14 90 26) = (h 90 26) ∧ (h14 90 28) = (h 90 28) ∧ (h14 90 29) = (h 90 29) ∧ (h14 90 30) = (h 90 30) ∧ (h14 90 34) = (h 90 34) ∧ (h14 90 37) = (h 90 37) ∧ ((ov_up h14 109 ((((ln * 1200) + tm) * 10) + rn) x5) 109 ((((ln * 1200) + tm) * 10) + rn)) = (ov_bp (h 96) (h 100) so) ln tm rn ∧ 1 ≤ ((ov_up h14 109 ((((ln * 1200) + tm) * 10) + rn) x5) 109 ((((ln * 1200) + tm) * 10) + rn)) ∧ (((ov_up h14 109 ((((ln * 1200) + tm) * 10) + rn) x5) 109 ((((ln * 1200) + tm) * 10) + rn)) = 2000000000 ∨ ((ov_up h14 109 ((((ln * 1200) + tm) * 10) + rn) x5) 109 ((((ln * 1200) + tm) * 10) + rn)) ≤ 1201 + 100000 * (13 - ln)); omega), E16, E17, E18, E19, E20, E21, E22, E23, E24, E25, E26, E27, E28, mi9⟩
          · skip
            refine ov_blk (ls2 := [(0, ov_r 90), (1, ov_i ln), (2, ov_i tm), (3, ov_i rn), (4, ov_i ((((ln * 1200) + tm) * 10) + rn)), (5, ov_i x5), (6, ov_i x6)]) (st2 := [ov_i x6, ov_i rn, ov_i tm, ov_i ln, ov_r 90]) (pc2 := 64) b_289_58_5 rfl rfl ?_
            have cf35 : h14 100 (0) = h 100 (0) := congrFun E24 (0)
            refine ov_cV (as := [ov_i ln, ov_i tm, ov_i rn, ov_i x6]) (st := []) (d2 := d - 1) d_289_64 lk_Mo_420 rfl (Nat.le_of_ble_eq_true rfl) (c := 1) (zb_90 I15) (zs_90 I15) ⟨by decide, rfl⟩ (by omega) (c_Mo_paceBy_90 so k HV (d - 1) (by omega) U I15 ln tm rn x6 (by omega) (by omega) (by omega) (by omega) (by show 0 ≤ ln ∧ ln + (k : Int) = (h14 100 0); omega) (by show ln < (h14 100 0); omega) (by omega) (by omega) (by omega) (by show (h14 90 37) = so; omega) (by rw [show h14 96 = h 96 from E20]; exact W) (by rw [show h14 100 = h 100 from E24]; exact W2) (by rw [show h14 96 = h 96 from E20, show h14 100 = h 100 from E24]; exact xm)) ?_
            rintro _ z52 h53 ⟨v37, rfl, I54, f36, e38, e39, e40, e41, e42, e43, e44, e45, e46, e47, e48, e49, e50, y51⟩
            have E55 : h53 92 = h 92 := Eq.trans e38 E16
            have E56 : h53 93 = h 93 := Eq.trans e39 E17
            have E57 : h53 94 = h 94 := Eq.trans e40 E18
            have E58 : h53 95 = h 95 := Eq.trans e41 E19
            have E59 : h53 96 = h 96 := Eq.trans e42 E20
            have E60 : h53 97 = h 97 := Eq.trans e43 E21
            have E61 : h53 98 = h 98 := Eq.trans e44 E22
            have E62 : h53 99 = h 99 := Eq.trans e45 E23
            have E63 : h53 100 = h 100 := Eq.trans e46 E24
            have E64 : h53 103 = h 103 := Eq.trans e47 E25
            have E65 : h53 105 = h 105 := Eq.trans e48 E26
            have E66 : h53 106 = h 106 := Eq.trans e49 E27
            have E67 : h53 114 = h 114 := Eq.trans e50 E28
            show ov_R u d ov_m289 67 [(0, ov_r 90), (1, ov_i ln), (2, ov_i tm), (3, ov_i rn), (4, ov_i ((((ln * 1200) + tm) * 10) + rn)), (5, ov_i x5), (6, ov_i x6)] [ov_i v37] z52 h53 (P_Mo_bestPace_90 F z h so ln tm rn)
            rw [show h14 100 = h 100 from E24] at f36
            rw [show h14 96 = h 96 from E20] at f36
            have f68 : (h53 90 2) = (h14 90 2) ∧ (h53 90 7) = (h14 90 7) ∧ (h53 90 8) = (h14 90 8) ∧ (h53 90 13) = (h14 90 13) ∧ (h53 90 20) = (h14 90 20) ∧ (h53 90 22) = (h14 90 22) ∧ (h53 90 25) = (h14 90 25) ∧ (h53 90 26) = (h14 90 26) ∧ (h53 90 28) = (h14 90 28) ∧ (h53 90 29) = (h14 90 29) ∧ (h53 90 30) = (h14 90 30) ∧ (h53 90 34) = (h14 90 34) ∧ (h53 90 37) = (h14 90 37) ∧ v37 = (ov_pq (h 96) (h 100) so (ov_bp (h 96) (h 100) so) ln tm rn) x6 ∧ 1 ≤ v37 ∧ (v37 = 2000000000 ∨ v37 ≤ 1201 + 100000 * (13 - ln)) := f36
            clear f36
            rw [show h14 100 = h 100 from E24] at y51
            rw [show h14 96 = h 96 from E20] at y51
            have y51_ : ov_PI (h 96) (h 100) so (h53 109) := y51
            have ms : (ov_pq (h 96) (h 100) so (ov_bp (h 96) (h 100) so) ln tm rn x6 < ov_mn (ov_pq (h 96) (h 100) so (ov_bp (h 96) (h 100) so) ln tm rn) (ov_fst (h 96)) (Int.toNat (x6 - ov_fst (h 96))) → ov_mn (ov_pq (h 96) (h 100) so (ov_bp (h 96) (h 100) so) ln tm rn) (ov_fst (h 96)) (Int.toNat (x6 + 1 - ov_fst (h 96))) = ov_pq (h 96) (h 100) so (ov_bp (h 96) (h 100) so) ln tm rn x6) ∧ (¬ ov_pq (h 96) (h 100) so (ov_bp (h 96) (h 100) so) ln tm rn x6 < ov_mn (ov_pq (h 96) (h 100) so (ov_bp (h 96) (h 100) so) ln tm rn) (ov_fst (h 96)) (Int.toNat (x6 - ov_fst (h 96))) → ov_mn (ov_pq (h 96) (h 100) so (ov_bp (h 96) (h 100) so) ln tm rn) (ov_fst (h 96)) (Int.toNat (x6 + 1 - ov_fst (h 96))) = ov_mn (ov_pq (h 96) (h 100) so (ov_bp (h 96) (h 100) so) ln tm rn) (ov_fst (h 96)) (Int.toNat (x6 - ov_fst (h 96)))) := ov_mn_s (by omega)
            refine ov_blk (ls2 := [(0, ov_r 90), (1, ov_i ln), (2, ov_i tm), (3, ov_i rn), (4, ov_i ((((ln * 1200) + tm) * 10) + rn)), (5, ov_i x5), (6, ov_i x6), (7, ov_i v37)]) (st2 := [ov_i x5, ov_i v37]) (pc2 := 73) b_289_67_3 rfl rfl ?_
            refine ov_icge (tgt := 81) d_289_73 (by decide) (by omega) (by omega) (fun c69 => ?_) (fun c69 => ?_)
            · skip
              refine ov_blk (ls2 := [(0, ov_r 90), (1, ov_i ln), (2, ov_i tm), (3, ov_i rn), (4, ov_i ((((ln * 1200) + tm) * 10) + rn)), (5, ov_i x5), (6, ov_i (x6 + 1)), (7, ov_i v37)]) (st2 := []) (pc2 := 88) b_289_81_3 rfl rfl ?_
              refine ov_goto (tgt := 49) d_289_88 (by decide) ?_
              refine ov_sub (ls2 := [(0, ov_r 90), (1, ov_i ln), (2, ov_i tm), (3, ov_i rn), (4, ov_i ((((ln * 1200) + tm) * 10) + rn)), (5, ov_i x5), (6, ov_i (x6 + 1))]) (List.Sublist.subset (by repeat (first | exact List.Sublist.refl _ | apply List.Sublist.cons_cons | apply List.Sublist.cons))) ?_
              exact ih10 x5 (x6 + 1) _ _ I54 E55 E56 E57 E58 E59 E60 E61 E62 E63 E64 E65 E66 E67 y51_ (by show ov_fst (h 96) ≤ (x6 + 1) ∧ (x6 + 1) ≤ ov_slw (h 96) + 1 ∧ 0 ≤ (x6 + 1) ∧ (x6 + 1) ≤ 31 ∧ 1 ≤ x5 ∧ (x5 = 2000000000 ∨ x5 ≤ 1201 + 100000 * (13 - ln)) ∧ x5 = ov_mn (ov_pq (h 96) (h 100) so (ov_bp (h 96) (h 100) so) ln tm rn) (ov_fst (h 96)) (Int.toNat ((x6 + 1) - ov_fst (h 96))) ∧ (h53 90 37) = (h 90 37) ∧ (h53 90 2) = (h 90 2) ∧ (h53 90 7) = (h 90 7) ∧ (h53 90 8) = (h 90 8) ∧ (h53 90 13) = (h 90 13) ∧ (h53 90 20) = (h 90 20) ∧ (h53 90 22) = (h 90 22) ∧ (h53 90 25) = (h 90 25) ∧ (h53 90 26) = (h 90 26) ∧ (h53 90 28) = (h 90 28) ∧ (h53 90 29) = (h 90 29) ∧ (h53 90 30) = (h 90 30) ∧ (h53 90 34) = (h 90 34); omega) (by omega)
            · skip
              refine ov_blk (ls2 := [(0, ov_r 90), (1, ov_i ln), (2, ov_i tm), (3, ov_i rn), (4, ov_i ((((ln * 1200) + tm) * 10) + rn)), (5, ov_i x5), (6, ov_i x6), (7, ov_i v37)]) (st2 := [ov_i v37]) (pc2 := 78) b_289_76_1 rfl rfl ?_
              refine ov_goto (tgt := 83) d_289_78 (by decide) ?_
              refine ov_blk (ls2 := [(0, ov_r 90), (1, ov_i ln), (2, ov_i tm), (3, ov_i rn), (4, ov_i ((((ln * 1200) + tm) * 10) + rn)), (5, ov_i v37), (6, ov_i (x6 + 1)), (7, ov_i v37)]) (st2 := []) (pc2 := 88) b_289_83_2 rfl rfl ?_
              refine ov_goto (tgt := 49) d_289_88 (by decide) ?_
              refine ov_sub (ls2 := [(0, ov_r 90), (1, ov_i ln), (2, ov_i tm), (3, ov_i rn), (4, ov_i ((((ln * 1200) + tm) * 10) + rn)), (5, ov_i v37), (6, ov_i (x6 + 1))]) (List.Sublist.subset (by repeat (first | exact List.Sublist.refl _ | apply List.Sublist.cons_cons | apply List.Sublist.cons))) ?_
              exact ih10 v37 (x6 + 1) _ _ I54 E55 E56 E57 E58 E59 E60 E61 E62 E63 E64 E65 E66 E67 y51_ (by show ov_fst (h 96) ≤ (x6 + 1) ∧ (x6 + 1) ≤ ov_slw (h 96) + 1 ∧ 0 ≤ (x6 + 1) ∧ (x6 + 1) ≤ 31 ∧ 1 ≤ v37 ∧ (v37 = 2000000000 ∨ v37 ≤ 1201 + 100000 * (13 - ln)) ∧ v37 = ov_mn (ov_pq (h 96) (h 100) so (ov_bp (h 96) (h 100) so) ln tm rn) (ov_fst (h 96)) (Int.toNat ((x6 + 1) - ov_fst (h 96))) ∧ (h53 90 37) = (h 90 37) ∧ (h53 90 2) = (h 90 2) ∧ (h53 90 7) = (h 90 7) ∧ (h53 90 8) = (h 90 8) ∧ (h53 90 13) = (h 90 13) ∧ (h53 90 20) = (h 90 20) ∧ (h53 90 22) = (h 90 22) ∧ (h53 90 25) = (h 90 25) ∧ (h53 90 26) = (h 90 26) ∧ (h53 90 28) = (h 90 28) ∧ (h53 90 29) = (h 90 29) ∧ (h53 90 30) = (h 90 30) ∧ (h53 90 34) = (h 90 34); omega) (by omega)
      exact L12 32 2000000000 v7 _ _ I rfl rfl rfl rfl rfl rfl rfl rfl rfl rfl rfl rfl rfl PI (by show ov_fst (h 96) ≤ v7 ∧ v7 ≤ ov_slw (h 96) + 1 ∧ 0 ≤ v7 ∧ v7 ≤ 31 ∧ 1 ≤ 2000000000 ∧ (2000000000 = 2000000000 ∨ 2000000000 ≤ 1201 + 100000 * (13 - ln)) ∧ 2000000000 = ov_mn (ov_pq (h 96) (h 100) so (ov_bp (h 96) (h 100) so) ln tm rn) (ov_fst (h 96)) (Int.toNat (v7 - ov_fst (h 96))) ∧ (h 90 37) = (h 90 37) ∧ (h 90 2) = (h 90 2) ∧ (h 90 7) = (h 90 7) ∧ (h 90 8) = (h 90 8) ∧ (h 90 13) = (h 90 13) ∧ (h 90 20) = (h 90 20) ∧ (h 90 22) = (h 90 22) ∧ (h 90 25) = (h 90 25) ∧ (h 90 26) = (h 90 26) ∧ (h 90 28) = (h 90 28) ∧ (h 90 29) = (h 90 29) ∧ (h 90 30) = (h 90 30) ∧ (h 90 34) = (h 90 34); omega) (by omega)
  · skip
    refine ov_blk (ls2 := [(0, ov_r 90), (1, ov_i ln), (2, ov_i tm), (3, ov_i rn)]) (st2 := [ov_i (1 + tm)]) (pc2 := 13) b_289_10_3 rfl rfl ?_
    have e9 : ov_bp (h 96) (h 100) so ln tm rn = 1 + tm := ov_bp_end (by omega)
    exact ov_reti (st := []) d_289_13 rfl ⟨_, rfl, I, ⟨rfl, rfl, rfl, rfl, rfl, rfl, rfl, rfl, rfl, rfl, rfl, rfl, (by show (h 90 37) = (h 90 37) ∧ (1 + tm) = (ov_bp (h 96) (h 100) so) ln tm rn ∧ 1 ≤ (1 + tm) ∧ ((1 + tm) = 2000000000 ∨ (1 + tm) ≤ 1201 + 100000 * (13 - ln)); omega)⟩, rfl, rfl, rfl, rfl, rfl, rfl, rfl, rfl, rfl, rfl, rfl, rfl, rfl, PI⟩
theorem c_Mo_bestPace_90_all {u : ov_U} {F : ov_H × ov_Z} (so : Int) (k : Nat) : ∀ {z : ov_Z} {h : ov_H} (d : Nat) (hd : (10 + 2 * k + 1) ≤ d) (U : ov_cap u) (I : ov_N F z h) (ln : Int) (tm : Int) (rn : Int) (g_ln : ov_g ln) (g_tm : ov_g tm) (g_rn : ov_g rn) (p0 : 0 ≤ ln ∧ ln + (k : Int) = (h 100 0)) (p1 : 0 ≤ tm ∧ tm + 89 * (k : Int) ≤ 1157) (p2 : 0 ≤ rn ∧ rn ≤ 9) (p3 : (h 90 37) = so) (W : ov_WT (h 96)) (W2 : ov_WK (h 100)) (PI : ov_PI (h 96) (h 100) so (h 109)), ov_T u d ov_m289 [ov_r 90, ov_i ln, ov_i tm, ov_i rn] z h (P_Mo_bestPace_90 F z h so ln tm rn) := by
  induction k using Nat.strongRecOn with
  | ind k ih => exact fun {z} {h} => @c_Mo_bestPace_90 u F so k (fun k' hk => @ih k' hk) z h
theorem c_Mo_paceBy_90_all {u : ov_U} {F : ov_H × ov_Z} (so : Int) (k : Nat) : ∀ {z : ov_Z} {h : ov_H} (d : Nat) (hd : (10 + 2 * k + 0) ≤ d) (U : ov_cap u) (I : ov_N F z h) (ln : Int) (tm : Int) (rn : Int) (s : Int) (g_ln : ov_g ln) (g_tm : ov_g tm) (g_rn : ov_g rn) (g_s : ov_g s) (p0 : 0 ≤ ln ∧ ln + (k : Int) = (h 100 0)) (p1 : ln < (h 100 0)) (p2 : 0 ≤ tm ∧ tm + 89 * (k : Int) ≤ 1157) (p3 : 0 ≤ rn ∧ rn ≤ 9) (p4 : 0 ≤ s ∧ s ≤ 30) (p5 : (h 90 37) = so) (W : ov_WT (h 96)) (W2 : ov_WK (h 100)) (PI : ov_PI (h 96) (h 100) so (h 109)), ov_T u d ov_m293 [ov_r 90, ov_i ln, ov_i tm, ov_i rn, ov_i s] z h (P_Mo_paceBy_90 F z h so ln tm rn s) := fun {z} {h} => @c_Mo_paceBy_90 u F so k (fun k' _ => @c_Mo_bestPace_90_all u F so k') z h
theorem ov_slw_b {F : ov_H × ov_Z} {z : ov_Z} {h : ov_H} (I : ov_N F z h) : ov_slw (h 96) ≤ 30 := by
  have a := t96_2 I
  have b := t96_3 I
  have c := t96_4 I
  unfold ov_slw ov_rt ov_slt
  (repeat' split) <;> omega
abbrev P_Mo_pace_90 (F : ov_H × ov_Z) (z : ov_Z) (h : ov_H) (s : Int) (m : Int) : Option ov_V → ov_Z → ov_H → Prop := fun r0 z' h' => ∃ r : Int, r0 = some (ov_i r) ∧ ov_N F z' h' ∧ ((h' 90 2) = (h 90 2) ∧ (h' 90 7) = (h 90 7) ∧ (h' 90 8) = (h 90 8) ∧ (h' 90 13) = (h 90 13) ∧ (h' 90 20) = (h 90 20) ∧ (h' 90 22) = (h 90 22) ∧ (h' 90 25) = (h 90 25) ∧ (h' 90 26) = (h 90 26) ∧ (h' 90 28) = (h 90 28) ∧ (h' 90 29) = (h 90 29) ∧ (h' 90 30) = (h 90 30) ∧ (h' 90 34) = (h 90 34) ∧ -2147483648 ≤ r ∧ r ≤ 2147483647) ∧ h' 92 = h 92 ∧ h' 93 = h 93 ∧ h' 94 = h 94 ∧ h' 95 = h 95 ∧ h' 96 = h 96 ∧ h' 97 = h 97 ∧ h' 98 = h 98 ∧ h' 99 = h 99 ∧ h' 100 = h 100 ∧ h' 103 = h 103 ∧ h' 105 = h 105 ∧ h' 106 = h 106 ∧ h' 114 = h 114
set_option maxHeartbeats 4000000 in
theorem c_Mo_pace_90 {u : ov_U} {F : ov_H × ov_Z} {z : ov_Z} {h : ov_H} (d : Nat) (hd : 60 ≤ d) (U : ov_cap u) (I : ov_N F z h) (s : Int) (m : Int) (g_s : ov_g s) (g_m : ov_g m) (W : ov_WT (h 96)) (W2 : ov_WK (h 100)) : ov_T u d ov_m288 [ov_r 90, ov_i s, ov_i m] z h (P_Mo_pace_90 F z h s m) := by
  refine ov_en rfl (Nat.le_of_ble_eq_true rfl) ?_
  show ov_R u d ov_m288 0 [(0, ov_r 90), (1, ov_i s), (2, ov_i m)] [] z h (P_Mo_pace_90 F z h s m)
  have t0 := t96_0 I
  have t1 := t96_1 I
  have wk : ∀ j : Int, 0 ≤ j → j ≤ 12 → 0 ≤ h 100 (1 + 2 * j) ∧ h 100 (1 + 2 * j) ≤ 1 := fun j h1 h2 => s100_w I ⟨h1, h2⟩
  have wz := s100_0 I
  refine ov_blk (ls2 := [(0, ov_r 90), (1, ov_i s), (2, ov_i m)]) (st2 := [ov_i 0, ov_r 90]) (pc2 := 2) b_288_0_2 rfl rfl ?_
  refine ov_putf (x := 0) d_288_2 fl_Mo_1 (zb_90 I) (zs_90 I) rfl nk_0 rfl ?_
  have I1 := up_90_0 (x := 0) I (by omega)
  refine ov_blk (ls2 := [(0, ov_r 90), (1, ov_i s), (2, ov_i m)]) (st2 := [ov_i s, ov_r 90]) (pc2 := 7) b_288_5_2 rfl rfl ?_
  refine ov_cV (as := [ov_i s]) (st := []) (d2 := d - 1) d_288_7 lk_Mo_306 rfl (Nat.le_of_ble_eq_true rfl) (c := 1) (zb_90 I1) (zs_90 I1) ⟨by decide, rfl⟩ (by omega) (c_Mo_isSecond_90 (d - 1) (by omega) U I1 s (by omega)) ?_
  rintro _ _ _ ⟨v3, rfl, rfl, rfl, f2⟩
  show ov_R u d ov_m288 10 [(0, ov_r 90), (1, ov_i s), (2, ov_i m)] [ov_i v3] z (ov_up h 90 0 0) (P_Mo_pace_90 F z h s m)
  have f4 : (v3 = 0 ∨ v3 = 1) ∧ (v3 = 1 → 0 ≤ s ∧ s ≤ 1000000) := f2
  clear f2
  refine ov_ifeq (tgt := 38) d_288_10 (by decide) (by omega) (fun c5 => ?_) (fun c5 => ?_)
  · skip
    have f4_ : v3 = 0 := by omega
    clear f4
    refine ov_blk (ls2 := [(0, ov_r 90), (1, ov_i s), (2, ov_i m)]) (st2 := [ov_i (-1)]) (pc2 := 39) b_288_38_1 rfl rfl ?_
    exact ov_reti (st := []) d_288_39 rfl ⟨_, rfl, I1, ⟨rfl, rfl, rfl, rfl, rfl, rfl, rfl, rfl, rfl, rfl, rfl, rfl, (by show -2147483648 ≤ (-1) ∧ (-1) ≤ 2147483647; omega)⟩, rfl, rfl, rfl, rfl, rfl, rfl, rfl, rfl, rfl, rfl, rfl, rfl, rfl⟩
  · skip
    have f4_ : v3 = 1 := by omega
    have f6 : 0 ≤ s ∧ s ≤ 1000000 := f4.2 (by omega)
    clear f4
    refine ov_blk (ls2 := [(0, ov_r 90), (1, ov_i s), (2, ov_i m)]) (st2 := [ov_r 90, ov_i 1, ov_i 0, ov_i m]) (pc2 := 17) b_288_13_4 rfl rfl ?_
    refine ov_getf (v := ov_r 100) d_288_17 fl_Mo_93 (zb_90 I1) (zs_90 I1) (congrArg ov_r (rg_90_16 I1)) ?_
    refine ov_blk (ls2 := [(0, ov_r 90), (1, ov_i s), (2, ov_i m)]) (st2 := [ov_i 0, ov_r 100, ov_i 1, ov_i 0, ov_i m]) (pc2 := 21) b_288_20_1 rfl rfl ?_
    refine ov_iald d_288_21 (zb_100 I1) (zs_100 I1) (by omega) ?_
    show ov_R u d ov_m288 22 [(0, ov_r 90), (1, ov_i s), (2, ov_i m)] [ov_i (h 100 0), ov_i 1, ov_i 0, ov_i m] z (ov_up h 90 0 0) (P_Mo_pace_90 F z h s m)
    have g7 := s100_0 I
    refine ov_blk (ls2 := [(0, ov_r 90), (1, ov_i s), (2, ov_i m)]) (st2 := [ov_i (1 + (h 100 0)), ov_i 0, ov_i m]) (pc2 := 23) b_288_22_1 rfl rfl ?_
    refine ov_cS (as := [ov_i m, ov_i 0, ov_i (1 + (h 100 0))]) (st := []) (d2 := d - 1) d_288_23 lk_Mo_299 rfl (Nat.le_of_ble_eq_true rfl) (by omega) (c_Mo_within (d - 1) (by omega) U I1 m 0 (1 + (h 100 0)) (by omega) (by omega) (by omega)) ?_
    rintro _ _ _ ⟨v9, rfl, rfl, rfl, f8⟩
    show ov_R u d ov_m288 26 [(0, ov_r 90), (1, ov_i s), (2, ov_i m)] [ov_i v9] z (ov_up h 90 0 0) (P_Mo_pace_90 F z h s m)
    have f10 : (v9 = 0 ∨ v9 = 1) ∧ (v9 = 1 → (0 : Int) ≤ m ∧ m ≤ (1 + (h 100 0))) ∧ (v9 = 0 → m < (0 : Int) ∨ (1 + (h 100 0)) < m) := f8
    clear f8
    refine ov_ifeq (tgt := 38) d_288_26 (by decide) (by omega) (fun c11 => ?_) (fun c11 => ?_)
    · skip
      have f10_ : v9 = 0 := by omega
      have f12 : m < (0 : Int) ∨ (1 + (h 100 0)) < m := f10.2.2 (by omega)
      clear f10
      refine ov_blk (ls2 := [(0, ov_r 90), (1, ov_i s), (2, ov_i m)]) (st2 := [ov_i (-1)]) (pc2 := 39) b_288_38_1 rfl rfl ?_
      exact ov_reti (st := []) d_288_39 rfl ⟨_, rfl, I1, ⟨rfl, rfl, rfl, rfl, rfl, rfl, rfl, rfl, rfl, rfl, rfl, rfl, (by show -2147483648 ≤ (-1) ∧ (-1) ≤ 2147483647; omega)⟩, rfl, rfl, rfl, rfl, rfl, rfl, rfl, rfl, rfl, rfl, rfl, rfl, rfl⟩
    · skip
      have f10_ : v9 = 1 := by omega
      have f13 : (0 : Int) ≤ m ∧ m ≤ (1 + (h 100 0)) := f10.2.1 (by omega)
      clear f10
      refine ov_blk (ls2 := [(0, ov_r 90), (1, ov_i s), (2, ov_i m)]) (st2 := [ov_r 90]) (pc2 := 30) b_288_29_1 rfl rfl ?_
      refine ov_getf (v := ov_r 100) d_288_30 fl_Mo_93 (zb_90 I1) (zs_90 I1) (congrArg ov_r (rg_90_16 I1)) ?_
      refine ov_blk (ls2 := [(0, ov_r 90), (1, ov_i s), (2, ov_i m)]) (st2 := [ov_i 0, ov_r 100]) (pc2 := 34) b_288_33_1 rfl rfl ?_
      refine ov_iald d_288_34 (zb_100 I1) (zs_100 I1) (by omega) ?_
      show ov_R u d ov_m288 35 [(0, ov_r 90), (1, ov_i s), (2, ov_i m)] [ov_i (h 100 0)] z (ov_up h 90 0 0) (P_Mo_pace_90 F z h s m)
      refine ov_ifne (tgt := 40) d_288_35 (by decide) (by omega) (fun c15 => ?_) (fun c15 => ?_)
      · skip
        refine ov_blk (ls2 := [(0, ov_r 90), (1, ov_i s), (2, ov_i m), (3, ov_i 0)]) (st2 := []) (pc2 := 42) b_288_40_2 rfl rfl ?_
        have L19 : ∀ (n16 : Nat) (x3 : Int) (z20 : ov_Z) (h21 : ov_H) (I22 : ov_N F z20 h21) (E23 : h21 92 = h 92) (E24 : h21 93 = h 93) (E25 : h21 94 = h 94) (E26 : h21 95 = h 95) (E27 : h21 96 = h 96) (E28 : h21 97 = h 97) (E29 : h21 98 = h 98) (E30 : h21 99 = h 99) (E31 : h21 100 = h 100) (E32 : h21 103 = h 103) (E33 : h21 105 = h 105) (E34 : h21 106 = h 106) (E35 : h21 114 = h 114) (xz : ∀ j : Int, 0 ≤ j → j < x3 → (h21 109) j = 0) (q18 : 0 ≤ x3 ∧ x3 ≤ 156000 ∧ (h21 90 2) = (h 90 2) ∧ (h21 90 7) = (h 90 7) ∧ (h21 90 8) = (h 90 8) ∧ (h21 90 13) = (h 90 13) ∧ (h21 90 20) = (h 90 20) ∧ (h21 90 22) = (h 90 22) ∧ (h21 90 25) = (h 90 25) ∧ (h21 90 26) = (h 90 26) ∧ (h21 90 28) = (h 90 28) ∧ (h21 90 29) = (h 90 29) ∧ (h21 90 30) = (h 90 30) ∧ (h21 90 34) = (h 90 34)), 156000 - x3 < (n16 : Int) → ov_R u d ov_m288 42 [(0, ov_r 90), (1, ov_i s), (2, ov_i m), (3, ov_i x3)] [] z20 h21 (P_Mo_pace_90 F z h s m) := by
          intro n16
          induction n16 with
          | zero =>
            intro x3 z20 h21 I22 E23 E24 E25 E26 E27 E28 E29 E30 E31 E32 E33 E34 E35 xz q18 hn36
            exact absurd hn36 (by omega)
          | succ n16 ih17 =>
            intro x3 z20 h21 I22 E23 E24 E25 E26 E27 E28 E29 E30 E31 E32 E33 E34 E35 xz q18 hn36
            refine ov_blk (ls2 := [(0, ov_r 90), (1, ov_i s), (2, ov_i m), (3, ov_i x3)]) (st2 := [ov_i x3]) (pc2 := 43) b_288_42_1 rfl rfl ?_
            refine ov_ldc (n := 156000) d_288_43 kc_Mo_128 ?_
            refine ov_icge (tgt := 61) d_288_45 (by decide) (by omega) (by omega) (fun c37 => ?_) (fun c37 => ?_)
            · skip
              refine ov_blk (ls2 := [(0, ov_r 90), (1, ov_i s), (2, ov_i m), (3, ov_i x3)]) (st2 := [ov_i s, ov_r 90]) (pc2 := 63) b_288_61_2 rfl rfl ?_
              refine ov_putf (x := s) d_288_63 fl_Mo_426 (zb_90 I22) (zs_90 I22) rfl nk_0 rfl ?_
              have I38 := up_90_37 (x := s) I22 (by omega)
              have pi0 : ov_PI (h 96) (h 100) s (h21 109) := ov_PI_0 (by omega) (fun j a b => xz j a (by omega))
              refine ov_blk (ls2 := [(0, ov_r 90), (1, ov_i s), (2, ov_i m), (3, ov_i x3)]) (st2 := [ov_r 90]) (pc2 := 67) b_288_66_1 rfl rfl ?_
              refine ov_getf (v := ov_r 96) d_288_67 fl_Mo_81 (zb_90 I38) (zs_90 I38) (congrArg ov_r (rg_90_10 I38)) ?_
              refine ov_blk (ls2 := [(0, ov_r 90), (1, ov_i s), (2, ov_i m), (3, ov_i x3)]) (st2 := [ov_i 6, ov_r 96]) (pc2 := 72) b_288_70_1 rfl rfl ?_
              refine ov_iald d_288_72 (zb_96 I38) (zs_96 I38) (by omega) ?_
              show ov_R u d ov_m288 73 [(0, ov_r 90), (1, ov_i s), (2, ov_i m), (3, ov_i x3)] [ov_i ((ov_up h21 90 37 s) 96 6)] z20 (ov_up h21 90 37 s) (P_Mo_pace_90 F z h s m)
              rw [show (ov_up h21 90 37 s) 96 = h 96 from E27]
              have g39 := t96_6 I
              refine ov_blk (ls2 := [(0, ov_r 90), (1, ov_i s), (2, ov_i m), (3, ov_i x3)]) (st2 := [ov_i 1, ov_i (h 96 6)]) (pc2 := 74) b_288_73_1 rfl rfl ?_
              refine ov_icne (tgt := 81) d_288_74 (by decide) (by omega) (by omega) (fun c40 => ?_) (fun c40 => ?_)
              · skip
                refine ov_blk (ls2 := [(0, ov_r 90), (1, ov_i s), (2, ov_i m), (3, ov_i x3)]) (st2 := [ov_r 90]) (pc2 := 82) b_288_81_1 rfl rfl ?_
                refine ov_getf (v := ov_r 96) d_288_82 fl_Mo_81 (zb_90 I38) (zs_90 I38) (congrArg ov_r (rg_90_10 I38)) ?_
                refine ov_blk (ls2 := [(0, ov_r 90), (1, ov_i s), (2, ov_i m), (3, ov_i x3)]) (st2 := [ov_i 5, ov_r 96]) (pc2 := 86) b_288_85_1 rfl rfl ?_
                refine ov_iald d_288_86 (zb_96 I38) (zs_96 I38) (by omega) ?_
                show ov_R u d ov_m288 87 [(0, ov_r 90), (1, ov_i s), (2, ov_i m), (3, ov_i x3)] [ov_i ((ov_up h21 90 37 s) 96 5)] z20 (ov_up h21 90 37 s) (P_Mo_pace_90 F z h s m)
                rw [show (ov_up h21 90 37 s) 96 = h 96 from E27]
                have g41 := t96_5 I
                refine ov_blk (ls2 := [(0, ov_r 90), (1, ov_i s), (2, ov_i m), (3, ov_i (h 96 5))]) (st2 := [ov_i (h 96 5), ov_i 0, ov_i 0, ov_r 90]) (pc2 := 92) b_288_87_5 rfl rfl ?_
                have cf42 : h21 100 (0) = h 100 (0) := congrFun E31 (0)
                refine ov_cV (as := [ov_i 0, ov_i 0, ov_i (h 96 5)]) (st := []) (d2 := d - 1) d_288_92 lk_Mo_429 rfl (Nat.le_of_ble_eq_true rfl) (c := 1) (zb_90 I38) (zs_90 I38) ⟨by decide, rfl⟩ (by omega) (c_Mo_bestPace_90_all s (Int.toNat (h 100 0 - (0))) (d - 1) (by omega) U I38 0 0 (h 96 5) (by omega) (by omega) (by omega) (by show 0 ≤ (0 : Int) ∧ (0 : Int) + ((Int.toNat (h 100 0 - (0)) : Nat) : Int) = (h21 100 0); omega) (by omega) (by omega) (by show s = s; omega) (by rw [show (ov_up h21 90 37 s) 96 = h 96 from E27]; exact W) (by rw [show (ov_up h21 90 37 s) 100 = h 100 from E31]; exact W2) (by rw [show (ov_up h21 90 37 s) 96 = h 96 from E27, show (ov_up h21 90 37 s) 100 = h 100 from E31]; exact pi0)) ?_
                rintro _ z59 h60 ⟨v44, rfl, I61, f43, e45, e46, e47, e48, e49, e50, e51, e52, e53, e54, e55, e56, e57, y58⟩
                have E62 : h60 92 = h 92 := Eq.trans e45 E23
                have E63 : h60 93 = h 93 := Eq.trans e46 E24
                have E64 : h60 94 = h 94 := Eq.trans e47 E25
                have E65 : h60 95 = h 95 := Eq.trans e48 E26
                have E66 : h60 96 = h 96 := Eq.trans e49 E27
                have E67 : h60 97 = h 97 := Eq.trans e50 E28
                have E68 : h60 98 = h 98 := Eq.trans e51 E29
                have E69 : h60 99 = h 99 := Eq.trans e52 E30
                have E70 : h60 100 = h 100 := Eq.trans e53 E31
                have E71 : h60 103 = h 103 := Eq.trans e54 E32
                have E72 : h60 105 = h 105 := Eq.trans e55 E33
                have E73 : h60 106 = h 106 := Eq.trans e56 E34
                have E74 : h60 114 = h 114 := Eq.trans e57 E35
                show ov_R u d ov_m288 95 [(0, ov_r 90), (1, ov_i s), (2, ov_i m), (3, ov_i (h 96 5))] [ov_i v44] z59 h60 (P_Mo_pace_90 F z h s m)
                rw [show (ov_up h21 90 37 s) 100 = h 100 from E31] at f43
                rw [show (ov_up h21 90 37 s) 96 = h 96 from E27] at f43
                have f75 : (h60 90 2) = (h21 90 2) ∧ (h60 90 7) = (h21 90 7) ∧ (h60 90 8) = (h21 90 8) ∧ (h60 90 13) = (h21 90 13) ∧ (h60 90 20) = (h21 90 20) ∧ (h60 90 22) = (h21 90 22) ∧ (h60 90 25) = (h21 90 25) ∧ (h60 90 26) = (h21 90 26) ∧ (h60 90 28) = (h21 90 28) ∧ (h60 90 29) = (h21 90 29) ∧ (h60 90 30) = (h21 90 30) ∧ (h60 90 34) = (h21 90 34) ∧ (h60 90 37) = s ∧ v44 = (ov_bp (h 96) (h 100) s) (0 : Int) (0 : Int) (h 96 5) ∧ 1 ≤ v44 ∧ (v44 = 2000000000 ∨ v44 ≤ 1201 + 100000 * (13 - (0 : Int))) := f43
                clear f43
                rw [show (ov_up h21 90 37 s) 100 = h 100 from E31] at y58
                rw [show (ov_up h21 90 37 s) 96 = h 96 from E27] at y58
                have y58_ : ov_PI (h 96) (h 100) s (h60 109) := y58
                refine ov_blk (ls2 := [(0, ov_r 90), (1, ov_i s), (2, ov_i m), (3, ov_i (h 96 5)), (4, ov_i v44)]) (st2 := [ov_i v44]) (pc2 := 99) b_288_95_2 rfl rfl ?_
                refine ov_ldcw (n := 2000000000) d_288_99 kc_Mo_338 ?_
                refine ov_iceq (tgt := 110) d_288_102 (by decide) (by omega) (by omega) (fun c76 => ?_) (fun c76 => ?_)
                · skip
                  refine ov_blk (ls2 := [(0, ov_r 90), (1, ov_i s), (2, ov_i m), (3, ov_i (h 96 5)), (4, ov_i v44)]) (st2 := [ov_i v44]) (pc2 := 112) b_288_110_1 rfl rfl ?_
                  refine ov_ldcw (n := 2000000000) d_288_112 kc_Mo_338 ?_
                  refine ov_icne (tgt := 122) d_288_115 (by decide) (by omega) (by omega) (fun c77 => ?_) (fun c77 => ?_)
                  · omega
                  · skip
                    refine ov_blk (ls2 := [(0, ov_r 90), (1, ov_i s), (2, ov_i m), (3, ov_i (h 96 5)), (4, ov_i v44)]) (st2 := [ov_i (-1)]) (pc2 := 119) b_288_118_1 rfl rfl ?_
                    refine ov_goto (tgt := 145) d_288_119 (by decide) ?_
                    exact ov_reti (st := []) d_288_145 rfl ⟨_, rfl, I61, (by show (h60 90 2) = (h 90 2) ∧ (h60 90 7) = (h 90 7) ∧ (h60 90 8) = (h 90 8) ∧ (h60 90 13) = (h 90 13) ∧ (h60 90 20) = (h 90 20) ∧ (h60 90 22) = (h 90 22) ∧ (h60 90 25) = (h 90 25) ∧ (h60 90 26) = (h 90 26) ∧ (h60 90 28) = (h 90 28) ∧ (h60 90 29) = (h 90 29) ∧ (h60 90 30) = (h 90 30) ∧ (h60 90 34) = (h 90 34) ∧ -2147483648 ≤ (-1) ∧ (-1) ≤ 2147483647; omega), E62, E63, E64, E65, E66, E67, E68, E69, E70, E71, E72, E73, E74⟩
                · skip
                  refine ov_blk (ls2 := [(0, ov_r 90), (1, ov_i s), (2, ov_i m), (3, ov_i (h 96 5)), (4, ov_i v44)]) (st2 := [ov_i 2, ov_i m]) (pc2 := 107) b_288_105_2 rfl rfl ?_
                  refine ov_icge (tgt := 146) d_288_107 (by decide) (by omega) (by omega) (fun c78 => ?_) (fun c78 => ?_)
                  · skip
                    refine ov_blk (ls2 := [(0, ov_r 90), (1, ov_i s), (2, ov_i m), (3, ov_i (h 96 5)), (4, ov_i v44), (5, ov_i 0), (6, ov_i 0), (7, ov_i 0)]) (st2 := []) (pc2 := 155) b_288_146_6 rfl rfl ?_
                    have L82 : ∀ (n79 : Nat) (x3_ : Int) (x5 : Int) (x6 : Int) (x7 : Int) (z83 : ov_Z) (h84 : ov_H) (I85 : ov_N F z83 h84) (E86 : h84 92 = h 92) (E87 : h84 93 = h 93) (E88 : h84 94 = h 94) (E89 : h84 95 = h 95) (E90 : h84 96 = h 96) (E91 : h84 97 = h 97) (E92 : h84 98 = h 98) (E93 : h84 99 = h 99) (E94 : h84 100 = h 100) (E95 : h84 103 = h 103) (E96 : h84 105 = h 105) (E97 : h84 106 = h 106) (E98 : h84 114 = h 114) (xm : ov_PI (h 96) (h 100) s (h84 109)) (q81 : 0 ≤ x7 ∧ x7 ≤ m - 1 ∧ 0 ≤ x5 ∧ x5 ≤ 89 * x7 ∧ 0 ≤ x3_ ∧ x3_ ≤ 9 ∧ 0 ≤ x6 ∧ x6 ≤ 31 ∧ ¬ ov_bp (h 96) (h 100) s x7 x5 x3_ = 2000000000 ∧ (h84 90 37) = s ∧ (h84 90 2) = (h60 90 2) ∧ (h84 90 7) = (h60 90 7) ∧ (h84 90 8) = (h60 90 8) ∧ (h84 90 13) = (h60 90 13) ∧ (h84 90 20) = (h60 90 20) ∧ (h84 90 22) = (h60 90 22) ∧ (h84 90 25) = (h60 90 25) ∧ (h84 90 26) = (h60 90 26) ∧ (h84 90 28) = (h60 90 28) ∧ (h84 90 29) = (h60 90 29) ∧ (h84 90 30) = (h60 90 30) ∧ (h84 90 34) = (h60 90 34)), 13 - x7 < (n79 : Int) → ov_R u d ov_m288 155 [(0, ov_r 90), (1, ov_i s), (2, ov_i m), (3, ov_i x3_), (4, ov_i v44), (5, ov_i x5), (6, ov_i x6), (7, ov_i x7)] [] z83 h84 (P_Mo_pace_90 F z h s m) := by
                      intro n79
                      induction n79 with
                      | zero =>
                        intro x3_ x5 x6 x7 z83 h84 I85 E86 E87 E88 E89 E90 E91 E92 E93 E94 E95 E96 E97 E98 xm q81 hn99
                        exact absurd hn99 (by omega)
                      | succ n79 ih80 =>
                        intro x3_ x5 x6 x7 z83 h84 I85 E86 E87 E88 E89 E90 E91 E92 E93 E94 E95 E96 E97 E98 xm q81 hn99
                        refine ov_blk (ls2 := [(0, ov_r 90), (1, ov_i s), (2, ov_i m), (3, ov_i x3_), (4, ov_i v44), (5, ov_i x5), (6, ov_i x6), (7, ov_i x7)]) (st2 := [ov_i (m - 2), ov_i x7]) (pc2 := 160) b_288_155_4 rfl rfl ?_
                        refine ov_icgt (tgt := 265) d_288_160 (by decide) (by omega) (by omega) (fun c100 => ?_) (fun c100 => ?_)
                        · skip
                          refine ov_blk (ls2 := [(0, ov_r 90), (1, ov_i s), (2, ov_i m), (3, ov_i x3_), (4, ov_i v44), (5, ov_i x5), (6, ov_i x6), (7, ov_i x7)]) (st2 := [ov_i x6]) (pc2 := 267) b_288_265_1 rfl rfl ?_
                          exact ov_reti (st := []) d_288_267 rfl ⟨_, rfl, I85, (by show (h84 90 2) = (h 90 2) ∧ (h84 90 7) = (h 90 7) ∧ (h84 90 8) = (h 90 8) ∧ (h84 90 13) = (h 90 13) ∧ (h84 90 20) = (h 90 20) ∧ (h84 90 22) = (h 90 22) ∧ (h84 90 25) = (h 90 25) ∧ (h84 90 26) = (h 90 26) ∧ (h84 90 28) = (h 90 28) ∧ (h84 90 29) = (h 90 29) ∧ (h84 90 30) = (h 90 30) ∧ (h84 90 34) = (h 90 34) ∧ -2147483648 ≤ x6 ∧ x6 ≤ 2147483647; omega), E86, E87, E88, E89, E90, E91, E92, E93, E94, E95, E96, E97, E98⟩
                        · skip
                          refine ov_blk (ls2 := [(0, ov_r 90), (1, ov_i s), (2, ov_i m), (3, ov_i x3_), (4, ov_i v44), (5, ov_i x5), (6, ov_i x6), (7, ov_i x7)]) (st2 := [ov_r 90]) (pc2 := 164) b_288_163_1 rfl rfl ?_
                          refine ov_cV (as := []) (st := []) (d2 := d - 1) d_288_164 lk_Mo_414 rfl (Nat.le_of_ble_eq_true rfl) (c := 1) (zb_90 I85) (zs_90 I85) ⟨by decide, rfl⟩ (by omega) (c_Mo_fastest_90_b (d - 1) (by omega) U I85) ?_
                          rintro _ _ _ ⟨v102, rfl, rfl, rfl, f101⟩
                          show ov_R u d ov_m288 167 [(0, ov_r 90), (1, ov_i s), (2, ov_i m), (3, ov_i x3_), (4, ov_i v44), (5, ov_i x5), (6, ov_i x6), (7, ov_i x7)] [ov_i v102] z83 h84 (P_Mo_pace_90 F z h s m)
                          rw [show h84 96 = h 96 from E90] at f101
                          have f103 : v102 = ov_fst (h 96) ∧ 0 ≤ v102 ∧ v102 ≤ 30 := f101
                          clear f101
                          have fl := ov_fsl (h 96)
                          refine ov_blk (ls2 := [(0, ov_r 90), (1, ov_i s), (2, ov_i m), (3, ov_i x3_), (4, ov_i v44), (5, ov_i x5), (6, ov_i v102), (7, ov_i x7)]) (st2 := []) (pc2 := 169) b_288_167_1 rfl rfl ?_
                          have L107 : ∀ (n104 : Nat) (x6_ : Int) (z108 : ov_Z) (h109 : ov_H) (I110 : ov_N F z108 h109) (E111 : h109 92 = h 92) (E112 : h109 93 = h 93) (E113 : h109 94 = h 94) (E114 : h109 95 = h 95) (E115 : h109 96 = h 96) (E116 : h109 97 = h 97) (E117 : h109 98 = h 98) (E118 : h109 99 = h 99) (E119 : h109 100 = h 100) (E120 : h109 103 = h 103) (E121 : h109 105 = h 105) (E122 : h109 106 = h 106) (E123 : h109 114 = h 114) (xw : ∀ q : Int, ov_fst (h 96) ≤ q → q < x6_ → ¬ ov_pq (h 96) (h 100) s (ov_bp (h 96) (h 100) s) x7 x5 x3_ q = ov_bp (h 96) (h 100) s x7 x5 x3_) (xn : ov_PI (h 96) (h 100) s (h109 109)) (q106 : ov_fst (h 96) ≤ x6_ ∧ x6_ ≤ ov_slw (h 96) ∧ 0 ≤ x6_ ∧ x6_ ≤ 30 ∧ (h109 90 37) = s ∧ (h109 90 2) = (h84 90 2) ∧ (h109 90 7) = (h84 90 7) ∧ (h109 90 8) = (h84 90 8) ∧ (h109 90 13) = (h84 90 13) ∧ (h109 90 20) = (h84 90 20) ∧ (h109 90 22) = (h84 90 22) ∧ (h109 90 25) = (h84 90 25) ∧ (h109 90 26) = (h84 90 26) ∧ (h109 90 28) = (h84 90 28) ∧ (h109 90 29) = (h84 90 29) ∧ (h109 90 30) = (h84 90 30) ∧ (h109 90 34) = (h84 90 34)), 30 - x6_ < (n104 : Int) → ov_R u d ov_m288 169 [(0, ov_r 90), (1, ov_i s), (2, ov_i m), (3, ov_i x3_), (4, ov_i v44), (5, ov_i x5), (6, ov_i x6_), (7, ov_i x7)] [] z108 h109 (P_Mo_pace_90 F z h s m) := by
                            intro n104
                            induction n104 with
                            | zero =>
                              intro x6_ z108 h109 I110 E111 E112 E113 E114 E115 E116 E117 E118 E119 E120 E121 E122 E123 xw xn q106 hn124
                              exact absurd hn124 (by omega)
                            | succ n104 ih105 =>
                              intro x6_ z108 h109 I110 E111 E112 E113 E114 E115 E116 E117 E118 E119 E120 E121 E122 E123 xw xn q106 hn124
                              refine ov_blk (ls2 := [(0, ov_r 90), (1, ov_i s), (2, ov_i m), (3, ov_i x3_), (4, ov_i v44), (5, ov_i x5), (6, ov_i x6_), (7, ov_i x7)]) (st2 := [ov_r 90]) (pc2 := 170) b_288_169_1 rfl rfl ?_
                              refine ov_blk (ls2 := [(0, ov_r 90), (1, ov_i s), (2, ov_i m), (3, ov_i x3_), (4, ov_i v44), (5, ov_i x5), (6, ov_i x6_), (7, ov_i x7)]) (st2 := [ov_i x6_, ov_i x3_, ov_i x5, ov_i x7, ov_r 90]) (pc2 := 177) b_288_170_4 rfl rfl ?_
                              have cf125 : h109 100 (0) = h 100 (0) := congrFun E119 (0)
                              refine ov_cV (as := [ov_i x7, ov_i x5, ov_i x3_, ov_i x6_]) (st := []) (d2 := d - 1) d_288_177 lk_Mo_420 rfl (Nat.le_of_ble_eq_true rfl) (c := 1) (zb_90 I110) (zs_90 I110) ⟨by decide, rfl⟩ (by omega) (c_Mo_paceBy_90_all s (Int.toNat (h 100 0 - (x7))) (d - 1) (by omega) U I110 x7 x5 x3_ x6_ (by omega) (by omega) (by omega) (by omega) (by show 0 ≤ x7 ∧ x7 + ((Int.toNat (h 100 0 - (x7)) : Nat) : Int) = (h109 100 0); omega) (by show x7 < (h109 100 0); omega) (by omega) (by omega) (by omega) (by show (h109 90 37) = s; omega) (by rw [show h109 96 = h 96 from E115]; exact W) (by rw [show h109 100 = h 100 from E119]; exact W2) (by rw [show h109 96 = h 96 from E115, show h109 100 = h 100 from E119]; exact xn)) ?_
                              rintro _ z142 h143 ⟨v127, rfl, I144, f126, e128, e129, e130, e131, e132, e133, e134, e135, e136, e137, e138, e139, e140, y141⟩
                              have E145 : h143 92 = h 92 := Eq.trans e128 E111
                              have E146 : h143 93 = h 93 := Eq.trans e129 E112
                              have E147 : h143 94 = h 94 := Eq.trans e130 E113
                              have E148 : h143 95 = h 95 := Eq.trans e131 E114
                              have E149 : h143 96 = h 96 := Eq.trans e132 E115
                              have E150 : h143 97 = h 97 := Eq.trans e133 E116
                              have E151 : h143 98 = h 98 := Eq.trans e134 E117
                              have E152 : h143 99 = h 99 := Eq.trans e135 E118
                              have E153 : h143 100 = h 100 := Eq.trans e136 E119
                              have E154 : h143 103 = h 103 := Eq.trans e137 E120
                              have E155 : h143 105 = h 105 := Eq.trans e138 E121
                              have E156 : h143 106 = h 106 := Eq.trans e139 E122
                              have E157 : h143 114 = h 114 := Eq.trans e140 E123
                              show ov_R u d ov_m288 180 [(0, ov_r 90), (1, ov_i s), (2, ov_i m), (3, ov_i x3_), (4, ov_i v44), (5, ov_i x5), (6, ov_i x6_), (7, ov_i x7)] [ov_i v127] z142 h143 (P_Mo_pace_90 F z h s m)
                              rw [show h109 100 = h 100 from E119] at f126
                              rw [show h109 96 = h 96 from E115] at f126
                              have f158 : (h143 90 2) = (h109 90 2) ∧ (h143 90 7) = (h109 90 7) ∧ (h143 90 8) = (h109 90 8) ∧ (h143 90 13) = (h109 90 13) ∧ (h143 90 20) = (h109 90 20) ∧ (h143 90 22) = (h109 90 22) ∧ (h143 90 25) = (h109 90 25) ∧ (h143 90 26) = (h109 90 26) ∧ (h143 90 28) = (h109 90 28) ∧ (h143 90 29) = (h109 90 29) ∧ (h143 90 30) = (h109 90 30) ∧ (h143 90 34) = (h109 90 34) ∧ (h143 90 37) = (h109 90 37) ∧ v127 = (ov_pq (h 96) (h 100) s (ov_bp (h 96) (h 100) s) x7 x5 x3_) x6_ ∧ 1 ≤ v127 ∧ (v127 = 2000000000 ∨ v127 ≤ 1201 + 100000 * (13 - x7)) := f126
                              clear f126
                              rw [show h109 100 = h 100 from E119] at y141
                              rw [show h109 96 = h 96 from E115] at y141
                              have y141_ : ov_PI (h 96) (h 100) s (h143 109) := y141
                              refine ov_blk (ls2 := [(0, ov_r 90), (1, ov_i s), (2, ov_i m), (3, ov_i x3_), (4, ov_i v44), (5, ov_i x5), (6, ov_i x6_), (7, ov_i x7)]) (st2 := [ov_i x3_, ov_i x5, ov_i x7, ov_r 90, ov_i v127]) (pc2 := 186) b_288_180_4 rfl rfl ?_
                              have cf159 : h143 100 (0) = h 100 (0) := congrFun E153 (0)
                              refine ov_cV (as := [ov_i x7, ov_i x5, ov_i x3_]) (st := [ov_i v127]) (d2 := d - 1) d_288_186 lk_Mo_429 rfl (Nat.le_of_ble_eq_true rfl) (c := 1) (zb_90 I144) (zs_90 I144) ⟨by decide, rfl⟩ (by omega) (c_Mo_bestPace_90_all s (Int.toNat (h 100 0 - (x7))) (d - 1) (by omega) U I144 x7 x5 x3_ (by omega) (by omega) (by omega) (by show 0 ≤ x7 ∧ x7 + ((Int.toNat (h 100 0 - (x7)) : Nat) : Int) = (h143 100 0); omega) (by omega) (by omega) (by show (h143 90 37) = s; omega) (by rw [show h143 96 = h 96 from E149]; exact W) (by rw [show h143 100 = h 100 from E153]; exact W2) (by rw [show h143 96 = h 96 from E149, show h143 100 = h 100 from E153]; exact y141_)) ?_
                              rintro _ z176 h177 ⟨v161, rfl, I178, f160, e162, e163, e164, e165, e166, e167, e168, e169, e170, e171, e172, e173, e174, y175⟩
                              have E179 : h177 92 = h 92 := Eq.trans e162 E145
                              have E180 : h177 93 = h 93 := Eq.trans e163 E146
                              have E181 : h177 94 = h 94 := Eq.trans e164 E147
                              have E182 : h177 95 = h 95 := Eq.trans e165 E148
                              have E183 : h177 96 = h 96 := Eq.trans e166 E149
                              have E184 : h177 97 = h 97 := Eq.trans e167 E150
                              have E185 : h177 98 = h 98 := Eq.trans e168 E151
                              have E186 : h177 99 = h 99 := Eq.trans e169 E152
                              have E187 : h177 100 = h 100 := Eq.trans e170 E153
                              have E188 : h177 103 = h 103 := Eq.trans e171 E154
                              have E189 : h177 105 = h 105 := Eq.trans e172 E155
                              have E190 : h177 106 = h 106 := Eq.trans e173 E156
                              have E191 : h177 114 = h 114 := Eq.trans e174 E157
                              show ov_R u d ov_m288 189 [(0, ov_r 90), (1, ov_i s), (2, ov_i m), (3, ov_i x3_), (4, ov_i v44), (5, ov_i x5), (6, ov_i x6_), (7, ov_i x7)] [ov_i v161, ov_i v127] z176 h177 (P_Mo_pace_90 F z h s m)
                              rw [show h143 100 = h 100 from E153] at f160
                              rw [show h143 96 = h 96 from E149] at f160
                              have f192 : (h177 90 2) = (h143 90 2) ∧ (h177 90 7) = (h143 90 7) ∧ (h177 90 8) = (h143 90 8) ∧ (h177 90 13) = (h143 90 13) ∧ (h177 90 20) = (h143 90 20) ∧ (h177 90 22) = (h143 90 22) ∧ (h177 90 25) = (h143 90 25) ∧ (h177 90 26) = (h143 90 26) ∧ (h177 90 28) = (h143 90 28) ∧ (h177 90 29) = (h143 90 29) ∧ (h177 90 30) = (h143 90 30) ∧ (h177 90 34) = (h143 90 34) ∧ (h177 90 37) = (h143 90 37) ∧ v161 = (ov_bp (h 96) (h 100) s) x7 x5 x3_ ∧ 1 ≤ v161 ∧ (v161 = 2000000000 ∨ v161 ≤ 1201 + 100000 * (13 - x7)) := f160
                              clear f160
                              rw [show h143 100 = h 100 from E153] at y175
                              rw [show h143 96 = h 96 from E149] at y175
                              have y175_ : ov_PI (h 96) (h 100) s (h177 109) := y175
                              refine ov_iceq (tgt := 198) d_288_189 (by decide) (by omega) (by omega) (fun c193 => ?_) (fun c193 => ?_)
                              · skip
                                have npq : ¬ ov_pq (h 96) (h 100) s (ov_bp (h 96) (h 100) s) x7 x5 x3_ x6_ = 2000000000 := by omega
                                refine ov_blk (ls2 := [(0, ov_r 90), (1, ov_i s), (2, ov_i m), (3, ov_i x3_), (4, ov_i v44), (5, ov_i x5), (6, ov_i x6_), (7, ov_i x7)]) (st2 := [ov_i x7, ov_r 90]) (pc2 := 201) b_288_198_2 rfl rfl ?_
                                refine ov_cV (as := [ov_i x7]) (st := []) (d2 := d - 1) d_288_201 lk_Mo_423 rfl (Nat.le_of_ble_eq_true rfl) (c := 1) (zb_90 I178) (zs_90 I178) ⟨by decide, rfl⟩ (by omega) (c_Mo_xAt_90 (d - 1) (by omega) U I178 x7 (by omega) (by omega)) ?_
                                rintro _ _ _ ⟨v195, rfl, rfl, rfl, f194⟩
                                show ov_R u d ov_m288 204 [(0, ov_r 90), (1, ov_i s), (2, ov_i m), (3, ov_i x3_), (4, ov_i v44), (5, ov_i x5), (6, ov_i x6_), (7, ov_i x7)] [ov_i v195] z176 h177 (P_Mo_pace_90 F z h s m)
                                rw [show h177 100 = h 100 from E187] at f194
                                have f196 : v195 = ov_sx (h 100) (Int.toNat x7) ∧ 0 ≤ v195 ∧ v195 ≤ x7 := f194
                                clear f194
                                have ev : v195 = ov_sx (h 100) (Int.toNat x7) := by omega
                                have wi := ov_WK_in W2 wk (by omega) (k := x7) (by omega)
                                have ww := wk x7 (by omega) (by omega)
                                have pcg := ov_pq_cg ev npq
                                have cg := (ov_cgi_sp (h 96) v195 (x7 - v195) (h 100 (1 + 2 * x7))).2 pcg.1
                                refine ov_blk (ls2 := [(0, ov_r 90), (1, ov_i s), (2, ov_i m), (3, ov_i x3_), (4, ov_i v44), (5, ov_i x5), (6, ov_i x6_), (7, ov_i x7), (8, ov_i v195)]) (st2 := [ov_r 90, ov_i (x7 - v195), ov_i v195, ov_r 90, ov_i x5]) (pc2 := 217) b_288_204_8 rfl rfl ?_
                                refine ov_getf (v := ov_r 100) d_288_217 fl_Mo_93 (zb_90 I178) (zs_90 I178) (congrArg ov_r (rg_90_16 I178)) ?_
                                refine ov_blk (ls2 := [(0, ov_r 90), (1, ov_i s), (2, ov_i m), (3, ov_i x3_), (4, ov_i v44), (5, ov_i x5), (6, ov_i x6_), (7, ov_i x7), (8, ov_i v195)]) (st2 := [ov_i (1 + (2 * x7)), ov_r 100, ov_i (x7 - v195), ov_i v195, ov_r 90, ov_i x5]) (pc2 := 226) b_288_220_5 rfl rfl ?_
                                refine ov_iald d_288_226 (zb_100 I178) (zs_100 I178) (by omega) ?_
                                rw [show h177 100 = h 100 from E187]
                                have g197 := s100_g I (1 + (2 * x7))
                                refine ov_blk (ls2 := [(0, ov_r 90), (1, ov_i s), (2, ov_i m), (3, ov_i x3_), (4, ov_i v44), (5, ov_i x5), (6, ov_i x6_), (7, ov_i x7), (8, ov_i v195)]) (st2 := [ov_i (s + x5), ov_i (h 100 (1 + (2 * x7))), ov_i (x7 - v195), ov_i v195, ov_r 90, ov_i x5]) (pc2 := 231) b_288_227_3 rfl rfl ?_
                                have cf198 : h177 96 (10 + 4 * (6 * (x7 - v195) + v195)) = h 96 (10 + 4 * (6 * (x7 - v195) + v195)) := congrFun E183 (10 + 4 * (6 * (x7 - v195) + v195))
                                have cf199 : h177 96 (10 + 4 * (6 * (x7 - v195) + v195) + 3) = h 96 (10 + 4 * (6 * (x7 - v195) + v195) + 3) := congrFun E183 (10 + 4 * (6 * (x7 - v195) + v195) + 3)
                                have cf200 : h177 96 (10 + 4 * (6 * (x7 - v195) + v195) + 1) = h 96 (10 + 4 * (6 * (x7 - v195) + v195) + 1) := congrFun E183 (10 + 4 * (6 * (x7 - v195) + v195) + 1)
                                refine ov_cV (as := [ov_i v195, ov_i (x7 - v195), ov_i (h 100 (1 + (2 * x7))), ov_i (s + x5)]) (st := [ov_i x5]) (d2 := d - 1) d_288_231 lk_Mo_315 rfl (Nat.le_of_ble_eq_true rfl) (c := 1) (zb_90 I178) (zs_90 I178) ⟨by decide, rfl⟩ (by omega) (c_Mo_waitFor_90 (d - 1) (by omega) U I178 v195 (x7 - v195) (h 100 (1 + (2 * x7))) (s + x5) (by omega) (by omega) (by omega) (by omega) (by omega) (by omega) (by omega) (by show (((h177 96 (10 + 4 * (6 * (x7 - v195) + v195))) = 1 ∨ (h177 96 (10 + 4 * (6 * (x7 - v195) + v195))) = 2) → ((h 100 (1 + (2 * x7))) = 0 → 0 < (h177 96 (10 + 4 * (6 * (x7 - v195) + v195) + 3))) ∧ (¬ (h 100 (1 + (2 * x7))) = 0 → (h177 96 (10 + 4 * (6 * (x7 - v195) + v195) + 3)) < (h177 96 (10 + 4 * (6 * (x7 - v195) + v195) + 1)))); omega) (by rw [show h177 96 = h 96 from E183]; exact W)) ?_
                                rintro _ _ _ ⟨v202, rfl, rfl, rfl, f201⟩
                                show ov_R u d ov_m288 234 [(0, ov_r 90), (1, ov_i s), (2, ov_i m), (3, ov_i x3_), (4, ov_i v44), (5, ov_i x5), (6, ov_i x6_), (7, ov_i x7), (8, ov_i v195)] [ov_i v202, ov_i x5] z176 h177 (P_Mo_pace_90 F z h s m)
                                rw [show h177 96 = h 96 from E183] at f201
                                have f203 : 0 ≤ v202 ∧ v202 ≤ 59 ∧ v202 = ov_wm (h 96) (6 * (x7 - v195) + v195) (h 100 (1 + (2 * x7))) (s + x5) := f201
                                clear f201
                                have hw : v202 = ov_wm (h 96) (6 * (x7 - v195) + v195) (h 100 (1 + 2 * x7)) (s + x5) := by omega
                                have pk := ov_pq_ok ev hw npq
                                refine ov_blk (ls2 := [(0, ov_r 90), (1, ov_i s), (2, ov_i m), (3, ov_i x3_), (4, ov_i v44), (5, ov_i (x5 + (v202 + x6_))), (6, ov_i x6_), (7, ov_i x7), (8, ov_i v195)]) (st2 := [ov_r 90, ov_i x6_, ov_i x3_]) (pc2 := 244) b_288_234_7 rfl rfl ?_
                                refine ov_getf (v := ov_r 96) d_288_244 fl_Mo_81 (zb_90 I178) (zs_90 I178) (congrArg ov_r (rg_90_10 I178)) ?_
                                refine ov_blk (ls2 := [(0, ov_r 90), (1, ov_i s), (2, ov_i m), (3, ov_i x3_), (4, ov_i v44), (5, ov_i (x5 + (v202 + x6_))), (6, ov_i x6_), (7, ov_i x7), (8, ov_i v195)]) (st2 := [ov_i 2, ov_r 96, ov_i x6_, ov_i x3_]) (pc2 := 248) b_288_247_1 rfl rfl ?_
                                refine ov_iald d_288_248 (zb_96 I178) (zs_96 I178) (by omega) ?_
                                rw [show h177 96 = h 96 from E183]
                                have g204 := t96_2 I
                                refine ov_icge (tgt := 256) d_288_249 (by decide) (by omega) (by omega) (fun c205 => ?_) (fun c205 => ?_)
                                · skip
                                  refine ov_blk (ls2 := [(0, ov_r 90), (1, ov_i s), (2, ov_i m), (3, ov_i x3_), (4, ov_i v44), (5, ov_i (x5 + (v202 + x6_))), (6, ov_i x6_), (7, ov_i x7), (8, ov_i v195)]) (st2 := [ov_i (x3_ - 0)]) (pc2 := 258) b_288_256_2 rfl rfl ?_
                                  have nb0 : ¬ ov_bp (h 96) (h 100) s (x7 + 1) (x5 + v202 + x6_) x3_ = 2000000000 := pk.2 (by omega)
                                  have nb : ¬ ov_bp (h 96) (h 100) s (x7 + 1) (x5 + (v202 + x6_)) (x3_ - 0) = 2000000000 := by rw [show (x5 + (v202 + x6_)) = x5 + v202 + x6_ by omega, show (x3_ - 0) = x3_ by omega]; exact nb0
                                  refine ov_blk (ls2 := [(0, ov_r 90), (1, ov_i s), (2, ov_i m), (3, ov_i (x3_ - 0)), (4, ov_i v44), (5, ov_i (x5 + (v202 + x6_))), (6, ov_i x6_), (7, ov_i (x7 + 1)), (8, ov_i v195)]) (st2 := []) (pc2 := 262) b_288_258_2 rfl rfl ?_
                                  refine ov_goto (tgt := 155) d_288_262 (by decide) ?_
                                  refine ov_sub (ls2 := [(0, ov_r 90), (1, ov_i s), (2, ov_i m), (3, ov_i (x3_ - 0)), (4, ov_i v44), (5, ov_i (x5 + (v202 + x6_))), (6, ov_i x6_), (7, ov_i (x7 + 1))]) (List.Sublist.subset (by repeat (first | exact List.Sublist.refl _ | apply List.Sublist.cons_cons | apply List.Sublist.cons))) ?_
                                  exact ih80 (x3_ - 0) (x5 + (v202 + x6_)) x6_ (x7 + 1) _ _ I178 E179 E180 E181 E182 E183 E184 E185 E186 E187 E188 E189 E190 E191 y175_ (by show 0 ≤ (x7 + 1) ∧ (x7 + 1) ≤ m - 1 ∧ 0 ≤ (x5 + (v202 + x6_)) ∧ (x5 + (v202 + x6_)) ≤ 89 * (x7 + 1) ∧ 0 ≤ (x3_ - 0) ∧ (x3_ - 0) ≤ 9 ∧ 0 ≤ x6_ ∧ x6_ ≤ 31 ∧ ¬ ov_bp (h 96) (h 100) s (x7 + 1) (x5 + (v202 + x6_)) (x3_ - 0) = 2000000000 ∧ (h177 90 37) = s ∧ (h177 90 2) = (h60 90 2) ∧ (h177 90 7) = (h60 90 7) ∧ (h177 90 8) = (h60 90 8) ∧ (h177 90 13) = (h60 90 13) ∧ (h177 90 20) = (h60 90 20) ∧ (h177 90 22) = (h60 90 22) ∧ (h177 90 25) = (h60 90 25) ∧ (h177 90 26) = (h60 90 26) ∧ (h177 90 28) = (h60 90 28) ∧ (h177 90 29) = (h60 90 29) ∧ (h177 90 30) = (h60 90 30) ∧ (h177 90 34) = (h60 90 34); omega) (by omega)
                                · skip
                                  refine ov_blk (ls2 := [(0, ov_r 90), (1, ov_i s), (2, ov_i m), (3, ov_i x3_), (4, ov_i v44), (5, ov_i (x5 + (v202 + x6_))), (6, ov_i x6_), (7, ov_i x7), (8, ov_i v195)]) (st2 := [ov_i 1, ov_i x3_]) (pc2 := 253) b_288_252_1 rfl rfl ?_
                                  refine ov_goto (tgt := 257) d_288_253 (by decide) ?_
                                  refine ov_blk (ls2 := [(0, ov_r 90), (1, ov_i s), (2, ov_i m), (3, ov_i x3_), (4, ov_i v44), (5, ov_i (x5 + (v202 + x6_))), (6, ov_i x6_), (7, ov_i x7), (8, ov_i v195)]) (st2 := [ov_i (x3_ - 1)]) (pc2 := 258) b_288_257_1 rfl rfl ?_
                                  have nb0 : ¬ ov_bp (h 96) (h 100) s (x7 + 1) (x5 + v202 + x6_) (x3_ - 1) = 2000000000 := pk.1 (by omega)
                                  have nb : ¬ ov_bp (h 96) (h 100) s (x7 + 1) (x5 + (v202 + x6_)) (x3_ - 1) = 2000000000 := by rw [show (x5 + (v202 + x6_)) = x5 + v202 + x6_ by omega, show (x3_ - 1) = (x3_ - 1) by omega]; exact nb0
                                  refine ov_blk (ls2 := [(0, ov_r 90), (1, ov_i s), (2, ov_i m), (3, ov_i (x3_ - 1)), (4, ov_i v44), (5, ov_i (x5 + (v202 + x6_))), (6, ov_i x6_), (7, ov_i (x7 + 1)), (8, ov_i v195)]) (st2 := []) (pc2 := 262) b_288_258_2 rfl rfl ?_
                                  refine ov_goto (tgt := 155) d_288_262 (by decide) ?_
                                  refine ov_sub (ls2 := [(0, ov_r 90), (1, ov_i s), (2, ov_i m), (3, ov_i (x3_ - 1)), (4, ov_i v44), (5, ov_i (x5 + (v202 + x6_))), (6, ov_i x6_), (7, ov_i (x7 + 1))]) (List.Sublist.subset (by repeat (first | exact List.Sublist.refl _ | apply List.Sublist.cons_cons | apply List.Sublist.cons))) ?_
                                  exact ih80 (x3_ - 1) (x5 + (v202 + x6_)) x6_ (x7 + 1) _ _ I178 E179 E180 E181 E182 E183 E184 E185 E186 E187 E188 E189 E190 E191 y175_ (by show 0 ≤ (x7 + 1) ∧ (x7 + 1) ≤ m - 1 ∧ 0 ≤ (x5 + (v202 + x6_)) ∧ (x5 + (v202 + x6_)) ≤ 89 * (x7 + 1) ∧ 0 ≤ (x3_ - 1) ∧ (x3_ - 1) ≤ 9 ∧ 0 ≤ x6_ ∧ x6_ ≤ 31 ∧ ¬ ov_bp (h 96) (h 100) s (x7 + 1) (x5 + (v202 + x6_)) (x3_ - 1) = 2000000000 ∧ (h177 90 37) = s ∧ (h177 90 2) = (h60 90 2) ∧ (h177 90 7) = (h60 90 7) ∧ (h177 90 8) = (h60 90 8) ∧ (h177 90 13) = (h60 90 13) ∧ (h177 90 20) = (h60 90 20) ∧ (h177 90 22) = (h60 90 22) ∧ (h177 90 25) = (h60 90 25) ∧ (h177 90 26) = (h60 90 26) ∧ (h177 90 28) = (h60 90 28) ∧ (h177 90 29) = (h60 90 29) ∧ (h177 90 30) = (h60 90 30) ∧ (h177 90 34) = (h60 90 34); omega) (by omega)
                              · skip
                                have nq : ¬ ov_pq (h 96) (h 100) s (ov_bp (h 96) (h 100) s) x7 x5 x3_ x6_ = ov_bp (h 96) (h 100) s x7 x5 x3_ := by omega
                                have nx := ov_bp_find (by omega) (by omega) (by omega) xw nq
                                have sl := ov_slw_b I
                                have xw2 : ∀ q : Int, ov_fst (h 96) ≤ q → q < x6_ + 1 → ¬ ov_pq (h 96) (h 100) s (ov_bp (h 96) (h 100) s) x7 x5 x3_ q = ov_bp (h 96) (h 100) s x7 x5 x3_ := fun q a b => if c : q = x6_ then (by rw [c]; exact nq) else xw q a (by omega)
                                refine ov_blk (ls2 := [(0, ov_r 90), (1, ov_i s), (2, ov_i m), (3, ov_i x3_), (4, ov_i v44), (5, ov_i x5), (6, ov_i (x6_ + 1)), (7, ov_i x7)]) (st2 := []) (pc2 := 195) b_288_192_1 rfl rfl ?_
                                refine ov_goto (tgt := 169) d_288_195 (by decide) ?_
                                exact ih105 (x6_ + 1) _ _ I178 E179 E180 E181 E182 E183 E184 E185 E186 E187 E188 E189 E190 E191 xw2 y175_ (by show ov_fst (h 96) ≤ (x6_ + 1) ∧ (x6_ + 1) ≤ ov_slw (h 96) ∧ 0 ≤ (x6_ + 1) ∧ (x6_ + 1) ≤ 30 ∧ (h177 90 37) = s ∧ (h177 90 2) = (h84 90 2) ∧ (h177 90 7) = (h84 90 7) ∧ (h177 90 8) = (h84 90 8) ∧ (h177 90 13) = (h84 90 13) ∧ (h177 90 20) = (h84 90 20) ∧ (h177 90 22) = (h84 90 22) ∧ (h177 90 25) = (h84 90 25) ∧ (h177 90 26) = (h84 90 26) ∧ (h177 90 28) = (h84 90 28) ∧ (h177 90 29) = (h84 90 29) ∧ (h177 90 30) = (h84 90 30) ∧ (h177 90 34) = (h84 90 34); omega) (by omega)
                          exact L107 31 v102 _ _ I85 E86 E87 E88 E89 E90 E91 E92 E93 E94 E95 E96 E97 E98 (fun q a b => absurd a (by omega)) xm (by show ov_fst (h 96) ≤ v102 ∧ v102 ≤ ov_slw (h 96) ∧ 0 ≤ v102 ∧ v102 ≤ 30 ∧ (h84 90 37) = s ∧ (h84 90 2) = (h84 90 2) ∧ (h84 90 7) = (h84 90 7) ∧ (h84 90 8) = (h84 90 8) ∧ (h84 90 13) = (h84 90 13) ∧ (h84 90 20) = (h84 90 20) ∧ (h84 90 22) = (h84 90 22) ∧ (h84 90 25) = (h84 90 25) ∧ (h84 90 26) = (h84 90 26) ∧ (h84 90 28) = (h84 90 28) ∧ (h84 90 29) = (h84 90 29) ∧ (h84 90 30) = (h84 90 30) ∧ (h84 90 34) = (h84 90 34); omega) (by omega)
                    exact L82 14 (h 96 5) 0 0 0 _ _ I61 E62 E63 E64 E65 E66 E67 E68 E69 E70 E71 E72 E73 E74 y58_ (by show 0 ≤ 0 ∧ 0 ≤ m - 1 ∧ 0 ≤ 0 ∧ 0 ≤ 89 * 0 ∧ 0 ≤ (h 96 5) ∧ (h 96 5) ≤ 9 ∧ 0 ≤ 0 ∧ 0 ≤ 31 ∧ ¬ ov_bp (h 96) (h 100) s 0 0 (h 96 5) = 2000000000 ∧ (h60 90 37) = s ∧ (h60 90 2) = (h60 90 2) ∧ (h60 90 7) = (h60 90 7) ∧ (h60 90 8) = (h60 90 8) ∧ (h60 90 13) = (h60 90 13) ∧ (h60 90 20) = (h60 90 20) ∧ (h60 90 22) = (h60 90 22) ∧ (h60 90 25) = (h60 90 25) ∧ (h60 90 26) = (h60 90 26) ∧ (h60 90 28) = (h60 90 28) ∧ (h60 90 29) = (h60 90 29) ∧ (h60 90 30) = (h60 90 30) ∧ (h60 90 34) = (h60 90 34); omega) (by omega)
                  · skip
                    refine ov_blk (ls2 := [(0, ov_r 90), (1, ov_i s), (2, ov_i m), (3, ov_i (h 96 5)), (4, ov_i v44)]) (st2 := [ov_i v44]) (pc2 := 112) b_288_110_1 rfl rfl ?_
                    refine ov_ldcw (n := 2000000000) d_288_112 kc_Mo_338 ?_
                    refine ov_icne (tgt := 122) d_288_115 (by decide) (by omega) (by omega) (fun c206 => ?_) (fun c206 => ?_)
                    · skip
                      refine ov_blk (ls2 := [(0, ov_r 90), (1, ov_i s), (2, ov_i m), (3, ov_i (h 96 5)), (4, ov_i v44)]) (st2 := [ov_i m]) (pc2 := 123) b_288_122_1 rfl rfl ?_
                      refine ov_ifne (tgt := 135) d_288_123 (by decide) (by omega) (fun c207 => ?_) (fun c207 => ?_)
                      · skip
                        refine ov_blk (ls2 := [(0, ov_r 90), (1, ov_i s), (2, ov_i m), (3, ov_i (h 96 5)), (4, ov_i v44)]) (st2 := [ov_i v44, ov_i s]) (pc2 := 138) b_288_135_2 rfl rfl ?_
                        refine ov_ldcw (n := 100000) d_288_138 kc_Mo_432 ?_
                        refine ov_irem d_288_141 (by omega) (by omega) (by omega) ?_
                        have g208 := ov_tm (a := v44) (b := 100000) (by omega)
                        have g209 := ov_tmg (a := v44) (b := 100000) (by omega) (by omega)
                        refine ov_blk (ls2 := [(0, ov_r 90), (1, ov_i s), (2, ov_i m), (3, ov_i (h 96 5)), (4, ov_i v44)]) (st2 := [ov_i ((s + (Int.tmod v44 100000)) - 1)]) (pc2 := 145) b_288_142_3 rfl rfl ?_
                        exact ov_reti (st := []) d_288_145 rfl ⟨_, rfl, I61, (by show (h60 90 2) = (h 90 2) ∧ (h60 90 7) = (h 90 7) ∧ (h60 90 8) = (h 90 8) ∧ (h60 90 13) = (h 90 13) ∧ (h60 90 20) = (h 90 20) ∧ (h60 90 22) = (h 90 22) ∧ (h60 90 25) = (h 90 25) ∧ (h60 90 26) = (h 90 26) ∧ (h60 90 28) = (h 90 28) ∧ (h60 90 29) = (h 90 29) ∧ (h60 90 30) = (h 90 30) ∧ (h60 90 34) = (h 90 34) ∧ -2147483648 ≤ ((s + (Int.tmod v44 100000)) - 1) ∧ ((s + (Int.tmod v44 100000)) - 1) ≤ 2147483647; omega), E62, E63, E64, E65, E66, E67, E68, E69, E70, E71, E72, E73, E74⟩
                      · skip
                        refine ov_blk (ls2 := [(0, ov_r 90), (1, ov_i s), (2, ov_i m), (3, ov_i (h 96 5)), (4, ov_i v44)]) (st2 := [ov_i v44]) (pc2 := 128) b_288_126_1 rfl rfl ?_
                        refine ov_ldcw (n := 100000) d_288_128 kc_Mo_432 ?_
                        refine ov_idiv d_288_131 (by omega) (by omega) (by omega) ?_
                        have g210 := ov_td (a := v44) (b := 100000) (by omega)
                        refine ov_goto (tgt := 145) d_288_132 (by decide) ?_
                        exact ov_reti (st := []) d_288_145 rfl ⟨_, rfl, I61, (by show (h60 90 2) = (h 90 2) ∧ (h60 90 7) = (h 90 7) ∧ (h60 90 8) = (h 90 8) ∧ (h60 90 13) = (h 90 13) ∧ (h60 90 20) = (h 90 20) ∧ (h60 90 22) = (h 90 22) ∧ (h60 90 25) = (h 90 25) ∧ (h60 90 26) = (h 90 26) ∧ (h60 90 28) = (h 90 28) ∧ (h60 90 29) = (h 90 29) ∧ (h60 90 30) = (h 90 30) ∧ (h60 90 34) = (h 90 34) ∧ -2147483648 ≤ (Int.tdiv v44 100000) ∧ (Int.tdiv v44 100000) ≤ 2147483647; omega), E62, E63, E64, E65, E66, E67, E68, E69, E70, E71, E72, E73, E74⟩
                    · omega
              · skip
                refine ov_blk (ls2 := [(0, ov_r 90), (1, ov_i s), (2, ov_i m), (3, ov_i x3)]) (st2 := [ov_i 0]) (pc2 := 78) b_288_77_1 rfl rfl ?_
                refine ov_goto (tgt := 87) d_288_78 (by decide) ?_
                refine ov_blk (ls2 := [(0, ov_r 90), (1, ov_i s), (2, ov_i m), (3, ov_i 0)]) (st2 := [ov_i 0, ov_i 0, ov_i 0, ov_r 90]) (pc2 := 92) b_288_87_5 rfl rfl ?_
                have cf211 : h21 100 (0) = h 100 (0) := congrFun E31 (0)
                refine ov_cV (as := [ov_i 0, ov_i 0, ov_i 0]) (st := []) (d2 := d - 1) d_288_92 lk_Mo_429 rfl (Nat.le_of_ble_eq_true rfl) (c := 1) (zb_90 I38) (zs_90 I38) ⟨by decide, rfl⟩ (by omega) (c_Mo_bestPace_90_all s (Int.toNat (h 100 0 - (0))) (d - 1) (by omega) U I38 0 0 0 (by omega) (by omega) (by omega) (by show 0 ≤ (0 : Int) ∧ (0 : Int) + ((Int.toNat (h 100 0 - (0)) : Nat) : Int) = (h21 100 0); omega) (by omega) (by omega) (by show s = s; omega) (by rw [show (ov_up h21 90 37 s) 96 = h 96 from E27]; exact W) (by rw [show (ov_up h21 90 37 s) 100 = h 100 from E31]; exact W2) (by rw [show (ov_up h21 90 37 s) 96 = h 96 from E27, show (ov_up h21 90 37 s) 100 = h 100 from E31]; exact pi0)) ?_
                rintro _ z228 h229 ⟨v213, rfl, I230, f212, e214, e215, e216, e217, e218, e219, e220, e221, e222, e223, e224, e225, e226, y227⟩
                have E231 : h229 92 = h 92 := Eq.trans e214 E23
                have E232 : h229 93 = h 93 := Eq.trans e215 E24
                have E233 : h229 94 = h 94 := Eq.trans e216 E25
                have E234 : h229 95 = h 95 := Eq.trans e217 E26
                have E235 : h229 96 = h 96 := Eq.trans e218 E27
                have E236 : h229 97 = h 97 := Eq.trans e219 E28
                have E237 : h229 98 = h 98 := Eq.trans e220 E29
                have E238 : h229 99 = h 99 := Eq.trans e221 E30
                have E239 : h229 100 = h 100 := Eq.trans e222 E31
                have E240 : h229 103 = h 103 := Eq.trans e223 E32
                have E241 : h229 105 = h 105 := Eq.trans e224 E33
                have E242 : h229 106 = h 106 := Eq.trans e225 E34
                have E243 : h229 114 = h 114 := Eq.trans e226 E35
                show ov_R u d ov_m288 95 [(0, ov_r 90), (1, ov_i s), (2, ov_i m), (3, ov_i 0)] [ov_i v213] z228 h229 (P_Mo_pace_90 F z h s m)
                rw [show (ov_up h21 90 37 s) 100 = h 100 from E31] at f212
                rw [show (ov_up h21 90 37 s) 96 = h 96 from E27] at f212
                have f244 : (h229 90 2) = (h21 90 2) ∧ (h229 90 7) = (h21 90 7) ∧ (h229 90 8) = (h21 90 8) ∧ (h229 90 13) = (h21 90 13) ∧ (h229 90 20) = (h21 90 20) ∧ (h229 90 22) = (h21 90 22) ∧ (h229 90 25) = (h21 90 25) ∧ (h229 90 26) = (h21 90 26) ∧ (h229 90 28) = (h21 90 28) ∧ (h229 90 29) = (h21 90 29) ∧ (h229 90 30) = (h21 90 30) ∧ (h229 90 34) = (h21 90 34) ∧ (h229 90 37) = s ∧ v213 = (ov_bp (h 96) (h 100) s) (0 : Int) (0 : Int) (0 : Int) ∧ 1 ≤ v213 ∧ (v213 = 2000000000 ∨ v213 ≤ 1201 + 100000 * (13 - (0 : Int))) := f212
                clear f212
                rw [show (ov_up h21 90 37 s) 100 = h 100 from E31] at y227
                rw [show (ov_up h21 90 37 s) 96 = h 96 from E27] at y227
                have y227_ : ov_PI (h 96) (h 100) s (h229 109) := y227
                refine ov_blk (ls2 := [(0, ov_r 90), (1, ov_i s), (2, ov_i m), (3, ov_i 0), (4, ov_i v213)]) (st2 := [ov_i v213]) (pc2 := 99) b_288_95_2 rfl rfl ?_
                refine ov_ldcw (n := 2000000000) d_288_99 kc_Mo_338 ?_
                refine ov_iceq (tgt := 110) d_288_102 (by decide) (by omega) (by omega) (fun c245 => ?_) (fun c245 => ?_)
                · skip
                  refine ov_blk (ls2 := [(0, ov_r 90), (1, ov_i s), (2, ov_i m), (3, ov_i 0), (4, ov_i v213)]) (st2 := [ov_i v213]) (pc2 := 112) b_288_110_1 rfl rfl ?_
                  refine ov_ldcw (n := 2000000000) d_288_112 kc_Mo_338 ?_
                  refine ov_icne (tgt := 122) d_288_115 (by decide) (by omega) (by omega) (fun c246 => ?_) (fun c246 => ?_)
                  · omega
                  · skip
                    refine ov_blk (ls2 := [(0, ov_r 90), (1, ov_i s), (2, ov_i m), (3, ov_i 0), (4, ov_i v213)]) (st2 := [ov_i (-1)]) (pc2 := 119) b_288_118_1 rfl rfl ?_
                    refine ov_goto (tgt := 145) d_288_119 (by decide) ?_
                    exact ov_reti (st := []) d_288_145 rfl ⟨_, rfl, I230, (by show (h229 90 2) = (h 90 2) ∧ (h229 90 7) = (h 90 7) ∧ (h229 90 8) = (h 90 8) ∧ (h229 90 13) = (h 90 13) ∧ (h229 90 20) = (h 90 20) ∧ (h229 90 22) = (h 90 22) ∧ (h229 90 25) = (h 90 25) ∧ (h229 90 26) = (h 90 26) ∧ (h229 90 28) = (h 90 28) ∧ (h229 90 29) = (h 90 29) ∧ (h229 90 30) = (h 90 30) ∧ (h229 90 34) = (h 90 34) ∧ -2147483648 ≤ (-1) ∧ (-1) ≤ 2147483647; omega), E231, E232, E233, E234, E235, E236, E237, E238, E239, E240, E241, E242, E243⟩
                · skip
                  refine ov_blk (ls2 := [(0, ov_r 90), (1, ov_i s), (2, ov_i m), (3, ov_i 0), (4, ov_i v213)]) (st2 := [ov_i 2, ov_i m]) (pc2 := 107) b_288_105_2 rfl rfl ?_
                  refine ov_icge (tgt := 146) d_288_107 (by decide) (by omega) (by omega) (fun c247 => ?_) (fun c247 => ?_)
                  · skip
                    refine ov_blk (ls2 := [(0, ov_r 90), (1, ov_i s), (2, ov_i m), (3, ov_i 0), (4, ov_i v213), (5, ov_i 0), (6, ov_i 0), (7, ov_i 0)]) (st2 := []) (pc2 := 155) b_288_146_6 rfl rfl ?_
                    have L251 : ∀ (n248 : Nat) (x3__ : Int) (x5_ : Int) (x6__ : Int) (x7_ : Int) (z252 : ov_Z) (h253 : ov_H) (I254 : ov_N F z252 h253) (E255 : h253 92 = h 92) (E256 : h253 93 = h 93) (E257 : h253 94 = h 94) (E258 : h253 95 = h 95) (E259 : h253 96 = h 96) (E260 : h253 97 = h 97) (E261 : h253 98 = h 98) (E262 : h253 99 = h 99) (E263 : h253 100 = h 100) (E264 : h253 103 = h 103) (E265 : h253 105 = h 105) (E266 : h253 106 = h 106) (E267 : h253 114 = h 114) (xm : ov_PI (h 96) (h 100) s (h253 109)) (q250 : 0 ≤ x7_ ∧ x7_ ≤ m - 1 ∧ 0 ≤ x5_ ∧ x5_ ≤ 89 * x7_ ∧ 0 ≤ x3__ ∧ x3__ ≤ 9 ∧ 0 ≤ x6__ ∧ x6__ ≤ 31 ∧ ¬ ov_bp (h 96) (h 100) s x7_ x5_ x3__ = 2000000000 ∧ (h253 90 37) = s ∧ (h253 90 2) = (h229 90 2) ∧ (h253 90 7) = (h229 90 7) ∧ (h253 90 8) = (h229 90 8) ∧ (h253 90 13) = (h229 90 13) ∧ (h253 90 20) = (h229 90 20) ∧ (h253 90 22) = (h229 90 22) ∧ (h253 90 25) = (h229 90 25) ∧ (h253 90 26) = (h229 90 26) ∧ (h253 90 28) = (h229 90 28) ∧ (h253 90 29) = (h229 90 29) ∧ (h253 90 30) = (h229 90 30) ∧ (h253 90 34) = (h229 90 34)), 13 - x7_ < (n248 : Int) → ov_R u d ov_m288 155 [(0, ov_r 90), (1, ov_i s), (2, ov_i m), (3, ov_i x3__), (4, ov_i v213), (5, ov_i x5_), (6, ov_i x6__), (7, ov_i x7_)] [] z252 h253 (P_Mo_pace_90 F z h s m) := by
                      intro n248
                      induction n248 with
                      | zero =>
                        intro x3__ x5_ x6__ x7_ z252 h253 I254 E255 E256 E257 E258 E259 E260 E261 E262 E263 E264 E265 E266 E267 xm q250 hn268
                        exact absurd hn268 (by omega)
                      | succ n248 ih249 =>
                        intro x3__ x5_ x6__ x7_ z252 h253 I254 E255 E256 E257 E258 E259 E260 E261 E262 E263 E264 E265 E266 E267 xm q250 hn268
                        refine ov_blk (ls2 := [(0, ov_r 90), (1, ov_i s), (2, ov_i m), (3, ov_i x3__), (4, ov_i v213), (5, ov_i x5_), (6, ov_i x6__), (7, ov_i x7_)]) (st2 := [ov_i (m - 2), ov_i x7_]) (pc2 := 160) b_288_155_4 rfl rfl ?_
                        refine ov_icgt (tgt := 265) d_288_160 (by decide) (by omega) (by omega) (fun c269 => ?_) (fun c269 => ?_)
                        · skip
                          refine ov_blk (ls2 := [(0, ov_r 90), (1, ov_i s), (2, ov_i m), (3, ov_i x3__), (4, ov_i v213), (5, ov_i x5_), (6, ov_i x6__), (7, ov_i x7_)]) (st2 := [ov_i x6__]) (pc2 := 267) b_288_265_1 rfl rfl ?_
                          exact ov_reti (st := []) d_288_267 rfl ⟨_, rfl, I254, (by show (h253 90 2) = (h 90 2) ∧ (h253 90 7) = (h 90 7) ∧ (h253 90 8) = (h 90 8) ∧ (h253 90 13) = (h 90 13) ∧ (h253 90 20) = (h 90 20) ∧ (h253 90 22) = (h 90 22) ∧ (h253 90 25) = (h 90 25) ∧ (h253 90 26) = (h 90 26) ∧ (h253 90 28) = (h 90 28) ∧ (h253 90 29) = (h 90 29) ∧ (h253 90 30) = (h 90 30) ∧ (h253 90 34) = (h 90 34) ∧ -2147483648 ≤ x6__ ∧ x6__ ≤ 2147483647; omega), E255, E256, E257, E258, E259, E260, E261, E262, E263, E264, E265, E266, E267⟩
                        · skip
                          refine ov_blk (ls2 := [(0, ov_r 90), (1, ov_i s), (2, ov_i m), (3, ov_i x3__), (4, ov_i v213), (5, ov_i x5_), (6, ov_i x6__), (7, ov_i x7_)]) (st2 := [ov_r 90]) (pc2 := 164) b_288_163_1 rfl rfl ?_
                          refine ov_cV (as := []) (st := []) (d2 := d - 1) d_288_164 lk_Mo_414 rfl (Nat.le_of_ble_eq_true rfl) (c := 1) (zb_90 I254) (zs_90 I254) ⟨by decide, rfl⟩ (by omega) (c_Mo_fastest_90_b (d - 1) (by omega) U I254) ?_
                          rintro _ _ _ ⟨v271, rfl, rfl, rfl, f270⟩
                          show ov_R u d ov_m288 167 [(0, ov_r 90), (1, ov_i s), (2, ov_i m), (3, ov_i x3__), (4, ov_i v213), (5, ov_i x5_), (6, ov_i x6__), (7, ov_i x7_)] [ov_i v271] z252 h253 (P_Mo_pace_90 F z h s m)
                          rw [show h253 96 = h 96 from E259] at f270
                          have f272 : v271 = ov_fst (h 96) ∧ 0 ≤ v271 ∧ v271 ≤ 30 := f270
                          clear f270
                          have fl := ov_fsl (h 96)
                          refine ov_blk (ls2 := [(0, ov_r 90), (1, ov_i s), (2, ov_i m), (3, ov_i x3__), (4, ov_i v213), (5, ov_i x5_), (6, ov_i v271), (7, ov_i x7_)]) (st2 := []) (pc2 := 169) b_288_167_1 rfl rfl ?_
                          have L276 : ∀ (n273 : Nat) (x6___ : Int) (z277 : ov_Z) (h278 : ov_H) (I279 : ov_N F z277 h278) (E280 : h278 92 = h 92) (E281 : h278 93 = h 93) (E282 : h278 94 = h 94) (E283 : h278 95 = h 95) (E284 : h278 96 = h 96) (E285 : h278 97 = h 97) (E286 : h278 98 = h 98) (E287 : h278 99 = h 99) (E288 : h278 100 = h 100) (E289 : h278 103 = h 103) (E290 : h278 105 = h 105) (E291 : h278 106 = h 106) (E292 : h278 114 = h 114) (xw : ∀ q : Int, ov_fst (h 96) ≤ q → q < x6___ → ¬ ov_pq (h 96) (h 100) s (ov_bp (h 96) (h 100) s) x7_ x5_ x3__ q = ov_bp (h 96) (h 100) s x7_ x5_ x3__) (xn : ov_PI (h 96) (h 100) s (h278 109)) (q275 : ov_fst (h 96) ≤ x6___ ∧ x6___ ≤ ov_slw (h 96) ∧ 0 ≤ x6___ ∧ x6___ ≤ 30 ∧ (h278 90 37) = s ∧ (h278 90 2) = (h253 90 2) ∧ (h278 90 7) = (h253 90 7) ∧ (h278 90 8) = (h253 90 8) ∧ (h278 90 13) = (h253 90 13) ∧ (h278 90 20) = (h253 90 20) ∧ (h278 90 22) = (h253 90 22) ∧ (h278 90 25) = (h253 90 25) ∧ (h278 90 26) = (h253 90 26) ∧ (h278 90 28) = (h253 90 28) ∧ (h278 90 29) = (h253 90 29) ∧ (h278 90 30) = (h253 90 30) ∧ (h278 90 34) = (h253 90 34)), 30 - x6___ < (n273 : Int) → ov_R u d ov_m288 169 [(0, ov_r 90), (1, ov_i s), (2, ov_i m), (3, ov_i x3__), (4, ov_i v213), (5, ov_i x5_), (6, ov_i x6___), (7, ov_i x7_)] [] z277 h278 (P_Mo_pace_90 F z h s m) := by
                            intro n273
                            induction n273 with
                            | zero =>
                              intro x6___ z277 h278 I279 E280 E281 E282 E283 E284 E285 E286 E287 E288 E289 E290 E291 E292 xw xn q275 hn293
                              exact absurd hn293 (by omega)
                            | succ n273 ih274 =>
                              intro x6___ z277 h278 I279 E280 E281 E282 E283 E284 E285 E286 E287 E288 E289 E290 E291 E292 xw xn q275 hn293
                              refine ov_blk (ls2 := [(0, ov_r 90), (1, ov_i s), (2, ov_i m), (3, ov_i x3__), (4, ov_i v213), (5, ov_i x5_), (6, ov_i x6___), (7, ov_i x7_)]) (st2 := [ov_r 90]) (pc2 := 170) b_288_169_1 rfl rfl ?_
                              refine ov_blk (ls2 := [(0, ov_r 90), (1, ov_i s), (2, ov_i m), (3, ov_i x3__), (4, ov_i v213), (5, ov_i x5_), (6, ov_i x6___), (7, ov_i x7_)]) (st2 := [ov_i x6___, ov_i x3__, ov_i x5_, ov_i x7_, ov_r 90]) (pc2 := 177) b_288_170_4 rfl rfl ?_
                              have cf294 : h278 100 (0) = h 100 (0) := congrFun E288 (0)
                              refine ov_cV (as := [ov_i x7_, ov_i x5_, ov_i x3__, ov_i x6___]) (st := []) (d2 := d - 1) d_288_177 lk_Mo_420 rfl (Nat.le_of_ble_eq_true rfl) (c := 1) (zb_90 I279) (zs_90 I279) ⟨by decide, rfl⟩ (by omega) (c_Mo_paceBy_90_all s (Int.toNat (h 100 0 - (x7_))) (d - 1) (by omega) U I279 x7_ x5_ x3__ x6___ (by omega) (by omega) (by omega) (by omega) (by show 0 ≤ x7_ ∧ x7_ + ((Int.toNat (h 100 0 - (x7_)) : Nat) : Int) = (h278 100 0); omega) (by show x7_ < (h278 100 0); omega) (by omega) (by omega) (by omega) (by show (h278 90 37) = s; omega) (by rw [show h278 96 = h 96 from E284]; exact W) (by rw [show h278 100 = h 100 from E288]; exact W2) (by rw [show h278 96 = h 96 from E284, show h278 100 = h 100 from E288]; exact xn)) ?_
                              rintro _ z311 h312 ⟨v296, rfl, I313, f295, e297, e298, e299, e300, e301, e302, e303, e304, e305, e306, e307, e308, e309, y310⟩
                              have E314 : h312 92 = h 92 := Eq.trans e297 E280
                              have E315 : h312 93 = h 93 := Eq.trans e298 E281
                              have E316 : h312 94 = h 94 := Eq.trans e299 E282
                              have E317 : h312 95 = h 95 := Eq.trans e300 E283
                              have E318 : h312 96 = h 96 := Eq.trans e301 E284
                              have E319 : h312 97 = h 97 := Eq.trans e302 E285
                              have E320 : h312 98 = h 98 := Eq.trans e303 E286
                              have E321 : h312 99 = h 99 := Eq.trans e304 E287
                              have E322 : h312 100 = h 100 := Eq.trans e305 E288
                              have E323 : h312 103 = h 103 := Eq.trans e306 E289
                              have E324 : h312 105 = h 105 := Eq.trans e307 E290
                              have E325 : h312 106 = h 106 := Eq.trans e308 E291
                              have E326 : h312 114 = h 114 := Eq.trans e309 E292
                              show ov_R u d ov_m288 180 [(0, ov_r 90), (1, ov_i s), (2, ov_i m), (3, ov_i x3__), (4, ov_i v213), (5, ov_i x5_), (6, ov_i x6___), (7, ov_i x7_)] [ov_i v296] z311 h312 (P_Mo_pace_90 F z h s m)
                              rw [show h278 100 = h 100 from E288] at f295
                              rw [show h278 96 = h 96 from E284] at f295
                              have f327 : (h312 90 2) = (h278 90 2) ∧ (h312 90 7) = (h278 90 7) ∧ (h312 90 8) = (h278 90 8) ∧ (h312 90 13) = (h278 90 13) ∧ (h312 90 20) = (h278 90 20) ∧ (h312 90 22) = (h278 90 22) ∧ (h312 90 25) = (h278 90 25) ∧ (h312 90 26) = (h278 90 26) ∧ (h312 90 28) = (h278 90 28) ∧ (h312 90 29) = (h278 90 29) ∧ (h312 90 30) = (h278 90 30) ∧ (h312 90 34) = (h278 90 34) ∧ (h312 90 37) = (h278 90 37) ∧ v296 = (ov_pq (h 96) (h 100) s (ov_bp (h 96) (h 100) s) x7_ x5_ x3__) x6___ ∧ 1 ≤ v296 ∧ (v296 = 2000000000 ∨ v296 ≤ 1201 + 100000 * (13 - x7_)) := f295
                              clear f295
                              rw [show h278 100 = h 100 from E288] at y310
                              rw [show h278 96 = h 96 from E284] at y310
                              have y310_ : ov_PI (h 96) (h 100) s (h312 109) := y310
                              refine ov_blk (ls2 := [(0, ov_r 90), (1, ov_i s), (2, ov_i m), (3, ov_i x3__), (4, ov_i v213), (5, ov_i x5_), (6, ov_i x6___), (7, ov_i x7_)]) (st2 := [ov_i x3__, ov_i x5_, ov_i x7_, ov_r 90, ov_i v296]) (pc2 := 186) b_288_180_4 rfl rfl ?_
                              have cf328 : h312 100 (0) = h 100 (0) := congrFun E322 (0)
                              refine ov_cV (as := [ov_i x7_, ov_i x5_, ov_i x3__]) (st := [ov_i v296]) (d2 := d - 1) d_288_186 lk_Mo_429 rfl (Nat.le_of_ble_eq_true rfl) (c := 1) (zb_90 I313) (zs_90 I313) ⟨by decide, rfl⟩ (by omega) (c_Mo_bestPace_90_all s (Int.toNat (h 100 0 - (x7_))) (d - 1) (by omega) U I313 x7_ x5_ x3__ (by omega) (by omega) (by omega) (by show 0 ≤ x7_ ∧ x7_ + ((Int.toNat (h 100 0 - (x7_)) : Nat) : Int) = (h312 100 0); omega) (by omega) (by omega) (by show (h312 90 37) = s; omega) (by rw [show h312 96 = h 96 from E318]; exact W) (by rw [show h312 100 = h 100 from E322]; exact W2) (by rw [show h312 96 = h 96 from E318, show h312 100 = h 100 from E322]; exact y310_)) ?_
                              rintro _ z345 h346 ⟨v330, rfl, I347, f329, e331, e332, e333, e334, e335, e336, e337, e338, e339, e340, e341, e342, e343, y344⟩
                              have E348 : h346 92 = h 92 := Eq.trans e331 E314
                              have E349 : h346 93 = h 93 := Eq.trans e332 E315
                              have E350 : h346 94 = h 94 := Eq.trans e333 E316
                              have E351 : h346 95 = h 95 := Eq.trans e334 E317
                              have E352 : h346 96 = h 96 := Eq.trans e335 E318
                              have E353 : h346 97 = h 97 := Eq.trans e336 E319
                              have E354 : h346 98 = h 98 := Eq.trans e337 E320
                              have E355 : h346 99 = h 99 := Eq.trans e338 E321
                              have E356 : h346 100 = h 100 := Eq.trans e339 E322
                              have E357 : h346 103 = h 103 := Eq.trans e340 E323
                              have E358 : h346 105 = h 105 := Eq.trans e341 E324
                              have E359 : h346 106 = h 106 := Eq.trans e342 E325
                              have E360 : h346 114 = h 114 := Eq.trans e343 E326
                              show ov_R u d ov_m288 189 [(0, ov_r 90), (1, ov_i s), (2, ov_i m), (3, ov_i x3__), (4, ov_i v213), (5, ov_i x5_), (6, ov_i x6___), (7, ov_i x7_)] [ov_i v330, ov_i v296] z345 h346 (P_Mo_pace_90 F z h s m)
                              rw [show h312 100 = h 100 from E322] at f329
                              rw [show h312 96 = h 96 from E318] at f329
                              have f361 : (h346 90 2) = (h312 90 2) ∧ (h346 90 7) = (h312 90 7) ∧ (h346 90 8) = (h312 90 8) ∧ (h346 90 13) = (h312 90 13) ∧ (h346 90 20) = (h312 90 20) ∧ (h346 90 22) = (h312 90 22) ∧ (h346 90 25) = (h312 90 25) ∧ (h346 90 26) = (h312 90 26) ∧ (h346 90 28) = (h312 90 28) ∧ (h346 90 29) = (h312 90 29) ∧ (h346 90 30) = (h312 90 30) ∧ (h346 90 34) = (h312 90 34) ∧ (h346 90 37) = (h312 90 37) ∧ v330 = (ov_bp (h 96) (h 100) s) x7_ x5_ x3__ ∧ 1 ≤ v330 ∧ (v330 = 2000000000 ∨ v330 ≤ 1201 + 100000 * (13 - x7_)) := f329
                              clear f329
                              rw [show h312 100 = h 100 from E322] at y344
                              rw [show h312 96 = h 96 from E318] at y344
                              have y344_ : ov_PI (h 96) (h 100) s (h346 109) := y344
                              refine ov_iceq (tgt := 198) d_288_189 (by decide) (by omega) (by omega) (fun c362 => ?_) (fun c362 => ?_)
                              · skip
                                have npq : ¬ ov_pq (h 96) (h 100) s (ov_bp (h 96) (h 100) s) x7_ x5_ x3__ x6___ = 2000000000 := by omega
                                refine ov_blk (ls2 := [(0, ov_r 90), (1, ov_i s), (2, ov_i m), (3, ov_i x3__), (4, ov_i v213), (5, ov_i x5_), (6, ov_i x6___), (7, ov_i x7_)]) (st2 := [ov_i x7_, ov_r 90]) (pc2 := 201) b_288_198_2 rfl rfl ?_
                                refine ov_cV (as := [ov_i x7_]) (st := []) (d2 := d - 1) d_288_201 lk_Mo_423 rfl (Nat.le_of_ble_eq_true rfl) (c := 1) (zb_90 I347) (zs_90 I347) ⟨by decide, rfl⟩ (by omega) (c_Mo_xAt_90 (d - 1) (by omega) U I347 x7_ (by omega) (by omega)) ?_
                                rintro _ _ _ ⟨v364, rfl, rfl, rfl, f363⟩
                                show ov_R u d ov_m288 204 [(0, ov_r 90), (1, ov_i s), (2, ov_i m), (3, ov_i x3__), (4, ov_i v213), (5, ov_i x5_), (6, ov_i x6___), (7, ov_i x7_)] [ov_i v364] z345 h346 (P_Mo_pace_90 F z h s m)
                                rw [show h346 100 = h 100 from E356] at f363
                                have f365 : v364 = ov_sx (h 100) (Int.toNat x7_) ∧ 0 ≤ v364 ∧ v364 ≤ x7_ := f363
                                clear f363
                                have ev : v364 = ov_sx (h 100) (Int.toNat x7_) := by omega
                                have wi := ov_WK_in W2 wk (by omega) (k := x7_) (by omega)
                                have ww := wk x7_ (by omega) (by omega)
                                have pcg := ov_pq_cg ev npq
                                have cg := (ov_cgi_sp (h 96) v364 (x7_ - v364) (h 100 (1 + 2 * x7_))).2 pcg.1
                                refine ov_blk (ls2 := [(0, ov_r 90), (1, ov_i s), (2, ov_i m), (3, ov_i x3__), (4, ov_i v213), (5, ov_i x5_), (6, ov_i x6___), (7, ov_i x7_), (8, ov_i v364)]) (st2 := [ov_r 90, ov_i (x7_ - v364), ov_i v364, ov_r 90, ov_i x5_]) (pc2 := 217) b_288_204_8 rfl rfl ?_
                                refine ov_getf (v := ov_r 100) d_288_217 fl_Mo_93 (zb_90 I347) (zs_90 I347) (congrArg ov_r (rg_90_16 I347)) ?_
                                refine ov_blk (ls2 := [(0, ov_r 90), (1, ov_i s), (2, ov_i m), (3, ov_i x3__), (4, ov_i v213), (5, ov_i x5_), (6, ov_i x6___), (7, ov_i x7_), (8, ov_i v364)]) (st2 := [ov_i (1 + (2 * x7_)), ov_r 100, ov_i (x7_ - v364), ov_i v364, ov_r 90, ov_i x5_]) (pc2 := 226) b_288_220_5 rfl rfl ?_
                                refine ov_iald d_288_226 (zb_100 I347) (zs_100 I347) (by omega) ?_
                                rw [show h346 100 = h 100 from E356]
                                have g366 := s100_g I (1 + (2 * x7_))
                                refine ov_blk (ls2 := [(0, ov_r 90), (1, ov_i s), (2, ov_i m), (3, ov_i x3__), (4, ov_i v213), (5, ov_i x5_), (6, ov_i x6___), (7, ov_i x7_), (8, ov_i v364)]) (st2 := [ov_i (s + x5_), ov_i (h 100 (1 + (2 * x7_))), ov_i (x7_ - v364), ov_i v364, ov_r 90, ov_i x5_]) (pc2 := 231) b_288_227_3 rfl rfl ?_
                                have cf367 : h346 96 (10 + 4 * (6 * (x7_ - v364) + v364)) = h 96 (10 + 4 * (6 * (x7_ - v364) + v364)) := congrFun E352 (10 + 4 * (6 * (x7_ - v364) + v364))
                                have cf368 : h346 96 (10 + 4 * (6 * (x7_ - v364) + v364) + 3) = h 96 (10 + 4 * (6 * (x7_ - v364) + v364) + 3) := congrFun E352 (10 + 4 * (6 * (x7_ - v364) + v364) + 3)
                                have cf369 : h346 96 (10 + 4 * (6 * (x7_ - v364) + v364) + 1) = h 96 (10 + 4 * (6 * (x7_ - v364) + v364) + 1) := congrFun E352 (10 + 4 * (6 * (x7_ - v364) + v364) + 1)
                                refine ov_cV (as := [ov_i v364, ov_i (x7_ - v364), ov_i (h 100 (1 + (2 * x7_))), ov_i (s + x5_)]) (st := [ov_i x5_]) (d2 := d - 1) d_288_231 lk_Mo_315 rfl (Nat.le_of_ble_eq_true rfl) (c := 1) (zb_90 I347) (zs_90 I347) ⟨by decide, rfl⟩ (by omega) (c_Mo_waitFor_90 (d - 1) (by omega) U I347 v364 (x7_ - v364) (h 100 (1 + (2 * x7_))) (s + x5_) (by omega) (by omega) (by omega) (by omega) (by omega) (by omega) (by omega) (by show (((h346 96 (10 + 4 * (6 * (x7_ - v364) + v364))) = 1 ∨ (h346 96 (10 + 4 * (6 * (x7_ - v364) + v364))) = 2) → ((h 100 (1 + (2 * x7_))) = 0 → 0 < (h346 96 (10 + 4 * (6 * (x7_ - v364) + v364) + 3))) ∧ (¬ (h 100 (1 + (2 * x7_))) = 0 → (h346 96 (10 + 4 * (6 * (x7_ - v364) + v364) + 3)) < (h346 96 (10 + 4 * (6 * (x7_ - v364) + v364) + 1)))); omega) (by rw [show h346 96 = h 96 from E352]; exact W)) ?_
                                rintro _ _ _ ⟨v371, rfl, rfl, rfl, f370⟩
                                show ov_R u d ov_m288 234 [(0, ov_r 90), (1, ov_i s), (2, ov_i m), (3, ov_i x3__), (4, ov_i v213), (5, ov_i x5_), (6, ov_i x6___), (7, ov_i x7_), (8, ov_i v364)] [ov_i v371, ov_i x5_] z345 h346 (P_Mo_pace_90 F z h s m)
                                rw [show h346 96 = h 96 from E352] at f370
                                have f372 : 0 ≤ v371 ∧ v371 ≤ 59 ∧ v371 = ov_wm (h 96) (6 * (x7_ - v364) + v364) (h 100 (1 + (2 * x7_))) (s + x5_) := f370
                                clear f370
                                have hw : v371 = ov_wm (h 96) (6 * (x7_ - v364) + v364) (h 100 (1 + 2 * x7_)) (s + x5_) := by omega
                                have pk := ov_pq_ok ev hw npq
                                refine ov_blk (ls2 := [(0, ov_r 90), (1, ov_i s), (2, ov_i m), (3, ov_i x3__), (4, ov_i v213), (5, ov_i (x5_ + (v371 + x6___))), (6, ov_i x6___), (7, ov_i x7_), (8, ov_i v364)]) (st2 := [ov_r 90, ov_i x6___, ov_i x3__]) (pc2 := 244) b_288_234_7 rfl rfl ?_
                                refine ov_getf (v := ov_r 96) d_288_244 fl_Mo_81 (zb_90 I347) (zs_90 I347) (congrArg ov_r (rg_90_10 I347)) ?_
                                refine ov_blk (ls2 := [(0, ov_r 90), (1, ov_i s), (2, ov_i m), (3, ov_i x3__), (4, ov_i v213), (5, ov_i (x5_ + (v371 + x6___))), (6, ov_i x6___), (7, ov_i x7_), (8, ov_i v364)]) (st2 := [ov_i 2, ov_r 96, ov_i x6___, ov_i x3__]) (pc2 := 248) b_288_247_1 rfl rfl ?_
                                refine ov_iald d_288_248 (zb_96 I347) (zs_96 I347) (by omega) ?_
                                rw [show h346 96 = h 96 from E352]
                                have g373 := t96_2 I
                                refine ov_icge (tgt := 256) d_288_249 (by decide) (by omega) (by omega) (fun c374 => ?_) (fun c374 => ?_)
                                · skip
                                  refine ov_blk (ls2 := [(0, ov_r 90), (1, ov_i s), (2, ov_i m), (3, ov_i x3__), (4, ov_i v213), (5, ov_i (x5_ + (v371 + x6___))), (6, ov_i x6___), (7, ov_i x7_), (8, ov_i v364)]) (st2 := [ov_i (x3__ - 0)]) (pc2 := 258) b_288_256_2 rfl rfl ?_
                                  have nb0 : ¬ ov_bp (h 96) (h 100) s (x7_ + 1) (x5_ + v371 + x6___) x3__ = 2000000000 := pk.2 (by omega)
                                  have nb : ¬ ov_bp (h 96) (h 100) s (x7_ + 1) (x5_ + (v371 + x6___)) (x3__ - 0) = 2000000000 := by rw [show (x5_ + (v371 + x6___)) = x5_ + v371 + x6___ by omega, show (x3__ - 0) = x3__ by omega]; exact nb0
                                  refine ov_blk (ls2 := [(0, ov_r 90), (1, ov_i s), (2, ov_i m), (3, ov_i (x3__ - 0)), (4, ov_i v213), (5, ov_i (x5_ + (v371 + x6___))), (6, ov_i x6___), (7, ov_i (x7_ + 1)), (8, ov_i v364)]) (st2 := []) (pc2 := 262) b_288_258_2 rfl rfl ?_
                                  refine ov_goto (tgt := 155) d_288_262 (by decide) ?_
                                  refine ov_sub (ls2 := [(0, ov_r 90), (1, ov_i s), (2, ov_i m), (3, ov_i (x3__ - 0)), (4, ov_i v213), (5, ov_i (x5_ + (v371 + x6___))), (6, ov_i x6___), (7, ov_i (x7_ + 1))]) (List.Sublist.subset (by repeat (first | exact List.Sublist.refl _ | apply List.Sublist.cons_cons | apply List.Sublist.cons))) ?_
                                  exact ih249 (x3__ - 0) (x5_ + (v371 + x6___)) x6___ (x7_ + 1) _ _ I347 E348 E349 E350 E351 E352 E353 E354 E355 E356 E357 E358 E359 E360 y344_ (by show 0 ≤ (x7_ + 1) ∧ (x7_ + 1) ≤ m - 1 ∧ 0 ≤ (x5_ + (v371 + x6___)) ∧ (x5_ + (v371 + x6___)) ≤ 89 * (x7_ + 1) ∧ 0 ≤ (x3__ - 0) ∧ (x3__ - 0) ≤ 9 ∧ 0 ≤ x6___ ∧ x6___ ≤ 31 ∧ ¬ ov_bp (h 96) (h 100) s (x7_ + 1) (x5_ + (v371 + x6___)) (x3__ - 0) = 2000000000 ∧ (h346 90 37) = s ∧ (h346 90 2) = (h229 90 2) ∧ (h346 90 7) = (h229 90 7) ∧ (h346 90 8) = (h229 90 8) ∧ (h346 90 13) = (h229 90 13) ∧ (h346 90 20) = (h229 90 20) ∧ (h346 90 22) = (h229 90 22) ∧ (h346 90 25) = (h229 90 25) ∧ (h346 90 26) = (h229 90 26) ∧ (h346 90 28) = (h229 90 28) ∧ (h346 90 29) = (h229 90 29) ∧ (h346 90 30) = (h229 90 30) ∧ (h346 90 34) = (h229 90 34); omega) (by omega)
                                · skip
                                  refine ov_blk (ls2 := [(0, ov_r 90), (1, ov_i s), (2, ov_i m), (3, ov_i x3__), (4, ov_i v213), (5, ov_i (x5_ + (v371 + x6___))), (6, ov_i x6___), (7, ov_i x7_), (8, ov_i v364)]) (st2 := [ov_i 1, ov_i x3__]) (pc2 := 253) b_288_252_1 rfl rfl ?_
                                  refine ov_goto (tgt := 257) d_288_253 (by decide) ?_
                                  refine ov_blk (ls2 := [(0, ov_r 90), (1, ov_i s), (2, ov_i m), (3, ov_i x3__), (4, ov_i v213), (5, ov_i (x5_ + (v371 + x6___))), (6, ov_i x6___), (7, ov_i x7_), (8, ov_i v364)]) (st2 := [ov_i (x3__ - 1)]) (pc2 := 258) b_288_257_1 rfl rfl ?_
                                  have nb0 : ¬ ov_bp (h 96) (h 100) s (x7_ + 1) (x5_ + v371 + x6___) (x3__ - 1) = 2000000000 := pk.1 (by omega)
                                  have nb : ¬ ov_bp (h 96) (h 100) s (x7_ + 1) (x5_ + (v371 + x6___)) (x3__ - 1) = 2000000000 := by rw [show (x5_ + (v371 + x6___)) = x5_ + v371 + x6___ by omega, show (x3__ - 1) = (x3__ - 1) by omega]; exact nb0
                                  refine ov_blk (ls2 := [(0, ov_r 90), (1, ov_i s), (2, ov_i m), (3, ov_i (x3__ - 1)), (4, ov_i v213), (5, ov_i (x5_ + (v371 + x6___))), (6, ov_i x6___), (7, ov_i (x7_ + 1)), (8, ov_i v364)]) (st2 := []) (pc2 := 262) b_288_258_2 rfl rfl ?_
                                  refine ov_goto (tgt := 155) d_288_262 (by decide) ?_
                                  refine ov_sub (ls2 := [(0, ov_r 90), (1, ov_i s), (2, ov_i m), (3, ov_i (x3__ - 1)), (4, ov_i v213), (5, ov_i (x5_ + (v371 + x6___))), (6, ov_i x6___), (7, ov_i (x7_ + 1))]) (List.Sublist.subset (by repeat (first | exact List.Sublist.refl _ | apply List.Sublist.cons_cons | apply List.Sublist.cons))) ?_
                                  exact ih249 (x3__ - 1) (x5_ + (v371 + x6___)) x6___ (x7_ + 1) _ _ I347 E348 E349 E350 E351 E352 E353 E354 E355 E356 E357 E358 E359 E360 y344_ (by show 0 ≤ (x7_ + 1) ∧ (x7_ + 1) ≤ m - 1 ∧ 0 ≤ (x5_ + (v371 + x6___)) ∧ (x5_ + (v371 + x6___)) ≤ 89 * (x7_ + 1) ∧ 0 ≤ (x3__ - 1) ∧ (x3__ - 1) ≤ 9 ∧ 0 ≤ x6___ ∧ x6___ ≤ 31 ∧ ¬ ov_bp (h 96) (h 100) s (x7_ + 1) (x5_ + (v371 + x6___)) (x3__ - 1) = 2000000000 ∧ (h346 90 37) = s ∧ (h346 90 2) = (h229 90 2) ∧ (h346 90 7) = (h229 90 7) ∧ (h346 90 8) = (h229 90 8) ∧ (h346 90 13) = (h229 90 13) ∧ (h346 90 20) = (h229 90 20) ∧ (h346 90 22) = (h229 90 22) ∧ (h346 90 25) = (h229 90 25) ∧ (h346 90 26) = (h229 90 26) ∧ (h346 90 28) = (h229 90 28) ∧ (h346 90 29) = (h229 90 29) ∧ (h346 90 30) = (h229 90 30) ∧ (h346 90 34) = (h229 90 34); omega) (by omega)
                              · skip
                                have nq : ¬ ov_pq (h 96) (h 100) s (ov_bp (h 96) (h 100) s) x7_ x5_ x3__ x6___ = ov_bp (h 96) (h 100) s x7_ x5_ x3__ := by omega
                                have nx := ov_bp_find (by omega) (by omega) (by omega) xw nq
                                have sl := ov_slw_b I
                                have xw2 : ∀ q : Int, ov_fst (h 96) ≤ q → q < x6___ + 1 → ¬ ov_pq (h 96) (h 100) s (ov_bp (h 96) (h 100) s) x7_ x5_ x3__ q = ov_bp (h 96) (h 100) s x7_ x5_ x3__ := fun q a b => if c : q = x6___ then (by rw [c]; exact nq) else xw q a (by omega)
                                refine ov_blk (ls2 := [(0, ov_r 90), (1, ov_i s), (2, ov_i m), (3, ov_i x3__), (4, ov_i v213), (5, ov_i x5_), (6, ov_i (x6___ + 1)), (7, ov_i x7_)]) (st2 := []) (pc2 := 195) b_288_192_1 rfl rfl ?_
                                refine ov_goto (tgt := 169) d_288_195 (by decide) ?_
                                exact ih274 (x6___ + 1) _ _ I347 E348 E349 E350 E351 E352 E353 E354 E355 E356 E357 E358 E359 E360 xw2 y344_ (by show ov_fst (h 96) ≤ (x6___ + 1) ∧ (x6___ + 1) ≤ ov_slw (h 96) ∧ 0 ≤ (x6___ + 1) ∧ (x6___ + 1) ≤ 30 ∧ (h346 90 37) = s ∧ (h346 90 2) = (h253 90 2) ∧ (h346 90 7) = (h253 90 7) ∧ (h346 90 8) = (h253 90 8) ∧ (h346 90 13) = (h253 90 13) ∧ (h346 90 20) = (h253 90 20) ∧ (h346 90 22) = (h253 90 22) ∧ (h346 90 25) = (h253 90 25) ∧ (h346 90 26) = (h253 90 26) ∧ (h346 90 28) = (h253 90 28) ∧ (h346 90 29) = (h253 90 29) ∧ (h346 90 30) = (h253 90 30) ∧ (h346 90 34) = (h253 90 34); omega) (by omega)
                          exact L276 31 v271 _ _ I254 E255 E256 E257 E258 E259 E260 E261 E262 E263 E264 E265 E266 E267 (fun q a b => absurd a (by omega)) xm (by show ov_fst (h 96) ≤ v271 ∧ v271 ≤ ov_slw (h 96) ∧ 0 ≤ v271 ∧ v271 ≤ 30 ∧ (h253 90 37) = s ∧ (h253 90 2) = (h253 90 2) ∧ (h253 90 7) = (h253 90 7) ∧ (h253 90 8) = (h253 90 8) ∧ (h253 90 13) = (h253 90 13) ∧ (h253 90 20) = (h253 90 20) ∧ (h253 90 22) = (h253 90 22) ∧ (h253 90 25) = (h253 90 25) ∧ (h253 90 26) = (h253 90 26) ∧ (h253 90 28) = (h253 90 28) ∧ (h253 90 29) = (h253 90 29) ∧ (h253 90 30) = (h253 90 30) ∧ (h253 90 34) = (h253 90 34); omega) (by omega)
                    exact L251 14 0 0 0 0 _ _ I230 E231 E232 E233 E234 E235 E236 E237 E238 E239 E240 E241 E242 E243 y227_ (by show 0 ≤ 0 ∧ 0 ≤ m - 1 ∧ 0 ≤ 0 ∧ 0 ≤ 89 * 0 ∧ 0 ≤ 0 ∧ 0 ≤ 9 ∧ 0 ≤ 0 ∧ 0 ≤ 31 ∧ ¬ ov_bp (h 96) (h 100) s 0 0 0 = 2000000000 ∧ (h229 90 37) = s ∧ (h229 90 2) = (h229 90 2) ∧ (h229 90 7) = (h229 90 7) ∧ (h229 90 8) = (h229 90 8) ∧ (h229 90 13) = (h229 90 13) ∧ (h229 90 20) = (h229 90 20) ∧ (h229 90 22) = (h229 90 22) ∧ (h229 90 25) = (h229 90 25) ∧ (h229 90 26) = (h229 90 26) ∧ (h229 90 28) = (h229 90 28) ∧ (h229 90 29) = (h229 90 29) ∧ (h229 90 30) = (h229 90 30) ∧ (h229 90 34) = (h229 90 34); omega) (by omega)
                  · skip
                    refine ov_blk (ls2 := [(0, ov_r 90), (1, ov_i s), (2, ov_i m), (3, ov_i 0), (4, ov_i v213)]) (st2 := [ov_i v213]) (pc2 := 112) b_288_110_1 rfl rfl ?_
                    refine ov_ldcw (n := 2000000000) d_288_112 kc_Mo_338 ?_
                    refine ov_icne (tgt := 122) d_288_115 (by decide) (by omega) (by omega) (fun c375 => ?_) (fun c375 => ?_)
                    · skip
                      refine ov_blk (ls2 := [(0, ov_r 90), (1, ov_i s), (2, ov_i m), (3, ov_i 0), (4, ov_i v213)]) (st2 := [ov_i m]) (pc2 := 123) b_288_122_1 rfl rfl ?_
                      refine ov_ifne (tgt := 135) d_288_123 (by decide) (by omega) (fun c376 => ?_) (fun c376 => ?_)
                      · skip
                        refine ov_blk (ls2 := [(0, ov_r 90), (1, ov_i s), (2, ov_i m), (3, ov_i 0), (4, ov_i v213)]) (st2 := [ov_i v213, ov_i s]) (pc2 := 138) b_288_135_2 rfl rfl ?_
                        refine ov_ldcw (n := 100000) d_288_138 kc_Mo_432 ?_
                        refine ov_irem d_288_141 (by omega) (by omega) (by omega) ?_
                        have g377 := ov_tm (a := v213) (b := 100000) (by omega)
                        have g378 := ov_tmg (a := v213) (b := 100000) (by omega) (by omega)
                        refine ov_blk (ls2 := [(0, ov_r 90), (1, ov_i s), (2, ov_i m), (3, ov_i 0), (4, ov_i v213)]) (st2 := [ov_i ((s + (Int.tmod v213 100000)) - 1)]) (pc2 := 145) b_288_142_3 rfl rfl ?_
                        exact ov_reti (st := []) d_288_145 rfl ⟨_, rfl, I230, (by show (h229 90 2) = (h 90 2) ∧ (h229 90 7) = (h 90 7) ∧ (h229 90 8) = (h 90 8) ∧ (h229 90 13) = (h 90 13) ∧ (h229 90 20) = (h 90 20) ∧ (h229 90 22) = (h 90 22) ∧ (h229 90 25) = (h 90 25) ∧ (h229 90 26) = (h 90 26) ∧ (h229 90 28) = (h 90 28) ∧ (h229 90 29) = (h 90 29) ∧ (h229 90 30) = (h 90 30) ∧ (h229 90 34) = (h 90 34) ∧ -2147483648 ≤ ((s + (Int.tmod v213 100000)) - 1) ∧ ((s + (Int.tmod v213 100000)) - 1) ≤ 2147483647; omega), E231, E232, E233, E234, E235, E236, E237, E238, E239, E240, E241, E242, E243⟩
                      · skip
                        refine ov_blk (ls2 := [(0, ov_r 90), (1, ov_i s), (2, ov_i m), (3, ov_i 0), (4, ov_i v213)]) (st2 := [ov_i v213]) (pc2 := 128) b_288_126_1 rfl rfl ?_
                        refine ov_ldcw (n := 100000) d_288_128 kc_Mo_432 ?_
                        refine ov_idiv d_288_131 (by omega) (by omega) (by omega) ?_
                        have g379 := ov_td (a := v213) (b := 100000) (by omega)
                        refine ov_goto (tgt := 145) d_288_132 (by decide) ?_
                        exact ov_reti (st := []) d_288_145 rfl ⟨_, rfl, I230, (by show (h229 90 2) = (h 90 2) ∧ (h229 90 7) = (h 90 7) ∧ (h229 90 8) = (h 90 8) ∧ (h229 90 13) = (h 90 13) ∧ (h229 90 20) = (h 90 20) ∧ (h229 90 22) = (h 90 22) ∧ (h229 90 25) = (h 90 25) ∧ (h229 90 26) = (h 90 26) ∧ (h229 90 28) = (h 90 28) ∧ (h229 90 29) = (h 90 29) ∧ (h229 90 30) = (h 90 30) ∧ (h229 90 34) = (h 90 34) ∧ -2147483648 ≤ (Int.tdiv v213 100000) ∧ (Int.tdiv v213 100000) ≤ 2147483647; omega), E231, E232, E233, E234, E235, E236, E237, E238, E239, E240, E241, E242, E243⟩
                    · omega
            · skip
              refine ov_blk (ls2 := [(0, ov_r 90), (1, ov_i s), (2, ov_i m), (3, ov_i x3)]) (st2 := [ov_r 90]) (pc2 := 49) b_288_48_1 rfl rfl ?_
              refine ov_getf (v := ov_r 109) d_288_49 fl_Mo_129 (zb_90 I22) (zs_90 I22) (congrArg ov_r (rg_90_36 I22)) ?_
              refine ov_blk (ls2 := [(0, ov_r 90), (1, ov_i s), (2, ov_i m), (3, ov_i x3)]) (st2 := [ov_i 0, ov_i x3, ov_r 109]) (pc2 := 54) b_288_52_2 rfl rfl ?_
              refine ov_iast d_288_54 (zb_109 I22) (zs_109 I22) (by omega) ?_
              have I380 := ua_109 (k := x3) (x := 0) I22 (by omega)
              refine ov_blk (ls2 := [(0, ov_r 90), (1, ov_i s), (2, ov_i m), (3, ov_i (x3 + 1))]) (st2 := []) (pc2 := 58) b_288_55_1 rfl rfl ?_
              refine ov_goto (tgt := 42) d_288_58 (by decide) ?_
              exact ih17 (x3 + 1) _ _ I380 E23 E24 E25 E26 E27 E28 E29 E30 E31 E32 E33 E34 E35 (fun j a b => if c : j = x3 then (by rw [c]; show ov_up _ 109 _ _ 109 _ = _; rw [ov_up_row, ov_rs_eq]) else (by rw [ov_up_j c]; exact xz j a (by omega))) (by show 0 ≤ (x3 + 1) ∧ (x3 + 1) ≤ 156000 ∧ (h21 90 2) = (h 90 2) ∧ (h21 90 7) = (h 90 7) ∧ (h21 90 8) = (h 90 8) ∧ (h21 90 13) = (h 90 13) ∧ (h21 90 20) = (h 90 20) ∧ (h21 90 22) = (h 90 22) ∧ (h21 90 25) = (h 90 25) ∧ (h21 90 26) = (h 90 26) ∧ (h21 90 28) = (h 90 28) ∧ (h21 90 29) = (h 90 29) ∧ (h21 90 30) = (h 90 30) ∧ (h21 90 34) = (h 90 34); omega) (by omega)
        exact L19 156001 0 _ _ I1 rfl rfl rfl rfl rfl rfl rfl rfl rfl rfl rfl rfl rfl (fun j a b => absurd a (by omega)) (by show 0 ≤ 0 ∧ 0 ≤ 156000 ∧ (h 90 2) = (h 90 2) ∧ (h 90 7) = (h 90 7) ∧ (h 90 8) = (h 90 8) ∧ (h 90 13) = (h 90 13) ∧ (h 90 20) = (h 90 20) ∧ (h 90 22) = (h 90 22) ∧ (h 90 25) = (h 90 25) ∧ (h 90 26) = (h 90 26) ∧ (h 90 28) = (h 90 28) ∧ (h 90 29) = (h 90 29) ∧ (h 90 30) = (h 90 30) ∧ (h 90 34) = (h 90 34); omega) (by omega)
      · skip
        refine ov_blk (ls2 := [(0, ov_r 90), (1, ov_i s), (2, ov_i m)]) (st2 := [ov_i (-1)]) (pc2 := 39) b_288_38_1 rfl rfl ?_
        exact ov_reti (st := []) d_288_39 rfl ⟨_, rfl, I1, ⟨rfl, rfl, rfl, rfl, rfl, rfl, rfl, rfl, rfl, rfl, rfl, rfl, (by show -2147483648 ≤ (-1) ∧ (-1) ≤ 2147483647; omega)⟩, rfl, rfl, rfl, rfl, rfl, rfl, rfl, rfl, rfl, rfl, rfl, rfl, rfl⟩

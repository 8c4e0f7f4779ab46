abbrev P_Mo_runTime_90_b (F : ov_H × ov_Z) (z : ov_Z) (h : ov_H) : Option ov_V → ov_Z → ov_H → Prop := fun r0 z' h' => ∃ r : Int, r0 = some (ov_i r) ∧ z = z' ∧ h = h' ∧ (r = ov_rt (h 96) ∧ 0 ≤ r ∧ r ≤ 30)
set_option maxHeartbeats 4000000 in
theorem c_Mo_runTime_90_b {u : ov_U} {F : ov_H × ov_Z} {z : ov_Z} {h : ov_H} (d : Nat) (hd : 0 ≤ d) (U : ov_cap u) (I : ov_N F z h) : ov_T u d ov_m256 [ov_r 90] z h (P_Mo_runTime_90_b F z h) := by
  refine ov_en rfl (Nat.le_of_ble_eq_true rfl) ?_
  show ov_R u d ov_m256 0 [(0, ov_r 90)] [] z h (P_Mo_runTime_90_b F z h)
  refine ov_blk (ls2 := [(0, ov_r 90)]) (st2 := [ov_r 90]) (pc2 := 1) b_256_0_1 rfl rfl ?_
  refine ov_getf (v := ov_r 96) d_256_1 fl_Mo_81 (zb_90 I) (zs_90 I) (congrArg ov_r (rg_90_10 I)) ?_
  refine ov_blk (ls2 := [(0, ov_r 90)]) (st2 := [ov_i 3, ov_r 96]) (pc2 := 5) b_256_4_1 rfl rfl ?_
  refine ov_iald d_256_5 (zb_96 I) (zs_96 I) (by omega) ?_
  have g1 := t96_3 I
  refine ov_ifge (tgt := 18) d_256_6 (by decide) (by omega) (fun c2 => ?_) (fun c2 => ?_)
  · skip
    refine ov_blk (ls2 := [(0, ov_r 90)]) (st2 := [ov_r 90]) (pc2 := 19) b_256_18_1 rfl rfl ?_
    refine ov_getf (v := ov_r 96) d_256_19 fl_Mo_81 (zb_90 I) (zs_90 I) (congrArg ov_r (rg_90_10 I)) ?_
    refine ov_blk (ls2 := [(0, ov_r 90)]) (st2 := [ov_i 3, ov_r 96]) (pc2 := 23) b_256_22_1 rfl rfl ?_
    refine ov_iald d_256_23 (zb_96 I) (zs_96 I) (by omega) ?_
    have qv : ov_rt (h 96) = (h 96 3) := by unfold ov_rt; repeat (first | rw [if_pos (by omega)] | rw [if_neg (by omega)])
    exact ov_reti (st := []) d_256_24 rfl ⟨_, rfl, rfl, rfl, (by show (h 96 3) = ov_rt (h 96) ∧ 0 ≤ (h 96 3) ∧ (h 96 3) ≤ 30; omega)⟩
  · skip
    refine ov_blk (ls2 := [(0, ov_r 90)]) (st2 := [ov_r 90]) (pc2 := 10) b_256_9_1 rfl rfl ?_
    refine ov_getf (v := ov_r 96) d_256_10 fl_Mo_81 (zb_90 I) (zs_90 I) (congrArg ov_r (rg_90_10 I)) ?_
    refine ov_blk (ls2 := [(0, ov_r 90)]) (st2 := [ov_i 2, ov_r 96]) (pc2 := 14) b_256_13_1 rfl rfl ?_
    refine ov_iald d_256_14 (zb_96 I) (zs_96 I) (by omega) ?_
    have g4 := t96_2 I
    refine ov_goto (tgt := 24) d_256_15 (by decide) ?_
    have qv : ov_rt (h 96) = (h 96 2) := by unfold ov_rt; repeat (first | rw [if_pos (by omega)] | rw [if_neg (by omega)])
    exact ov_reti (st := []) d_256_24 rfl ⟨_, rfl, rfl, rfl, (by show (h 96 2) = ov_rt (h 96) ∧ 0 ≤ (h 96 2) ∧ (h 96 2) ≤ 30; omega)⟩
abbrev P_Mo_slowTime_90_b (F : ov_H × ov_Z) (z : ov_Z) (h : ov_H) : Option ov_V → ov_Z → ov_H → Prop := fun r0 z' h' => ∃ r : Int, r0 = some (ov_i r) ∧ z = z' ∧ h = h' ∧ (r = ov_slt (h 96) ∧ 0 ≤ r ∧ r ≤ 30)
set_option maxHeartbeats 4000000 in
theorem c_Mo_slowTime_90_b {u : ov_U} {F : ov_H × ov_Z} {z : ov_Z} {h : ov_H} (d : Nat) (hd : 0 ≤ d) (U : ov_cap u) (I : ov_N F z h) : ov_T u d ov_m291 [ov_r 90] z h (P_Mo_slowTime_90_b F z h) := by
  refine ov_en rfl (Nat.le_of_ble_eq_true rfl) ?_
  show ov_R u d ov_m291 0 [(0, ov_r 90)] [] z h (P_Mo_slowTime_90_b F z h)
  refine ov_blk (ls2 := [(0, ov_r 90)]) (st2 := [ov_r 90]) (pc2 := 1) b_291_0_1 rfl rfl ?_
  refine ov_getf (v := ov_r 96) d_291_1 fl_Mo_81 (zb_90 I) (zs_90 I) (congrArg ov_r (rg_90_10 I)) ?_
  refine ov_blk (ls2 := [(0, ov_r 90)]) (st2 := [ov_i 4, ov_r 96]) (pc2 := 5) b_291_4_1 rfl rfl ?_
  refine ov_iald d_291_5 (zb_96 I) (zs_96 I) (by omega) ?_
  have g1 := t96_4 I
  refine ov_ifge (tgt := 18) d_291_6 (by decide) (by omega) (fun c2 => ?_) (fun c2 => ?_)
  · skip
    refine ov_blk (ls2 := [(0, ov_r 90)]) (st2 := [ov_r 90]) (pc2 := 19) b_291_18_1 rfl rfl ?_
    refine ov_getf (v := ov_r 96) d_291_19 fl_Mo_81 (zb_90 I) (zs_90 I) (congrArg ov_r (rg_90_10 I)) ?_
    refine ov_blk (ls2 := [(0, ov_r 90)]) (st2 := [ov_i 4, ov_r 96]) (pc2 := 23) b_291_22_1 rfl rfl ?_
    refine ov_iald d_291_23 (zb_96 I) (zs_96 I) (by omega) ?_
    have qv : ov_slt (h 96) = (h 96 4) := by unfold ov_slt; repeat (first | rw [if_pos (by omega)] | rw [if_neg (by omega)])
    exact ov_reti (st := []) d_291_24 rfl ⟨_, rfl, rfl, rfl, (by show (h 96 4) = ov_slt (h 96) ∧ 0 ≤ (h 96 4) ∧ (h 96 4) ≤ 30; omega)⟩
  · skip
    refine ov_blk (ls2 := [(0, ov_r 90)]) (st2 := [ov_r 90]) (pc2 := 10) b_291_9_1 rfl rfl ?_
    refine ov_getf (v := ov_r 96) d_291_10 fl_Mo_81 (zb_90 I) (zs_90 I) (congrArg ov_r (rg_90_10 I)) ?_
    refine ov_blk (ls2 := [(0, ov_r 90)]) (st2 := [ov_i 2, ov_r 96]) (pc2 := 14) b_291_13_1 rfl rfl ?_
    refine ov_iald d_291_14 (zb_96 I) (zs_96 I) (by omega) ?_
    have g4 := t96_2 I
    refine ov_goto (tgt := 24) d_291_15 (by decide) ?_
    have qv : ov_slt (h 96) = (h 96 2) := by unfold ov_slt; repeat (first | rw [if_pos (by omega)] | rw [if_neg (by omega)])
    exact ov_reti (st := []) d_291_24 rfl ⟨_, rfl, rfl, rfl, (by show (h 96 2) = ov_slt (h 96) ∧ 0 ≤ (h 96 2) ∧ (h 96 2) ≤ 30; omega)⟩
abbrev P_Mo_fastest_90_b (F : ov_H × ov_Z) (z : ov_Z) (h : ov_H) : Option ov_V → ov_Z → ov_H → Prop := fun r0 z' h' => ∃ r : Int, r0 = some (ov_i r) ∧ z = z' ∧ h = h' ∧ (r = ov_fst (h 96) ∧ 0 ≤ r ∧ r ≤ 30)
set_option maxHeartbeats 4000000 in
theorem c_Mo_fastest_90_b {u : ov_U} {F : ov_H × ov_Z} {z : ov_Z} {h : ov_H} (d : Nat) (hd : 1 ≤ d) (U : ov_cap u) (I : ov_N F z h) : ov_T u d ov_m290 [ov_r 90] z h (P_Mo_fastest_90_b F z h) := by
  refine ov_en rfl (Nat.le_of_ble_eq_true rfl) ?_
  show ov_R u d ov_m290 0 [(0, ov_r 90)] [] z h (P_Mo_fastest_90_b F z h)
  refine ov_blk (ls2 := [(0, ov_r 90)]) (st2 := [ov_r 90]) (pc2 := 1) b_290_0_1 rfl rfl ?_
  refine ov_cV (as := []) (st := []) (d2 := d - 1) d_290_1 lk_Mo_332 rfl (Nat.le_of_ble_eq_true rfl) (c := 1) (zb_90 I) (zs_90 I) ⟨by decide, rfl⟩ (by omega) (c_Mo_runTime_90_b (d - 1) (by omega) U I) ?_
  rintro _ _ _ ⟨v2, rfl, rfl, rfl, f1⟩
  show ov_R u d ov_m290 4 [(0, ov_r 90)] [ov_i v2] z h (P_Mo_fastest_90_b F z h)
  have f3 : v2 = ov_rt (h 96) ∧ 0 ≤ v2 ∧ v2 ≤ 30 := f1
  clear f1
  refine ov_blk (ls2 := [(0, ov_r 90)]) (st2 := [ov_r 90, ov_i v2]) (pc2 := 5) b_290_4_1 rfl rfl ?_
  refine ov_cV (as := []) (st := [ov_i v2]) (d2 := d - 1) d_290_5 lk_Mo_411 rfl (Nat.le_of_ble_eq_true rfl) (c := 1) (zb_90 I) (zs_90 I) ⟨by decide, rfl⟩ (by omega) (c_Mo_slowTime_90_b (d - 1) (by omega) U I) ?_
  rintro _ _ _ ⟨v5, rfl, rfl, rfl, f4⟩
  show ov_R u d ov_m290 8 [(0, ov_r 90)] [ov_i v5, ov_i v2] z h (P_Mo_fastest_90_b F z h)
  have f6 : v5 = ov_slt (h 96) ∧ 0 ≤ v5 ∧ v5 ≤ 30 := f4
  clear f4
  refine ov_icle (tgt := 20) d_290_8 (by decide) (by omega) (by omega) (fun c7 => ?_) (fun c7 => ?_)
  · skip
    refine ov_blk (ls2 := [(0, ov_r 90)]) (st2 := [ov_r 90]) (pc2 := 21) b_290_20_1 rfl rfl ?_
    refine ov_cV (as := []) (st := []) (d2 := d - 1) d_290_21 lk_Mo_332 rfl (Nat.le_of_ble_eq_true rfl) (c := 1) (zb_90 I) (zs_90 I) ⟨by decide, rfl⟩ (by omega) (c_Mo_runTime_90_b (d - 1) (by omega) U I) ?_
    rintro _ _ _ ⟨v9, rfl, rfl, rfl, f8⟩
    show ov_R u d ov_m290 24 [(0, ov_r 90)] [ov_i v9] z h (P_Mo_fastest_90_b F z h)
    have f10 : v9 = ov_rt (h 96) ∧ 0 ≤ v9 ∧ v9 ≤ 30 := f8
    clear f8
    have qv : ov_fst (h 96) = v9 := by unfold ov_fst; first | (rw [if_pos (by omega)]; omega) | (rw [if_neg (by omega)]; omega) | rw [if_pos (by omega)]
    exact ov_reti (st := []) d_290_24 rfl ⟨_, rfl, rfl, rfl, (by show v9 = ov_fst (h 96) ∧ 0 ≤ v9 ∧ v9 ≤ 30; omega)⟩
  · skip
    refine ov_blk (ls2 := [(0, ov_r 90)]) (st2 := [ov_r 90]) (pc2 := 12) b_290_11_1 rfl rfl ?_
    refine ov_getf (v := ov_r 96) d_290_12 fl_Mo_81 (zb_90 I) (zs_90 I) (congrArg ov_r (rg_90_10 I)) ?_
    refine ov_blk (ls2 := [(0, ov_r 90)]) (st2 := [ov_i 2, ov_r 96]) (pc2 := 16) b_290_15_1 rfl rfl ?_
    refine ov_iald d_290_16 (zb_96 I) (zs_96 I) (by omega) ?_
    have g11 := t96_2 I
    refine ov_goto (tgt := 24) d_290_17 (by decide) ?_
    have qv : ov_fst (h 96) = (h 96 2) := by unfold ov_fst; first | (rw [if_pos (by omega)]; omega) | (rw [if_neg (by omega)]; omega) | rw [if_pos (by omega)]
    exact ov_reti (st := []) d_290_24 rfl ⟨_, rfl, rfl, rfl, (by show (h 96 2) = ov_fst (h 96) ∧ 0 ≤ (h 96 2) ∧ (h 96 2) ≤ 30; omega)⟩
abbrev P_Mo_slowest_90_b (F : ov_H × ov_Z) (z : ov_Z) (h : ov_H) : Option ov_V → ov_Z → ov_H → Prop := fun r0 z' h' => ∃ r : Int, r0 = some (ov_i r) ∧ z = z' ∧ h = h' ∧ (r = ov_slw (h 96) ∧ 0 ≤ r ∧ r ≤ 30)
set_option maxHeartbeats 4000000 in
theorem c_Mo_slowest_90_b {u : ov_U} {F : ov_H × ov_Z} {z : ov_Z} {h : ov_H} (d : Nat) (hd : 1 ≤ d) (U : ov_cap u) (I : ov_N F z h) : ov_T u d ov_m292 [ov_r 90] z h (P_Mo_slowest_90_b F z h) := by
  refine ov_en rfl (Nat.le_of_ble_eq_true rfl) ?_
  show ov_R u d ov_m292 0 [(0, ov_r 90)] [] z h (P_Mo_slowest_90_b F z h)
  refine ov_blk (ls2 := [(0, ov_r 90)]) (st2 := [ov_r 90]) (pc2 := 1) b_292_0_1 rfl rfl ?_
  refine ov_cV (as := []) (st := []) (d2 := d - 1) d_292_1 lk_Mo_332 rfl (Nat.le_of_ble_eq_true rfl) (c := 1) (zb_90 I) (zs_90 I) ⟨by decide, rfl⟩ (by omega) (c_Mo_runTime_90_b (d - 1) (by omega) U I) ?_
  rintro _ _ _ ⟨v2, rfl, rfl, rfl, f1⟩
  show ov_R u d ov_m292 4 [(0, ov_r 90)] [ov_i v2] z h (P_Mo_slowest_90_b F z h)
  have f3 : v2 = ov_rt (h 96) ∧ 0 ≤ v2 ∧ v2 ≤ 30 := f1
  clear f1
  refine ov_blk (ls2 := [(0, ov_r 90)]) (st2 := [ov_r 90, ov_i v2]) (pc2 := 5) b_292_4_1 rfl rfl ?_
  refine ov_cV (as := []) (st := [ov_i v2]) (d2 := d - 1) d_292_5 lk_Mo_411 rfl (Nat.le_of_ble_eq_true rfl) (c := 1) (zb_90 I) (zs_90 I) ⟨by decide, rfl⟩ (by omega) (c_Mo_slowTime_90_b (d - 1) (by omega) U I) ?_
  rintro _ _ _ ⟨v5, rfl, rfl, rfl, f4⟩
  show ov_R u d ov_m292 8 [(0, ov_r 90)] [ov_i v5, ov_i v2] z h (P_Mo_slowest_90_b F z h)
  have f6 : v5 = ov_slt (h 96) ∧ 0 ≤ v5 ∧ v5 ≤ 30 := f4
  clear f4
  refine ov_icle (tgt := 20) d_292_8 (by decide) (by omega) (by omega) (fun c7 => ?_) (fun c7 => ?_)
  · skip
    refine ov_blk (ls2 := [(0, ov_r 90)]) (st2 := [ov_r 90]) (pc2 := 21) b_292_20_1 rfl rfl ?_
    refine ov_cV (as := []) (st := []) (d2 := d - 1) d_292_21 lk_Mo_411 rfl (Nat.le_of_ble_eq_true rfl) (c := 1) (zb_90 I) (zs_90 I) ⟨by decide, rfl⟩ (by omega) (c_Mo_slowTime_90_b (d - 1) (by omega) U I) ?_
    rintro _ _ _ ⟨v9, rfl, rfl, rfl, f8⟩
    show ov_R u d ov_m292 24 [(0, ov_r 90)] [ov_i v9] z h (P_Mo_slowest_90_b F z h)
    have f10 : v9 = ov_slt (h 96) ∧ 0 ≤ v9 ∧ v9 ≤ 30 := f8
    clear f8
    have qv : ov_slw (h 96) = v9 := by unfold ov_slw; first | (rw [if_pos (by omega)]; omega) | (rw [if_neg (by omega)]; omega) | rw [if_pos (by omega)]
    exact ov_reti (st := []) d_292_24 rfl ⟨_, rfl, rfl, rfl, (by show v9 = ov_slw (h 96) ∧ 0 ≤ v9 ∧ v9 ≤ 30; omega)⟩
  · skip
    refine ov_blk (ls2 := [(0, ov_r 90)]) (st2 := [ov_r 90]) (pc2 := 12) b_292_11_1 rfl rfl ?_
    refine ov_getf (v := ov_r 96) d_292_12 fl_Mo_81 (zb_90 I) (zs_90 I) (congrArg ov_r (rg_90_10 I)) ?_
    refine ov_blk (ls2 := [(0, ov_r 90)]) (st2 := [ov_i 2, ov_r 96]) (pc2 := 16) b_292_15_1 rfl rfl ?_
    refine ov_iald d_292_16 (zb_96 I) (zs_96 I) (by omega) ?_
    have g11 := t96_2 I
    refine ov_goto (tgt := 24) d_292_17 (by decide) ?_
    have qv : ov_slw (h 96) = (h 96 2) := by unfold ov_slw; first | (rw [if_pos (by omega)]; omega) | (rw [if_neg (by omega)]; omega) | rw [if_pos (by omega)]
    exact ov_reti (st := []) d_292_24 rfl ⟨_, rfl, rfl, rfl, (by show (h 96 2) = ov_slw (h 96) ∧ 0 ≤ (h 96 2) ∧ (h 96 2) ≤ 30; omega)⟩
abbrev P_Mo_bestPace_90 (F : ov_H × ov_Z) (z : ov_Z) (h : ov_H) (so : Int) (ln : Int) (tm : Int) (rn : Int) : Option ov_V → ov_Z → ov_H → Prop := fun r0 z' h' => ∃ r : Int, r0 = some (ov_i r) ∧ ov_N F z' h' ∧ ((h' 90 2) = (h 90 2) ∧ (h' 90 7) = (h 90 7) ∧ (h' 90 8) = (h 90 8) ∧ (h' 90 13) = (h 90 13) ∧ (h' 90 20) = (h 90 20) ∧ (h' 90 22) = (h 90 22) ∧ (h' 90 25) = (h 90 25) ∧ (h' 90 26) = (h 90 26) ∧ (h' 90 28) = (h 90 28) ∧ (h' 90 29) = (h 90 29) ∧ (h' 90 30) = (h 90 30) ∧ (h' 90 34) = (h 90 34) ∧ (h' 90 37) = (h 90 37) ∧ r = (ov_bp (h 96) (h 100) so) ln tm rn ∧ 1 ≤ r ∧ (r = 2000000000 ∨ r ≤ 1201 + 100000 * (13 - ln))) ∧ h' 91 = h 91 ∧ h' 92 = h 92 ∧ h' 93 = h 93 ∧ h' 94 = h 94 ∧ h' 95 = h 95 ∧ h' 96 = h 96 ∧ h' 97 = h 97 ∧ h' 98 = h 98 ∧ h' 99 = h 99 ∧ h' 100 = h 100 ∧ h' 103 = h 103 ∧ h' 104 = h 104 ∧ h' 105 = h 105 ∧ h' 106 = h 106 ∧ h' 114 = h 114 ∧ (ov_PI (h 96) (h 100) so (h' 109))
abbrev P_Mo_paceBy_90 (F : ov_H × ov_Z) (z : ov_Z) (h : ov_H) (so : Int) (ln : Int) (tm : Int) (rn : Int) (s : Int) : Option ov_V → ov_Z → ov_H → Prop := fun r0 z' h' => ∃ r : Int, r0 = some (ov_i r) ∧ ov_N F z' h' ∧ ((h' 90 2) = (h 90 2) ∧ (h' 90 7) = (h 90 7) ∧ (h' 90 8) = (h 90 8) ∧ (h' 90 13) = (h 90 13) ∧ (h' 90 20) = (h 90 20) ∧ (h' 90 22) = (h 90 22) ∧ (h' 90 25) = (h 90 25) ∧ (h' 90 26) = (h 90 26) ∧ (h' 90 28) = (h 90 28) ∧ (h' 90 29) = (h 90 29) ∧ (h' 90 30) = (h 90 30) ∧ (h' 90 34) = (h 90 34) ∧ (h' 90 37) = (h 90 37) ∧ r = (ov_pq (h 96) (h 100) so (ov_bp (h 96) (h 100) so) ln tm rn) s ∧ 1 ≤ r ∧ (r = 2000000000 ∨ r ≤ 1201 + 100000 * (13 - ln))) ∧ h' 91 = h 91 ∧ h' 92 = h 92 ∧ h' 93 = h 93 ∧ h' 94 = h 94 ∧ h' 95 = h 95 ∧ h' 96 = h 96 ∧ h' 97 = h 97 ∧ h' 98 = h 98 ∧ h' 99 = h 99 ∧ h' 100 = h 100 ∧ h' 103 = h 103 ∧ h' 104 = h 104 ∧ h' 105 = h 105 ∧ h' 106 = h 106 ∧ h' 114 = h 114 ∧ (ov_PI (h 96) (h 100) so (h' 109))
set_option maxHeartbeats 4000000 in
theorem c_Mo_paceBy_90 {u : ov_U} {F : ov_H × ov_Z} (so : Int) (k : Nat) (HV : ∀ k' : Nat, k' < k → ∀ {z : ov_Z} {h : ov_H} (d : Nat) (hd : (10 + 2 * k' + 1) ≤ d) (U : ov_cap u) (I : ov_N F z h) (ln : Int) (tm : Int) (rn : Int) (g_ln : ov_g ln) (g_tm : ov_g tm) (g_rn : ov_g rn) (p0 : 0 ≤ ln ∧ ln + (k' : Int) = (h 100 0)) (p1 : 0 ≤ tm ∧ tm + 89 * (k' : Int) ≤ 1157) (p2 : 0 ≤ rn ∧ rn ≤ 9) (p3 : (h 90 37) = so) (W : ov_WT (h 96)) (W2 : ov_WK (h 100)) (PI : ov_PI (h 96) (h 100) so (h 109)), ov_T u d ov_m289 [ov_r 90, ov_i ln, ov_i tm, ov_i rn] z h (P_Mo_bestPace_90 F z h so ln tm rn)) {z : ov_Z} {h : ov_H} (d : Nat) (hd : (10 + 2 * k + 0) ≤ d) (U : ov_cap u) (I : ov_N F z h) (ln : Int) (tm : Int) (rn : Int) (s : Int) (g_ln : ov_g ln) (g_tm : ov_g tm) (g_rn : ov_g rn) (g_s : ov_g s) (p0 : 0 ≤ ln ∧ ln + (k : Int) = (h 100 0)) (p1 : ln < (h 100 0)) (p2 : 0 ≤ tm ∧ tm + 89 * (k : Int) ≤ 1157) (p3 : 0 ≤ rn ∧ rn ≤ 9) (p4 : 0 ≤ s ∧ s ≤ 30) (p5 : (h 90 37) = so) (W : ov_WT (h 96)) (W2 : ov_WK (h 100)) (PI : ov_PI (h 96) (h 100) so (h 109)) : ov_T u d ov_m293 [ov_r 90, ov_i ln, ov_i tm, ov_i rn, ov_i s] z h (P_Mo_paceBy_90 F z h so ln tm rn s) := by
  refine ov_en rfl (Nat.le_of_ble_eq_true rfl) ?_
  show ov_R u d ov_m293 0 [(0, ov_r 90), (1, ov_i ln), (2, ov_i tm), (3, ov_i rn), (4, ov_i s)] [] z h (P_Mo_paceBy_90 F z h so ln tm rn s)
  have t0 := t96_0 I
  have t1 := t96_1 I
  have wk : ∀ j : Int, 0 ≤ j → j ≤ 12 → 0 ≤ h 100 (1 + 2 * j) ∧ h 100 (1 + 2 * j) ≤ 1 := fun j h1 h2 => s100_w I ⟨h1, h2⟩
  have wz := s100_0 I
  refine ov_blk (ls2 := [(0, ov_r 90), (1, ov_i ln), (2, ov_i tm), (3, ov_i rn), (4, ov_i s)]) (st2 := [ov_i ln, ov_r 90]) (pc2 := 2) b_293_0_2 rfl rfl ?_
  refine ov_cV (as := [ov_i ln]) (st := []) (d2 := d - 1) d_293_2 lk_Mo_423 rfl (Nat.le_of_ble_eq_true rfl) (c := 1) (zb_90 I) (zs_90 I) ⟨by decide, rfl⟩ (by omega) (c_Mo_xAt_90 (d - 1) (by omega) U I ln (by omega) (by omega)) ?_
  rintro _ _ _ ⟨v2, rfl, rfl, rfl, f1⟩
  show ov_R u d ov_m293 5 [(0, ov_r 90), (1, ov_i ln), (2, ov_i tm), (3, ov_i rn), (4, ov_i s)] [ov_i v2] z h (P_Mo_paceBy_90 F z h so ln tm rn s)
  have f3 : v2 = ov_sx (h 100) (Int.toNat ln) ∧ 0 ≤ v2 ∧ v2 ≤ ln := f1
  clear f1
  have ev : v2 = ov_sx (h 100) (Int.toNat ln) := by omega
  have wi := ov_WK_in W2 wk (by omega) (k := ln) (by omega)
  have ww := wk ln (by omega) (by omega)
  refine ov_blk (ls2 := [(0, ov_r 90), (1, ov_i ln), (2, ov_i tm), (3, ov_i rn), (4, ov_i s), (5, ov_i v2), (6, ov_i (ln - v2))]) (st2 := [ov_r 90]) (pc2 := 14) b_293_5_6 rfl rfl ?_
  refine ov_getf (v := ov_r 100) d_293_14 fl_Mo_93 (zb_90 I) (zs_90 I) (congrArg ov_r (rg_90_16 I)) ?_
  refine ov_blk (ls2 := [(0, ov_r 90), (1, ov_i ln), (2, ov_i tm), (3, ov_i rn), (4, ov_i s), (5, ov_i v2), (6, ov_i (ln - v2))]) (st2 := [ov_i (1 + (2 * ln)), ov_r 100]) (pc2 := 22) b_293_17_5 rfl rfl ?_
  refine ov_iald d_293_22 (zb_100 I) (zs_100 I) (by omega) ?_
  have g4 := s100_g I (1 + (2 * ln))
  refine ov_blk (ls2 := [(0, ov_r 90), (1, ov_i ln), (2, ov_i tm), (3, ov_i rn), (4, ov_i s), (5, ov_i v2), (6, ov_i (ln - v2)), (7, ov_i (h 100 (1 + (2 * ln))))]) (st2 := [ov_r 90, ov_i s]) (pc2 := 28) b_293_23_3 rfl rfl ?_
  refine ov_getf (v := ov_r 96) d_293_28 fl_Mo_81 (zb_90 I) (zs_90 I) (congrArg ov_r (rg_90_10 I)) ?_
  refine ov_blk (ls2 := [(0, ov_r 90), (1, ov_i ln), (2, ov_i tm), (3, ov_i rn), (4, ov_i s), (5, ov_i v2), (6, ov_i (ln - v2)), (7, ov_i (h 100 (1 + (2 * ln))))]) (st2 := [ov_i 2, ov_r 96, ov_i s]) (pc2 := 32) b_293_31_1 rfl rfl ?_
  refine ov_iald d_293_32 (zb_96 I) (zs_96 I) (by omega) ?_
  have g5 := t96_2 I
  refine ov_icge (tgt := 40) d_293_33 (by decide) (by omega) (by omega) (fun c6 => ?_) (fun c6 => ?_)
  · skip
    refine ov_blk (ls2 := [(0, ov_r 90), (1, ov_i ln), (2, ov_i tm), (3, ov_i rn), (4, ov_i s), (5, ov_i v2), (6, ov_i (ln - v2)), (7, ov_i (h 100 (1 + (2 * ln)))), (8, ov_i 0)]) (st2 := [ov_i (h 100 (1 + (2 * ln))), ov_i (ln - v2), ov_i v2, ov_r 90]) (pc2 := 50) b_293_40_6 rfl rfl ?_
    refine ov_cV (as := [ov_i v2, ov_i (ln - v2), ov_i (h 100 (1 + (2 * ln)))]) (st := []) (d2 := d - 1) d_293_50 lk_Mo_309 rfl (Nat.le_of_ble_eq_true rfl) (c := 1) (zb_90 I) (zs_90 I) ⟨by decide, rfl⟩ (by omega) (c_Mo_canGo_90 (d - 1) (by omega) U I v2 (ln - v2) (h 100 (1 + (2 * ln))) (by omega) (by omega) (by omega) (by omega) (by omega)) ?_
    rintro _ _ _ ⟨v8, rfl, rfl, rfl, f7⟩
    show ov_R u d ov_m293 53 [(0, ov_r 90), (1, ov_i ln), (2, ov_i tm), (3, ov_i rn), (4, ov_i s), (5, ov_i v2), (6, ov_i (ln - v2)), (7, ov_i (h 100 (1 + (2 * ln)))), (8, ov_i 0)] [ov_i v8] z h (P_Mo_paceBy_90 F z h so ln tm rn s)
    have f9 : (v8 = 0 ∨ v8 = 1) ∧ v8 = ov_cgi (h 96) v2 (ln - v2) (h 100 (1 + (2 * ln))) ∧ (v8 = 1 → (((h 100 (1 + (2 * ln))) = 0 → v2 < (h 96 0) - 1) ∧ (¬ (h 100 (1 + (2 * ln))) = 0 → (ln - v2) < (h 96 1) - 1)) ∧ (((h 96 (10 + 4 * (6 * (ln - v2) + v2))) = 1 ∨ (h 96 (10 + 4 * (6 * (ln - v2) + v2))) = 2) → ((h 100 (1 + (2 * ln))) = 0 → 0 < (h 96 (10 + 4 * (6 * (ln - v2) + v2) + 3))) ∧ (¬ (h 100 (1 + (2 * ln))) = 0 → (h 96 (10 + 4 * (6 * (ln - v2) + v2) + 3)) < (h 96 (10 + 4 * (6 * (ln - v2) + v2) + 1))))) := f7
    clear f7
    refine ov_ifeq (tgt := 65) d_293_53 (by decide) (by omega) (fun c10 => ?_) (fun c10 => ?_)
    · skip
      have f9_ : v8 = 0 := by omega
      have f11 : v8 = ov_cgi (h 96) v2 (ln - v2) (h 100 (1 + (2 * ln))) := f9.2.1
      clear f9
      refine ov_ldcw (n := 2000000000) d_293_65 kc_Mo_338 ?_
      have e9 : ov_pq (h 96) (h 100) so (ov_bp (h 96) (h 100) so) ln tm rn s = 2000000000 := ov_pq_0 ev (by omega)
      exact ov_reti (st := []) d_293_68 rfl ⟨_, rfl, I, ⟨rfl, rfl, rfl, rfl, rfl, rfl, rfl, rfl, rfl, rfl, rfl, rfl, (by show (h 90 37) = (h 90 37) ∧ 2000000000 = (ov_pq (h 96) (h 100) so (ov_bp (h 96) (h 100) so) ln tm rn) s ∧ 1 ≤ 2000000000 ∧ (2000000000 = 2000000000 ∨ 2000000000 ≤ 1201 + 100000 * (13 - ln)); omega)⟩, rfl, rfl, rfl, rfl, rfl, rfl, rfl, rfl, rfl, rfl, rfl, rfl, rfl, rfl, rfl, PI⟩
    · skip
      have f9_ : v8 = 1 := by omega
      have f12 : v8 = ov_cgi (h 96) v2 (ln - v2) (h 100 (1 + (2 * ln))) := f9.2.1
      have f13 : (((h 100 (1 + (2 * ln))) = 0 → v2 < (h 96 0) - 1) ∧ (¬ (h 100 (1 + (2 * ln))) = 0 → (ln - v2) < (h 96 1) - 1)) ∧ (((h 96 (10 + 4 * (6 * (ln - v2) + v2))) = 1 ∨ (h 96 (10 + 4 * (6 * (ln - v2) + v2))) = 2) → ((h 100 (1 + (2 * ln))) = 0 → 0 < (h 96 (10 + 4 * (6 * (ln - v2) + v2) + 3))) ∧ (¬ (h 100 (1 + (2 * ln))) = 0 → (h 96 (10 + 4 * (6 * (ln - v2) + v2) + 3)) < (h 96 (10 + 4 * (6 * (ln - v2) + v2) + 1)))) := f9.2.2 (by omega)
      clear f9
      refine ov_blk (ls2 := [(0, ov_r 90), (1, ov_i ln), (2, ov_i tm), (3, ov_i rn), (4, ov_i s), (5, ov_i v2), (6, ov_i (ln - v2)), (7, ov_i (h 100 (1 + (2 * ln)))), (8, ov_i 0)]) (st2 := [ov_i 0]) (pc2 := 58) b_293_56_1 rfl rfl ?_
      refine ov_ifeq (tgt := 69) d_293_58 (by decide) (by omega) (fun c14 => ?_) (fun c14 => ?_)
      · skip
        refine ov_blk (ls2 := [(0, ov_r 90), (1, ov_i ln), (2, ov_i tm), (3, ov_i rn), (4, ov_i s), (5, ov_i v2), (6, ov_i (ln - v2)), (7, ov_i (h 100 (1 + (2 * ln)))), (8, ov_i 0)]) (st2 := [ov_r 90, ov_i (h 100 (1 + (2 * ln))), ov_i (ln - v2), ov_i v2, ov_r 90]) (pc2 := 77) b_293_69_5 rfl rfl ?_
        refine ov_getf (v := ov_i (h 90 37)) d_293_77 fl_Mo_426 (zb_90 I) (zs_90 I) rfl ?_
        have g15 := rg_90_37 I
        refine ov_blk (ls2 := [(0, ov_r 90), (1, ov_i ln), (2, ov_i tm), (3, ov_i rn), (4, ov_i s), (5, ov_i v2), (6, ov_i (ln - v2)), (7, ov_i (h 100 (1 + (2 * ln)))), (8, ov_i 0)]) (st2 := [ov_i ((h 90 37) + tm), ov_i (h 100 (1 + (2 * ln))), ov_i (ln - v2), ov_i v2, ov_r 90]) (pc2 := 82) b_293_80_2 rfl rfl ?_
        refine ov_cV (as := [ov_i v2, ov_i (ln - v2), ov_i (h 100 (1 + (2 * ln))), ov_i ((h 90 37) + tm)]) (st := []) (d2 := d - 1) d_293_82 lk_Mo_315 rfl (Nat.le_of_ble_eq_true rfl) (c := 1) (zb_90 I) (zs_90 I) ⟨by decide, rfl⟩ (by omega) (c_Mo_waitFor_90 (d - 1) (by omega) U I v2 (ln - v2) (h 100 (1 + (2 * ln))) ((h 90 37) + tm) (by omega) (by omega) (by omega) (by omega) (by omega) (by omega) (by omega) (by show (((h 96 (10 + 4 * (6 * (ln - v2) + v2))) = 1 ∨ (h 96 (10 + 4 * (6 * (ln - v2) + v2))) = 2) → ((h 100 (1 + (2 * ln))) = 0 → 0 < (h 96 (10 + 4 * (6 * (ln - v2) + v2) + 3))) ∧ (¬ (h 100 (1 + (2 * ln))) = 0 → (h 96 (10 + 4 * (6 * (ln - v2) + v2) + 3)) < (h 96 (10 + 4 * (6 * (ln - v2) + v2) + 1)))); omega) W) ?_
        rintro _ _ _ ⟨v17, rfl, rfl, rfl, f16⟩
        show ov_R u d ov_m293 85 [(0, ov_r 90), (1, ov_i ln), (2, ov_i tm), (3, ov_i rn), (4, ov_i s), (5, ov_i v2), (6, ov_i (ln - v2)), (7, ov_i (h 100 (1 + (2 * ln)))), (8, ov_i 0)] [ov_i v17] z h (P_Mo_paceBy_90 F z h so ln tm rn s)
        have f18 : 0 ≤ v17 ∧ v17 ≤ 59 ∧ v17 = ov_wm (h 96) (6 * (ln - v2) + v2) (h 100 (1 + (2 * ln))) ((h 90 37) + tm) := f16
        clear f16
        have hw : v17 = ov_wm (h 96) (6 * (ln - v2) + v2) (h 100 (1 + 2 * ln)) (so + tm) := by rw [show so = h 90 37 by omega]; omega
        refine ov_blk (ls2 := [(0, ov_r 90), (1, ov_i ln), (2, ov_i tm), (3, ov_i rn), (4, ov_i s), (5, ov_i v2), (6, ov_i (ln - v2)), (7, ov_i (h 100 (1 + (2 * ln)))), (8, ov_i 0), (9, ov_i v17)]) (st2 := [ov_i 0, ov_i ((tm + v17) + s), ov_i (ln + 1), ov_r 90]) (pc2 := 100) b_293_85_11 rfl rfl ?_
        refine ov_ifeq (tgt := 109) d_293_100 (by decide) (by omega) (fun c19 => ?_) (fun c19 => ?_)
        · skip
          refine ov_blk (ls2 := [(0, ov_r 90), (1, ov_i ln), (2, ov_i tm), (3, ov_i rn), (4, ov_i s), (5, ov_i v2), (6, ov_i (ln - v2)), (7, ov_i (h 100 (1 + (2 * ln)))), (8, ov_i 0), (9, ov_i v17)]) (st2 := [ov_i rn, ov_i ((tm + v17) + s), ov_i (ln + 1), ov_r 90]) (pc2 := 110) b_293_109_1 rfl rfl ?_
          refine ov_cV (as := [ov_i (ln + 1), ov_i ((tm + v17) + s), ov_i rn]) (st := []) (d2 := d - 1) d_293_110 lk_Mo_429 rfl (Nat.le_of_ble_eq_true rfl) (c := 1) (zb_90 I) (zs_90 I) ⟨by decide, rfl⟩ (by omega) (HV (Int.toNat (h 100 0 - ((ln + 1)))) (by omega) (d - 1) (by omega) U I (ln + 1) ((tm + v17) + s) rn (by omega) (by omega) (by omega) (by show 0 ≤ (ln + 1) ∧ (ln + 1) + ((Int.toNat (h 100 0 - ((ln + 1))) : Nat) : Int) = (h 100 0); omega) (by omega) (by omega) (by show (h 90 37) = so; omega) W W2 PI) ?_
          rintro _ z38 h39 ⟨v21, rfl, I40, f20, e22, e23, e24, e25, e26, e27, e28, e29, e30, e31, e32, e33, e34, e35, e36, y37⟩
          have E41 : h39 91 = h 91 := e22
          have E42 : h39 92 = h 92 := e23
          have E43 : h39 93 = h 93 := e24
          have E44 : h39 94 = h 94 := e25
          have E45 : h39 95 = h 95 := e26
          have E46 : h39 96 = h 96 := e27
          have E47 : h39 97 = h 97 := e28
          have E48 : h39 98 = h 98 := e29
          have E49 : h39 99 = h 99 := e30
          have E50 : h39 100 = h 100 := e31
          have E51 : h39 103 = h 103 := e32
          have E52 : h39 104 = h 104 := e33
          have E53 : h39 105 = h 105 := e34
          have E54 : h39 106 = h 106 := e35
          have E55 : h39 114 = h 114 := e36
          show ov_R u d ov_m293 113 [(0, ov_r 90), (1, ov_i ln), (2, ov_i tm), (3, ov_i rn), (4, ov_i s), (5, ov_i v2), (6, ov_i (ln - v2)), (7, ov_i (h 100 (1 + (2 * ln)))), (8, ov_i 0), (9, ov_i v17)] [ov_i v21] z38 h39 (P_Mo_paceBy_90 F z h so ln tm rn s)
          have f56 : (h39 90 2) = (h 90 2) ∧ (h39 90 7) = (h 90 7) ∧ (h39 90 8) = (h 90 8) ∧ (h39 90 13) = (h 90 13) ∧ (h39 90 20) = (h 90 20) ∧ (h39 90 22) = (h 90 22) ∧ (h39 90 25) = (h 90 25) ∧ (h39 90 26) = (h 90 26) ∧ (h39 90 28) = (h 90 28) ∧ (h39 90 29) = (h 90 29) ∧ (h39 90 30) = (h 90 30) ∧ (h39 90 34) = (h 90 34) ∧ (h39 90 37) = (h 90 37) ∧ v21 = (ov_bp (h 96) (h 100) so) (ln + 1) ((tm + v17) + s) rn ∧ 1 ≤ v21 ∧ (v21 = 2000000000 ∨ v21 ≤ 1201 + 100000 * (13 - (ln + 1))) := f20
          clear f20
          have y37_ : ov_PI (h 96) (h 100) so (h39 109) := y37
          refine ov_blk (ls2 := [(0, ov_r 90), (1, ov_i ln), (2, ov_i tm), (3, ov_i rn), (4, ov_i s), (5, ov_i v2), (6, ov_i (ln - v2)), (7, ov_i (h 100 (1 + (2 * ln)))), (8, ov_i 0), (9, ov_i v17), (10, ov_i v21)]) (st2 := [ov_i v21]) (pc2 := 117) b_293_113_2 rfl rfl ?_
          refine ov_ldcw (n := 2000000000) d_293_117 kc_Mo_338 ?_
          refine ov_iceq (tgt := 128) d_293_120 (by decide) (by omega) (by omega) (fun c57 => ?_) (fun c57 => ?_)
          · skip
            refine ov_blk (ls2 := [(0, ov_r 90), (1, ov_i ln), (2, ov_i tm), (3, ov_i rn), (4, ov_i s), (5, ov_i v2), (6, ov_i (ln - v2)), (7, ov_i (h 100 (1 + (2 * ln)))), (8, ov_i 0), (9, ov_i v17), (10, ov_i v21)]) (st2 := [ov_i v21]) (pc2 := 130) b_293_128_1 rfl rfl ?_
            refine ov_goto (tgt := 139) d_293_130 (by decide) ?_
            have e9 : ov_pq (h 96) (h 100) so (ov_bp (h 96) (h 100) so) ln tm rn s = v21 := (ov_pq_1 (rr := rn) (b := v21) ev (by omega) (by omega) hw (by omega) (by omega)).trans (by rw [if_pos (by omega)])
            exact ov_reti (st := []) d_293_139 rfl ⟨_, rfl, I40, (by show (h39 90 2) = (h 90 2) ∧ (h39 90 7) = (h 90 7) ∧ (h39 90 8) = (h 90 8) ∧ (h39 90 13) = (h 90 13) ∧ (h39 90 20) = (h 90 20) ∧ (h39 90 22) = (h 90 22) ∧ (h39 90 25) = (h 90 25) ∧ (h39 90 26) = (h 90 26) ∧ (h39 90 28) = (h 90 28) ∧ (h39 90 29) = (h 90 29) ∧ (h39 90 30) = (h 90 30) ∧ (h39 90 34) = (h 90 34) ∧ (h39 90 37) = (h 90 37) ∧ v21 = (ov_pq (h 96) (h 100) so (ov_bp (h 96) (h 100) so) ln tm rn) s ∧ 1 ≤ v21 ∧ (v21 = 2000000000 ∨ v21 ≤ 1201 + 100000 * (13 - ln)); omega), E41, E42, E43, E44, E45, E46, E47, E48, E49, E50, E51, E52, E53, E54, E55, y37_⟩
          · skip
            refine ov_blk (ls2 := [(0, ov_r 90), (1, ov_i ln), (2, ov_i tm), (3, ov_i rn), (4, ov_i s), (5, ov_i v2), (6, ov_i (ln - v2)), (7, ov_i (h 100 (1 + (2 * ln)))), (8, ov_i 0), (9, ov_i v17), (10, ov_i v21)]) (st2 := [ov_i v17]) (pc2 := 125) b_293_123_1 rfl rfl ?_
            refine ov_ifne (tgt := 133) d_293_125 (by decide) (by omega) (fun c58 => ?_) (fun c58 => ?_)
            · skip
              refine ov_blk (ls2 := [(0, ov_r 90), (1, ov_i ln), (2, ov_i tm), (3, ov_i rn), (4, ov_i s), (5, ov_i v2), (6, ov_i (ln - v2)), (7, ov_i (h 100 (1 + (2 * ln)))), (8, ov_i 0), (9, ov_i v17), (10, ov_i v21)]) (st2 := [ov_i v21]) (pc2 := 135) b_293_133_1 rfl rfl ?_
              refine ov_ldcw (n := 100000) d_293_135 kc_Mo_432 ?_
              refine ov_blk (ls2 := [(0, ov_r 90), (1, ov_i ln), (2, ov_i tm), (3, ov_i rn), (4, ov_i s), (5, ov_i v2), (6, ov_i (ln - v2)), (7, ov_i (h 100 (1 + (2 * ln)))), (8, ov_i 0), (9, ov_i v17), (10, ov_i v21)]) (st2 := [ov_i (v21 + 100000)]) (pc2 := 139) b_293_138_1 rfl rfl ?_
              have e9 : ov_pq (h 96) (h 100) so (ov_bp (h 96) (h 100) so) ln tm rn s = (v21 + 100000) := (ov_pq_1 (rr := rn) (b := v21) ev (by omega) (by omega) hw (by omega) (by omega)).trans (by rw [if_neg (by omega)])
              exact ov_reti (st := []) d_293_139 rfl ⟨_, rfl, I40, (by show (h39 90 2) = (h 90 2) ∧ (h39 90 7) = (h 90 7) ∧ (h39 90 8) = (h 90 8) ∧ (h39 90 13) = (h 90 13) ∧ (h39 90 20) = (h 90 20) ∧ (h39 90 22) = (h 90 22) ∧ (h39 90 25) = (h 90 25) ∧ (h39 90 26) = (h 90 26) ∧ (h39 90 28) = (h 90 28) ∧ (h39 90 29) = (h 90 29) ∧ (h39 90 30) = (h 90 30) ∧ (h39 90 34) = (h 90 34) ∧ (h39 90 37) = (h 90 37) ∧ (v21 + 100000) = (ov_pq (h 96) (h 100) so (ov_bp (h 96) (h 100) so) ln tm rn) s ∧ 1 ≤ (v21 + 100000) ∧ ((v21 + 100000) = 2000000000 ∨ (v21 + 100000) ≤ 1201 + 100000 * (13 - ln)); omega), E41, E42, E43, E44, E45, E46, E47, E48, E49, E50, E51, E52, E53, E54, E55, y37_⟩
            · skip
              refine ov_blk (ls2 := [(0, ov_r 90), (1, ov_i ln), (2, ov_i tm), (3, ov_i rn), (4, ov_i s), (5, ov_i v2), (6, ov_i (ln - v2)), (7, ov_i (h 100 (1 + (2 * ln)))), (8, ov_i 0), (9, ov_i v17), (10, ov_i v21)]) (st2 := [ov_i v21]) (pc2 := 130) b_293_128_1 rfl rfl ?_
              refine ov_goto (tgt := 139) d_293_130 (by decide) ?_
              have e9 : ov_pq (h 96) (h 100) so (ov_bp (h 96) (h 100) so) ln tm rn s = v21 := (ov_pq_1 (rr := rn) (b := v21) ev (by omega) (by omega) hw (by omega) (by omega)).trans (by rw [if_pos (by omega)])
              exact ov_reti (st := []) d_293_139 rfl ⟨_, rfl, I40, (by show (h39 90 2) = (h 90 2) ∧ (h39 90 7) = (h 90 7) ∧ (h39 90 8) = (h 90 8) ∧ (h39 90 13) = (h 90 13) ∧ (h39 90 20) = (h 90 20) ∧ (h39 90 22) = (h 90 22) ∧ (h39 90 25) = (h 90 25) ∧ (h39 90 26) = (h 90 26) ∧ (h39 90 28) = (h 90 28) ∧ (h39 90 29) = (h 90 29) ∧ (h39 90 30) = (h 90 30) ∧ (h39 90 34) = (h 90 34) ∧ (h39 90 37) = (h 90 37) ∧ v21 = (ov_pq (h 96) (h 100) so (ov_bp (h 96) (h 100) so) ln tm rn) s ∧ 1 ≤ v21 ∧ (v21 = 2000000000 ∨ v21 ≤ 1201 + 100000 * (13 - ln)); omega), E41, E42, E43, E44, E45, E46, E47, E48, E49, E50, E51, E52, E53, E54, E55, y37_⟩
        · omega
      · omega
  · skip
    refine ov_blk (ls2 := [(0, ov_r 90), (1, ov_i ln), (2, ov_i tm), (3, ov_i rn), (4, ov_i s), (5, ov_i v2), (6, ov_i (ln - v2)), (7, ov_i (h 100 (1 + (2 * ln))))]) (st2 := [ov_i 1]) (pc2 := 37) b_293_36_1 rfl rfl ?_
    refine ov_goto (tgt := 41) d_293_37 (by decide) ?_
    refine ov_blk (ls2 := [(0, ov_r 90), (1, ov_i ln), (2, ov_i tm), (3, ov_i rn), (4, ov_i s), (5, ov_i v2), (6, ov_i (ln - v2)), (7, ov_i (h 100 (1 + (2 * ln)))), (8, ov_i 1)]) (st2 := [ov_i (h 100 (1 + (2 * ln))), ov_i (ln - v2), ov_i v2, ov_r 90]) (pc2 := 50) b_293_41_5 rfl rfl ?_
    refine ov_cV (as := [ov_i v2, ov_i (ln - v2), ov_i (h 100 (1 + (2 * ln)))]) (st := []) (d2 := d - 1) d_293_50 lk_Mo_309 rfl (Nat.le_of_ble_eq_true rfl) (c := 1) (zb_90 I) (zs_90 I) ⟨by decide, rfl⟩ (by omega) (c_Mo_canGo_90 (d - 1) (by omega) U I v2 (ln - v2) (h 100 (1 + (2 * ln))) (by omega) (by omega) (by omega) (by omega) (by omega)) ?_
    rintro _ _ _ ⟨v60, rfl, rfl, rfl, f59⟩
    show ov_R u d ov_m293 53 [(0, ov_r 90), (1, ov_i ln), (2, ov_i tm), (3, ov_i rn), (4, ov_i s), (5, ov_i v2), (6, ov_i (ln - v2)), (7, ov_i (h 100 (1 + (2 * ln)))), (8, ov_i 1)] [ov_i v60] z h (P_Mo_paceBy_90 F z h so ln tm rn s)
    have f61 : (v60 = 0 ∨ v60 = 1) ∧ v60 = ov_cgi (h 96) v2 (ln - v2) (h 100 (1 + (2 * ln))) ∧ (v60 = 1 → (((h 100 (1 + (2 * ln))) = 0 → v2 < (h 96 0) - 1) ∧ (¬ (h 100 (1 + (2 * ln))) = 0 → (ln - v2) < (h 96 1) - 1)) ∧ (((h 96 (10 + 4 * (6 * (ln - v2) + v2))) = 1 ∨ (h 96 (10 + 4 * (6 * (ln - v2) + v2))) = 2) → ((h 100 (1 + (2 * ln))) = 0 → 0 < (h 96 (10 + 4 * (6 * (ln - v2) + v2) + 3))) ∧ (¬ (h 100 (1 + (2 * ln))) = 0 → (h 96 (10 + 4 * (6 * (ln - v2) + v2) + 3)) < (h 96 (10 + 4 * (6 * (ln - v2) + v2) + 1))))) := f59
    clear f59
    refine ov_ifeq (tgt := 65) d_293_53 (by decide) (by omega) (fun c62 => ?_) (fun c62 => ?_)
    · skip
      have f61_ : v60 = 0 := by omega
      have f63 : v60 = ov_cgi (h 96) v2 (ln - v2) (h 100 (1 + (2 * ln))) := f61.2.1
      clear f61
      refine ov_ldcw (n := 2000000000) d_293_65 kc_Mo_338 ?_
      have e9 : ov_pq (h 96) (h 100) so (ov_bp (h 96) (h 100) so) ln tm rn s = 2000000000 := ov_pq_0 ev (by omega)
      exact ov_reti (st := []) d_293_68 rfl ⟨_, rfl, I, ⟨rfl, rfl, rfl, rfl, rfl, rfl, rfl, rfl, rfl, rfl, rfl, rfl, (by show (h 90 37) = (h 90 37) ∧ 2000000000 = (ov_pq (h 96) (h 100) so (ov_bp (h 96) (h 100) so) ln tm rn) s ∧ 1 ≤ 2000000000 ∧ (2000000000 = 2000000000 ∨ 2000000000 ≤ 1201 + 100000 * (13 - ln)); omega)⟩, rfl, rfl, rfl, rfl, rfl, rfl, rfl, rfl, rfl, rfl, rfl, rfl, rfl, rfl, rfl, PI⟩
    · skip
      have f61_ : v60 = 1 := by omega
      have f64 : v60 = ov_cgi (h 96) v2 (ln - v2) (h 100 (1 + (2 * ln))) := f61.2.1
      have f65 : (((h 100 (1 + (2 * ln))) = 0 → v2 < (h 96 0) - 1) ∧ (¬ (h 100 (1 + (2 * ln))) = 0 → (ln - v2) < (h 96 1) - 1)) ∧ (((h 96 (10 + 4 * (6 * (ln - v2) + v2))) = 1 ∨ (h 96 (10 + 4 * (6 * (ln - v2) + v2))) = 2) → ((h 100 (1 + (2 * ln))) = 0 → 0 < (h 96 (10 + 4 * (6 * (ln - v2) + v2) + 3))) ∧ (¬ (h 100 (1 + (2 * ln))) = 0 → (h 96 (10 + 4 * (6 * (ln - v2) + v2) + 3)) < (h 96 (10 + 4 * (6 * (ln - v2) + v2) + 1)))) := f61.2.2 (by omega)
      clear f61
      refine ov_blk (ls2 := [(0, ov_r 90), (1, ov_i ln), (2, ov_i tm), (3, ov_i rn), (4, ov_i s), (5, ov_i v2), (6, ov_i (ln - v2)), (7, ov_i (h 100 (1 + (2 * ln)))), (8, ov_i 1)]) (st2 := [ov_i 1]) (pc2 := 58) b_293_56_1 rfl rfl ?_
      refine ov_ifeq (tgt := 69) d_293_58 (by decide) (by omega) (fun c66 => ?_) (fun c66 => ?_)
      · omega
      · skip
        refine ov_blk (ls2 := [(0, ov_r 90), (1, ov_i ln), (2, ov_i tm), (3, ov_i rn), (4, ov_i s), (5, ov_i v2), (6, ov_i (ln - v2)), (7, ov_i (h 100 (1 + (2 * ln)))), (8, ov_i 1)]) (st2 := [ov_i rn]) (pc2 := 62) b_293_61_1 rfl rfl ?_
        refine ov_ifne (tgt := 69) d_293_62 (by decide) (by omega) (fun c67 => ?_) (fun c67 => ?_)
        · skip
          refine ov_blk (ls2 := [(0, ov_r 90), (1, ov_i ln), (2, ov_i tm), (3, ov_i rn), (4, ov_i s), (5, ov_i v2), (6, ov_i (ln - v2)), (7, ov_i (h 100 (1 + (2 * ln)))), (8, ov_i 1)]) (st2 := [ov_r 90, ov_i (h 100 (1 + (2 * ln))), ov_i (ln - v2), ov_i v2, ov_r 90]) (pc2 := 77) b_293_69_5 rfl rfl ?_
          refine ov_getf (v := ov_i (h 90 37)) d_293_77 fl_Mo_426 (zb_90 I) (zs_90 I) rfl ?_
          have g68 := rg_90_37 I
          refine ov_blk (ls2 := [(0, ov_r 90), (1, ov_i ln), (2, ov_i tm), (3, ov_i rn), (4, ov_i s), (5, ov_i v2), (6, ov_i (ln - v2)), (7, ov_i (h 100 (1 + (2 * ln)))), (8, ov_i 1)]) (st2 := [ov_i ((h 90 37) + tm), ov_i (h 100 (1 + (2 * ln))), ov_i (ln - v2), ov_i v2, ov_r 90]) (pc2 := 82) b_293_80_2 rfl rfl ?_
          refine ov_cV (as := [ov_i v2, ov_i (ln - v2), ov_i (h 100 (1 + (2 * ln))), ov_i ((h 90 37) + tm)]) (st := []) (d2 := d - 1) d_293_82 lk_Mo_315 rfl (Nat.le_of_ble_eq_true rfl) (c := 1) (zb_90 I) (zs_90 I) ⟨by decide, rfl⟩ (by omega) (c_Mo_waitFor_90 (d - 1) (by omega) U I v2 (ln - v2) (h 100 (1 + (2 * ln))) ((h 90 37) + tm) (by omega) (by omega) (by omega) (by omega) (by omega) (by omega) (by omega) (by show (((h 96 (10 + 4 * (6 * (ln - v2) + v2))) = 1 ∨ (h 96 (10 + 4 * (6 * (ln - v2) + v2))) = 2) → ((h 100 (1 + (2 * ln))) = 0 → 0 < (h 96 (10 + 4 * (6 * (ln - v2) + v2) + 3))) ∧ (¬ (h 100 (1 + (2 * ln))) = 0 → (h 96 (10 + 4 * (6 * (ln - v2) + v2) + 3)) < (h 96 (10 + 4 * (6 * (ln - v2) + v2) + 1)))); omega) W) ?_
          rintro _ _ _ ⟨v70, rfl, rfl, rfl, f69⟩
          show ov_R u d ov_m293 85 [(0, ov_r 90), (1, ov_i ln), (2, ov_i tm), (3, ov_i rn), (4, ov_i s), (5, ov_i v2), (6, ov_i (ln - v2)), (7, ov_i (h 100 (1 + (2 * ln)))), (8, ov_i 1)] [ov_i v70] z h (P_Mo_paceBy_90 F z h so ln tm rn s)
          have f71 : 0 ≤ v70 ∧ v70 ≤ 59 ∧ v70 = ov_wm (h 96) (6 * (ln - v2) + v2) (h 100 (1 + (2 * ln))) ((h 90 37) + tm) := f69
          clear f69
          have hw : v70 = ov_wm (h 96) (6 * (ln - v2) + v2) (h 100 (1 + 2 * ln)) (so + tm) := by rw [show so = h 90 37 by omega]; omega
          refine ov_blk (ls2 := [(0, ov_r 90), (1, ov_i ln), (2, ov_i tm), (3, ov_i rn), (4, ov_i s), (5, ov_i v2), (6, ov_i (ln - v2)), (7, ov_i (h 100 (1 + (2 * ln)))), (8, ov_i 1), (9, ov_i v70)]) (st2 := [ov_i 1, ov_i ((tm + v70) + s), ov_i (ln + 1), ov_r 90]) (pc2 := 100) b_293_85_11 rfl rfl ?_
          refine ov_ifeq (tgt := 109) d_293_100 (by decide) (by omega) (fun c72 => ?_) (fun c72 => ?_)
          · omega
          · skip
            refine ov_blk (ls2 := [(0, ov_r 90), (1, ov_i ln), (2, ov_i tm), (3, ov_i rn), (4, ov_i s), (5, ov_i v2), (6, ov_i (ln - v2)), (7, ov_i (h 100 (1 + (2 * ln)))), (8, ov_i 1), (9, ov_i v70)]) (st2 := [ov_i (rn - 1), ov_i ((tm + v70) + s), ov_i (ln + 1), ov_r 90]) (pc2 := 106) b_293_103_3 rfl rfl ?_
            refine ov_goto (tgt := 110) d_293_106 (by decide) ?_
            refine ov_cV (as := [ov_i (ln + 1), ov_i ((tm + v70) + s), ov_i (rn - 1)]) (st := []) (d2 := d - 1) d_293_110 lk_Mo_429 rfl (Nat.le_of_ble_eq_true rfl) (c := 1) (zb_90 I) (zs_90 I) ⟨by decide, rfl⟩ (by omega) (HV (Int.toNat (h 100 0 - ((ln + 1)))) (by omega) (d - 1) (by omega) U I (ln + 1) ((tm + v70) + s) (rn - 1) (by omega) (by omega) (by omega) (by show 0 ≤ (ln + 1) ∧ (ln + 1) + ((Int.toNat (h 100 0 - ((ln + 1))) : Nat) : Int) = (h 100 0); omega) (by omega) (by omega) (by show (h 90 37) = so; omega) W W2 PI) ?_
            rintro _ z91 h92 ⟨v74, rfl, I93, f73, e75, e76, e77, e78, e79, e80, e81, e82, e83, e84, e85, e86, e87, e88, e89, y90⟩
            have E94 : h92 91 = h 91 := e75
            have E95 : h92 92 = h 92 := e76
            have E96 : h92 93 = h 93 := e77
            have E97 : h92 94 = h 94 := e78
            have E98 : h92 95 = h 95 := e79
            have E99 : h92 96 = h 96 := e80
            have E100 : h92 97 = h 97 := e81
            have E101 : h92 98 = h 98 := e82
            have E102 : h92 99 = h 99 := e83
            have E103 : h92 100 = h 100 := e84
            have E104 : h92 103 = h 103 := e85
            have E105 : h92 104 = h 104 := e86
            have E106 : h92 105 = h 105 := e87
            have E107 : h92 106 = h 106 := e88
            have E108 : h92 114 = h 114 := e89
            show ov_R u d ov_m293 113 [(0, ov_r 90), (1, ov_i ln), (2, ov_i tm), (3, ov_i rn), (4, ov_i s), (5, ov_i v2), (6, ov_i (ln - v2)), (7, ov_i (h 100 (1 + (2 * ln)))), (8, ov_i 1), (9, ov_i v70)] [ov_i v74] z91 h92 (P_Mo_paceBy_90 F z h so ln tm rn s)
            have f109 : (h92 90 2) = (h 90 2) ∧ (h92 90 7) = (h 90 7) ∧ (h92 90 8) = (h 90 8) ∧ (h92 90 13) = (h 90 13) ∧ (h92 90 20) = (h 90 20) ∧ (h92 90 22) = (h 90 22) ∧ (h92 90 25) = (h 90 25) ∧ (h92 90 26) = (h 90 26) ∧ (h92 90 28) = (h 90 28) ∧ (h92 90 29) = (h 90 29) ∧ (h92 90 30) = (h 90 30) ∧ (h92 90 34) = (h 90 34) ∧ (h92 90 37) = (h 90 37) ∧ v74 = (ov_bp (h 96) (h 100) so) (ln + 1) ((tm + v70) + s) (rn - 1) ∧ 1 ≤ v74 ∧ (v74 = 2000000000 ∨ v74 ≤ 1201 + 100000 * (13 - (ln + 1))) := f73
            clear f73
            have y90_ : ov_PI (h 96) (h 100) so (h92 109) := y90
            refine ov_blk (ls2 := [(0, ov_r 90), (1, ov_i ln), (2, ov_i tm), (3, ov_i rn), (4, ov_i s), (5, ov_i v2), (6, ov_i (ln - v2)), (7, ov_i (h 100 (1 + (2 * ln)))), (8, ov_i 1), (9, ov_i v70), (10, ov_i v74)]) (st2 := [ov_i v74]) (pc2 := 117) b_293_113_2 rfl rfl ?_
            refine ov_ldcw (n := 2000000000) d_293_117 kc_Mo_338 ?_
            refine ov_iceq (tgt := 128) d_293_120 (by decide) (by omega) (by omega) (fun c110 => ?_) (fun c110 => ?_)
            · skip
              refine ov_blk (ls2 := [(0, ov_r 90), (1, ov_i ln), (2, ov_i tm), (3, ov_i rn), (4, ov_i s), (5, ov_i v2), (6, ov_i (ln - v2)), (7, ov_i (h 100 (1 + (2 * ln)))), (8, ov_i 1), (9, ov_i v70), (10, ov_i v74)]) (st2 := [ov_i v74]) (pc2 := 130) b_293_128_1 rfl rfl ?_
              refine ov_goto (tgt := 139) d_293_130 (by decide) ?_
              have e9 : ov_pq (h 96) (h 100) so (ov_bp (h 96) (h 100) so) ln tm rn s = v74 := (ov_pq_1 (rr := (rn - 1)) (b := v74) ev (by omega) (by omega) hw (by omega) (by omega)).trans (by rw [if_pos (by omega)])
              exact ov_reti (st := []) d_293_139 rfl ⟨_, rfl, I93, (by show (h92 90 2) = (h 90 2) ∧ (h92 90 7) = (h 90 7) ∧ (h92 90 8) = (h 90 8) ∧ (h92 90 13) = (h 90 13) ∧ (h92 90 20) = (h 90 20) ∧ (h92 90 22) = (h 90 22) ∧ (h92 90 25) = (h 90 25) ∧ (h92 90 26) = (h 90 26) ∧ (h92 90 28) = (h 90 28) ∧ (h92 90 29) = (h 90 29) ∧ (h92 90 30) = (h 90 30) ∧ (h92 90 34) = (h 90 34) ∧ (h92 90 37) = (h 90 37) ∧ v74 = (ov_pq (h 96) (h 100) so (ov_bp (h 96) (h 100) so) ln tm rn) s ∧ 1 ≤ v74 ∧ (v74 = 2000000000 ∨ v74 ≤ 1201 + 100000 * (13 - ln)); omega), E94, E95, E96, E97, E98, E99, E100, E101, E102, E103, E104, E105, E106, E107, E108, y90_⟩
            · skip
              refine ov_blk (ls2 := [(0, ov_r 90), (1, ov_i ln), (2, ov_i tm), (3, ov_i rn), (4, ov_i s), (5, ov_i v2), (6, ov_i (ln - v2)), (7, ov_i (h 100 (1 + (2 * ln)))), (8, ov_i 1), (9, ov_i v70), (10, ov_i v74)]) (st2 := [ov_i v70]) (pc2 := 125) b_293_123_1 rfl rfl ?_
              refine ov_ifne (tgt := 133) d_293_125 (by decide) (by omega) (fun c111 => ?_) (fun c111 => ?_)
              · skip
                refine ov_blk (ls2 := [(0, ov_r 90), (1, ov_i ln), (2, ov_i tm), (3, ov_i rn), (4, ov_i s), (5, ov_i v2), (6, ov_i (ln - v2)), (7, ov_i (h 100 (1 + (2 * ln)))), (8, ov_i 1), (9, ov_i v70), (10, ov_i v74)]) (st2 := [ov_i v74]) (pc2 := 135) b_293_133_1 rfl rfl ?_
                refine ov_ldcw (n := 100000) d_293_135 kc_Mo_432 ?_
                refine ov_blk (ls2 := [(0, ov_r 90), (1, ov_i ln), (2, ov_i tm), (3, ov_i rn), (4, ov_i s), (5, ov_i v2), (6, ov_i (ln - v2)), (7, ov_i (h 100 (1 + (2 * ln)))), (8, ov_i 1), (9, ov_i v70), (10, ov_i v74)]) (st2 := [ov_i (v74 + 100000)]) (pc2 := 139) b_293_138_1 rfl rfl ?_
                have e9 : ov_pq (h 96) (h 100) so (ov_bp (h 96) (h 100) so) ln tm rn s = (v74 + 100000) := (ov_pq_1 (rr := (rn - 1)) (b := v74) ev (by omega) (by omega) hw (by omega) (by omega)).trans (by rw [if_neg (by omega)])
                exact ov_reti (st := []) d_293_139 rfl ⟨_, rfl, I93, (by show (h92 90 2) = (h 90 2) ∧ (h92 90 7) = (h 90 7) ∧ (h92 90 8) = (h 90 8) ∧ (h92 90 13) = (h 90 13) ∧ (h92 90 20) = (h 90 20) ∧ (h92 90 22) = (h 90 22) ∧ (h92 90 25) = (h 90 25) ∧ (h92 90 26) = (h 90 26) ∧ (h92 90 28) = (h 90 28) ∧ (h92 90 29) = (h 90 29) ∧ (h92 90 30) = (h 90 30) ∧ (h92 90 34) = (h 90 34) ∧ (h92 90 37) = (h 90 37) ∧ (v74 + 100000) = (ov_pq (h 96) (h 100) so (ov_bp (h 96) (h 100) so) ln tm rn) s ∧ 1 ≤ (v74 + 100000) ∧ ((v74 + 100000) = 2000000000 ∨ (v74 + 100000) ≤ 1201 + 100000 * (13 - ln)); omega), E94, E95, E96, E97, E98, E99, E100, E101, E102, E103, E104, E105, E106, E107, E108, y90_⟩
              · skip
                refine ov_blk (ls2 := [(0, ov_r 90), (1, ov_i ln), (2, ov_i tm), (3, ov_i rn), (4, ov_i s), (5, ov_i v2), (6, ov_i (ln - v2)), (7, ov_i (h 100 (1 + (2 * ln)))), (8, ov_i 1), (9, ov_i v70), (10, ov_i v74)]) (st2 := [ov_i v74]) (pc2 := 130) b_293_128_1 rfl rfl ?_
                refine ov_goto (tgt := 139) d_293_130 (by decide) ?_
                have e9 : ov_pq (h 96) (h 100) so (ov_bp (h 96) (h 100) so) ln tm rn s = v74 := (ov_pq_1 (rr := (rn - 1)) (b := v74) ev (by omega) (by omega) hw (by omega) (by omega)).trans (by rw [if_pos (by omega)])
                exact ov_reti (st := []) d_293_139 rfl ⟨_, rfl, I93, (by show (h92 90 2) = (h 90 2) ∧ (h92 90 7) = (h 90 7) ∧ (h92 90 8) = (h 90 8) ∧ (h92 90 13) = (h 90 13) ∧ (h92 90 20) = (h 90 20) ∧ (h92 90 22) = (h 90 22) ∧ (h92 90 25) = (h 90 25) ∧ (h92 90 26) = (h 90 26) ∧ (h92 90 28) = (h 90 28) ∧ (h92 90 29) = (h 90 29) ∧ (h92 90 30) = (h 90 30) ∧ (h92 90 34) = (h 90 34) ∧ (h92 90 37) = (h 90 37) ∧ v74 = (ov_pq (h 96) (h 100) so (ov_bp (h 96) (h 100) so) ln tm rn) s ∧ 1 ≤ v74 ∧ (v74 = 2000000000 ∨ v74 ≤ 1201 + 100000 * (13 - ln)); omega), E94, E95, E96, E97, E98, E99, E100, E101, E102, E103, E104, E105, E106, E107, E108, y90_⟩
        · skip
          refine ov_ldcw (n := 2000000000) d_293_65 kc_Mo_338 ?_
          have e9 : ov_pq (h 96) (h 100) so (ov_bp (h 96) (h 100) so) ln tm rn s = 2000000000 := ov_pq_0 ev (by omega)
          exact ov_reti (st := []) d_293_68 rfl ⟨_, rfl, I, ⟨rfl, rfl, rfl, rfl, rfl, rfl, rfl, rfl, rfl, rfl, rfl, rfl, (by show (h 90 37) = (h 90 37) ∧ 2000000000 = (ov_pq (h 96) (h 100) so (ov_bp (h 96) (h 100) so) ln tm rn) s ∧ 1 ≤ 2000000000 ∧ (2000000000 = 2000000000 ∨ 2000000000 ≤ 1201 + 100000 * (13 - ln)); omega)⟩, rfl, rfl, rfl, rfl, rfl, rfl, rfl, rfl, rfl, rfl, rfl, rfl, rfl, rfl, rfl, PI⟩
set_option maxHeartbeats 4000000 in
theorem c_Mo_bestPace_90 {u : ov_U} {F : ov_H × ov_Z} (so : Int) (k : Nat) (HV : ∀ k' : Nat, k' < k → ∀ {z : ov_Z} {h : ov_H} (d : Nat) (hd : (10 + 2 * k' + 1) ≤ d) (U : ov_cap u) (I : ov_N F z h) (ln : Int) (tm : Int) (rn : Int) (g_ln : ov_g ln) (g_tm : ov_g tm) (g_rn : ov_g rn) (p0 : 0 ≤ ln ∧ ln + (k' : Int) = (h 100 0)) (p1 : 0 ≤ tm ∧ tm + 89 * (k' : Int) ≤ 1157) (p2 : 0 ≤ rn ∧ rn ≤ 9) (p3 : (h 90 37) = so) (W : ov_WT (h 96)) (W2 : ov_WK (h 100)) (PI : ov_PI (h 96) (h 100) so (h 109)), ov_T u d ov_m289 [ov_r 90, ov_i ln, ov_i tm, ov_i rn] z h (P_Mo_bestPace_90 F z h so ln tm rn)) {z : ov_Z} {h : ov_H} (d : Nat) (hd : (10 + 2 * k + 1) ≤ d) (U : ov_cap u) (I : ov_N F z h) (ln : Int) (tm : Int) (rn : Int) (g_ln : ov_g ln) (g_tm : ov_g tm) (g_rn : ov_g rn) (p0 : 0 ≤ ln ∧ ln + (k : Int) = (h 100 0)) (p1 : 0 ≤ tm ∧ tm + 89 * (k : Int) ≤ 1157) (p2 : 0 ≤ rn ∧ rn ≤ 9) (p3 : (h 90 37) = so) (W : ov_WT (h 96)) (W2 : ov_WK (h 100)) (PI : ov_PI (h 96) (h 100) so (h 109)) : ov_T u d ov_m289 [ov_r 90, ov_i ln, ov_i tm, ov_i rn] z h (P_Mo_bestPace_90 F z h so ln tm rn) := by
  refine ov_en rfl (Nat.le_of_ble_eq_true rfl) ?_
  show ov_R u d ov_m289 0 [(0, ov_r 90), (1, ov_i ln), (2, ov_i tm), (3, ov_i rn)] [] z h (P_Mo_bestPace_90 F z h so ln tm rn)
  have t0 := t96_0 I
  have t1 := t96_1 I
  have wk : ∀ j : Int, 0 ≤ j → j ≤ 12 → 0 ≤ h 100 (1 + 2 * j) ∧ h 100 (1 + 2 * j) ≤ 1 := fun j h1 h2 => s100_w I ⟨h1, h2⟩
  have wz := s100_0 I
  refine ov_blk (ls2 := [(0, ov_r 90), (1, ov_i ln), (2, ov_i tm), (3, ov_i rn)]) (st2 := [ov_r 90, ov_i ln]) (pc2 := 2) b_289_0_2 rfl rfl ?_
  refine ov_getf (v := ov_r 100) d_289_2 fl_Mo_93 (zb_90 I) (zs_90 I) (congrArg ov_r (rg_90_16 I)) ?_
  refine ov_blk (ls2 := [(0, ov_r 90), (1, ov_i ln), (2, ov_i tm), (3, ov_i rn)]) (st2 := [ov_i 0, ov_r 100, ov_i ln]) (pc2 := 6) b_289_5_1 rfl rfl ?_
  refine ov_iald d_289_6 (zb_100 I) (zs_100 I) (by omega) ?_
  have g1 := s100_0 I
  refine ov_icne (tgt := 14) d_289_7 (by decide) (by omega) (by omega) (fun c2 => ?_) (fun c2 => ?_)
  · skip
    refine ov_blk (ls2 := [(0, ov_r 90), (1, ov_i ln), (2, ov_i tm), (3, ov_i rn), (4, ov_i ((((ln * 1200) + tm) * 10) + rn))]) (st2 := [ov_r 90]) (pc2 := 29) b_289_14_11 rfl rfl ?_
    refine ov_getf (v := ov_r 109) d_289_29 fl_Mo_129 (zb_90 I) (zs_90 I) (congrArg ov_r (rg_90_36 I)) ?_
    refine ov_blk (ls2 := [(0, ov_r 90), (1, ov_i ln), (2, ov_i tm), (3, ov_i rn), (4, ov_i ((((ln * 1200) + tm) * 10) + rn))]) (st2 := [ov_i ((((ln * 1200) + tm) * 10) + rn), ov_r 109]) (pc2 := 34) b_289_32_1 rfl rfl ?_
    refine ov_iald d_289_34 (zb_109 I) (zs_109 I) (by omega) ?_
    have g3 := s109_g I ((((ln * 1200) + tm) * 10) + rn)
    refine ov_ifne (tgt := 100) d_289_35 (by decide) (by omega) (fun c4 => ?_) (fun c4 => ?_)
    · skip
      have be : h 109 ((((ln * 1200) + tm) * 10) + rn) = ov_bp (h 96) (h 100) so ln tm rn := (PI ln tm rn (by omega) (by omega) (by omega) (by omega) (by omega) (by omega)).resolve_left (by omega)
      have hr := (ra_109 I ((((ln * 1200) + tm) * 10) + rn)).2.2 (by omega) (by omega)
      refine ov_blk (ls2 := [(0, ov_r 90), (1, ov_i ln), (2, ov_i tm), (3, ov_i rn), (4, ov_i ((((ln * 1200) + tm) * 10) + rn))]) (st2 := [ov_r 90]) (pc2 := 101) b_289_100_1 rfl rfl ?_
      refine ov_getf (v := ov_r 109) d_289_101 fl_Mo_129 (zb_90 I) (zs_90 I) (congrArg ov_r (rg_90_36 I)) ?_
      refine ov_blk (ls2 := [(0, ov_r 90), (1, ov_i ln), (2, ov_i tm), (3, ov_i rn), (4, ov_i ((((ln * 1200) + tm) * 10) + rn))]) (st2 := [ov_i ((((ln * 1200) + tm) * 10) + rn), ov_r 109]) (pc2 := 106) b_289_104_1 rfl rfl ?_
      refine ov_iald d_289_106 (zb_109 I) (zs_109 I) (by omega) ?_
      exact ov_reti (st := []) d_289_107 rfl ⟨_, rfl, I, ⟨rfl, rfl, rfl, rfl, rfl, rfl, rfl, rfl, rfl, rfl, rfl, rfl, (by show (h 90 37) = (h 90 37) ∧ (h 109 ((((ln * 1200) + tm) * 10) + rn)) = (ov_bp (h 96) (h 100) so) ln tm rn ∧ 1 ≤ (h 109 ((((ln * 1200) + tm) * 10) + rn)) ∧ ((h 109 ((((ln * 1200) + tm) * 10) + rn)) = 2000000000 ∨ (h 109 ((((ln * 1200) + tm) * 10) + rn)) ≤ 1201 + 100000 * (13 - ln)); omega)⟩, rfl, rfl, rfl, rfl, rfl, rfl, rfl, rfl, rfl, rfl, rfl, rfl, rfl, rfl, rfl, PI⟩
    · skip
      refine ov_ldcw (n := 2000000000) d_289_38 kc_Mo_338 ?_
      refine ov_blk (ls2 := [(0, ov_r 90), (1, ov_i ln), (2, ov_i tm), (3, ov_i rn), (4, ov_i ((((ln * 1200) + tm) * 10) + rn)), (5, ov_i 2000000000)]) (st2 := [ov_r 90]) (pc2 := 44) b_289_41_2 rfl rfl ?_
      refine ov_cV (as := []) (st := []) (d2 := d - 1) d_289_44 lk_Mo_414 rfl (Nat.le_of_ble_eq_true rfl) (c := 1) (zb_90 I) (zs_90 I) ⟨by decide, rfl⟩ (by omega) (c_Mo_fastest_90_b (d - 1) (by omega) U I) ?_
      rintro _ _ _ ⟨v7, rfl, rfl, rfl, f6⟩
      show ov_R u d ov_m289 47 [(0, ov_r 90), (1, ov_i ln), (2, ov_i tm), (3, ov_i rn), (4, ov_i ((((ln * 1200) + tm) * 10) + rn)), (5, ov_i 2000000000)] [ov_i v7] z h (P_Mo_bestPace_90 F z h so ln tm rn)
      have f8 : v7 = ov_fst (h 96) ∧ 0 ≤ v7 ∧ v7 ≤ 30 := f6
      clear f6
      refine ov_blk (ls2 := [(0, ov_r 90), (1, ov_i ln), (2, ov_i tm), (3, ov_i rn), (4, ov_i ((((ln * 1200) + tm) * 10) + rn)), (5, ov_i 2000000000), (6, ov_i v7)]) (st2 := []) (pc2 := 49) b_289_47_1 rfl rfl ?_
      have m0 : ov_mn (ov_pq (h 96) (h 100) so (ov_bp (h 96) (h 100) so) ln tm rn) (ov_fst (h 96)) (Int.toNat (v7 - ov_fst (h 96))) = 2000000000 := by rw [show Int.toNat (v7 - ov_fst (h 96)) = 0 by omega]; rfl
      have fl := ov_fsl (h 96)
      have L12 : ∀ (n9 : Nat) (x5 : Int) (x6 : Int) (z13 : ov_Z) (h14 : ov_H) (I15 : ov_N F z13 h14) (E16 : h14 91 = h 91) (E17 : h14 92 = h 92) (E18 : h14 93 = h 93) (E19 : h14 94 = h 94) (E20 : h14 95 = h 95) (E21 : h14 96 = h 96) (E22 : h14 97 = h 97) (E23 : h14 98 = h 98) (E24 : h14 99 = h 99) (E25 : h14 100 = h 100) (E26 : h14 103 = h 103) (E27 : h14 104 = h 104) (E28 : h14 105 = h 105) (E29 : h14 106 = h 106) (E30 : h14 114 = h 114) (xm : ov_PI (h 96) (h 100) so (h14 109)) (q11 : ov_fst (h 96) ≤ x6 ∧ x6 ≤ ov_slw (h 96) + 1 ∧ 0 ≤ x6 ∧ x6 ≤ 31 ∧ 1 ≤ x5 ∧ (x5 = 2000000000 ∨ x5 ≤ 1201 + 100000 * (13 - ln)) ∧ x5 = ov_mn (ov_pq (h 96) (h 100) so (ov_bp (h 96) (h 100) so) ln tm rn) (ov_fst (h 96)) (Int.toNat (x6 - ov_fst (h 96))) ∧ (h14 90 37) = (h 90 37) ∧ (h14 90 2) = (h 90 2) ∧ (h14 90 7) = (h 90 7) ∧ (h14 90 8) = (h 90 8) ∧ (h14 90 13) = (h 90 13) ∧ (h14 90 20) = (h 90 20) ∧ (h14 90 22) = (h 90 22) ∧ (h14 90 25) = (h 90 25) ∧ (h14 90 26) = (h 90 26) ∧ (h14 90 28) = (h 90 28) ∧ (h14 90 29) = (h 90 29) ∧ (h14 90 30) = (h 90 30) ∧ (h14 90 34) = (h 90 34)), 31 - x6 < (n9 : Int) → ov_R u d ov_m289 49 [(0, ov_r 90), (1, ov_i ln), (2, ov_i tm), (3, ov_i rn), (4, ov_i ((((ln * 1200) + tm) * 10) + rn)), (5, ov_i x5), (6, ov_i x6)] [] z13 h14 (P_Mo_bestPace_90 F z h so ln tm rn) := by
        intro n9
        induction n9 with
        | zero =>
          intro x5 x6 z13 h14 I15 E16 E17 E18 E19 E20 E21 E22 E23 E24 E25 E26 E27 E28 E29 E30 xm q11 hn31
          exact absurd hn31 (by omega)
        | succ n9 ih10 =>
          intro x5 x6 z13 h14 I15 E16 E17 E18 E19 E20 E21 E22 E23 E24 E25 E26 E27 E28 E29 E30 xm q11 hn31
          refine ov_blk (ls2 := [(0, ov_r 90), (1, ov_i ln), (2, ov_i tm), (3, ov_i rn), (4, ov_i ((((ln * 1200) + tm) * 10) + rn)), (5, ov_i x5), (6, ov_i x6)]) (st2 := [ov_r 90, ov_i x6]) (pc2 := 52) b_289_49_2 rfl rfl ?_
          refine ov_cV (as := []) (st := [ov_i x6]) (d2 := d - 1) d_289_52 lk_Mo_417 rfl (Nat.le_of_ble_eq_true rfl) (c := 1) (zb_90 I15) (zs_90 I15) ⟨by decide, rfl⟩ (by omega) (c_Mo_slowest_90_b (d - 1) (by omega) U I15) ?_
          rintro _ _ _ ⟨v33, rfl, rfl, rfl, f32⟩
          show ov_R u d ov_m289 55 [(0, ov_r 90), (1, ov_i ln), (2, ov_i tm), (3, ov_i rn), (4, ov_i ((((ln * 1200) + tm) * 10) + rn)), (5, ov_i x5), (6, ov_i x6)] [ov_i v33, ov_i x6] z13 h14 (P_Mo_bestPace_90 F z h so ln tm rn)
          rw [show h14 96 = h 96 from E21] at f32
          have f34 : v33 = ov_slw (h 96) ∧ 0 ≤ v33 ∧ v33 ≤ 30 := f32
          clear f32
          refine ov_icgt (tgt := 91) d_289_55 (by decide) (by omega) (by omega) (fun c35 => ?_) (fun c35 => ?_)
          · skip
            have be : x5 = ov_bp (h 96) (h 100) so ln tm rn := by rw [ov_bp_eq (by omega), show Int.toNat (ov_slw (h 96) + 1 - ov_fst (h 96)) = Int.toNat (x6 - ov_fst (h 96)) by omega]; omega
            refine ov_blk (ls2 := [(0, ov_r 90), (1, ov_i ln), (2, ov_i tm), (3, ov_i rn), (4, ov_i ((((ln * 1200) + tm) * 10) + rn)), (5, ov_i x5), (6, ov_i x6)]) (st2 := [ov_r 90]) (pc2 := 92) b_289_91_1 rfl rfl ?_
            refine ov_getf (v := ov_r 109) d_289_92 fl_Mo_129 (zb_90 I15) (zs_90 I15) (congrArg ov_r (rg_90_36 I15)) ?_
            refine ov_blk (ls2 := [(0, ov_r 90), (1, ov_i ln), (2, ov_i tm), (3, ov_i rn), (4, ov_i ((((ln * 1200) + tm) * 10) + rn)), (5, ov_i x5), (6, ov_i x6)]) (st2 := [ov_i x5, ov_i ((((ln * 1200) + tm) * 10) + rn), ov_r 109]) (pc2 := 99) b_289_95_2 rfl rfl ?_
            refine ov_iast d_289_99 (zb_109 I15) (zs_109 I15) (by omega) ?_
            have I36 := ua_109 (k := ((((ln * 1200) + tm) * 10) + rn)) (x := x5) I15 (by omega)
            have mw := ov_PI_w (ln := ln) (tm := tm) (rn := rn) (v := x5) xm (by omega) (by omega) be
            have e5 : (ov_up h14 109 ((((ln * 1200) + tm) * 10) + rn) x5) 109 = ov_rs (h14 109) ((((ln * 1200) + tm) * 10) + rn) x5 := ov_up_row h14 109 ((((ln * 1200) + tm) * 10) + rn) x5
            have mi9 : ov_PI (h 96) (h 100) so ((ov_up h14 109 ((((ln * 1200) + tm) * 10) + rn) x5) 109) := by rw [e5]; exact mw
            have er : ((ov_up h14 109 ((((ln * 1200) + tm) * 10) + rn) x5) 109 ((((ln * 1200) + tm) * 10) + rn)) = x5 := by show (ov_up h14 109 ((((ln * 1200) + tm) * 10) + rn) x5) 109 ((((ln * 1200) + tm) * 10) + rn) = _; rw [ov_up_row, ov_rs_eq]
            refine ov_blk (ls2 := [(0, ov_r 90), (1, ov_i ln), (2, ov_i tm), (3, ov_i rn), (4, ov_i ((((ln * 1200) + tm) * 10) + rn)), (5, ov_i x5), (6, ov_i x6)]) (st2 := [ov_r 90]) (pc2 := 101) b_289_100_1 rfl rfl ?_
            refine ov_getf (v := ov_r 109) d_289_101 fl_Mo_129 (zb_90 I36) (zs_90 I36) (congrArg ov_r (rg_90_36 I36)) ?_
            refine ov_blk (ls2 := [(0, ov_r 90), (1, ov_i ln), (2, ov_i tm), (3, ov_i rn), (4, ov_i ((((ln * 1200) + tm) * 10) + rn)), (5, ov_i x5), (6, ov_i x6)]) (st2 := [ov_i ((((ln * 1200) + tm) * 10) + rn), ov_r 109]) (pc2 := 106) b_289_104_1 rfl rfl ?_
            refine ov_iald d_289_106 (zb_109 I36) (zs_109 I36) (by omega) ?_
            show ov_R u d ov_m289 107 [(0, ov_r 90), (1, ov_i ln), (2, ov_i tm), (3, ov_i rn), (4, ov_i ((((ln * 1200) + tm) * 10) + rn)), (5, ov_i x5), (6, ov_i x6)] [ov_i ((ov_up h14 109 ((((ln * 1200) + tm) * 10) + rn) x5) 109 ((((ln * 1200) + tm) * 10) + rn))] z13 (ov_up h14 109 ((((ln * 1200) + tm) * 10) + rn) x5) (P_Mo_bestPace_90 F z h so ln tm rn)
            exact ov_reti (st := []) d_289_107 rfl ⟨_, rfl, I36, (by show (h14 90 2) = (h 90 2) ∧ (h14 90 7) = (h 90 7) ∧ (h14 90 8) = (h 90 8) ∧ (h14 90 13) = (h 90 13) ∧ (h14 90 20) = (h 90 20) ∧ (h14 90 22) = (h 90 22) ∧ (h14 90 25) = (h 90 25) ∧ (h14 90 26) = (h 90 26) ∧ (h14 90 28) = (h 90 28) ∧ (h14 90 29) = (h 90 29) ∧ (h14 90 30) = (h 90 30) ∧ (h14 90 34) = (h 90 34) ∧ (h14 90 37) = (h 90 37) ∧ ((ov_up h14 109 ((((ln * 1200) + tm) * 10) + rn) x5) 109 ((((ln * 1200) + tm) * 10) + rn)) = (ov_bp (h 96) (h 100) so) ln tm rn ∧ 1 ≤ ((ov_up h14 109 ((((ln * 1200) + tm) * 10) + rn) x5) 109 ((((ln * 1200) + tm) * 10) + rn)) ∧ (((ov_up h14 109 ((((ln * 1200) + tm) * 10) + rn) x5) 109 ((((ln * 1200) + tm) * 10) + rn)) = 2000000000 ∨ ((ov_up h14 109 ((((ln * 1200) + tm) * 10) + rn) x5) 109 ((((ln * 1200) + tm) * 10) + rn)) ≤ 1201 + 100000 * (13 - ln)); omega), E16, E17, E18, E19, E20, E21, E22, E23, E24, E25, E26, E27, E28, E29, E30, mi9⟩
          · skip
            refine ov_blk (ls2 := [(0, ov_r 90), (1, ov_i ln), (2, ov_i tm), (3, ov_i rn), (4, ov_i ((((ln * 1200) + tm) * 10) + rn)), (5, ov_i x5), (6, ov_i x6)]) (st2 := [ov_i x6, ov_i rn, ov_i tm, ov_i ln, ov_r 90]) (pc2 := 64) b_289_58_5 rfl rfl ?_
            have cf37 : h14 100 (0) = h 100 (0) := congrFun E25 (0)
            refine ov_cV (as := [ov_i ln, ov_i tm, ov_i rn, ov_i x6]) (st := []) (d2 := d - 1) d_289_64 lk_Mo_420 rfl (Nat.le_of_ble_eq_true rfl) (c := 1) (zb_90 I15) (zs_90 I15) ⟨by decide, rfl⟩ (by omega) (c_Mo_paceBy_90 so k HV (d - 1) (by omega) U I15 ln tm rn x6 (by omega) (by omega) (by omega) (by omega) (by show 0 ≤ ln ∧ ln + (k : Int) = (h14 100 0); omega) (by show ln < (h14 100 0); omega) (by omega) (by omega) (by omega) (by show (h14 90 37) = so; omega) (by rw [show h14 96 = h 96 from E21]; exact W) (by rw [show h14 100 = h 100 from E25]; exact W2) (by rw [show h14 96 = h 96 from E21, show h14 100 = h 100 from E25]; exact xm)) ?_
            rintro _ z56 h57 ⟨v39, rfl, I58, f38, e40, e41, e42, e43, e44, e45, e46, e47, e48, e49, e50, e51, e52, e53, e54, y55⟩
            have E59 : h57 91 = h 91 := Eq.trans e40 E16
            have E60 : h57 92 = h 92 := Eq.trans e41 E17
            have E61 : h57 93 = h 93 := Eq.trans e42 E18
            have E62 : h57 94 = h 94 := Eq.trans e43 E19
            have E63 : h57 95 = h 95 := Eq.trans e44 E20
            have E64 : h57 96 = h 96 := Eq.trans e45 E21
            have E65 : h57 97 = h 97 := Eq.trans e46 E22
            have E66 : h57 98 = h 98 := Eq.trans e47 E23
            have E67 : h57 99 = h 99 := Eq.trans e48 E24
            have E68 : h57 100 = h 100 := Eq.trans e49 E25
            have E69 : h57 103 = h 103 := Eq.trans e50 E26
            have E70 : h57 104 = h 104 := Eq.trans e51 E27
            have E71 : h57 105 = h 105 := Eq.trans e52 E28
            have E72 : h57 106 = h 106 := Eq.trans e53 E29
            have E73 : h57 114 = h 114 := Eq.trans e54 E30
            show ov_R u d ov_m289 67 [(0, ov_r 90), (1, ov_i ln), (2, ov_i tm), (3, ov_i rn), (4, ov_i ((((ln * 1200) + tm) * 10) + rn)), (5, ov_i x5), (6, ov_i x6)] [ov_i v39] z56 h57 (P_Mo_bestPace_90 F z h so ln tm rn)
            rw [show h14 100 = h 100 from E25] at f38
            rw [show h14 96 = h 96 from E21] at f38
            have f74 : (h57 90 2) = (h14 90 2) ∧ (h57 90 7) = (h14 90 7) ∧ (h57 90 8) = (h14 90 8) ∧ (h57 90 13) = (h14 90 13) ∧ (h57 90 20) = (h14 90 20) ∧ (h57 90 22) = (h14 90 22) ∧ (h57 90 25) = (h14 90 25) ∧ (h57 90 26) = (h14 90 26) ∧ (h57 90 28) = (h14 90 28) ∧ (h57 90 29) = (h14 90 29) ∧ (h57 90 30) = (h14 90 30) ∧ (h57 90 34) = (h14 90 34) ∧ (h57 90 37) = (h14 90 37) ∧ v39 = (ov_pq (h 96) (h 100) so (ov_bp (h 96) (h 100) so) ln tm rn) x6 ∧ 1 ≤ v39 ∧ (v39 = 2000000000 ∨ v39 ≤ 1201 + 100000 * (13 - ln)) := f38
            clear f38
            rw [show h14 100 = h 100 from E25] at y55
            rw [show h14 96 = h 96 from E21] at y55
            have y55_ : ov_PI (h 96) (h 100) so (h57 109) := y55
            have ms : (ov_pq (h 96) (h 100) so (ov_bp (h 96) (h 100) so) ln tm rn x6 < ov_mn (ov_pq (h 96) (h 100) so (ov_bp (h 96) (h 100) so) ln tm rn) (ov_fst (h 96)) (Int.toNat (x6 - ov_fst (h 96))) → ov_mn (ov_pq (h 96) (h 100) so (ov_bp (h 96) (h 100) so) ln tm rn) (ov_fst (h 96)) (Int.toNat (x6 + 1 - ov_fst (h 96))) = ov_pq (h 96) (h 100) so (ov_bp (h 96) (h 100) so) ln tm rn x6) ∧ (¬ ov_pq (h 96) (h 100) so (ov_bp (h 96) (h 100) so) ln tm rn x6 < ov_mn (ov_pq (h 96) (h 100) so (ov_bp (h 96) (h 100) so) ln tm rn) (ov_fst (h 96)) (Int.toNat (x6 - ov_fst (h 96))) → ov_mn (ov_pq (h 96) (h 100) so (ov_bp (h 96) (h 100) so) ln tm rn) (ov_fst (h 96)) (Int.toNat (x6 + 1 - ov_fst (h 96))) = ov_mn (ov_pq (h 96) (h 100) so (ov_bp (h 96) (h 100) so) ln tm rn) (ov_fst (h 96)) (Int.toNat (x6 - ov_fst (h 96)))) := ov_mn_s (by omega)
            refine ov_blk (ls2 := [(0, ov_r 90), (1, ov_i ln), (2, ov_i tm), (3, ov_i rn), (4, ov_i ((((ln * 1200) + tm) * 10) + rn)), (5, ov_i x5), (6, ov_i x6), (7, ov_i v39)]) (st2 := [ov_i x5, ov_i v39]) (pc2 := 73) b_289_67_3 rfl rfl ?_
            refine ov_icge (tgt := 81) d_289_73 (by decide) (by omega) (by omega) (fun c75 => ?_) (fun c75 => ?_)
            · skip
              refine ov_blk (ls2 := [(0, ov_r 90), (1, ov_i ln), (2, ov_i tm), (3, ov_i rn), (4, ov_i ((((ln * 1200) + tm) * 10) + rn)), (5, ov_i x5), (6, ov_i (x6 + 1)), (7, ov_i v39)]) (st2 := []) (pc2 := 88) b_289_81_3 rfl rfl ?_
              refine ov_goto (tgt := 49) d_289_88 (by decide) ?_
              refine ov_sub (ls2 := [(0, ov_r 90), (1, ov_i ln), (2, ov_i tm), (3, ov_i rn), (4, ov_i ((((ln * 1200) + tm) * 10) + rn)), (5, ov_i x5), (6, ov_i (x6 + 1))]) (List.Sublist.subset (by repeat (first | exact List.Sublist.refl _ | apply List.Sublist.cons_cons | apply List.Sublist.cons))) ?_
              exact ih10 x5 (x6 + 1) _ _ I58 E59 E60 E61 E62 E63 E64 E65 E66 E67 E68 E69 E70 E71 E72 E73 y55_ (by show ov_fst (h 96) ≤ (x6 + 1) ∧ (x6 + 1) ≤ ov_slw (h 96) + 1 ∧ 0 ≤ (x6 + 1) ∧ (x6 + 1) ≤ 31 ∧ 1 ≤ x5 ∧ (x5 = 2000000000 ∨ x5 ≤ 1201 + 100000 * (13 - ln)) ∧ x5 = ov_mn (ov_pq (h 96) (h 100) so (ov_bp (h 96) (h 100) so) ln tm rn) (ov_fst (h 96)) (Int.toNat ((x6 + 1) - ov_fst (h 96))) ∧ (h57 90 37) = (h 90 37) ∧ (h57 90 2) = (h 90 2) ∧ (h57 90 7) = (h 90 7) ∧ (h57 90 8) = (h 90 8) ∧ (h57 90 13) = (h 90 13) ∧ (h57 90 20) = (h 90 20) ∧ (h57 90 22) = (h 90 22) ∧ (h57 90 25) = (h 90 25) ∧ (h57 90 26) = (h 90 26) ∧ (h57 90 28) = (h 90 28) ∧ (h57 90 29) = (h 90 29) ∧ (h57 90 30) = (h 90 30) ∧ (h57 90 34) = (h 90 34); omega) (by omega)
            · skip
              refine ov_blk (ls2 := [(0, ov_r 90), (1, ov_i ln), (2, ov_i tm), (3, ov_i rn), (4, ov_i ((((ln * 1200) + tm) * 10) + rn)), (5, ov_i x5), (6, ov_i x6), (7, ov_i v39)]) (st2 := [ov_i v39]) (pc2 := 78) b_289_76_1 rfl rfl ?_
              refine ov_goto (tgt := 83) d_289_78 (by decide) ?_
              refine ov_blk (ls2 := [(0, ov_r 90), (1, ov_i ln), (2, ov_i tm), (3, ov_i rn), (4, ov_i ((((ln * 1200) + tm) * 10) + rn)), (5, ov_i v39), (6, ov_i (x6 + 1)), (7, ov_i v39)]) (st2 := []) (pc2 := 88) b_289_83_2 rfl rfl ?_
              refine ov_goto (tgt := 49) d_289_88 (by decide) ?_
              refine ov_sub (ls2 := [(0, ov_r 90), (1, ov_i ln), (2, ov_i tm), (3, ov_i rn), (4, ov_i ((((ln * 1200) + tm) * 10) + rn)), (5, ov_i v39), (6, ov_i (x6 + 1))]) (List.Sublist.subset (by repeat (first | exact List.Sublist.refl _ | apply List.Sublist.cons_cons | apply List.Sublist.cons))) ?_
              exact ih10 v39 (x6 + 1) _ _ I58 E59 E60 E61 E62 E63 E64 E65 E66 E67 E68 E69 E70 E71 E72 E73 y55_ (by show ov_fst (h 96) ≤ (x6 + 1) ∧ (x6 + 1) ≤ ov_slw (h 96) + 1 ∧ 0 ≤ (x6 + 1) ∧ (x6 + 1) ≤ 31 ∧ 1 ≤ v39 ∧ (v39 = 2000000000 ∨ v39 ≤ 1201 + 100000 * (13 - ln)) ∧ v39 = ov_mn (ov_pq (h 96) (h 100) so (ov_bp (h 96) (h 100) so) ln tm rn) (ov_fst (h 96)) (Int.toNat ((x6 + 1) - ov_fst (h 96))) ∧ (h57 90 37) = (h 90 37) ∧ (h57 90 2) = (h 90 2) ∧ (h57 90 7) = (h 90 7) ∧ (h57 90 8) = (h 90 8) ∧ (h57 90 13) = (h 90 13) ∧ (h57 90 20) = (h 90 20) ∧ (h57 90 22) = (h 90 22) ∧ (h57 90 25) = (h 90 25) ∧ (h57 90 26) = (h 90 26) ∧ (h57 90 28) = (h 90 28) ∧ (h57 90 29) = (h 90 29) ∧ (h57 90 30) = (h 90 30) ∧ (h57 90 34) = (h 90 34); omega) (by omega)
      exact L12 32 2000000000 v7 _ _ I rfl rfl rfl rfl rfl rfl rfl rfl rfl rfl rfl rfl rfl rfl rfl PI (by show ov_fst (h 96) ≤ v7 ∧ v7 ≤ ov_slw (h 96) + 1 ∧ 0 ≤ v7 ∧ v7 ≤ 31 ∧ 1 ≤ 2000000000 ∧ (2000000000 = 2000000000 ∨ 2000000000 ≤ 1201 + 100000 * (13 - ln)) ∧ 2000000000 = ov_mn (ov_pq (h 96) (h 100) so (ov_bp (h 96) (h 100) so) ln tm rn) (ov_fst (h 96)) (Int.toNat (v7 - ov_fst (h 96))) ∧ (h 90 37) = (h 90 37) ∧ (h 90 2) = (h 90 2) ∧ (h 90 7) = (h 90 7) ∧ (h 90 8) = (h 90 8) ∧ (h 90 13) = (h 90 13) ∧ (h 90 20) = (h 90 20) ∧ (h 90 22) = (h 90 22) ∧ (h 90 25) = (h 90 25) ∧ (h 90 26) = (h 90 26) ∧ (h 90 28) = (h 90 28) ∧ (h 90 29) = (h 90 29) ∧ (h 90 30) = (h 90 30) ∧ (h 90 34) = (h 90 34); omega) (by omega)
  · skip
    refine ov_blk (ls2 := [(0, ov_r 90), (1, ov_i ln), (2, ov_i tm), (3, ov_i rn)]) (st2 := [ov_i (1 + tm)]) (pc2 := 13) b_289_10_3 rfl rfl ?_
    have e9 : ov_bp (h 96) (h 100) so ln tm rn = 1 + tm := ov_bp_end (by omega)
    exact ov_reti (st := []) d_289_13 rfl ⟨_, rfl, I, ⟨rfl, rfl, rfl, rfl, rfl, rfl, rfl, rfl, rfl, rfl, rfl, rfl, (by show (h 90 37) = (h 90 37) ∧ (1 + tm) = (ov_bp (h 96) (h 100) so) ln tm rn ∧ 1 ≤ (1 + tm) ∧ ((1 + tm) = 2000000000 ∨ (1 + tm) ≤ 1201 + 100000 * (13 - ln)); omega)⟩, rfl, rfl, rfl, rfl, rfl, rfl, rfl, rfl, rfl, rfl, rfl, rfl, rfl, rfl, rfl, PI⟩
theorem c_Mo_bestPace_90_all {u : ov_U} {F : ov_H × ov_Z} (so : Int) (k : Nat) : ∀ {z : ov_Z} {h : ov_H} (d : Nat) (hd : (10 + 2 * k + 1) ≤ d) (U : ov_cap u) (I : ov_N F z h) (ln : Int) (tm : Int) (rn : Int) (g_ln : ov_g ln) (g_tm : ov_g tm) (g_rn : ov_g rn) (p0 : 0 ≤ ln ∧ ln + (k : Int) = (h 100 0)) (p1 : 0 ≤ tm ∧ tm + 89 * (k : Int) ≤ 1157) (p2 : 0 ≤ rn ∧ rn ≤ 9) (p3 : (h 90 37) = so) (W : ov_WT (h 96)) (W2 : ov_WK (h 100)) (PI : ov_PI (h 96) (h 100) so (h 109)), ov_T u d ov_m289 [ov_r 90, ov_i ln, ov_i tm, ov_i rn] z h (P_Mo_bestPace_90 F z h so ln tm rn) := by
  induction k using Nat.strongRecOn with
  | ind k ih => exact fun {z} {h} => @c_Mo_bestPace_90 u F so k (fun k' hk => @ih k' hk) z h
theorem c_Mo_paceBy_90_all {u : ov_U} {F : ov_H × ov_Z} (so : Int) (k : Nat) : ∀ {z : ov_Z} {h : ov_H} (d : Nat) (hd : (10 + 2 * k + 0) ≤ d) (U : ov_cap u) (I : ov_N F z h) (ln : Int) (tm : Int) (rn : Int) (s : Int) (g_ln : ov_g ln) (g_tm : ov_g tm) (g_rn : ov_g rn) (g_s : ov_g s) (p0 : 0 ≤ ln ∧ ln + (k : Int) = (h 100 0)) (p1 : ln < (h 100 0)) (p2 : 0 ≤ tm ∧ tm + 89 * (k : Int) ≤ 1157) (p3 : 0 ≤ rn ∧ rn ≤ 9) (p4 : 0 ≤ s ∧ s ≤ 30) (p5 : (h 90 37) = so) (W : ov_WT (h 96)) (W2 : ov_WK (h 100)) (PI : ov_PI (h 96) (h 100) so (h 109)), ov_T u d ov_m293 [ov_r 90, ov_i ln, ov_i tm, ov_i rn, ov_i s] z h (P_Mo_paceBy_90 F z h so ln tm rn s) := fun {z} {h} => @c_Mo_paceBy_90 u F so k (fun k' _ => @c_Mo_bestPace_90_all u F so k') z h
theorem ov_slw_b {F : ov_H × ov_Z} {z : ov_Z} {h : ov_H} (I : ov_N F z h) : ov_slw (h 96) ≤ 30 := by
  have a := t96_2 I
  have b := t96_3 I
  have c := t96_4 I
  unfold ov_slw ov_rt ov_slt
  (repeat' split) <;> omega
abbrev P_Mo_pace_90 (F : ov_H × ov_Z) (z : ov_Z) (h : ov_H) (s : Int) (m : Int) : Option ov_V → ov_Z → ov_H → Prop := fun r0 z' h' => ∃ r : Int, r0 = some (ov_i r) ∧ ov_N F z' h' ∧ ((h' 90 2) = (h 90 2) ∧ (h' 90 7) = (h 90 7) ∧ (h' 90 8) = (h 90 8) ∧ (h' 90 13) = (h 90 13) ∧ (h' 90 20) = (h 90 20) ∧ (h' 90 22) = (h 90 22) ∧ (h' 90 25) = (h 90 25) ∧ (h' 90 26) = (h 90 26) ∧ (h' 90 28) = (h 90 28) ∧ (h' 90 29) = (h 90 29) ∧ (h' 90 30) = (h 90 30) ∧ (h' 90 34) = (h 90 34) ∧ -2147483648 ≤ r ∧ r ≤ 2147483647) ∧ h' 91 = h 91 ∧ h' 92 = h 92 ∧ h' 93 = h 93 ∧ h' 94 = h 94 ∧ h' 95 = h 95 ∧ h' 96 = h 96 ∧ h' 97 = h 97 ∧ h' 98 = h 98 ∧ h' 99 = h 99 ∧ h' 100 = h 100 ∧ h' 103 = h 103 ∧ h' 104 = h 104 ∧ h' 105 = h 105 ∧ h' 106 = h 106 ∧ h' 114 = h 114
set_option maxHeartbeats 4000000 in
theorem c_Mo_pace_90 {u : ov_U} {F : ov_H × ov_Z} {z : ov_Z} {h : ov_H} (d : Nat) (hd : 60 ≤ d) (U : ov_cap u) (I : ov_N F z h) (s : Int) (m : Int) (g_s : ov_g s) (g_m : ov_g m) (W : ov_WT (h 96)) (W2 : ov_WK (h 100)) : ov_T u d ov_m288 [ov_r 90, ov_i s, ov_i m] z h (P_Mo_pace_90 F z h s m) := by
  refine ov_en rfl (Nat.le_of_ble_eq_true rfl) ?_
  show ov_R u d ov_m288 0 [(0, ov_r 90), (1, ov_i s), (2, ov_i m)] [] z h (P_Mo_pace_90 F z h s m)
  have t0 := t96_0 I
  have t1 := t96_1 I
  have wk : ∀ j : Int, 0 ≤ j → j ≤ 12 → 0 ≤ h 100 (1 + 2 * j) ∧ h 100 (1 + 2 * j) ≤ 1 := fun j h1 h2 => s100_w I ⟨h1, h2⟩
  have wz := s100_0 I
  refine ov_blk (ls2 := [(0, ov_r 90), (1, ov_i s), (2, ov_i m)]) (st2 := [ov_i 0, ov_r 90]) (pc2 := 2) b_288_0_2 rfl rfl ?_
  refine ov_putf (x := 0) d_288_2 fl_Mo_1 (zb_90 I) (zs_90 I) rfl nk_0 rfl ?_
  have I1 := up_90_0 (x := 0) I (by omega)
  refine ov_blk (ls2 := [(0, ov_r 90), (1, ov_i s), (2, ov_i m)]) (st2 := [ov_i s, ov_r 90]) (pc2 := 7) b_288_5_2 rfl rfl ?_
  refine ov_cV (as := [ov_i s]) (st := []) (d2 := d - 1) d_288_7 lk_Mo_306 rfl (Nat.le_of_ble_eq_true rfl) (c := 1) (zb_90 I1) (zs_90 I1) ⟨by decide, rfl⟩ (by omega) (c_Mo_isSecond_90 (d - 1) (by omega) U I1 s (by omega)) ?_
  rintro _ _ _ ⟨v3, rfl, rfl, rfl, f2⟩
  show ov_R u d ov_m288 10 [(0, ov_r 90), (1, ov_i s), (2, ov_i m)] [ov_i v3] z (ov_up h 90 0 0) (P_Mo_pace_90 F z h s m)
  have f4 : (v3 = 0 ∨ v3 = 1) ∧ (v3 = 1 → 0 ≤ s ∧ s ≤ 1000000) := f2
  clear f2
  refine ov_ifeq (tgt := 38) d_288_10 (by decide) (by omega) (fun c5 => ?_) (fun c5 => ?_)
  · skip
    have f4_ : v3 = 0 := by omega
    clear f4
    refine ov_blk (ls2 := [(0, ov_r 90), (1, ov_i s), (2, ov_i m)]) (st2 := [ov_i (-1)]) (pc2 := 39) b_288_38_1 rfl rfl ?_
    exact ov_reti (st := []) d_288_39 rfl ⟨_, rfl, I1, ⟨rfl, rfl, rfl, rfl, rfl, rfl, rfl, rfl, rfl, rfl, rfl, rfl, (by show -2147483648 ≤ (-1) ∧ (-1) ≤ 2147483647; omega)⟩, rfl, rfl, rfl, rfl, rfl, rfl, rfl, rfl, rfl, rfl, rfl, rfl, rfl, rfl, rfl⟩
  · skip
    have f4_ : v3 = 1 := by omega
    have f6 : 0 ≤ s ∧ s ≤ 1000000 := f4.2 (by omega)
    clear f4
    refine ov_blk (ls2 := [(0, ov_r 90), (1, ov_i s), (2, ov_i m)]) (st2 := [ov_r 90, ov_i 1, ov_i 0, ov_i m]) (pc2 := 17) b_288_13_4 rfl rfl ?_
    refine ov_getf (v := ov_r 100) d_288_17 fl_Mo_93 (zb_90 I1) (zs_90 I1) (congrArg ov_r (rg_90_16 I1)) ?_
    refine ov_blk (ls2 := [(0, ov_r 90), (1, ov_i s), (2, ov_i m)]) (st2 := [ov_i 0, ov_r 100, ov_i 1, ov_i 0, ov_i m]) (pc2 := 21) b_288_20_1 rfl rfl ?_
    refine ov_iald d_288_21 (zb_100 I1) (zs_100 I1) (by omega) ?_
    show ov_R u d ov_m288 22 [(0, ov_r 90), (1, ov_i s), (2, ov_i m)] [ov_i (h 100 0), ov_i 1, ov_i 0, ov_i m] z (ov_up h 90 0 0) (P_Mo_pace_90 F z h s m)
    have g7 := s100_0 I
    refine ov_blk (ls2 := [(0, ov_r 90), (1, ov_i s), (2, ov_i m)]) (st2 := [ov_i (1 + (h 100 0)), ov_i 0, ov_i m]) (pc2 := 23) b_288_22_1 rfl rfl ?_
    refine ov_cS (as := [ov_i m, ov_i 0, ov_i (1 + (h 100 0))]) (st := []) (d2 := d - 1) d_288_23 lk_Mo_299 rfl (Nat.le_of_ble_eq_true rfl) (by omega) (c_Mo_within (d - 1) (by omega) U I1 m 0 (1 + (h 100 0)) (by omega) (by omega) (by omega)) ?_
    rintro _ _ _ ⟨v9, rfl, rfl, rfl, f8⟩
    show ov_R u d ov_m288 26 [(0, ov_r 90), (1, ov_i s), (2, ov_i m)] [ov_i v9] z (ov_up h 90 0 0) (P_Mo_pace_90 F z h s m)
    have f10 : (v9 = 0 ∨ v9 = 1) ∧ (v9 = 1 → (0 : Int) ≤ m ∧ m ≤ (1 + (h 100 0))) ∧ (v9 = 0 → m < (0 : Int) ∨ (1 + (h 100 0)) < m) := f8
    clear f8
    refine ov_ifeq (tgt := 38) d_288_26 (by decide) (by omega) (fun c11 => ?_) (fun c11 => ?_)
    · skip
      have f10_ : v9 = 0 := by omega
      have f12 : m < (0 : Int) ∨ (1 + (h 100 0)) < m := f10.2.2 (by omega)
      clear f10
      refine ov_blk (ls2 := [(0, ov_r 90), (1, ov_i s), (2, ov_i m)]) (st2 := [ov_i (-1)]) (pc2 := 39) b_288_38_1 rfl rfl ?_
      exact ov_reti (st := []) d_288_39 rfl ⟨_, rfl, I1, ⟨rfl, rfl, rfl, rfl, rfl, rfl, rfl, rfl, rfl, rfl, rfl, rfl, (by show -2147483648 ≤ (-1) ∧ (-1) ≤ 2147483647; omega)⟩, rfl, rfl, rfl, rfl, rfl, rfl, rfl, rfl, rfl, rfl, rfl, rfl, rfl, rfl, rfl⟩
    · skip
      have f10_ : v9 = 1 := by omega
      have f13 : (0 : Int) ≤ m ∧ m ≤ (1 + (h 100 0)) := f10.2.1 (by omega)
      clear f10
      refine ov_blk (ls2 := [(0, ov_r 90), (1, ov_i s), (2, ov_i m)]) (st2 := [ov_r 90]) (pc2 := 30) b_288_29_1 rfl rfl ?_
      refine ov_getf (v := ov_r 100) d_288_30 fl_Mo_93 (zb_90 I1) (zs_90 I1) (congrArg ov_r (rg_90_16 I1)) ?_
      refine ov_blk (ls2 := [(0, ov_r 90), (1, ov_i s), (2, ov_i m)]) (st2 := [ov_i 0, ov_r 100]) (pc2 := 34) b_288_33_1 rfl rfl ?_
      refine ov_iald d_288_34 (zb_100 I1) (zs_100 I1) (by omega) ?_
      show ov_R u d ov_m288 35 [(0, ov_r 90), (1, ov_i s), (2, ov_i m)] [ov_i (h 100 0)] z (ov_up h 90 0 0) (P_Mo_pace_90 F z h s m)
      refine ov_ifne (tgt := 40) d_288_35 (by decide) (by omega) (fun c15 => ?_) (fun c15 => ?_)
      · skip
        refine ov_blk (ls2 := [(0, ov_r 90), (1, ov_i s), (2, ov_i m), (3, ov_i 0)]) (st2 := []) (pc2 := 42) b_288_40_2 rfl rfl ?_
        have L19 : ∀ (n16 : Nat) (x3 : Int) (z20 : ov_Z) (h21 : ov_H) (I22 : ov_N F z20 h21) (E23 : h21 91 = h 91) (E24 : h21 92 = h 92) (E25 : h21 93 = h 93) (E26 : h21 94 = h 94) (E27 : h21 95 = h 95) (E28 : h21 96 = h 96) (E29 : h21 97 = h 97) (E30 : h21 98 = h 98) (E31 : h21 99 = h 99) (E32 : h21 100 = h 100) (E33 : h21 103 = h 103) (E34 : h21 104 = h 104) (E35 : h21 105 = h 105) (E36 : h21 106 = h 106) (E37 : h21 114 = h 114) (xz : ∀ j : Int, 0 ≤ j → j < x3 → (h21 109) j = 0) (q18 : 0 ≤ x3 ∧ x3 ≤ 156000 ∧ (h21 90 2) = (h 90 2) ∧ (h21 90 7) = (h 90 7) ∧ (h21 90 8) = (h 90 8) ∧ (h21 90 13) = (h 90 13) ∧ (h21 90 20) = (h 90 20) ∧ (h21 90 22) = (h 90 22) ∧ (h21 90 25) = (h 90 25) ∧ (h21 90 26) = (h 90 26) ∧ (h21 90 28) = (h 90 28) ∧ (h21 90 29) = (h 90 29) ∧ (h21 90 30) = (h 90 30) ∧ (h21 90 34) = (h 90 34)), 156000 - x3 < (n16 : Int) → ov_R u d ov_m288 42 [(0, ov_r 90), (1, ov_i s), (2, ov_i m), (3, ov_i x3)] [] z20 h21 (P_Mo_pace_90 F z h s m) := by
          intro n16
          induction n16 with
          | zero =>
            intro x3 z20 h21 I22 E23 E24 E25 E26 E27 E28 E29 E30 E31 E32 E33 E34 E35 E36 E37 xz q18 hn38
            exact absurd hn38 (by omega)
          | succ n16 ih17 =>
            intro x3 z20 h21 I22 E23 E24 E25 E26 E27 E28 E29 E30 E31 E32 E33 E34 E35 E36 E37 xz q18 hn38
            refine ov_blk (ls2 := [(0, ov_r 90), (1, ov_i s), (2, ov_i m), (3, ov_i x3)]) (st2 := [ov_i x3]) (pc2 := 43) b_288_42_1 rfl rfl ?_
            refine ov_ldc (n := 156000) d_288_43 kc_Mo_128 ?_
            refine ov_icge (tgt := 61) d_288_45 (by decide) (by omega) (by omega) (fun c39 => ?_) (fun c39 => ?_)
            · skip
              refine ov_blk (ls2 := [(0, ov_r 90), (1, ov_i s), (2, ov_i m), (3, ov_i x3)]) (st2 := [ov_i s, ov_r 90]) (pc2 := 63) b_288_61_2 rfl rfl ?_
              refine ov_putf (x := s) d_288_63 fl_Mo_426 (zb_90 I22) (zs_90 I22) rfl nk_0 rfl ?_
              have I40 := up_90_37 (x := s) I22 (by omega)
              have pi0 : ov_PI (h 96) (h 100) s (h21 109) := ov_PI_0 (by omega) (fun j a b => xz j a (by omega))
              refine ov_blk (ls2 := [(0, ov_r 90), (1, ov_i s), (2, ov_i m), (3, ov_i x3)]) (st2 := [ov_r 90]) (pc2 := 67) b_288_66_1 rfl rfl ?_
              refine ov_getf (v := ov_r 96) d_288_67 fl_Mo_81 (zb_90 I40) (zs_90 I40) (congrArg ov_r (rg_90_10 I40)) ?_
              refine ov_blk (ls2 := [(0, ov_r 90), (1, ov_i s), (2, ov_i m), (3, ov_i x3)]) (st2 := [ov_i 6, ov_r 96]) (pc2 := 72) b_288_70_1 rfl rfl ?_
              refine ov_iald d_288_72 (zb_96 I40) (zs_96 I40) (by omega) ?_
              show ov_R u d ov_m288 73 [(0, ov_r 90), (1, ov_i s), (2, ov_i m), (3, ov_i x3)] [ov_i ((ov_up h21 90 37 s) 96 6)] z20 (ov_up h21 90 37 s) (P_Mo_pace_90 F z h s m)
              rw [show (ov_up h21 90 37 s) 96 = h 96 from E28]
              have g41 := t96_6 I
              refine ov_blk (ls2 := [(0, ov_r 90), (1, ov_i s), (2, ov_i m), (3, ov_i x3)]) (st2 := [ov_i 1, ov_i (h 96 6)]) (pc2 := 74) b_288_73_1 rfl rfl ?_
              refine ov_icne (tgt := 81) d_288_74 (by decide) (by omega) (by omega) (fun c42 => ?_) (fun c42 => ?_)
              · skip
                refine ov_blk (ls2 := [(0, ov_r 90), (1, ov_i s), (2, ov_i m), (3, ov_i x3)]) (st2 := [ov_r 90]) (pc2 := 82) b_288_81_1 rfl rfl ?_
                refine ov_getf (v := ov_r 96) d_288_82 fl_Mo_81 (zb_90 I40) (zs_90 I40) (congrArg ov_r (rg_90_10 I40)) ?_
                refine ov_blk (ls2 := [(0, ov_r 90), (1, ov_i s), (2, ov_i m), (3, ov_i x3)]) (st2 := [ov_i 5, ov_r 96]) (pc2 := 86) b_288_85_1 rfl rfl ?_
                refine ov_iald d_288_86 (zb_96 I40) (zs_96 I40) (by omega) ?_
                show ov_R u d ov_m288 87 [(0, ov_r 90), (1, ov_i s), (2, ov_i m), (3, ov_i x3)] [ov_i ((ov_up h21 90 37 s) 96 5)] z20 (ov_up h21 90 37 s) (P_Mo_pace_90 F z h s m)
                rw [show (ov_up h21 90 37 s) 96 = h 96 from E28]
                have g43 := t96_5 I
                refine ov_blk (ls2 := [(0, ov_r 90), (1, ov_i s), (2, ov_i m), (3, ov_i (h 96 5))]) (st2 := [ov_i (h 96 5), ov_i 0, ov_i 0, ov_r 90]) (pc2 := 92) b_288_87_5 rfl rfl ?_
                have cf44 : h21 100 (0) = h 100 (0) := congrFun E32 (0)
                refine ov_cV (as := [ov_i 0, ov_i 0, ov_i (h 96 5)]) (st := []) (d2 := d - 1) d_288_92 lk_Mo_429 rfl (Nat.le_of_ble_eq_true rfl) (c := 1) (zb_90 I40) (zs_90 I40) ⟨by decide, rfl⟩ (by omega) (c_Mo_bestPace_90_all s (Int.toNat (h 100 0 - (0))) (d - 1) (by omega) U I40 0 0 (h 96 5) (by omega) (by omega) (by omega) (by show 0 ≤ (0 : Int) ∧ (0 : Int) + ((Int.toNat (h 100 0 - (0)) : Nat) : Int) = (h21 100 0); omega) (by omega) (by omega) (by show s = s; omega) (by rw [show (ov_up h21 90 37 s) 96 = h 96 from E28]; exact W) (by rw [show (ov_up h21 90 37 s) 100 = h 100 from E32]; exact W2) (by rw [show (ov_up h21 90 37 s) 96 = h 96 from E28, show (ov_up h21 90 37 s) 100 = h 100 from E32]; exact pi0)) ?_
                rintro _ z63 h64 ⟨v46, rfl, I65, f45, e47, e48, e49, e50, e51, e52, e53, e54, e55, e56, e57, e58, e59, e60, e61, y62⟩
                have E66 : h64 91 = h 91 := Eq.trans e47 E23
                have E67 : h64 92 = h 92 := Eq.trans e48 E24
                have E68 : h64 93 = h 93 := Eq.trans e49 E25
                have E69 : h64 94 = h 94 := Eq.trans e50 E26
                have E70 : h64 95 = h 95 := Eq.trans e51 E27
                have E71 : h64 96 = h 96 := Eq.trans e52 E28
                have E72 : h64 97 = h 97 := Eq.trans e53 E29
                have E73 : h64 98 = h 98 := Eq.trans e54 E30
                have E74 : h64 99 = h 99 := Eq.trans e55 E31
                have E75 : h64 100 = h 100 := Eq.trans e56 E32
                have E76 : h64 103 = h 103 := Eq.trans e57 E33
                have E77 : h64 104 = h 104 := Eq.trans e58 E34
                have E78 : h64 105 = h 105 := Eq.trans e59 E35
                have E79 : h64 106 = h 106 := Eq.trans e60 E36
                have E80 : h64 114 = h 114 := Eq.trans e61 E37
                show ov_R u d ov_m288 95 [(0, ov_r 90), (1, ov_i s), (2, ov_i m), (3, ov_i (h 96 5))] [ov_i v46] z63 h64 (P_Mo_pace_90 F z h s m)
                rw [show (ov_up h21 90 37 s) 100 = h 100 from E32] at f45
                rw [show (ov_up h21 90 37 s) 96 = h 96 from E28] at f45
                have f81 : (h64 90 2) = (h21 90 2) ∧ (h64 90 7) = (h21 90 7) ∧ (h64 90 8) = (h21 90 8) ∧ (h64 90 13) = (h21 90 13) ∧ (h64 90 20) = (h21 90 20) ∧ (h64 90 22) = (h21 90 22) ∧ (h64 90 25) = (h21 90 25) ∧ (h64 90 26) = (h21 90 26) ∧ (h64 90 28) = (h21 90 28) ∧ (h64 90 29) = (h21 90 29) ∧ (h64 90 30) = (h21 90 30) ∧ (h64 90 34) = (h21 90 34) ∧ (h64 90 37) = s ∧ v46 = (ov_bp (h 96) (h 100) s) (0 : Int) (0 : Int) (h 96 5) ∧ 1 ≤ v46 ∧ (v46 = 2000000000 ∨ v46 ≤ 1201 + 100000 * (13 - (0 : Int))) := f45
                clear f45
                rw [show (ov_up h21 90 37 s) 100 = h 100 from E32] at y62
                rw [show (ov_up h21 90 37 s) 96 = h 96 from E28] at y62
                have y62_ : ov_PI (h 96) (h 100) s (h64 109) := y62
                refine ov_blk (ls2 := [(0, ov_r 90), (1, ov_i s), (2, ov_i m), (3, ov_i (h 96 5)), (4, ov_i v46)]) (st2 := [ov_i v46]) (pc2 := 99) b_288_95_2 rfl rfl ?_
                refine ov_ldcw (n := 2000000000) d_288_99 kc_Mo_338 ?_
                refine ov_iceq (tgt := 110) d_288_102 (by decide) (by omega) (by omega) (fun c82 => ?_) (fun c82 => ?_)
                · skip
                  refine ov_blk (ls2 := [(0, ov_r 90), (1, ov_i s), (2, ov_i m), (3, ov_i (h 96 5)), (4, ov_i v46)]) (st2 := [ov_i v46]) (pc2 := 112) b_288_110_1 rfl rfl ?_
                  refine ov_ldcw (n := 2000000000) d_288_112 kc_Mo_338 ?_
                  refine ov_icne (tgt := 122) d_288_115 (by decide) (by omega) (by omega) (fun c83 => ?_) (fun c83 => ?_)
                  · omega
                  · skip
                    refine ov_blk (ls2 := [(0, ov_r 90), (1, ov_i s), (2, ov_i m), (3, ov_i (h 96 5)), (4, ov_i v46)]) (st2 := [ov_i (-1)]) (pc2 := 119) b_288_118_1 rfl rfl ?_
                    refine ov_goto (tgt := 145) d_288_119 (by decide) ?_
                    exact ov_reti (st := []) d_288_145 rfl ⟨_, rfl, I65, (by show (h64 90 2) = (h 90 2) ∧ (h64 90 7) = (h 90 7) ∧ (h64 90 8) = (h 90 8) ∧ (h64 90 13) = (h 90 13) ∧ (h64 90 20) = (h 90 20) ∧ (h64 90 22) = (h 90 22) ∧ (h64 90 25) = (h 90 25) ∧ (h64 90 26) = (h 90 26) ∧ (h64 90 28) = (h 90 28) ∧ (h64 90 29) = (h 90 29) ∧ (h64 90 30) = (h 90 30) ∧ (h64 90 34) = (h 90 34) ∧ -2147483648 ≤ (-1) ∧ (-1) ≤ 2147483647; omega), E66, E67, E68, E69, E70, E71, E72, E73, E74, E75, E76, E77, E78, E79, E80⟩
                · skip
                  refine ov_blk (ls2 := [(0, ov_r 90), (1, ov_i s), (2, ov_i m), (3, ov_i (h 96 5)), (4, ov_i v46)]) (st2 := [ov_i 2, ov_i m]) (pc2 := 107) b_288_105_2 rfl rfl ?_
                  refine ov_icge (tgt := 146) d_288_107 (by decide) (by omega) (by omega) (fun c84 => ?_) (fun c84 => ?_)
                  · skip
                    refine ov_blk (ls2 := [(0, ov_r 90), (1, ov_i s), (2, ov_i m), (3, ov_i (h 96 5)), (4, ov_i v46), (5, ov_i 0), (6, ov_i 0), (7, ov_i 0)]) (st2 := []) (pc2 := 155) b_288_146_6 rfl rfl ?_
                    have L88 : ∀ (n85 : Nat) (x3_ : Int) (x5 : Int) (x6 : Int) (x7 : Int) (z89 : ov_Z) (h90 : ov_H) (I91 : ov_N F z89 h90) (E92 : h90 91 = h 91) (E93 : h90 92 = h 92) (E94 : h90 93 = h 93) (E95 : h90 94 = h 94) (E96 : h90 95 = h 95) (E97 : h90 96 = h 96) (E98 : h90 97 = h 97) (E99 : h90 98 = h 98) (E100 : h90 99 = h 99) (E101 : h90 100 = h 100) (E102 : h90 103 = h 103) (E103 : h90 104 = h 104) (E104 : h90 105 = h 105) (E105 : h90 106 = h 106) (E106 : h90 114 = h 114) (xm : ov_PI (h 96) (h 100) s (h90 109)) (q87 : 0 ≤ x7 ∧ x7 ≤ m - 1 ∧ 0 ≤ x5 ∧ x5 ≤ 89 * x7 ∧ 0 ≤ x3_ ∧ x3_ ≤ 9 ∧ 0 ≤ x6 ∧ x6 ≤ 31 ∧ ¬ ov_bp (h 96) (h 100) s x7 x5 x3_ = 2000000000 ∧ (h90 90 37) = s ∧ (h90 90 2) = (h64 90 2) ∧ (h90 90 7) = (h64 90 7) ∧ (h90 90 8) = (h64 90 8) ∧ (h90 90 13) = (h64 90 13) ∧ (h90 90 20) = (h64 90 20) ∧ (h90 90 22) = (h64 90 22) ∧ (h90 90 25) = (h64 90 25) ∧ (h90 90 26) = (h64 90 26) ∧ (h90 90 28) = (h64 90 28) ∧ (h90 90 29) = (h64 90 29) ∧ (h90 90 30) = (h64 90 30) ∧ (h90 90 34) = (h64 90 34)), 13 - x7 < (n85 : Int) → ov_R u d ov_m288 155 [(0, ov_r 90), (1, ov_i s), (2, ov_i m), (3, ov_i x3_), (4, ov_i v46), (5, ov_i x5), (6, ov_i x6), (7, ov_i x7)] [] z89 h90 (P_Mo_pace_90 F z h s m) := by
                      intro n85
                      induction n85 with
                      | zero =>
                        intro x3_ x5 x6 x7 z89 h90 I91 E92 E93 E94 E95 E96 E97 E98 E99 E100 E101 E102 E103 E104 E105 E106 xm q87 hn107
                        exact absurd hn107 (by omega)
                      | succ n85 ih86 =>
                        intro x3_ x5 x6 x7 z89 h90 I91 E92 E93 E94 E95 E96 E97 E98 E99 E100 E101 E102 E103 E104 E105 E106 xm q87 hn107
                        refine ov_blk (ls2 := [(0, ov_r 90), (1, ov_i s), (2, ov_i m), (3, ov_i x3_), (4, ov_i v46), (5, ov_i x5), (6, ov_i x6), (7, ov_i x7)]) (st2 := [ov_i (m - 2), ov_i x7]) (pc2 := 160) b_288_155_4 rfl rfl ?_
                        refine ov_icgt (tgt := 265) d_288_160 (by decide) (by omega) (by omega) (fun c108 => ?_) (fun c108 => ?_)
                        · skip
                          refine ov_blk (ls2 := [(0, ov_r 90), (1, ov_i s), (2, ov_i m), (3, ov_i x3_), (4, ov_i v46), (5, ov_i x5), (6, ov_i x6), (7, ov_i x7)]) (st2 := [ov_i x6]) (pc2 := 267) b_288_265_1 rfl rfl ?_
                          exact ov_reti (st := []) d_288_267 rfl ⟨_, rfl, I91, (by show (h90 90 2) = (h 90 2) ∧ (h90 90 7) = (h 90 7) ∧ (h90 90 8) = (h 90 8) ∧ (h90 90 13) = (h 90 13) ∧ (h90 90 20) = (h 90 20) ∧ (h90 90 22) = (h 90 22) ∧ (h90 90 25) = (h 90 25) ∧ (h90 90 26) = (h 90 26) ∧ (h90 90 28) = (h 90 28) ∧ (h90 90 29) = (h 90 29) ∧ (h90 90 30) = (h 90 30) ∧ (h90 90 34) = (h 90 34) ∧ -2147483648 ≤ x6 ∧ x6 ≤ 2147483647; omega), E92, E93, E94, E95, E96, E97, E98, E99, E100, E101, E102, E103, E104, E105, E106⟩
                        · skip
                          refine ov_blk (ls2 := [(0, ov_r 90), (1, ov_i s), (2, ov_i m), (3, ov_i x3_), (4, ov_i v46), (5, ov_i x5), (6, ov_i x6), (7, ov_i x7)]) (st2 := [ov_r 90]) (pc2 := 164) b_288_163_1 rfl rfl ?_
                          refine ov_cV (as := []) (st := []) (d2 := d - 1) d_288_164 lk_Mo_414 rfl (Nat.le_of_ble_eq_true rfl) (c := 1) (zb_90 I91) (zs_90 I91) ⟨by decide, rfl⟩ (by omega) (c_Mo_fastest_90_b (d - 1) (by omega) U I91) ?_
                          rintro _ _ _ ⟨v110, rfl, rfl, rfl, f109⟩
                          show ov_R u d ov_m288 167 [(0, ov_r 90), (1, ov_i s), (2, ov_i m), (3, ov_i x3_), (4, ov_i v46), (5, ov_i x5), (6, ov_i x6), (7, ov_i x7)] [ov_i v110] z89 h90 (P_Mo_pace_90 F z h s m)
                          rw [show h90 96 = h 96 from E97] at f109
                          have f111 : v110 = ov_fst (h 96) ∧ 0 ≤ v110 ∧ v110 ≤ 30 := f109
                          clear f109
                          have fl := ov_fsl (h 96)
                          refine ov_blk (ls2 := [(0, ov_r 90), (1, ov_i s), (2, ov_i m), (3, ov_i x3_), (4, ov_i v46), (5, ov_i x5), (6, ov_i v110), (7, ov_i x7)]) (st2 := []) (pc2 := 169) b_288_167_1 rfl rfl ?_
                          have L115 : ∀ (n112 : Nat) (x6_ : Int) (z116 : ov_Z) (h117 : ov_H) (I118 : ov_N F z116 h117) (E119 : h117 91 = h 91) (E120 : h117 92 = h 92) (E121 : h117 93 = h 93) (E122 : h117 94 = h 94) (E123 : h117 95 = h 95) (E124 : h117 96 = h 96) (E125 : h117 97 = h 97) (E126 : h117 98 = h 98) (E127 : h117 99 = h 99) (E128 : h117 100 = h 100) (E129 : h117 103 = h 103) (E130 : h117 104 = h 104) (E131 : h117 105 = h 105) (E132 : h117 106 = h 106) (E133 : h117 114 = h 114) (xw : ∀ q : Int, ov_fst (h 96) ≤ q → q < x6_ → ¬ ov_pq (h 96) (h 100) s (ov_bp (h 96) (h 100) s) x7 x5 x3_ q = ov_bp (h 96) (h 100) s x7 x5 x3_) (xn : ov_PI (h 96) (h 100) s (h117 109)) (q114 : ov_fst (h 96) ≤ x6_ ∧ x6_ ≤ ov_slw (h 96) ∧ 0 ≤ x6_ ∧ x6_ ≤ 30 ∧ (h117 90 37) = s ∧ (h117 90 2) = (h90 90 2) ∧ (h117 90 7) = (h90 90 7) ∧ (h117 90 8) = (h90 90 8) ∧ (h117 90 13) = (h90 90 13) ∧ (h117 90 20) = (h90 90 20) ∧ (h117 90 22) = (h90 90 22) ∧ (h117 90 25) = (h90 90 25) ∧ (h117 90 26) = (h90 90 26) ∧ (h117 90 28) = (h90 90 28) ∧ (h117 90 29) = (h90 90 29) ∧ (h117 90 30) = (h90 90 30) ∧ (h117 90 34) = (h90 90 34)), 30 - x6_ < (n112 : Int) → ov_R u d ov_m288 169 [(0, ov_r 90), (1, ov_i s), (2, ov_i m), (3, ov_i x3_), (4, ov_i v46), (5, ov_i x5), (6, ov_i x6_), (7, ov_i x7)] [] z116 h117 (P_Mo_pace_90 F z h s m) := by
                            intro n112
                            induction n112 with
                            | zero =>
                              intro x6_ z116 h117 I118 E119 E120 E121 E122 E123 E124 E125 E126 E127 E128 E129 E130 E131 E132 E133 xw xn q114 hn134
                              exact absurd hn134 (by omega)
                            | succ n112 ih113 =>
                              intro x6_ z116 h117 I118 E119 E120 E121 E122 E123 E124 E125 E126 E127 E128 E129 E130 E131 E132 E133 xw xn q114 hn134
                              refine ov_blk (ls2 := [(0, ov_r 90), (1, ov_i s), (2, ov_i m), (3, ov_i x3_), (4, ov_i v46), (5, ov_i x5), (6, ov_i x6_), (7, ov_i x7)]) (st2 := [ov_r 90]) (pc2 := 170) b_288_169_1 rfl rfl ?_
                              refine ov_blk (ls2 := [(0, ov_r 90), (1, ov_i s), (2, ov_i m), (3, ov_i x3_), (4, ov_i v46), (5, ov_i x5), (6, ov_i x6_), (7, ov_i x7)]) (st2 := [ov_i x6_, ov_i x3_, ov_i x5, ov_i x7, ov_r 90]) (pc2 := 177) b_288_170_4 rfl rfl ?_
                              have cf135 : h117 100 (0) = h 100 (0) := congrFun E128 (0)
                              refine ov_cV (as := [ov_i x7, ov_i x5, ov_i x3_, ov_i x6_]) (st := []) (d2 := d - 1) d_288_177 lk_Mo_420 rfl (Nat.le_of_ble_eq_true rfl) (c := 1) (zb_90 I118) (zs_90 I118) ⟨by decide, rfl⟩ (by omega) (c_Mo_paceBy_90_all s (Int.toNat (h 100 0 - (x7))) (d - 1) (by omega) U I118 x7 x5 x3_ x6_ (by omega) (by omega) (by omega) (by omega) (by show 0 ≤ x7 ∧ x7 + ((Int.toNat (h 100 0 - (x7)) : Nat) : Int) = (h117 100 0); omega) (by show x7 < (h117 100 0); omega) (by omega) (by omega) (by omega) (by show (h117 90 37) = s; omega) (by rw [show h117 96 = h 96 from E124]; exact W) (by rw [show h117 100 = h 100 from E128]; exact W2) (by rw [show h117 96 = h 96 from E124, show h117 100 = h 100 from E128]; exact xn)) ?_
                              rintro _ z154 h155 ⟨v137, rfl, I156, f136, e138, e139, e140, e141, e142, e143, e144, e145, e146, e147, e148, e149, e150, e151, e152, y153⟩
                              have E157 : h155 91 = h 91 := Eq.trans e138 E119
                              have E158 : h155 92 = h 92 := Eq.trans e139 E120
                              have E159 : h155 93 = h 93 := Eq.trans e140 E121
                              have E160 : h155 94 = h 94 := Eq.trans e141 E122
                              have E161 : h155 95 = h 95 := Eq.trans e142 E123
                              have E162 : h155 96 = h 96 := Eq.trans e143 E124
                              have E163 : h155 97 = h 97 := Eq.trans e144 E125
                              have E164 : h155 98 = h 98 := Eq.trans e145 E126
                              have E165 : h155 99 = h 99 := Eq.trans e146 E127
                              have E166 : h155 100 = h 100 := Eq.trans e147 E128
                              have E167 : h155 103 = h 103 := Eq.trans e148 E129
                              have E168 : h155 104 = h 104 := Eq.trans e149 E130
                              have E169 : h155 105 = h 105 := Eq.trans e150 E131
                              have E170 : h155 106 = h 106 := Eq.trans e151 E132
                              have E171 : h155 114 = h 114 := Eq.trans e152 E133
                              show ov_R u d ov_m288 180 [(0, ov_r 90), (1, ov_i s), (2, ov_i m), (3, ov_i x3_), (4, ov_i v46), (5, ov_i x5), (6, ov_i x6_), (7, ov_i x7)] [ov_i v137] z154 h155 (P_Mo_pace_90 F z h s m)
                              rw [show h117 100 = h 100 from E128] at f136
                              rw [show h117 96 = h 96 from E124] at f136
                              have f172 : (h155 90 2) = (h117 90 2) ∧ (h155 90 7) = (h117 90 7) ∧ (h155 90 8) = (h117 90 8) ∧ (h155 90 13) = (h117 90 13) ∧ (h155 90 20) = (h117 90 20) ∧ (h155 90 22) = (h117 90 22) ∧ (h155 90 25) = (h117 90 25) ∧ (h155 90 26) = (h117 90 26) ∧ (h155 90 28) = (h117 90 28) ∧ (h155 90 29) = (h117 90 29) ∧ (h155 90 30) = (h117 90 30) ∧ (h155 90 34) = (h117 90 34) ∧ (h155 90 37) = (h117 90 37) ∧ v137 = (ov_pq (h 96) (h 100) s (ov_bp (h 96) (h 100) s) x7 x5 x3_) x6_ ∧ 1 ≤ v137 ∧ (v137 = 2000000000 ∨ v137 ≤ 1201 + 100000 * (13 - x7)) := f136
                              clear f136
                              rw [show h117 100 = h 100 from E128] at y153
                              rw [show h117 96 = h 96 from E124] at y153
                              have y153_ : ov_PI (h 96) (h 100) s (h155 109) := y153
                              refine ov_blk (ls2 := [(0, ov_r 90), (1, ov_i s), (2, ov_i m), (3, ov_i x3_), (4, ov_i v46), (5, ov_i x5), (6, ov_i x6_), (7, ov_i x7)]) (st2 := [ov_i x3_, ov_i x5, ov_i x7, ov_r 90, ov_i v137]) (pc2 := 186) b_288_180_4 rfl rfl ?_
                              have cf173 : h155 100 (0) = h 100 (0) := congrFun E166 (0)
                              refine ov_cV (as := [ov_i x7, ov_i x5, ov_i x3_]) (st := [ov_i v137]) (d2 := d - 1) d_288_186 lk_Mo_429 rfl (Nat.le_of_ble_eq_true rfl) (c := 1) (zb_90 I156) (zs_90 I156) ⟨by decide, rfl⟩ (by omega) (c_Mo_bestPace_90_all s (Int.toNat (h 100 0 - (x7))) (d - 1) (by omega) U I156 x7 x5 x3_ (by omega) (by omega) (by omega) (by show 0 ≤ x7 ∧ x7 + ((Int.toNat (h 100 0 - (x7)) : Nat) : Int) = (h155 100 0); omega) (by omega) (by omega) (by show (h155 90 37) = s; omega) (by rw [show h155 96 = h 96 from E162]; exact W) (by rw [show h155 100 = h 100 from E166]; exact W2) (by rw [show h155 96 = h 96 from E162, show h155 100 = h 100 from E166]; exact y153_)) ?_
                              rintro _ z192 h193 ⟨v175, rfl, I194, f174, e176, e177, e178, e179, e180, e181, e182, e183, e184, e185, e186, e187, e188, e189, e190, y191⟩
                              have E195 : h193 91 = h 91 := Eq.trans e176 E157
                              have E196 : h193 92 = h 92 := Eq.trans e177 E158
                              have E197 : h193 93 = h 93 := Eq.trans e178 E159
                              have E198 : h193 94 = h 94 := Eq.trans e179 E160
                              have E199 : h193 95 = h 95 := Eq.trans e180 E161
                              have E200 : h193 96 = h 96 := Eq.trans e181 E162
                              have E201 : h193 97 = h 97 := Eq.trans e182 E163
                              have E202 : h193 98 = h 98 := Eq.trans e183 E164
                              have E203 : h193 99 = h 99 := Eq.trans e184 E165
                              have E204 : h193 100 = h 100 := Eq.trans e185 E166
                              have E205 : h193 103 = h 103 := Eq.trans e186 E167
                              have E206 : h193 104 = h 104 := Eq.trans e187 E168
                              have E207 : h193 105 = h 105 := Eq.trans e188 E169
                              have E208 : h193 106 = h 106 := Eq.trans e189 E170
                              have E209 : h193 114 = h 114 := Eq.trans e190 E171
                              show ov_R u d ov_m288 189 [(0, ov_r 90), (1, ov_i s), (2, ov_i m), (3, ov_i x3_), (4, ov_i v46), (5, ov_i x5), (6, ov_i x6_), (7, ov_i x7)] [ov_i v175, ov_i v137] z192 h193 (P_Mo_pace_90 F z h s m)
                              rw [show h155 100 = h 100 from E166] at f174
                              rw [show h155 96 = h 96 from E162] at f174
                              have f210 : (h193 90 2) = (h155 90 2) ∧ (h193 90 7) = (h155 90 7) ∧ (h193 90 8) = (h155 90 8) ∧ (h193 90 13) = (h155 90 13) ∧ (h193 90 20) = (h155 90 20) ∧ (h193 90 22) = (h155 90 22) ∧ (h193 90 25) = (h155 90 25) ∧ (h193 90 26) = (h155 90 26) ∧ (h193 90 28) = (h155 90 28) ∧ (h193 90 29) = (h155 90 29) ∧ (h193 90 30) = (h155 90 30) ∧ (h193 90 34) = (h155 90 34) ∧ (h193 90 37) = (h155 90 37) ∧ v175 = (ov_bp (h 96) (h 100) s) x7 x5 x3_ ∧ 1 ≤ v175 ∧ (v175 = 2000000000 ∨ v175 ≤ 1201 + 100000 * (13 - x7)) := f174
                              clear f174
                              rw [show h155 100 = h 100 from E166] at y191
                              rw [show h155 96 = h 96 from E162] at y191
                              have y191_ : ov_PI (h 96) (h 100) s (h193 109) := y191
                              refine ov_iceq (tgt := 198) d_288_189 (by decide) (by omega) (by omega) (fun c211 => ?_) (fun c211 => ?_)
                              · skip
                                have npq : ¬ ov_pq (h 96) (h 100) s (ov_bp (h 96) (h 100) s) x7 x5 x3_ x6_ = 2000000000 := by omega
                                refine ov_blk (ls2 := [(0, ov_r 90), (1, ov_i s), (2, ov_i m), (3, ov_i x3_), (4, ov_i v46), (5, ov_i x5), (6, ov_i x6_), (7, ov_i x7)]) (st2 := [ov_i x7, ov_r 90]) (pc2 := 201) b_288_198_2 rfl rfl ?_
                                refine ov_cV (as := [ov_i x7]) (st := []) (d2 := d - 1) d_288_201 lk_Mo_423 rfl (Nat.le_of_ble_eq_true rfl) (c := 1) (zb_90 I194) (zs_90 I194) ⟨by decide, rfl⟩ (by omega) (c_Mo_xAt_90 (d - 1) (by omega) U I194 x7 (by omega) (by omega)) ?_
                                rintro _ _ _ ⟨v213, rfl, rfl, rfl, f212⟩
                                show ov_R u d ov_m288 204 [(0, ov_r 90), (1, ov_i s), (2, ov_i m), (3, ov_i x3_), (4, ov_i v46), (5, ov_i x5), (6, ov_i x6_), (7, ov_i x7)] [ov_i v213] z192 h193 (P_Mo_pace_90 F z h s m)
                                rw [show h193 100 = h 100 from E204] at f212
                                have f214 : v213 = ov_sx (h 100) (Int.toNat x7) ∧ 0 ≤ v213 ∧ v213 ≤ x7 := f212
                                clear f212
                                have ev : v213 = ov_sx (h 100) (Int.toNat x7) := by omega
                                have wi := ov_WK_in W2 wk (by omega) (k := x7) (by omega)
                                have ww := wk x7 (by omega) (by omega)
                                have pcg := ov_pq_cg ev npq
                                have cg := (ov_cgi_sp (h 96) v213 (x7 - v213) (h 100 (1 + 2 * x7))).2 pcg.1
                                refine ov_blk (ls2 := [(0, ov_r 90), (1, ov_i s), (2, ov_i m), (3, ov_i x3_), (4, ov_i v46), (5, ov_i x5), (6, ov_i x6_), (7, ov_i x7), (8, ov_i v213)]) (st2 := [ov_r 90, ov_i (x7 - v213), ov_i v213, ov_r 90, ov_i x5]) (pc2 := 217) b_288_204_8 rfl rfl ?_
                                refine ov_getf (v := ov_r 100) d_288_217 fl_Mo_93 (zb_90 I194) (zs_90 I194) (congrArg ov_r (rg_90_16 I194)) ?_
                                refine ov_blk (ls2 := [(0, ov_r 90), (1, ov_i s), (2, ov_i m), (3, ov_i x3_), (4, ov_i v46), (5, ov_i x5), (6, ov_i x6_), (7, ov_i x7), (8, ov_i v213)]) (st2 := [ov_i (1 + (2 * x7)), ov_r 100, ov_i (x7 - v213), ov_i v213, ov_r 90, ov_i x5]) (pc2 := 226) b_288_220_5 rfl rfl ?_
                                refine ov_iald d_288_226 (zb_100 I194) (zs_100 I194) (by omega) ?_
                                rw [show h193 100 = h 100 from E204]
                                have g215 := s100_g I (1 + (2 * x7))
                                refine ov_blk (ls2 := [(0, ov_r 90), (1, ov_i s), (2, ov_i m), (3, ov_i x3_), (4, ov_i v46), (5, ov_i x5), (6, ov_i x6_), (7, ov_i x7), (8, ov_i v213)]) (st2 := [ov_i (s + x5), ov_i (h 100 (1 + (2 * x7))), ov_i (x7 - v213), ov_i v213, ov_r 90, ov_i x5]) (pc2 := 231) b_288_227_3 rfl rfl ?_
                                have cf216 : h193 96 (10 + 4 * (6 * (x7 - v213) + v213)) = h 96 (10 + 4 * (6 * (x7 - v213) + v213)) := congrFun E200 (10 + 4 * (6 * (x7 - v213) + v213))
                                have cf217 : h193 96 (10 + 4 * (6 * (x7 - v213) + v213) + 3) = h 96 (10 + 4 * (6 * (x7 - v213) + v213) + 3) := congrFun E200 (10 + 4 * (6 * (x7 - v213) + v213) + 3)
                                have cf218 : h193 96 (10 + 4 * (6 * (x7 - v213) + v213) + 1) = h 96 (10 + 4 * (6 * (x7 - v213) + v213) + 1) := congrFun E200 (10 + 4 * (6 * (x7 - v213) + v213) + 1)
                                refine ov_cV (as := [ov_i v213, ov_i (x7 - v213), ov_i (h 100 (1 + (2 * x7))), ov_i (s + x5)]) (st := [ov_i x5]) (d2 := d - 1) d_288_231 lk_Mo_315 rfl (Nat.le_of_ble_eq_true rfl) (c := 1) (zb_90 I194) (zs_90 I194) ⟨by decide, rfl⟩ (by omega) (c_Mo_waitFor_90 (d - 1) (by omega) U I194 v213 (x7 - v213) (h 100 (1 + (2 * x7))) (s + x5) (by omega) (by omega) (by omega) (by omega) (by omega) (by omega) (by omega) (by show (((h193 96 (10 + 4 * (6 * (x7 - v213) + v213))) = 1 ∨ (h193 96 (10 + 4 * (6 * (x7 - v213) + v213))) = 2) → ((h 100 (1 + (2 * x7))) = 0 → 0 < (h193 96 (10 + 4 * (6 * (x7 - v213) + v213) + 3))) ∧ (¬ (h 100 (1 + (2 * x7))) = 0 → (h193 96 (10 + 4 * (6 * (x7 - v213) + v213) + 3)) < (h193 96 (10 + 4 * (6 * (x7 - v213) + v213) + 1)))); omega) (by rw [show h193 96 = h 96 from E200]; exact W)) ?_
                                rintro _ _ _ ⟨v220, rfl, rfl, rfl, f219⟩
                                show ov_R u d ov_m288 234 [(0, ov_r 90), (1, ov_i s), (2, ov_i m), (3, ov_i x3_), (4, ov_i v46), (5, ov_i x5), (6, ov_i x6_), (7, ov_i x7), (8, ov_i v213)] [ov_i v220, ov_i x5] z192 h193 (P_Mo_pace_90 F z h s m)
                                rw [show h193 96 = h 96 from E200] at f219
                                have f221 : 0 ≤ v220 ∧ v220 ≤ 59 ∧ v220 = ov_wm (h 96) (6 * (x7 - v213) + v213) (h 100 (1 + (2 * x7))) (s + x5) := f219
                                clear f219
                                have hw : v220 = ov_wm (h 96) (6 * (x7 - v213) + v213) (h 100 (1 + 2 * x7)) (s + x5) := by omega
                                have pk := ov_pq_ok ev hw npq
                                refine ov_blk (ls2 := [(0, ov_r 90), (1, ov_i s), (2, ov_i m), (3, ov_i x3_), (4, ov_i v46), (5, ov_i (x5 + (v220 + x6_))), (6, ov_i x6_), (7, ov_i x7), (8, ov_i v213)]) (st2 := [ov_r 90, ov_i x6_, ov_i x3_]) (pc2 := 244) b_288_234_7 rfl rfl ?_
                                refine ov_getf (v := ov_r 96) d_288_244 fl_Mo_81 (zb_90 I194) (zs_90 I194) (congrArg ov_r (rg_90_10 I194)) ?_
                                refine ov_blk (ls2 := [(0, ov_r 90), (1, ov_i s), (2, ov_i m), (3, ov_i x3_), (4, ov_i v46), (5, ov_i (x5 + (v220 + x6_))), (6, ov_i x6_), (7, ov_i x7), (8, ov_i v213)]) (st2 := [ov_i 2, ov_r 96, ov_i x6_, ov_i x3_]) (pc2 := 248) b_288_247_1 rfl rfl ?_
                                refine ov_iald d_288_248 (zb_96 I194) (zs_96 I194) (by omega) ?_
                                rw [show h193 96 = h 96 from E200]
                                have g222 := t96_2 I
                                refine ov_icge (tgt := 256) d_288_249 (by decide) (by omega) (by omega) (fun c223 => ?_) (fun c223 => ?_)
                                · skip
                                  refine ov_blk (ls2 := [(0, ov_r 90), (1, ov_i s), (2, ov_i m), (3, ov_i x3_), (4, ov_i v46), (5, ov_i (x5 + (v220 + x6_))), (6, ov_i x6_), (7, ov_i x7), (8, ov_i v213)]) (st2 := [ov_i (x3_ - 0)]) (pc2 := 258) b_288_256_2 rfl rfl ?_
                                  have nb0 : ¬ ov_bp (h 96) (h 100) s (x7 + 1) (x5 + v220 + x6_) x3_ = 2000000000 := pk.2 (by omega)
                                  have nb : ¬ ov_bp (h 96) (h 100) s (x7 + 1) (x5 + (v220 + x6_)) (x3_ - 0) = 2000000000 := by rw [show (x5 + (v220 + x6_)) = x5 + v220 + x6_ by omega, show (x3_ - 0) = x3_ by omega]; exact nb0
                                  refine ov_blk (ls2 := [(0, ov_r 90), (1, ov_i s), (2, ov_i m), (3, ov_i (x3_ - 0)), (4, ov_i v46), (5, ov_i (x5 + (v220 + x6_))), (6, ov_i x6_), (7, ov_i (x7 + 1)), (8, ov_i v213)]) (st2 := []) (pc2 := 262) b_288_258_2 rfl rfl ?_
                                  refine ov_goto (tgt := 155) d_288_262 (by decide) ?_
                                  refine ov_sub (ls2 := [(0, ov_r 90), (1, ov_i s), (2, ov_i m), (3, ov_i (x3_ - 0)), (4, ov_i v46), (5, ov_i (x5 + (v220 + x6_))), (6, ov_i x6_), (7, ov_i (x7 + 1))]) (List.Sublist.subset (by repeat (first | exact List.Sublist.refl _ | apply List.Sublist.cons_cons | apply List.Sublist.cons))) ?_
                                  exact ih86 (x3_ - 0) (x5 + (v220 + x6_)) x6_ (x7 + 1) _ _ I194 E195 E196 E197 E198 E199 E200 E201 E202 E203 E204 E205 E206 E207 E208 E209 y191_ (by show 0 ≤ (x7 + 1) ∧ (x7 + 1) ≤ m - 1 ∧ 0 ≤ (x5 + (v220 + x6_)) ∧ (x5 + (v220 + x6_)) ≤ 89 * (x7 + 1) ∧ 0 ≤ (x3_ - 0) ∧ (x3_ - 0) ≤ 9 ∧ 0 ≤ x6_ ∧ x6_ ≤ 31 ∧ ¬ ov_bp (h 96) (h 100) s (x7 + 1) (x5 + (v220 + x6_)) (x3_ - 0) = 2000000000 ∧ (h193 90 37) = s ∧ (h193 90 2) = (h64 90 2) ∧ (h193 90 7) = (h64 90 7) ∧ (h193 90 8) = (h64 90 8) ∧ (h193 90 13) = (h64 90 13) ∧ (h193 90 20) = (h64 90 20) ∧ (h193 90 22) = (h64 90 22) ∧ (h193 90 25) = (h64 90 25) ∧ (h193 90 26) = (h64 90 26) ∧ (h193 90 28) = (h64 90 28) ∧ (h193 90 29) = (h64 90 29) ∧ (h193 90 30) = (h64 90 30) ∧ (h193 90 34) = (h64 90 34); omega) (by omega)
                                · skip
                                  refine ov_blk (ls2 := [(0, ov_r 90), (1, ov_i s), (2, ov_i m), (3, ov_i x3_), (4, ov_i v46), (5, ov_i (x5 + (v220 + x6_))), (6, ov_i x6_), (7, ov_i x7), (8, ov_i v213)]) (st2 := [ov_i 1, ov_i x3_]) (pc2 := 253) b_288_252_1 rfl rfl ?_
                                  refine ov_goto (tgt := 257) d_288_253 (by decide) ?_
                                  refine ov_blk (ls2 := [(0, ov_r 90), (1, ov_i s), (2, ov_i m), (3, ov_i x3_), (4, ov_i v46), (5, ov_i (x5 + (v220 + x6_))), (6, ov_i x6_), (7, ov_i x7), (8, ov_i v213)]) (st2 := [ov_i (x3_ - 1)]) (pc2 := 258) b_288_257_1 rfl rfl ?_
                                  have nb0 : ¬ ov_bp (h 96) (h 100) s (x7 + 1) (x5 + v220 + x6_) (x3_ - 1) = 2000000000 := pk.1 (by omega)
                                  have nb : ¬ ov_bp (h 96) (h 100) s (x7 + 1) (x5 + (v220 + x6_)) (x3_ - 1) = 2000000000 := by rw [show (x5 + (v220 + x6_)) = x5 + v220 + x6_ by omega, show (x3_ - 1) = (x3_ - 1) by omega]; exact nb0
                                  refine ov_blk (ls2 := [(0, ov_r 90), (1, ov_i s), (2, ov_i m), (3, ov_i (x3_ - 1)), (4, ov_i v46), (5, ov_i (x5 + (v220 + x6_))), (6, ov_i x6_), (7, ov_i (x7 + 1)), (8, ov_i v213)]) (st2 := []) (pc2 := 262) b_288_258_2 rfl rfl ?_
                                  refine ov_goto (tgt := 155) d_288_262 (by decide) ?_
                                  refine ov_sub (ls2 := [(0, ov_r 90), (1, ov_i s), (2, ov_i m), (3, ov_i (x3_ - 1)), (4, ov_i v46), (5, ov_i (x5 + (v220 + x6_))), (6, ov_i x6_), (7, ov_i (x7 + 1))]) (List.Sublist.subset (by repeat (first | exact List.Sublist.refl _ | apply List.Sublist.cons_cons | apply List.Sublist.cons))) ?_
                                  exact ih86 (x3_ - 1) (x5 + (v220 + x6_)) x6_ (x7 + 1) _ _ I194 E195 E196 E197 E198 E199 E200 E201 E202 E203 E204 E205 E206 E207 E208 E209 y191_ (by show 0 ≤ (x7 + 1) ∧ (x7 + 1) ≤ m - 1 ∧ 0 ≤ (x5 + (v220 + x6_)) ∧ (x5 + (v220 + x6_)) ≤ 89 * (x7 + 1) ∧ 0 ≤ (x3_ - 1) ∧ (x3_ - 1) ≤ 9 ∧ 0 ≤ x6_ ∧ x6_ ≤ 31 ∧ ¬ ov_bp (h 96) (h 100) s (x7 + 1) (x5 + (v220 + x6_)) (x3_ - 1) = 2000000000 ∧ (h193 90 37) = s ∧ (h193 90 2) = (h64 90 2) ∧ (h193 90 7) = (h64 90 7) ∧ (h193 90 8) = (h64 90 8) ∧ (h193 90 13) = (h64 90 13) ∧ (h193 90 20) = (h64 90 20) ∧ (h193 90 22) = (h64 90 22) ∧ (h193 90 25) = (h64 90 25) ∧ (h193 90 26) = (h64 90 26) ∧ (h193 90 28) = (h64 90 28) ∧ (h193 90 29) = (h64 90 29) ∧ (h193 90 30) = (h64 90 30) ∧ (h193 90 34) = (h64 90 34); omega) (by omega)
                              · skip
                                have nq : ¬ ov_pq (h 96) (h 100) s (ov_bp (h 96) (h 100) s) x7 x5 x3_ x6_ = ov_bp (h 96) (h 100) s x7 x5 x3_ := by omega
                                have nx := ov_bp_find (by omega) (by omega) (by omega) xw nq
                                have sl := ov_slw_b I
                                have xw2 : ∀ q : Int, ov_fst (h 96) ≤ q → q < x6_ + 1 → ¬ ov_pq (h 96) (h 100) s (ov_bp (h 96) (h 100) s) x7 x5 x3_ q = ov_bp (h 96) (h 100) s x7 x5 x3_ := fun q a b => if c : q = x6_ then (by rw [c]; exact nq) else xw q a (by omega)
                                refine ov_blk (ls2 := [(0, ov_r 90), (1, ov_i s), (2, ov_i m), (3, ov_i x3_), (4, ov_i v46), (5, ov_i x5), (6, ov_i (x6_ + 1)), (7, ov_i x7)]) (st2 := []) (pc2 := 195) b_288_192_1 rfl rfl ?_
                                refine ov_goto (tgt := 169) d_288_195 (by decide) ?_
                                exact ih113 (x6_ + 1) _ _ I194 E195 E196 E197 E198 E199 E200 E201 E202 E203 E204 E205 E206 E207 E208 E209 xw2 y191_ (by show ov_fst (h 96) ≤ (x6_ + 1) ∧ (x6_ + 1) ≤ ov_slw (h 96) ∧ 0 ≤ (x6_ + 1) ∧ (x6_ + 1) ≤ 30 ∧ (h193 90 37) = s ∧ (h193 90 2) = (h90 90 2) ∧ (h193 90 7) = (h90 90 7) ∧ (h193 90 8) = (h90 90 8) ∧ (h193 90 13) = (h90 90 13) ∧ (h193 90 20) = (h90 90 20) ∧ (h193 90 22) = (h90 90 22) ∧ (h193 90 25) = (h90 90 25) ∧ (h193 90 26) = (h90 90 26) ∧ (h193 90 28) = (h90 90 28) ∧ (h193 90 29) = (h90 90 29) ∧ (h193 90 30) = (h90 90 30) ∧ (h193 90 34) = (h90 90 34); omega) (by omega)
                          exact L115 31 v110 _ _ I91 E92 E93 E94 E95 E96 E97 E98 E99 E100 E101 E102 E103 E104 E105 E106 (fun q a b => absurd a (by omega)) xm (by show ov_fst (h 96) ≤ v110 ∧ v110 ≤ ov_slw (h 96) ∧ 0 ≤ v110 ∧ v110 ≤ 30 ∧ (h90 90 37) = s ∧ (h90 90 2) = (h90 90 2) ∧ (h90 90 7) = (h90 90 7) ∧ (h90 90 8) = (h90 90 8) ∧ (h90 90 13) = (h90 90 13) ∧ (h90 90 20) = (h90 90 20) ∧ (h90 90 22) = (h90 90 22) ∧ (h90 90 25) = (h90 90 25) ∧ (h90 90 26) = (h90 90 26) ∧ (h90 90 28) = (h90 90 28) ∧ (h90 90 29) = (h90 90 29) ∧ (h90 90 30) = (h90 90 30) ∧ (h90 90 34) = (h90 90 34); omega) (by omega)
                    exact L88 14 (h 96 5) 0 0 0 _ _ I65 E66 E67 E68 E69 E70 E71 E72 E73 E74 E75 E76 E77 E78 E79 E80 y62_ (by show 0 ≤ 0 ∧ 0 ≤ m - 1 ∧ 0 ≤ 0 ∧ 0 ≤ 89 * 0 ∧ 0 ≤ (h 96 5) ∧ (h 96 5) ≤ 9 ∧ 0 ≤ 0 ∧ 0 ≤ 31 ∧ ¬ ov_bp (h 96) (h 100) s 0 0 (h 96 5) = 2000000000 ∧ (h64 90 37) = s ∧ (h64 90 2) = (h64 90 2) ∧ (h64 90 7) = (h64 90 7) ∧ (h64 90 8) = (h64 90 8) ∧ (h64 90 13) = (h64 90 13) ∧ (h64 90 20) = (h64 90 20) ∧ (h64 90 22) = (h64 90 22) ∧ (h64 90 25) = (h64 90 25) ∧ (h64 90 26) = (h64 90 26) ∧ (h64 90 28) = (h64 90 28) ∧ (h64 90 29) = (h64 90 29) ∧ (h64 90 30) = (h64 90 30) ∧ (h64 90 34) = (h64 90 34); omega) (by omega)
                  · skip
                    refine ov_blk (ls2 := [(0, ov_r 90), (1, ov_i s), (2, ov_i m), (3, ov_i (h 96 5)), (4, ov_i v46)]) (st2 := [ov_i v46]) (pc2 := 112) b_288_110_1 rfl rfl ?_
                    refine ov_ldcw (n := 2000000000) d_288_112 kc_Mo_338 ?_
                    refine ov_icne (tgt := 122) d_288_115 (by decide) (by omega) (by omega) (fun c224 => ?_) (fun c224 => ?_)
                    · skip
                      refine ov_blk (ls2 := [(0, ov_r 90), (1, ov_i s), (2, ov_i m), (3, ov_i (h 96 5)), (4, ov_i v46)]) (st2 := [ov_i m]) (pc2 := 123) b_288_122_1 rfl rfl ?_
                      refine ov_ifne (tgt := 135) d_288_123 (by decide) (by omega) (fun c225 => ?_) (fun c225 => ?_)
                      · skip
                        refine ov_blk (ls2 := [(0, ov_r 90), (1, ov_i s), (2, ov_i m), (3, ov_i (h 96 5)), (4, ov_i v46)]) (st2 := [ov_i v46, ov_i s]) (pc2 := 138) b_288_135_2 rfl rfl ?_
                        refine ov_ldcw (n := 100000) d_288_138 kc_Mo_432 ?_
                        refine ov_irem d_288_141 (by omega) (by omega) (by omega) ?_
                        have g226 := ov_tm (a := v46) (b := 100000) (by omega)
                        have g227 := ov_tmg (a := v46) (b := 100000) (by omega) (by omega)
                        refine ov_blk (ls2 := [(0, ov_r 90), (1, ov_i s), (2, ov_i m), (3, ov_i (h 96 5)), (4, ov_i v46)]) (st2 := [ov_i ((s + (Int.tmod v46 100000)) - 1)]) (pc2 := 145) b_288_142_3 rfl rfl ?_
                        exact ov_reti (st := []) d_288_145 rfl ⟨_, rfl, I65, (by show (h64 90 2) = (h 90 2) ∧ (h64 90 7) = (h 90 7) ∧ (h64 90 8) = (h 90 8) ∧ (h64 90 13) = (h 90 13) ∧ (h64 90 20) = (h 90 20) ∧ (h64 90 22) = (h 90 22) ∧ (h64 90 25) = (h 90 25) ∧ (h64 90 26) = (h 90 26) ∧ (h64 90 28) = (h 90 28) ∧ (h64 90 29) = (h 90 29) ∧ (h64 90 30) = (h 90 30) ∧ (h64 90 34) = (h 90 34) ∧ -2147483648 ≤ ((s + (Int.tmod v46 100000)) - 1) ∧ ((s + (Int.tmod v46 100000)) - 1) ≤ 2147483647; omega), E66, E67, E68, E69, E70, E71, E72, E73, E74, E75, E76, E77, E78, E79, E80⟩
                      · skip
                        refine ov_blk (ls2 := [(0, ov_r 90), (1, ov_i s), (2, ov_i m), (3, ov_i (h 96 5)), (4, ov_i v46)]) (st2 := [ov_i v46]) (pc2 := 128) b_288_126_1 rfl rfl ?_
                        refine ov_ldcw (n := 100000) d_288_128 kc_Mo_432 ?_
                        refine ov_idiv d_288_131 (by omega) (by omega) (by omega) ?_
                        have g228 := ov_td (a := v46) (b := 100000) (by omega)
                        refine ov_goto (tgt := 145) d_288_132 (by decide) ?_
                        exact ov_reti (st := []) d_288_145 rfl ⟨_, rfl, I65, (by show (h64 90 2) = (h 90 2) ∧ (h64 90 7) = (h 90 7) ∧ (h64 90 8) = (h 90 8) ∧ (h64 90 13) = (h 90 13) ∧ (h64 90 20) = (h 90 20) ∧ (h64 90 22) = (h 90 22) ∧ (h64 90 25) = (h 90 25) ∧ (h64 90 26) = (h 90 26) ∧ (h64 90 28) = (h 90 28) ∧ (h64 90 29) = (h 90 29) ∧ (h64 90 30) = (h 90 30) ∧ (h64 90 34) = (h 90 34) ∧ -2147483648 ≤ (Int.tdiv v46 100000) ∧ (Int.tdiv v46 100000) ≤ 2147483647; omega), E66, E67, E68, E69, E70, E71, E72, E73, E74, E75, E76, E77, E78, E79, E80⟩
                    · omega
              · skip
                refine ov_blk (ls2 := [(0, ov_r 90), (1, ov_i s), (2, ov_i m), (3, ov_i x3)]) (st2 := [ov_i 0]) (pc2 := 78) b_288_77_1 rfl rfl ?_
                refine ov_goto (tgt := 87) d_288_78 (by decide) ?_
                refine ov_blk (ls2 := [(0, ov_r 90), (1, ov_i s), (2, ov_i m), (3, ov_i 0)]) (st2 := [ov_i 0, ov_i 0, ov_i 0, ov_r 90]) (pc2 := 92) b_288_87_5 rfl rfl ?_
                have cf229 : h21 100 (0) = h 100 (0) := congrFun E32 (0)
                refine ov_cV (as := [ov_i 0, ov_i 0, ov_i 0]) (st := []) (d2 := d - 1) d_288_92 lk_Mo_429 rfl (Nat.le_of_ble_eq_true rfl) (c := 1) (zb_90 I40) (zs_90 I40) ⟨by decide, rfl⟩ (by omega) (c_Mo_bestPace_90_all s (Int.toNat (h 100 0 - (0))) (d - 1) (by omega) U I40 0 0 0 (by omega) (by omega) (by omega) (by show 0 ≤ (0 : Int) ∧ (0 : Int) + ((Int.toNat (h 100 0 - (0)) : Nat) : Int) = (h21 100 0); omega) (by omega) (by omega) (by show s = s; omega) (by rw [show (ov_up h21 90 37 s) 96 = h 96 from E28]; exact W) (by rw [show (ov_up h21 90 37 s) 100 = h 100 from E32]; exact W2) (by rw [show (ov_up h21 90 37 s) 96 = h 96 from E28, show (ov_up h21 90 37 s) 100 = h 100 from E32]; exact pi0)) ?_
                rintro _ z248 h249 ⟨v231, rfl, I250, f230, e232, e233, e234, e235, e236, e237, e238, e239, e240, e241, e242, e243, e244, e245, e246, y247⟩
                have E251 : h249 91 = h 91 := Eq.trans e232 E23
                have E252 : h249 92 = h 92 := Eq.trans e233 E24
                have E253 : h249 93 = h 93 := Eq.trans e234 E25
                have E254 : h249 94 = h 94 := Eq.trans e235 E26
                have E255 : h249 95 = h 95 := Eq.trans e236 E27
                have E256 : h249 96 = h 96 := Eq.trans e237 E28
                have E257 : h249 97 = h 97 := Eq.trans e238 E29
                have E258 : h249 98 = h 98 := Eq.trans e239 E30
                have E259 : h249 99 = h 99 := Eq.trans e240 E31
                have E260 : h249 100 = h 100 := Eq.trans e241 E32
                have E261 : h249 103 = h 103 := Eq.trans e242 E33
                have E262 : h249 104 = h 104 := Eq.trans e243 E34
                have E263 : h249 105 = h 105 := Eq.trans e244 E35
                have E264 : h249 106 = h 106 := Eq.trans e245 E36
                have E265 : h249 114 = h 114 := Eq.trans e246 E37
                show ov_R u d ov_m288 95 [(0, ov_r 90), (1, ov_i s), (2, ov_i m), (3, ov_i 0)] [ov_i v231] z248 h249 (P_Mo_pace_90 F z h s m)
                rw [show (ov_up h21 90 37 s) 100 = h 100 from E32] at f230
                rw [show (ov_up h21 90 37 s) 96 = h 96 from E28] at f230
                have f266 : (h249 90 2) = (h21 90 2) ∧ (h249 90 7) = (h21 90 7) ∧ (h249 90 8) = (h21 90 8) ∧ (h249 90 13) = (h21 90 13) ∧ (h249 90 20) = (h21 90 20) ∧ (h249 90 22) = (h21 90 22) ∧ (h249 90 25) = (h21 90 25) ∧ (h249 90 26) = (h21 90 26) ∧ (h249 90 28) = (h21 90 28) ∧ (h249 90 29) = (h21 90 29) ∧ (h249 90 30) = (h21 90 30) ∧ (h249 90 34) = (h21 90 34) ∧ (h249 90 37) = s ∧ v231 = (ov_bp (h 96) (h 100) s) (0 : Int) (0 : Int) (0 : Int) ∧ 1 ≤ v231 ∧ (v231 = 2000000000 ∨ v231 ≤ 1201 + 100000 * (13 - (0 : Int))) := f230
                clear f230
                rw [show (ov_up h21 90 37 s) 100 = h 100 from E32] at y247
                rw [show (ov_up h21 90 37 s) 96 = h 96 from E28] at y247
                have y247_ : ov_PI (h 96) (h 100) s (h249 109) := y247
                refine ov_blk (ls2 := [(0, ov_r 90), (1, ov_i s), (2, ov_i m), (3, ov_i 0), (4, ov_i v231)]) (st2 := [ov_i v231]) (pc2 := 99) b_288_95_2 rfl rfl ?_
                refine ov_ldcw (n := 2000000000) d_288_99 kc_Mo_338 ?_
                refine ov_iceq (tgt := 110) d_288_102 (by decide) (by omega) (by omega) (fun c267 => ?_) (fun c267 => ?_)
                · skip
                  refine ov_blk (ls2 := [(0, ov_r 90), (1, ov_i s), (2, ov_i m), (3, ov_i 0), (4, ov_i v231)]) (st2 := [ov_i v231]) (pc2 := 112) b_288_110_1 rfl rfl ?_
                  refine ov_ldcw (n := 2000000000) d_288_112 kc_Mo_338 ?_
                  refine ov_icne (tgt := 122) d_288_115 (by decide) (by omega) (by omega) (fun c268 => ?_) (fun c268 => ?_)
                  · omega
                  · skip
                    refine ov_blk (ls2 := [(0, ov_r 90), (1, ov_i s), (2, ov_i m), (3, ov_i 0), (4, ov_i v231)]) (st2 := [ov_i (-1)]) (pc2 := 119) b_288_118_1 rfl rfl ?_
                    refine ov_goto (tgt := 145) d_288_119 (by decide) ?_
                    exact ov_reti (st := []) d_288_145 rfl ⟨_, rfl, I250, (by show (h249 90 2) = (h 90 2) ∧ (h249 90 7) = (h 90 7) ∧ (h249 90 8) = (h 90 8) ∧ (h249 90 13) = (h 90 13) ∧ (h249 90 20) = (h 90 20) ∧ (h249 90 22) = (h 90 22) ∧ (h249 90 25) = (h 90 25) ∧ (h249 90 26) = (h 90 26) ∧ (h249 90 28) = (h 90 28) ∧ (h249 90 29) = (h 90 29) ∧ (h249 90 30) = (h 90 30) ∧ (h249 90 34) = (h 90 34) ∧ -2147483648 ≤ (-1) ∧ (-1) ≤ 2147483647; omega), E251, E252, E253, E254, E255, E256, E257, E258, E259, E260, E261, E262, E263, E264, E265⟩
                · skip
                  refine ov_blk (ls2 := [(0, ov_r 90), (1, ov_i s), (2, ov_i m), (3, ov_i 0), (4, ov_i v231)]) (st2 := [ov_i 2, ov_i m]) (pc2 := 107) b_288_105_2 rfl rfl ?_
                  refine ov_icge (tgt := 146) d_288_107 (by decide) (by omega) (by omega) (fun c269 => ?_) (fun c269 => ?_)
                  · skip
                    refine ov_blk (ls2 := [(0, ov_r 90), (1, ov_i s), (2, ov_i m), (3, ov_i 0), (4, ov_i v231), (5, ov_i 0), (6, ov_i 0), (7, ov_i 0)]) (st2 := []) (pc2 := 155) b_288_146_6 rfl rfl ?_
                    have L273 : ∀ (n270 : Nat) (x3__ : Int) (x5_ : Int) (x6__ : Int) (x7_ : Int) (z274 : ov_Z) (h275 : ov_H) (I276 : ov_N F z274 h275) (E277 : h275 91 = h 91) (E278 : h275 92 = h 92) (E279 : h275 93 = h 93) (E280 : h275 94 = h 94) (E281 : h275 95 = h 95) (E282 : h275 96 = h 96) (E283 : h275 97 = h 97) (E284 : h275 98 = h 98) (E285 : h275 99 = h 99) (E286 : h275 100 = h 100) (E287 : h275 103 = h 103) (E288 : h275 104 = h 104) (E289 : h275 105 = h 105) (E290 : h275 106 = h 106) (E291 : h275 114 = h 114) (xm : ov_PI (h 96) (h 100) s (h275 109)) (q272 : 0 ≤ x7_ ∧ x7_ ≤ m - 1 ∧ 0 ≤ x5_ ∧ x5_ ≤ 89 * x7_ ∧ 0 ≤ x3__ ∧ x3__ ≤ 9 ∧ 0 ≤ x6__ ∧ x6__ ≤ 31 ∧ ¬ ov_bp (h 96) (h 100) s x7_ x5_ x3__ = 2000000000 ∧ (h275 90 37) = s ∧ (h275 90 2) = (h249 90 2) ∧ (h275 90 7) = (h249 90 7) ∧ (h275 90 8) = (h249 90 8) ∧ (h275 90 13) = (h249 90 13) ∧ (h275 90 20) = (h249 90 20) ∧ (h275 90 22) = (h249 90 22) ∧ (h275 90 25) = (h249 90 25) ∧ (h275 90 26) = (h249 90 26) ∧ (h275 90 28) = (h249 90 28) ∧ (h275 90 29) = (h249 90 29) ∧ (h275 90 30) = (h249 90 30) ∧ (h275 90 34) = (h249 90 34)), 13 - x7_ < (n270 : Int) → ov_R u d ov_m288 155 [(0, ov_r 90), (1, ov_i s), (2, ov_i m), (3, ov_i x3__), (4, ov_i v231), (5, ov_i x5_), (6, ov_i x6__), (7, ov_i x7_)] [] z274 h275 (P_Mo_pace_90 F z h s m) := by
                      intro n270
                      induction n270 with
                      | zero =>
                        intro x3__ x5_ x6__ x7_ z274 h275 I276 E277 E278 E279 E280 E281 E282 E283 E284 E285 E286 E287 E288 E289 E290 E291 xm q272 hn292
                        exact absurd hn292 (by omega)
                      | succ n270 ih271 =>
                        intro x3__ x5_ x6__ x7_ z274 h275 I276 E277 E278 E279 E280 E281 E282 E283 E284 E285 E286 E287 E288 E289 E290 E291 xm q272 hn292
                        refine ov_blk (ls2 := [(0, ov_r 90), (1, ov_i s), (2, ov_i m), (3, ov_i x3__), (4, ov_i v231), (5, ov_i x5_), (6, ov_i x6__), (7, ov_i x7_)]) (st2 := [ov_i (m - 2), ov_i x7_]) (pc2 := 160) b_288_155_4 rfl rfl ?_
                        refine ov_icgt (tgt := 265) d_288_160 (by decide) (by omega) (by omega) (fun c293 => ?_) (fun c293 => ?_)
                        · skip
                          refine ov_blk (ls2 := [(0, ov_r 90), (1, ov_i s), (2, ov_i m), (3, ov_i x3__), (4, ov_i v231), (5, ov_i x5_), (6, ov_i x6__), (7, ov_i x7_)]) (st2 := [ov_i x6__]) (pc2 := 267) b_288_265_1 rfl rfl ?_
                          exact ov_reti (st := []) d_288_267 rfl ⟨_, rfl, I276, (by show (h275 90 2) = (h 90 2) ∧ (h275 90 7) = (h 90 7) ∧ (h275 90 8) = (h 90 8) ∧ (h275 90 13) = (h 90 13) ∧ (h275 90 20) = (h 90 20) ∧ (h275 90 22) = (h 90 22) ∧ (h275 90 25) = (h 90 25) ∧ (h275 90 26) = (h 90 26) ∧ (h275 90 28) = (h 90 28) ∧ (h275 90 29) = (h 90 29) ∧ (h275 90 30) = (h 90 30) ∧ (h275 90 34) = (h 90 34) ∧ -2147483648 ≤ x6__ ∧ x6__ ≤ 2147483647; omega), E277, E278, E279, E280, E281, E282, E283, E284, E285, E286, E287, E288, E289, E290, E291⟩
                        · skip
                          refine ov_blk (ls2 := [(0, ov_r 90), (1, ov_i s), (2, ov_i m), (3, ov_i x3__), (4, ov_i v231), (5, ov_i x5_), (6, ov_i x6__), (7, ov_i x7_)]) (st2 := [ov_r 90]) (pc2 := 164) b_288_163_1 rfl rfl ?_
                          refine ov_cV (as := []) (st := []) (d2 := d - 1) d_288_164 lk_Mo_414 rfl (Nat.le_of_ble_eq_true rfl) (c := 1) (zb_90 I276) (zs_90 I276) ⟨by decide, rfl⟩ (by omega) (c_Mo_fastest_90_b (d - 1) (by omega) U I276) ?_
                          rintro _ _ _ ⟨v295, rfl, rfl, rfl, f294⟩
                          show ov_R u d ov_m288 167 [(0, ov_r 90), (1, ov_i s), (2, ov_i m), (3, ov_i x3__), (4, ov_i v231), (5, ov_i x5_), (6, ov_i x6__), (7, ov_i x7_)] [ov_i v295] z274 h275 (P_Mo_pace_90 F z h s m)
                          rw [show h275 96 = h 96 from E282] at f294
                          have f296 : v295 = ov_fst (h 96) ∧ 0 ≤ v295 ∧ v295 ≤ 30 := f294
                          clear f294
                          have fl := ov_fsl (h 96)
                          refine ov_blk (ls2 := [(0, ov_r 90), (1, ov_i s), (2, ov_i m), (3, ov_i x3__), (4, ov_i v231), (5, ov_i x5_), (6, ov_i v295), (7, ov_i x7_)]) (st2 := []) (pc2 := 169) b_288_167_1 rfl rfl ?_
                          have L300 : ∀ (n297 : Nat) (x6___ : Int) (z301 : ov_Z) (h302 : ov_H) (I303 : ov_N F z301 h302) (E304 : h302 91 = h 91) (E305 : h302 92 = h 92) (E306 : h302 93 = h 93) (E307 : h302 94 = h 94) (E308 : h302 95 = h 95) (E309 : h302 96 = h 96) (E310 : h302 97 = h 97) (E311 : h302 98 = h 98) (E312 : h302 99 = h 99) (E313 : h302 100 = h 100) (E314 : h302 103 = h 103) (E315 : h302 104 = h 104) (E316 : h302 105 = h 105) (E317 : h302 106 = h 106) (E318 : h302 114 = h 114) (xw : ∀ q : Int, ov_fst (h 96) ≤ q → q < x6___ → ¬ ov_pq (h 96) (h 100) s (ov_bp (h 96) (h 100) s) x7_ x5_ x3__ q = ov_bp (h 96) (h 100) s x7_ x5_ x3__) (xn : ov_PI (h 96) (h 100) s (h302 109)) (q299 : ov_fst (h 96) ≤ x6___ ∧ x6___ ≤ ov_slw (h 96) ∧ 0 ≤ x6___ ∧ x6___ ≤ 30 ∧ (h302 90 37) = s ∧ (h302 90 2) = (h275 90 2) ∧ (h302 90 7) = (h275 90 7) ∧ (h302 90 8) = (h275 90 8) ∧ (h302 90 13) = (h275 90 13) ∧ (h302 90 20) = (h275 90 20) ∧ (h302 90 22) = (h275 90 22) ∧ (h302 90 25) = (h275 90 25) ∧ (h302 90 26) = (h275 90 26) ∧ (h302 90 28) = (h275 90 28) ∧ (h302 90 29) = (h275 90 29) ∧ (h302 90 30) = (h275 90 30) ∧ (h302 90 34) = (h275 90 34)), 30 - x6___ < (n297 : Int) → ov_R u d ov_m288 169 [(0, ov_r 90), (1, ov_i s), (2, ov_i m), (3, ov_i x3__), (4, ov_i v231), (5, ov_i x5_), (6, ov_i x6___), (7, ov_i x7_)] [] z301 h302 (P_Mo_pace_90 F z h s m) := by
                            intro n297
                            induction n297 with
                            | zero =>
                              intro x6___ z301 h302 I303 E304 E305 E306 E307 E308 E309 E310 E311 E312 E313 E314 E315 E316 E317 E318 xw xn q299 hn319
                              exact absurd hn319 (by omega)
                            | succ n297 ih298 =>
                              intro x6___ z301 h302 I303 E304 E305 E306 E307 E308 E309 E310 E311 E312 E313 E314 E315 E316 E317 E318 xw xn q299 hn319
                              refine ov_blk (ls2 := [(0, ov_r 90), (1, ov_i s), (2, ov_i m), (3, ov_i x3__), (4, ov_i v231), (5, ov_i x5_), (6, ov_i x6___), (7, ov_i x7_)]) (st2 := [ov_r 90]) (pc2 := 170) b_288_169_1 rfl rfl ?_
                              refine ov_blk (ls2 := [(0, ov_r 90), (1, ov_i s), (2, ov_i m), (3, ov_i x3__), (4, ov_i v231), (5, ov_i x5_), (6, ov_i x6___), (7, ov_i x7_)]) (st2 := [ov_i x6___, ov_i x3__, ov_i x5_, ov_i x7_, ov_r 90]) (pc2 := 177) b_288_170_4 rfl rfl ?_
                              have cf320 : h302 100 (0) = h 100 (0) := congrFun E313 (0)
                              refine ov_cV (as := [ov_i x7_, ov_i x5_, ov_i x3__, ov_i x6___]) (st := []) (d2 := d - 1) d_288_177 lk_Mo_420 rfl (Nat.le_of_ble_eq_true rfl) (c := 1) (zb_90 I303) (zs_90 I303) ⟨by decide, rfl⟩ (by omega) (c_Mo_paceBy_90_all s (Int.toNat (h 100 0 - (x7_))) (d - 1) (by omega) U I303 x7_ x5_ x3__ x6___ (by omega) (by omega) (by omega) (by omega) (by show 0 ≤ x7_ ∧ x7_ + ((Int.toNat (h 100 0 - (x7_)) : Nat) : Int) = (h302 100 0); omega) (by show x7_ < (h302 100 0); omega) (by omega) (by omega) (by omega) (by show (h302 90 37) = s; omega) (by rw [show h302 96 = h 96 from E309]; exact W) (by rw [show h302 100 = h 100 from E313]; exact W2) (by rw [show h302 96 = h 96 from E309, show h302 100 = h 100 from E313]; exact xn)) ?_
                              rintro _ z339 h340 ⟨v322, rfl, I341, f321, e323, e324, e325, e326, e327, e328, e329, e330, e331, e332, e333, e334, e335, e336, e337, y338⟩
                              have E342 : h340 91 = h 91 := Eq.trans e323 E304
                              have E343 : h340 92 = h 92 := Eq.trans e324 E305
                              have E344 : h340 93 = h 93 := Eq.trans e325 E306
                              have E345 : h340 94 = h 94 := Eq.trans e326 E307
                              have E346 : h340 95 = h 95 := Eq.trans e327 E308
                              have E347 : h340 96 = h 96 := Eq.trans e328 E309
                              have E348 : h340 97 = h 97 := Eq.trans e329 E310
                              have E349 : h340 98 = h 98 := Eq.trans e330 E311
                              have E350 : h340 99 = h 99 := Eq.trans e331 E312
                              have E351 : h340 100 = h 100 := Eq.trans e332 E313
                              have E352 : h340 103 = h 103 := Eq.trans e333 E314
                              have E353 : h340 104 = h 104 := Eq.trans e334 E315
                              have E354 : h340 105 = h 105 := Eq.trans e335 E316
                              have E355 : h340 106 = h 106 := Eq.trans e336 E317
                              have E356 : h340 114 = h 114 := Eq.trans e337 E318
                              show ov_R u d ov_m288 180 [(0, ov_r 90), (1, ov_i s), (2, ov_i m), (3, ov_i x3__), (4, ov_i v231), (5, ov_i x5_), (6, ov_i x6___), (7, ov_i x7_)] [ov_i v322] z339 h340 (P_Mo_pace_90 F z h s m)
                              rw [show h302 100 = h 100 from E313] at f321
                              rw [show h302 96 = h 96 from E309] at f321
                              have f357 : (h340 90 2) = (h302 90 2) ∧ (h340 90 7) = (h302 90 7) ∧ (h340 90 8) = (h302 90 8) ∧ (h340 90 13) = (h302 90 13) ∧ (h340 90 20) = (h302 90 20) ∧ (h340 90 22) = (h302 90 22) ∧ (h340 90 25) = (h302 90 25) ∧ (h340 90 26) = (h302 90 26) ∧ (h340 90 28) = (h302 90 28) ∧ (h340 90 29) = (h302 90 29) ∧ (h340 90 30) = (h302 90 30) ∧ (h340 90 34) = (h302 90 34) ∧ (h340 90 37) = (h302 90 37) ∧ v322 = (ov_pq (h 96) (h 100) s (ov_bp (h 96) (h 100) s) x7_ x5_ x3__) x6___ ∧ 1 ≤ v322 ∧ (v322 = 2000000000 ∨ v322 ≤ 1201 + 100000 * (13 - x7_)) := f321
                              clear f321
                              rw [show h302 100 = h 100 from E313] at y338
                              rw [show h302 96 = h 96 from E309] at y338
                              have y338_ : ov_PI (h 96) (h 100) s (h340 109) := y338
                              refine ov_blk (ls2 := [(0, ov_r 90), (1, ov_i s), (2, ov_i m), (3, ov_i x3__), (4, ov_i v231), (5, ov_i x5_), (6, ov_i x6___), (7, ov_i x7_)]) (st2 := [ov_i x3__, ov_i x5_, ov_i x7_, ov_r 90, ov_i v322]) (pc2 := 186) b_288_180_4 rfl rfl ?_
                              have cf358 : h340 100 (0) = h 100 (0) := congrFun E351 (0)
                              refine ov_cV (as := [ov_i x7_, ov_i x5_, ov_i x3__]) (st := [ov_i v322]) (d2 := d - 1) d_288_186 lk_Mo_429 rfl (Nat.le_of_ble_eq_true rfl) (c := 1) (zb_90 I341) (zs_90 I341) ⟨by decide, rfl⟩ (by omega) (c_Mo_bestPace_90_all s (Int.toNat (h 100 0 - (x7_))) (d - 1) (by omega) U I341 x7_ x5_ x3__ (by omega) (by omega) (by omega) (by show 0 ≤ x7_ ∧ x7_ + ((Int.toNat (h 100 0 - (x7_)) : Nat) : Int) = (h340 100 0); omega) (by omega) (by omega) (by show (h340 90 37) = s; omega) (by rw [show h340 96 = h 96 from E347]; exact W) (by rw [show h340 100 = h 100 from E351]; exact W2) (by rw [show h340 96 = h 96 from E347, show h340 100 = h 100 from E351]; exact y338_)) ?_
                              rintro _ z377 h378 ⟨v360, rfl, I379, f359, e361, e362, e363, e364, e365, e366, e367, e368, e369, e370, e371, e372, e373, e374, e375, y376⟩
                              have E380 : h378 91 = h 91 := Eq.trans e361 E342
                              have E381 : h378 92 = h 92 := Eq.trans e362 E343
                              have E382 : h378 93 = h 93 := Eq.trans e363 E344
                              have E383 : h378 94 = h 94 := Eq.trans e364 E345
                              have E384 : h378 95 = h 95 := Eq.trans e365 E346
                              have E385 : h378 96 = h 96 := Eq.trans e366 E347
                              have E386 : h378 97 = h 97 := Eq.trans e367 E348
                              have E387 : h378 98 = h 98 := Eq.trans e368 E349
                              have E388 : h378 99 = h 99 := Eq.trans e369 E350
                              have E389 : h378 100 = h 100 := Eq.trans e370 E351
                              have E390 : h378 103 = h 103 := Eq.trans e371 E352
                              have E391 : h378 104 = h 104 := Eq.trans e372 E353
                              have E392 : h378 105 = h 105 := Eq.trans e373 E354
                              have E393 : h378 106 = h 106 := Eq.trans e374 E355
                              have E394 : h378 114 = h 114 := Eq.trans e375 E356
                              show ov_R u d ov_m288 189 [(0, ov_r 90), (1, ov_i s), (2, ov_i m), (3, ov_i x3__), (4, ov_i v231), (5, ov_i x5_), (6, ov_i x6___), (7, ov_i x7_)] [ov_i v360, ov_i v322] z377 h378 (P_Mo_pace_90 F z h s m)
                              rw [show h340 100 = h 100 from E351] at f359
                              rw [show h340 96 = h 96 from E347] at f359
                              have f395 : (h378 90 2) = (h340 90 2) ∧ (h378 90 7) = (h340 90 7) ∧ (h378 90 8) = (h340 90 8) ∧ (h378 90 13) = (h340 90 13) ∧ (h378 90 20) = (h340 90 20) ∧ (h378 90 22) = (h340 90 22) ∧ (h378 90 25) = (h340 90 25) ∧ (h378 90 26) = (h340 90 26) ∧ (h378 90 28) = (h340 90 28) ∧ (h378 90 29) = (h340 90 29) ∧ (h378 90 30) = (h340 90 30) ∧ (h378 90 34) = (h340 90 34) ∧ (h378 90 37) = (h340 90 37) ∧ v360 = (ov_bp (h 96) (h 100) s) x7_ x5_ x3__ ∧ 1 ≤ v360 ∧ (v360 = 2000000000 ∨ v360 ≤ 1201 + 100000 * (13 - x7_)) := f359
                              clear f359
                              rw [show h340 100 = h 100 from E351] at y376
                              rw [show h340 96 = h 96 from E347] at y376
                              have y376_ : ov_PI (h 96) (h 100) s (h378 109) := y376
                              refine ov_iceq (tgt := 198) d_288_189 (by decide) (by omega) (by omega) (fun c396 => ?_) (fun c396 => ?_)
                              · skip
                                have npq : ¬ ov_pq (h 96) (h 100) s (ov_bp (h 96) (h 100) s) x7_ x5_ x3__ x6___ = 2000000000 := by omega
                                refine ov_blk (ls2 := [(0, ov_r 90), (1, ov_i s), (2, ov_i m), (3, ov_i x3__), (4, ov_i v231), (5, ov_i x5_), (6, ov_i x6___), (7, ov_i x7_)]) (st2 := [ov_i x7_, ov_r 90]) (pc2 := 201) b_288_198_2 rfl rfl ?_
                                refine ov_cV (as := [ov_i x7_]) (st := []) (d2 := d - 1) d_288_201 lk_Mo_423 rfl (Nat.le_of_ble_eq_true rfl) (c := 1) (zb_90 I379) (zs_90 I379) ⟨by decide, rfl⟩ (by omega) (c_Mo_xAt_90 (d - 1) (by omega) U I379 x7_ (by omega) (by omega)) ?_
                                rintro _ _ _ ⟨v398, rfl, rfl, rfl, f397⟩
                                show ov_R u d ov_m288 204 [(0, ov_r 90), (1, ov_i s), (2, ov_i m), (3, ov_i x3__), (4, ov_i v231), (5, ov_i x5_), (6, ov_i x6___), (7, ov_i x7_)] [ov_i v398] z377 h378 (P_Mo_pace_90 F z h s m)
                                rw [show h378 100 = h 100 from E389] at f397
                                have f399 : v398 = ov_sx (h 100) (Int.toNat x7_) ∧ 0 ≤ v398 ∧ v398 ≤ x7_ := f397
                                clear f397
                                have ev : v398 = ov_sx (h 100) (Int.toNat x7_) := by omega
                                have wi := ov_WK_in W2 wk (by omega) (k := x7_) (by omega)
                                have ww := wk x7_ (by omega) (by omega)
                                have pcg := ov_pq_cg ev npq
                                have cg := (ov_cgi_sp (h 96) v398 (x7_ - v398) (h 100 (1 + 2 * x7_))).2 pcg.1
                                refine ov_blk (ls2 := [(0, ov_r 90), (1, ov_i s), (2, ov_i m), (3, ov_i x3__), (4, ov_i v231), (5, ov_i x5_), (6, ov_i x6___), (7, ov_i x7_), (8, ov_i v398)]) (st2 := [ov_r 90, ov_i (x7_ - v398), ov_i v398, ov_r 90, ov_i x5_]) (pc2 := 217) b_288_204_8 rfl rfl ?_
                                refine ov_getf (v := ov_r 100) d_288_217 fl_Mo_93 (zb_90 I379) (zs_90 I379) (congrArg ov_r (rg_90_16 I379)) ?_
                                refine ov_blk (ls2 := [(0, ov_r 90), (1, ov_i s), (2, ov_i m), (3, ov_i x3__), (4, ov_i v231), (5, ov_i x5_), (6, ov_i x6___), (7, ov_i x7_), (8, ov_i v398)]) (st2 := [ov_i (1 + (2 * x7_)), ov_r 100, ov_i (x7_ - v398), ov_i v398, ov_r 90, ov_i x5_]) (pc2 := 226) b_288_220_5 rfl rfl ?_
                                refine ov_iald d_288_226 (zb_100 I379) (zs_100 I379) (by omega) ?_
                                rw [show h378 100 = h 100 from E389]
                                have g400 := s100_g I (1 + (2 * x7_))
                                refine ov_blk (ls2 := [(0, ov_r 90), (1, ov_i s), (2, ov_i m), (3, ov_i x3__), (4, ov_i v231), (5, ov_i x5_), (6, ov_i x6___), (7, ov_i x7_), (8, ov_i v398)]) (st2 := [ov_i (s + x5_), ov_i (h 100 (1 + (2 * x7_))), ov_i (x7_ - v398), ov_i v398, ov_r 90, ov_i x5_]) (pc2 := 231) b_288_227_3 rfl rfl ?_
                                have cf401 : h378 96 (10 + 4 * (6 * (x7_ - v398) + v398)) = h 96 (10 + 4 * (6 * (x7_ - v398) + v398)) := congrFun E385 (10 + 4 * (6 * (x7_ - v398) + v398))
                                have cf402 : h378 96 (10 + 4 * (6 * (x7_ - v398) + v398) + 3) = h 96 (10 + 4 * (6 * (x7_ - v398) + v398) + 3) := congrFun E385 (10 + 4 * (6 * (x7_ - v398) + v398) + 3)
                                have cf403 : h378 96 (10 + 4 * (6 * (x7_ - v398) + v398) + 1) = h 96 (10 + 4 * (6 * (x7_ - v398) + v398) + 1) := congrFun E385 (10 + 4 * (6 * (x7_ - v398) + v398) + 1)
                                refine ov_cV (as := [ov_i v398, ov_i (x7_ - v398), ov_i (h 100 (1 + (2 * x7_))), ov_i (s + x5_)]) (st := [ov_i x5_]) (d2 := d - 1) d_288_231 lk_Mo_315 rfl (Nat.le_of_ble_eq_true rfl) (c := 1) (zb_90 I379) (zs_90 I379) ⟨by decide, rfl⟩ (by omega) (c_Mo_waitFor_90 (d - 1) (by omega) U I379 v398 (x7_ - v398) (h 100 (1 + (2 * x7_))) (s + x5_) (by omega) (by omega) (by omega) (by omega) (by omega) (by omega) (by omega) (by show (((h378 96 (10 + 4 * (6 * (x7_ - v398) + v398))) = 1 ∨ (h378 96 (10 + 4 * (6 * (x7_ - v398) + v398))) = 2) → ((h 100 (1 + (2 * x7_))) = 0 → 0 < (h378 96 (10 + 4 * (6 * (x7_ - v398) + v398) + 3))) ∧ (¬ (h 100 (1 + (2 * x7_))) = 0 → (h378 96 (10 + 4 * (6 * (x7_ - v398) + v398) + 3)) < (h378 96 (10 + 4 * (6 * (x7_ - v398) + v398) + 1)))); omega) (by rw [show h378 96 = h 96 from E385]; exact W)) ?_
                                rintro _ _ _ ⟨v405, rfl, rfl, rfl, f404⟩
                                show ov_R u d ov_m288 234 [(0, ov_r 90), (1, ov_i s), (2, ov_i m), (3, ov_i x3__), (4, ov_i v231), (5, ov_i x5_), (6, ov_i x6___), (7, ov_i x7_), (8, ov_i v398)] [ov_i v405, ov_i x5_] z377 h378 (P_Mo_pace_90 F z h s m)
                                rw [show h378 96 = h 96 from E385] at f404
                                have f406 : 0 ≤ v405 ∧ v405 ≤ 59 ∧ v405 = ov_wm (h 96) (6 * (x7_ - v398) + v398) (h 100 (1 + (2 * x7_))) (s + x5_) := f404
                                clear f404
                                have hw : v405 = ov_wm (h 96) (6 * (x7_ - v398) + v398) (h 100 (1 + 2 * x7_)) (s + x5_) := by omega
                                have pk := ov_pq_ok ev hw npq
                                refine ov_blk (ls2 := [(0, ov_r 90), (1, ov_i s), (2, ov_i m), (3, ov_i x3__), (4, ov_i v231), (5, ov_i (x5_ + (v405 + x6___))), (6, ov_i x6___), (7, ov_i x7_), (8, ov_i v398)]) (st2 := [ov_r 90, ov_i x6___, ov_i x3__]) (pc2 := 244) b_288_234_7 rfl rfl ?_
                                refine ov_getf (v := ov_r 96) d_288_244 fl_Mo_81 (zb_90 I379) (zs_90 I379) (congrArg ov_r (rg_90_10 I379)) ?_
                                refine ov_blk (ls2 := [(0, ov_r 90), (1, ov_i s), (2, ov_i m), (3, ov_i x3__), (4, ov_i v231), (5, ov_i (x5_ + (v405 + x6___))), (6, ov_i x6___), (7, ov_i x7_), (8, ov_i v398)]) (st2 := [ov_i 2, ov_r 96, ov_i x6___, ov_i x3__]) (pc2 := 248) b_288_247_1 rfl rfl ?_
                                refine ov_iald d_288_248 (zb_96 I379) (zs_96 I379) (by omega) ?_
                                rw [show h378 96 = h 96 from E385]
                                have g407 := t96_2 I
                                refine ov_icge (tgt := 256) d_288_249 (by decide) (by omega) (by omega) (fun c408 => ?_) (fun c408 => ?_)
                                · skip
                                  refine ov_blk (ls2 := [(0, ov_r 90), (1, ov_i s), (2, ov_i m), (3, ov_i x3__), (4, ov_i v231), (5, ov_i (x5_ + (v405 + x6___))), (6, ov_i x6___), (7, ov_i x7_), (8, ov_i v398)]) (st2 := [ov_i (x3__ - 0)]) (pc2 := 258) b_288_256_2 rfl rfl ?_
                                  have nb0 : ¬ ov_bp (h 96) (h 100) s (x7_ + 1) (x5_ + v405 + x6___) x3__ = 2000000000 := pk.2 (by omega)
                                  have nb : ¬ ov_bp (h 96) (h 100) s (x7_ + 1) (x5_ + (v405 + x6___)) (x3__ - 0) = 2000000000 := by rw [show (x5_ + (v405 + x6___)) = x5_ + v405 + x6___ by omega, show (x3__ - 0) = x3__ by omega]; exact nb0
                                  refine ov_blk (ls2 := [(0, ov_r 90), (1, ov_i s), (2, ov_i m), (3, ov_i (x3__ - 0)), (4, ov_i v231), (5, ov_i (x5_ + (v405 + x6___))), (6, ov_i x6___), (7, ov_i (x7_ + 1)), (8, ov_i v398)]) (st2 := []) (pc2 := 262) b_288_258_2 rfl rfl ?_
                                  refine ov_goto (tgt := 155) d_288_262 (by decide) ?_
                                  refine ov_sub (ls2 := [(0, ov_r 90), (1, ov_i s), (2, ov_i m), (3, ov_i (x3__ - 0)), (4, ov_i v231), (5, ov_i (x5_ + (v405 + x6___))), (6, ov_i x6___), (7, ov_i (x7_ + 1))]) (List.Sublist.subset (by repeat (first | exact List.Sublist.refl _ | apply List.Sublist.cons_cons | apply List.Sublist.cons))) ?_
                                  exact ih271 (x3__ - 0) (x5_ + (v405 + x6___)) x6___ (x7_ + 1) _ _ I379 E380 E381 E382 E383 E384 E385 E386 E387 E388 E389 E390 E391 E392 E393 E394 y376_ (by show 0 ≤ (x7_ + 1) ∧ (x7_ + 1) ≤ m - 1 ∧ 0 ≤ (x5_ + (v405 + x6___)) ∧ (x5_ + (v405 + x6___)) ≤ 89 * (x7_ + 1) ∧ 0 ≤ (x3__ - 0) ∧ (x3__ - 0) ≤ 9 ∧ 0 ≤ x6___ ∧ x6___ ≤ 31 ∧ ¬ ov_bp (h 96) (h 100) s (x7_ + 1) (x5_ + (v405 + x6___)) (x3__ - 0) = 2000000000 ∧ (h378 90 37) = s ∧ (h378 90 2) = (h249 90 2) ∧ (h378 90 7) = (h249 90 7) ∧ (h378 90 8) = (h249 90 8) ∧ (h378 90 13) = (h249 90 13) ∧ (h378 90 20) = (h249 90 20) ∧ (h378 90 22) = (h249 90 22) ∧ (h378 90 25) = (h249 90 25) ∧ (h378 90 26) = (h249 90 26) ∧ (h378 90 28) = (h249 90 28) ∧ (h378 90 29) = (h249 90 29) ∧ (h378 90 30) = (h249 90 30) ∧ (h378 90 34) = (h249 90 34); omega) (by omega)
                                · skip
                                  refine ov_blk (ls2 := [(0, ov_r 90), (1, ov_i s), (2, ov_i m), (3, ov_i x3__), (4, ov_i v231), (5, ov_i (x5_ + (v405 + x6___))), (6, ov_i x6___), (7, ov_i x7_), (8, ov_i v398)]) (st2 := [ov_i 1, ov_i x3__]) (pc2 := 253) b_288_252_1 rfl rfl ?_
                                  refine ov_goto (tgt := 257) d_288_253 (by decide) ?_
                                  refine ov_blk (ls2 := [(0, ov_r 90), (1, ov_i s), (2, ov_i m), (3, ov_i x3__), (4, ov_i v231), (5, ov_i (x5_ + (v405 + x6___))), (6, ov_i x6___), (7, ov_i x7_), (8, ov_i v398)]) (st2 := [ov_i (x3__ - 1)]) (pc2 := 258) b_288_257_1 rfl rfl ?_
                                  have nb0 : ¬ ov_bp (h 96) (h 100) s (x7_ + 1) (x5_ + v405 + x6___) (x3__ - 1) = 2000000000 := pk.1 (by omega)
                                  have nb : ¬ ov_bp (h 96) (h 100) s (x7_ + 1) (x5_ + (v405 + x6___)) (x3__ - 1) = 2000000000 := by rw [show (x5_ + (v405 + x6___)) = x5_ + v405 + x6___ by omega, show (x3__ - 1) = (x3__ - 1) by omega]; exact nb0
                                  refine ov_blk (ls2 := [(0, ov_r 90), (1, ov_i s), (2, ov_i m), (3, ov_i (x3__ - 1)), (4, ov_i v231), (5, ov_i (x5_ + (v405 + x6___))), (6, ov_i x6___), (7, ov_i (x7_ + 1)), (8, ov_i v398)]) (st2 := []) (pc2 := 262) b_288_258_2 rfl rfl ?_
                                  refine ov_goto (tgt := 155) d_288_262 (by decide) ?_
                                  refine ov_sub (ls2 := [(0, ov_r 90), (1, ov_i s), (2, ov_i m), (3, ov_i (x3__ - 1)), (4, ov_i v231), (5, ov_i (x5_ + (v405 + x6___))), (6, ov_i x6___), (7, ov_i (x7_ + 1))]) (List.Sublist.subset (by repeat (first | exact List.Sublist.refl _ | apply List.Sublist.cons_cons | apply List.Sublist.cons))) ?_
                                  exact ih271 (x3__ - 1) (x5_ + (v405 + x6___)) x6___ (x7_ + 1) _ _ I379 E380 E381 E382 E383 E384 E385 E386 E387 E388 E389 E390 E391 E392 E393 E394 y376_ (by show 0 ≤ (x7_ + 1) ∧ (x7_ + 1) ≤ m - 1 ∧ 0 ≤ (x5_ + (v405 + x6___)) ∧ (x5_ + (v405 + x6___)) ≤ 89 * (x7_ + 1) ∧ 0 ≤ (x3__ - 1) ∧ (x3__ - 1) ≤ 9 ∧ 0 ≤ x6___ ∧ x6___ ≤ 31 ∧ ¬ ov_bp (h 96) (h 100) s (x7_ + 1) (x5_ + (v405 + x6___)) (x3__ - 1) = 2000000000 ∧ (h378 90 37) = s ∧ (h378 90 2) = (h249 90 2) ∧ (h378 90 7) = (h249 90 7) ∧ (h378 90 8) = (h249 90 8) ∧ (h378 90 13) = (h249 90 13) ∧ (h378 90 20) = (h249 90 20) ∧ (h378 90 22) = (h249 90 22) ∧ (h378 90 25) = (h249 90 25) ∧ (h378 90 26) = (h249 90 26) ∧ (h378 90 28) = (h249 90 28) ∧ (h378 90 29) = (h249 90 29) ∧ (h378 90 30) = (h249 90 30) ∧ (h378 90 34) = (h249 90 34); omega) (by omega)
                              · skip
                                have nq : ¬ ov_pq (h 96) (h 100) s (ov_bp (h 96) (h 100) s) x7_ x5_ x3__ x6___ = ov_bp (h 96) (h 100) s x7_ x5_ x3__ := by omega
                                have nx := ov_bp_find (by omega) (by omega) (by omega) xw nq
                                have sl := ov_slw_b I
                                have xw2 : ∀ q : Int, ov_fst (h 96) ≤ q → q < x6___ + 1 → ¬ ov_pq (h 96) (h 100) s (ov_bp (h 96) (h 100) s) x7_ x5_ x3__ q = ov_bp (h 96) (h 100) s x7_ x5_ x3__ := fun q a b => if c : q = x6___ then (by rw [c]; exact nq) else xw q a (by omega)
                                refine ov_blk (ls2 := [(0, ov_r 90), (1, ov_i s), (2, ov_i m), (3, ov_i x3__), (4, ov_i v231), (5, ov_i x5_), (6, ov_i (x6___ + 1)), (7, ov_i x7_)]) (st2 := []) (pc2 := 195) b_288_192_1 rfl rfl ?_
                                refine ov_goto (tgt := 169) d_288_195 (by decide) ?_
                                exact ih298 (x6___ + 1) _ _ I379 E380 E381 E382 E383 E384 E385 E386 E387 E388 E389 E390 E391 E392 E393 E394 xw2 y376_ (by show ov_fst (h 96) ≤ (x6___ + 1) ∧ (x6___ + 1) ≤ ov_slw (h 96) ∧ 0 ≤ (x6___ + 1) ∧ (x6___ + 1) ≤ 30 ∧ (h378 90 37) = s ∧ (h378 90 2) = (h275 90 2) ∧ (h378 90 7) = (h275 90 7) ∧ (h378 90 8) = (h275 90 8) ∧ (h378 90 13) = (h275 90 13) ∧ (h378 90 20) = (h275 90 20) ∧ (h378 90 22) = (h275 90 22) ∧ (h378 90 25) = (h275 90 25) ∧ (h378 90 26) = (h275 90 26) ∧ (h378 90 28) = (h275 90 28) ∧ (h378 90 29) = (h275 90 29) ∧ (h378 90 30) = (h275 90 30) ∧ (h378 90 34) = (h275 90 34); omega) (by omega)
                          exact L300 31 v295 _ _ I276 E277 E278 E279 E280 E281 E282 E283 E284 E285 E286 E287 E288 E289 E290 E291 (fun q a b => absurd a (by omega)) xm (by show ov_fst (h 96) ≤ v295 ∧ v295 ≤ ov_slw (h 96) ∧ 0 ≤ v295 ∧ v295 ≤ 30 ∧ (h275 90 37) = s ∧ (h275 90 2) = (h275 90 2) ∧ (h275 90 7) = (h275 90 7) ∧ (h275 90 8) = (h275 90 8) ∧ (h275 90 13) = (h275 90 13) ∧ (h275 90 20) = (h275 90 20) ∧ (h275 90 22) = (h275 90 22) ∧ (h275 90 25) = (h275 90 25) ∧ (h275 90 26) = (h275 90 26) ∧ (h275 90 28) = (h275 90 28) ∧ (h275 90 29) = (h275 90 29) ∧ (h275 90 30) = (h275 90 30) ∧ (h275 90 34) = (h275 90 34); omega) (by omega)
                    exact L273 14 0 0 0 0 _ _ I250 E251 E252 E253 E254 E255 E256 E257 E258 E259 E260 E261 E262 E263 E264 E265 y247_ (by show 0 ≤ 0 ∧ 0 ≤ m - 1 ∧ 0 ≤ 0 ∧ 0 ≤ 89 * 0 ∧ 0 ≤ 0 ∧ 0 ≤ 9 ∧ 0 ≤ 0 ∧ 0 ≤ 31 ∧ ¬ ov_bp (h 96) (h 100) s 0 0 0 = 2000000000 ∧ (h249 90 37) = s ∧ (h249 90 2) = (h249 90 2) ∧ (h249 90 7) = (h249 90 7) ∧ (h249 90 8) = (h249 90 8) ∧ (h249 90 13) = (h249 90 13) ∧ (h249 90 20) = (h249 90 20) ∧ (h249 90 22) = (h249 90 22) ∧ (h249 90 25) = (h249 90 25) ∧ (h249 90 26) = (h249 90 26) ∧ (h249 90 28) = (h249 90 28) ∧ (h249 90 29) = (h249 90 29) ∧ (h249 90 30) = (h249 90 30) ∧ (h249 90 34) = (h249 90 34); omega) (by omega)
                  · skip
                    refine ov_blk (ls2 := [(0, ov_r 90), (1, ov_i s), (2, ov_i m), (3, ov_i 0), (4, ov_i v231)]) (st2 := [ov_i v231]) (pc2 := 112) b_288_110_1 rfl rfl ?_
                    refine ov_ldcw (n := 2000000000) d_288_112 kc_Mo_338 ?_
                    refine ov_icne (tgt := 122) d_288_115 (by decide) (by omega) (by omega) (fun c409 => ?_) (fun c409 => ?_)
                    · skip
                      refine ov_blk (ls2 := [(0, ov_r 90), (1, ov_i s), (2, ov_i m), (3, ov_i 0), (4, ov_i v231)]) (st2 := [ov_i m]) (pc2 := 123) b_288_122_1 rfl rfl ?_
                      refine ov_ifne (tgt := 135) d_288_123 (by decide) (by omega) (fun c410 => ?_) (fun c410 => ?_)
                      · skip
                        refine ov_blk (ls2 := [(0, ov_r 90), (1, ov_i s), (2, ov_i m), (3, ov_i 0), (4, ov_i v231)]) (st2 := [ov_i v231, ov_i s]) (pc2 := 138) b_288_135_2 rfl rfl ?_
                        refine ov_ldcw (n := 100000) d_288_138 kc_Mo_432 ?_
                        refine ov_irem d_288_141 (by omega) (by omega) (by omega) ?_
                        have g411 := ov_tm (a := v231) (b := 100000) (by omega)
                        have g412 := ov_tmg (a := v231) (b := 100000) (by omega) (by omega)
                        refine ov_blk (ls2 := [(0, ov_r 90), (1, ov_i s), (2, ov_i m), (3, ov_i 0), (4, ov_i v231)]) (st2 := [ov_i ((s + (Int.tmod v231 100000)) - 1)]) (pc2 := 145) b_288_142_3 rfl rfl ?_
                        exact ov_reti (st := []) d_288_145 rfl ⟨_, rfl, I250, (by show (h249 90 2) = (h 90 2) ∧ (h249 90 7) = (h 90 7) ∧ (h249 90 8) = (h 90 8) ∧ (h249 90 13) = (h 90 13) ∧ (h249 90 20) = (h 90 20) ∧ (h249 90 22) = (h 90 22) ∧ (h249 90 25) = (h 90 25) ∧ (h249 90 26) = (h 90 26) ∧ (h249 90 28) = (h 90 28) ∧ (h249 90 29) = (h 90 29) ∧ (h249 90 30) = (h 90 30) ∧ (h249 90 34) = (h 90 34) ∧ -2147483648 ≤ ((s + (Int.tmod v231 100000)) - 1) ∧ ((s + (Int.tmod v231 100000)) - 1) ≤ 2147483647; omega), E251, E252, E253, E254, E255, E256, E257, E258, E259, E260, E261, E262, E263, E264, E265⟩
                      · skip
                        refine ov_blk (ls2 := [(0, ov_r 90), (1, ov_i s), (2, ov_i m), (3, ov_i 0), (4, ov_i v231)]) (st2 := [ov_i v231]) (pc2 := 128) b_288_126_1 rfl rfl ?_
                        refine ov_ldcw (n := 100000) d_288_128 kc_Mo_432 ?_
                        refine ov_idiv d_288_131 (by omega) (by omega) (by omega) ?_
                        have g413 := ov_td (a := v231) (b := 100000) (by omega)
                        refine ov_goto (tgt := 145) d_288_132 (by decide) ?_
                        exact ov_reti (st := []) d_288_145 rfl ⟨_, rfl, I250, (by show (h249 90 2) = (h 90 2) ∧ (h249 90 7) = (h 90 7) ∧ (h249 90 8) = (h 90 8) ∧ (h249 90 13) = (h 90 13) ∧ (h249 90 20) = (h 90 20) ∧ (h249 90 22) = (h 90 22) ∧ (h249 90 25) = (h 90 25) ∧ (h249 90 26) = (h 90 26) ∧ (h249 90 28) = (h 90 28) ∧ (h249 90 29) = (h 90 29) ∧ (h249 90 30) = (h 90 30) ∧ (h249 90 34) = (h 90 34) ∧ -2147483648 ≤ (Int.tdiv v231 100000) ∧ (Int.tdiv v231 100000) ≤ 2147483647; omega), E251, E252, E253, E254, E255, E256, E257, E258, E259, E260, E261, E262, E263, E264, E265⟩
                    · omega
            · skip
              refine ov_blk (ls2 := [(0, ov_r 90), (1, ov_i s), (2, ov_i m), (3, ov_i x3)]) (st2 := [ov_r 90]) (pc2 := 49) b_288_48_1 rfl rfl ?_
              refine ov_getf (v := ov_r 109) d_288_49 fl_Mo_129 (zb_90 I22) (zs_90 I22) (congrArg ov_r (rg_90_36 I22)) ?_
              refine ov_blk (ls2 := [(0, ov_r 90), (1, ov_i s), (2, ov_i m), (3, ov_i x3)]) (st2 := [ov_i 0, ov_i x3, ov_r 109]) (pc2 := 54) b_288_52_2 rfl rfl ?_
              refine ov_iast d_288_54 (zb_109 I22) (zs_109 I22) (by omega) ?_
              have I414 := ua_109 (k := x3) (x := 0) I22 (by omega)
              refine ov_blk (ls2 := [(0, ov_r 90), (1, ov_i s), (2, ov_i m), (3, ov_i (x3 + 1))]) (st2 := []) (pc2 := 58) b_288_55_1 rfl rfl ?_
              refine ov_goto (tgt := 42) d_288_58 (by decide) ?_
              exact ih17 (x3 + 1) _ _ I414 E23 E24 E25 E26 E27 E28 E29 E30 E31 E32 E33 E34 E35 E36 E37 (fun j a b => if c : j = x3 then (by rw [c]; show ov_up _ 109 _ _ 109 _ = _; rw [ov_up_row, ov_rs_eq]) else (by rw [ov_up_j c]; exact xz j a (by omega))) (by show 0 ≤ (x3 + 1) ∧ (x3 + 1) ≤ 156000 ∧ (h21 90 2) = (h 90 2) ∧ (h21 90 7) = (h 90 7) ∧ (h21 90 8) = (h 90 8) ∧ (h21 90 13) = (h 90 13) ∧ (h21 90 20) = (h 90 20) ∧ (h21 90 22) = (h 90 22) ∧ (h21 90 25) = (h 90 25) ∧ (h21 90 26) = (h 90 26) ∧ (h21 90 28) = (h 90 28) ∧ (h21 90 29) = (h 90 29) ∧ (h21 90 30) = (h 90 30) ∧ (h21 90 34) = (h 90 34); omega) (by omega)
        exact L19 156001 0 _ _ I1 rfl rfl rfl rfl rfl rfl rfl rfl rfl rfl rfl rfl rfl rfl rfl (fun j a b => absurd a (by omega)) (by show 0 ≤ 0 ∧ 0 ≤ 156000 ∧ (h 90 2) = (h 90 2) ∧ (h 90 7) = (h 90 7) ∧ (h 90 8) = (h 90 8) ∧ (h 90 13) = (h 90 13) ∧ (h 90 20) = (h 90 20) ∧ (h 90 22) = (h 90 22) ∧ (h 90 25) = (h 90 25) ∧ (h 90 26) = (h 90 26) ∧ (h 90 28) = (h 90 28) ∧ (h 90 29) = (h 90 29) ∧ (h 90 30) = (h 90 30) ∧ (h 90 34) = (h 90 34); omega) (by omega)
      · skip
        refine ov_blk (ls2 := [(0, ov_r 90), (1, ov_i s), (2, ov_i m)]) (st2 := [ov_i (-1)]) (pc2 := 39) b_288_38_1 rfl rfl ?_
        exact ov_reti (st := []) d_288_39 rfl ⟨_, rfl, I1, ⟨rfl, rfl, rfl, rfl, rfl, rfl, rfl, rfl, rfl, rfl, rfl, rfl, (by show -2147483648 ≤ (-1) ∧ (-1) ≤ 2147483647; omega)⟩, rfl, rfl, rfl, rfl, rfl, rfl, rfl, rfl, rfl, rfl, rfl, rfl, rfl, rfl, rfl⟩

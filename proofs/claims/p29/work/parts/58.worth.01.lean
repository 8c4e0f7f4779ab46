abbrev P_Mo_both_b (F : ov_H × ov_Z) (z : ov_Z) (h : ov_H) (c : Int) (a : Int) (b : Int) : Option ov_V → ov_Z → ov_H → Prop := fun r0 z' h' => ∃ r : Int, r0 = some (ov_i r) ∧ z = z' ∧ h = h' ∧ (r = ov_bo c a b ∧ -2147483648 ≤ r ∧ r ≤ 2147483647)
set_option maxHeartbeats 4000000 in
theorem c_Mo_both_b {u : ov_U} {F : ov_H × ov_Z} {z : ov_Z} {h : ov_H} (d : Nat) (hd : 0 ≤ d) (U : ov_cap u) (I : ov_N F z h) (c : Int) (a : Int) (b : Int) (g_c : ov_g c) (g_a : ov_g a) (g_b : ov_g b) (p0 : 4 ≤ c ∧ c ≤ 10) : ov_T u d ov_m279 [ov_i c, ov_i a, ov_i b] z h (P_Mo_both_b F z h c a b) := by
  refine ov_en rfl (Nat.le_of_ble_eq_true rfl) ?_
  show ov_R u d ov_m279 0 [(0, ov_i c), (1, ov_i a), (2, ov_i b)] [] z h (P_Mo_both_b F z h c a b)
  refine ov_blk (ls2 := [(0, ov_i c), (1, ov_i a), (2, ov_i b)]) (st2 := [ov_i c]) (pc2 := 1) b_279_0_1 rfl rfl ?_
  by_cases q1 : c = 4
  · refine ov_tin (off := 39) (tgt := 40) d_279_1 (by omega) (by omega) (by rw [q1]; rfl) (by decide) ?_
    refine ov_blk (ls2 := [(0, ov_i c), (1, ov_i a), (2, ov_i b)]) (st2 := [ov_i (a + b)]) (pc2 := 43) b_279_40_3 rfl rfl ?_
    refine ov_nrm ?_
    have g2 := ov_wg (a + b)
    have eb : ov_bo c a b = (ov_w (a + b)) := by unfold ov_bo; repeat (first | rw [if_pos (by omega)] | rw [if_neg (by omega)])
    exact ov_reti (st := []) d_279_43 rfl ⟨_, rfl, rfl, rfl, (by show (ov_w (a + b)) = ov_bo c a b ∧ -2147483648 ≤ (ov_w (a + b)) ∧ (ov_w (a + b)) ≤ 2147483647; omega)⟩
  by_cases q3 : c = 5
  · refine ov_tin (off := 43) (tgt := 44) d_279_1 (by omega) (by omega) (by rw [q3]; rfl) (by decide) ?_
    refine ov_blk (ls2 := [(0, ov_i c), (1, ov_i a), (2, ov_i b)]) (st2 := [ov_i (a - b)]) (pc2 := 47) b_279_44_3 rfl rfl ?_
    refine ov_nrm ?_
    have g4 := ov_wg (a - b)
    have eb : ov_bo c a b = (ov_w (a - b)) := by unfold ov_bo; repeat (first | rw [if_pos (by omega)] | rw [if_neg (by omega)])
    exact ov_reti (st := []) d_279_47 rfl ⟨_, rfl, rfl, rfl, (by show (ov_w (a - b)) = ov_bo c a b ∧ -2147483648 ≤ (ov_w (a - b)) ∧ (ov_w (a - b)) ≤ 2147483647; omega)⟩
  by_cases q5 : c = 6
  · refine ov_tin (off := 47) (tgt := 48) d_279_1 (by omega) (by omega) (by rw [q5]; rfl) (by decide) ?_
    refine ov_blk (ls2 := [(0, ov_i c), (1, ov_i a), (2, ov_i b)]) (st2 := [ov_i (a * b)]) (pc2 := 51) b_279_48_3 rfl rfl ?_
    refine ov_nrm ?_
    have g6 := ov_wg (a * b)
    have eb : ov_bo c a b = (ov_w (a * b)) := by unfold ov_bo; repeat (first | rw [if_pos (by omega)] | rw [if_neg (by omega)])
    exact ov_reti (st := []) d_279_51 rfl ⟨_, rfl, rfl, rfl, (by show (ov_w (a * b)) = ov_bo c a b ∧ -2147483648 ≤ (ov_w (a * b)) ∧ (ov_w (a * b)) ≤ 2147483647; omega)⟩
  by_cases q7 : c = 7
  · refine ov_tin (off := 51) (tgt := 52) d_279_1 (by omega) (by omega) (by rw [q7]; rfl) (by decide) ?_
    refine ov_blk (ls2 := [(0, ov_i c), (1, ov_i a), (2, ov_i b)]) (st2 := [ov_i b, ov_i a]) (pc2 := 54) b_279_52_2 rfl rfl ?_
    refine ov_icge (tgt := 61) d_279_54 (by decide) (by omega) (by omega) (fun c8 => ?_) (fun c8 => ?_)
    · skip
      refine ov_blk (ls2 := [(0, ov_i c), (1, ov_i a), (2, ov_i b)]) (st2 := [ov_i 0]) (pc2 := 62) b_279_61_1 rfl rfl ?_
      have eb : ov_bo c a b = 0 := by unfold ov_bo; repeat (first | rw [if_pos (by omega)] | rw [if_neg (by omega)])
      exact ov_reti (st := []) d_279_62 rfl ⟨_, rfl, rfl, rfl, (by show 0 = ov_bo c a b ∧ -2147483648 ≤ 0 ∧ 0 ≤ 2147483647; omega)⟩
    · skip
      refine ov_blk (ls2 := [(0, ov_i c), (1, ov_i a), (2, ov_i b)]) (st2 := [ov_i 1]) (pc2 := 58) b_279_57_1 rfl rfl ?_
      refine ov_goto (tgt := 62) d_279_58 (by decide) ?_
      have eb : ov_bo c a b = 1 := by unfold ov_bo; repeat (first | rw [if_pos (by omega)] | rw [if_neg (by omega)])
      exact ov_reti (st := []) d_279_62 rfl ⟨_, rfl, rfl, rfl, (by show 1 = ov_bo c a b ∧ -2147483648 ≤ 1 ∧ 1 ≤ 2147483647; omega)⟩
  by_cases q9 : c = 8
  · refine ov_tin (off := 62) (tgt := 63) d_279_1 (by omega) (by omega) (by rw [q9]; rfl) (by decide) ?_
    refine ov_blk (ls2 := [(0, ov_i c), (1, ov_i a), (2, ov_i b)]) (st2 := [ov_i b, ov_i a]) (pc2 := 65) b_279_63_2 rfl rfl ?_
    refine ov_icne (tgt := 72) d_279_65 (by decide) (by omega) (by omega) (fun c10 => ?_) (fun c10 => ?_)
    · skip
      refine ov_blk (ls2 := [(0, ov_i c), (1, ov_i a), (2, ov_i b)]) (st2 := [ov_i 0]) (pc2 := 73) b_279_72_1 rfl rfl ?_
      have eb : ov_bo c a b = 0 := by unfold ov_bo; repeat (first | rw [if_pos (by omega)] | rw [if_neg (by omega)])
      exact ov_reti (st := []) d_279_73 rfl ⟨_, rfl, rfl, rfl, (by show 0 = ov_bo c a b ∧ -2147483648 ≤ 0 ∧ 0 ≤ 2147483647; omega)⟩
    · skip
      refine ov_blk (ls2 := [(0, ov_i c), (1, ov_i a), (2, ov_i b)]) (st2 := [ov_i 1]) (pc2 := 69) b_279_68_1 rfl rfl ?_
      refine ov_goto (tgt := 73) d_279_69 (by decide) ?_
      have eb : ov_bo c a b = 1 := by unfold ov_bo; repeat (first | rw [if_pos (by omega)] | rw [if_neg (by omega)])
      exact ov_reti (st := []) d_279_73 rfl ⟨_, rfl, rfl, rfl, (by show 1 = ov_bo c a b ∧ -2147483648 ≤ 1 ∧ 1 ≤ 2147483647; omega)⟩
  by_cases q11 : c = 9
  · refine ov_tin (off := 73) (tgt := 74) d_279_1 (by omega) (by omega) (by rw [q11]; rfl) (by decide) ?_
    refine ov_blk (ls2 := [(0, ov_i c), (1, ov_i a), (2, ov_i b)]) (st2 := [ov_i a]) (pc2 := 75) b_279_74_1 rfl rfl ?_
    refine ov_ifeq (tgt := 86) d_279_75 (by decide) (by omega) (fun c12 => ?_) (fun c12 => ?_)
    · skip
      refine ov_blk (ls2 := [(0, ov_i c), (1, ov_i a), (2, ov_i b)]) (st2 := [ov_i 0]) (pc2 := 87) b_279_86_1 rfl rfl ?_
      have eb : ov_bo c a b = 0 := by unfold ov_bo; repeat (first | rw [if_pos (by omega)] | rw [if_neg (by omega)])
      exact ov_reti (st := []) d_279_87 rfl ⟨_, rfl, rfl, rfl, (by show 0 = ov_bo c a b ∧ -2147483648 ≤ 0 ∧ 0 ≤ 2147483647; omega)⟩
    · skip
      refine ov_blk (ls2 := [(0, ov_i c), (1, ov_i a), (2, ov_i b)]) (st2 := [ov_i b]) (pc2 := 79) b_279_78_1 rfl rfl ?_
      refine ov_ifeq (tgt := 86) d_279_79 (by decide) (by omega) (fun c13 => ?_) (fun c13 => ?_)
      · skip
        refine ov_blk (ls2 := [(0, ov_i c), (1, ov_i a), (2, ov_i b)]) (st2 := [ov_i 0]) (pc2 := 87) b_279_86_1 rfl rfl ?_
        have eb : ov_bo c a b = 0 := by unfold ov_bo; repeat (first | rw [if_pos (by omega)] | rw [if_neg (by omega)])
        exact ov_reti (st := []) d_279_87 rfl ⟨_, rfl, rfl, rfl, (by show 0 = ov_bo c a b ∧ -2147483648 ≤ 0 ∧ 0 ≤ 2147483647; omega)⟩
      · skip
        refine ov_blk (ls2 := [(0, ov_i c), (1, ov_i a), (2, ov_i b)]) (st2 := [ov_i 1]) (pc2 := 83) b_279_82_1 rfl rfl ?_
        refine ov_goto (tgt := 87) d_279_83 (by decide) ?_
        have eb : ov_bo c a b = 1 := by unfold ov_bo; repeat (first | rw [if_pos (by omega)] | rw [if_neg (by omega)])
        exact ov_reti (st := []) d_279_87 rfl ⟨_, rfl, rfl, rfl, (by show 1 = ov_bo c a b ∧ -2147483648 ≤ 1 ∧ 1 ≤ 2147483647; omega)⟩
  refine ov_tout (tgt := 88) d_279_1 (by omega) (by omega) (by decide) ?_
  refine ov_blk (ls2 := [(0, ov_i c), (1, ov_i a), (2, ov_i b)]) (st2 := [ov_i a]) (pc2 := 89) b_279_88_1 rfl rfl ?_
  refine ov_ifne (tgt := 96) d_279_89 (by decide) (by omega) (fun c14 => ?_) (fun c14 => ?_)
  · skip
    refine ov_blk (ls2 := [(0, ov_i c), (1, ov_i a), (2, ov_i b)]) (st2 := [ov_i 1]) (pc2 := 97) b_279_96_1 rfl rfl ?_
    refine ov_goto (tgt := 101) d_279_97 (by decide) ?_
    have eb : ov_bo c a b = 1 := by unfold ov_bo; repeat (first | rw [if_pos (by omega)] | rw [if_neg (by omega)])
    exact ov_reti (st := []) d_279_101 rfl ⟨_, rfl, rfl, rfl, (by show 1 = ov_bo c a b ∧ -2147483648 ≤ 1 ∧ 1 ≤ 2147483647; omega)⟩
  · skip
    refine ov_blk (ls2 := [(0, ov_i c), (1, ov_i a), (2, ov_i b)]) (st2 := [ov_i b]) (pc2 := 93) b_279_92_1 rfl rfl ?_
    refine ov_ifeq (tgt := 100) d_279_93 (by decide) (by omega) (fun c15 => ?_) (fun c15 => ?_)
    · skip
      refine ov_blk (ls2 := [(0, ov_i c), (1, ov_i a), (2, ov_i b)]) (st2 := [ov_i 0]) (pc2 := 101) b_279_100_1 rfl rfl ?_
      have eb : ov_bo c a b = 0 := by unfold ov_bo; repeat (first | rw [if_pos (by omega)] | rw [if_neg (by omega)])
      exact ov_reti (st := []) d_279_101 rfl ⟨_, rfl, rfl, rfl, (by show 0 = ov_bo c a b ∧ -2147483648 ≤ 0 ∧ 0 ≤ 2147483647; omega)⟩
    · skip
      refine ov_blk (ls2 := [(0, ov_i c), (1, ov_i a), (2, ov_i b)]) (st2 := [ov_i 1]) (pc2 := 97) b_279_96_1 rfl rfl ?_
      refine ov_goto (tgt := 101) d_279_97 (by decide) ?_
      have eb : ov_bo c a b = 1 := by unfold ov_bo; repeat (first | rw [if_pos (by omega)] | rw [if_neg (by omega)])
      exact ov_reti (st := []) d_279_101 rfl ⟨_, rfl, rfl, rfl, (by show 1 = ov_bo c a b ∧ -2147483648 ≤ 1 ∧ 1 ≤ 2147483647; omega)⟩
abbrev P_Mo_worthAt_90 (F : ov_H × ov_Z) (z : ov_Z) (h : ov_H) (a : Int) : Option ov_V → ov_Z → ov_H → Prop := fun r0 z' h' => ∃ r : Int, r0 = some (ov_i r) ∧ ov_N F z' h' ∧ ((h' 90 2) = (h 90 2) ∧ (h' 90 7) = (h 90 7) ∧ (h' 90 8) = (h 90 8) ∧ (h' 90 13) = (h 90 13) ∧ (h' 90 20) = (h 90 20) ∧ (h' 90 22) = (h 90 22) ∧ (h' 90 25) = (h 90 25) ∧ (h' 90 26) = (h 90 26) ∧ (h' 90 28) = (h 90 28) ∧ (h' 90 29) = (h 90 29) ∧ (h' 90 30) = (h 90 30) ∧ (h' 90 34) = (h 90 34) ∧ r = ov_ev (h 97) (h 98) (h 101) 1101 a 0 (h 102) ∧ -2147483648 ≤ r ∧ r ≤ 2147483647) ∧ h' 91 = h 91 ∧ h' 92 = h 92 ∧ h' 93 = h 93 ∧ h' 94 = h 94 ∧ h' 95 = h 95 ∧ h' 96 = h 96 ∧ h' 97 = h 97 ∧ h' 98 = h 98 ∧ h' 99 = h 99 ∧ h' 100 = h 100 ∧ h' 103 = h 103 ∧ h' 104 = h 104 ∧ h' 105 = h 105 ∧ h' 106 = h 106 ∧ h' 109 = h 109 ∧ h' 114 = h 114
set_option maxHeartbeats 4000000 in
theorem c_Mo_worthAt_90 {u : ov_U} {F : ov_H × ov_Z} {z : ov_Z} {h : ov_H} (d : Nat) (hd : 1 ≤ d) (U : ov_cap u) (I : ov_N F z h) (a : Int) (g_a : ov_g a) (p0 : 0 ≤ a ∧ a ≤ 1000) (RN : ov_rn (h 97) (h 98) a 0) : ov_T u d ov_m278 [ov_r 90, ov_i a] z h (P_Mo_worthAt_90 F z h a) := by
  refine ov_en rfl (Nat.le_of_ble_eq_true rfl) ?_
  show ov_R u d ov_m278 0 [(0, ov_r 90), (1, ov_i a)] [] z h (P_Mo_worthAt_90 F z h a)
  refine ov_blk (ls2 := [(0, ov_r 90), (1, ov_i a), (2, ov_i 0), (3, ov_i a)]) (st2 := []) (pc2 := 4) b_278_0_4 rfl rfl ?_
  have L4 : ∀ (n1 : Nat) (x2 : Int) (x3 : Int) (z5 : ov_Z) (h6 : ov_H) (I7 : ov_N F z5 h6) (E8 : h6 91 = h 91) (E9 : h6 92 = h 92) (E10 : h6 93 = h 93) (E11 : h6 94 = h 94) (E12 : h6 95 = h 95) (E13 : h6 96 = h 96) (E14 : h6 97 = h 97) (E15 : h6 98 = h 98) (E16 : h6 99 = h 99) (E17 : h6 100 = h 100) (E18 : h6 103 = h 103) (E19 : h6 104 = h 104) (E20 : h6 105 = h 105) (E21 : h6 106 = h 106) (E22 : h6 109 = h 109) (E23 : h6 114 = h 114) (xr : ov_rn (h 97) (h 98) x3 x2) (xe : ov_ev (h 97) (h 98) (h 101) 1101 a 0 (h 102) = ov_ev (h 97) (h 98) (h 101) (Int.toNat (1101 - (x3 - a))) x3 x2 (h6 102)) (xf : (h6 101) = (h 101)) (q3 : 0 ≤ x2 ∧ x2 ≤ 1000 ∧ a ≤ x3 ∧ x3 ≤ 1099 ∧ (h6 90 2) = (h 90 2) ∧ (h6 90 7) = (h 90 7) ∧ (h6 90 8) = (h 90 8) ∧ (h6 90 13) = (h 90 13) ∧ (h6 90 20) = (h 90 20) ∧ (h6 90 22) = (h 90 22) ∧ (h6 90 25) = (h 90 25) ∧ (h6 90 26) = (h 90 26) ∧ (h6 90 28) = (h 90 28) ∧ (h6 90 29) = (h 90 29) ∧ (h6 90 30) = (h 90 30) ∧ (h6 90 34) = (h 90 34)), 1100 - x3 < (n1 : Int) → ov_R u d ov_m278 4 [(0, ov_r 90), (1, ov_i a), (2, ov_i x2), (3, ov_i x3)] [] z5 h6 (P_Mo_worthAt_90 F z h a) := by
    intro n1
    induction n1 with
    | zero =>
      intro x2 x3 z5 h6 I7 E8 E9 E10 E11 E12 E13 E14 E15 E16 E17 E18 E19 E20 E21 E22 E23 xr xe xf q3 hn24
      exact absurd hn24 (by omega)
    | succ n1 ih2 =>
      intro x2 x3 z5 h6 I7 E8 E9 E10 E11 E12 E13 E14 E15 E16 E17 E18 E19 E20 E21 E22 E23 xr xe xf q3 hn24
      refine ov_blk (ls2 := [(0, ov_r 90), (1, ov_i a), (2, ov_i x2), (3, ov_i x3)]) (st2 := [ov_r 90]) (pc2 := 5) b_278_4_1 rfl rfl ?_
      refine ov_getf (v := ov_r 97) d_278_5 fl_Mo_84 (zb_90 I7) (zs_90 I7) (congrArg ov_r (rg_90_11 I7)) ?_
      refine ov_blk (ls2 := [(0, ov_r 90), (1, ov_i a), (2, ov_i x2), (3, ov_i x3)]) (st2 := [ov_i x3, ov_r 97]) (pc2 := 9) b_278_8_1 rfl rfl ?_
      refine ov_iald d_278_9 (zb_97 I7) (zs_97 I7) (by omega) ?_
      rw [show h6 97 = h 97 from E14]
      have g25 := ra_97 I x3
      refine ov_ifeq (tgt := 140) d_278_10 (by decide) (by omega) (fun c26 => ?_) (fun c26 => ?_)
      · skip
        refine ov_blk (ls2 := [(0, ov_r 90), (1, ov_i a), (2, ov_i x2), (3, ov_i x3)]) (st2 := [ov_r 90]) (pc2 := 141) b_278_140_1 rfl rfl ?_
        refine ov_getf (v := ov_r 102) d_278_141 fl_Mo_99 (zb_90 I7) (zs_90 I7) (congrArg ov_r (rg_90_18 I7)) ?_
        refine ov_blk (ls2 := [(0, ov_r 90), (1, ov_i a), (2, ov_i x2), (3, ov_i x3)]) (st2 := [ov_i 0, ov_r 102]) (pc2 := 145) b_278_144_1 rfl rfl ?_
        refine ov_iald d_278_145 (zb_102 I7) (zs_102 I7) (by omega) ?_
        have g27 := ra_102 I7 0
        have ee : ov_ev (h 97) (h 98) (h 101) 1101 a 0 (h 102) = (h6 102 0) := xe.trans (by rw [show Int.toNat (1101 - (x3 - a)) = Int.toNat (1100 - (x3 - a)) + 1 by omega, ov_ev_0 (by omega)])
        exact ov_reti (st := []) d_278_146 rfl ⟨_, rfl, I7, (by show (h6 90 2) = (h 90 2) ∧ (h6 90 7) = (h 90 7) ∧ (h6 90 8) = (h 90 8) ∧ (h6 90 13) = (h 90 13) ∧ (h6 90 20) = (h 90 20) ∧ (h6 90 22) = (h 90 22) ∧ (h6 90 25) = (h 90 25) ∧ (h6 90 26) = (h 90 26) ∧ (h6 90 28) = (h 90 28) ∧ (h6 90 29) = (h 90 29) ∧ (h6 90 30) = (h 90 30) ∧ (h6 90 34) = (h 90 34) ∧ (h6 102 0) = ov_ev (h 97) (h 98) (h 101) 1101 a 0 (h 102) ∧ -2147483648 ≤ (h6 102 0) ∧ (h6 102 0) ≤ 2147483647; omega), E8, E9, E10, E11, E12, E13, E14, E15, E16, E17, E18, E19, E20, E21, E22, E23⟩
      · skip
        obtain ⟨r1, t1, r2, r3⟩ := (ov_rn_step xr (by omega)).2.2 (by omega)
        have r4 : ((h 97 x3) = 1 ∧ t1 = x2 + 1) ∨ ((h 97 x3) = 2 ∧ 0 ≤ (h 98 x3) ∧ (h 98 x3) ≤ 3 ∧ t1 = x2 + 1) ∨ ((h 97 x3) = 3 ∧ 1 ≤ x2 ∧ t1 = x2) ∨ (4 ≤ (h 97 x3) ∧ 2 ≤ x2 ∧ t1 = x2 - 1) := r2
        have r5 := (ov_rn_step r3 (by omega)).1
        refine ov_blk (ls2 := [(0, ov_r 90), (1, ov_i a), (2, ov_i x2), (3, ov_i x3)]) (st2 := [ov_r 90]) (pc2 := 14) b_278_13_1 rfl rfl ?_
        refine ov_getf (v := ov_r 97) d_278_14 fl_Mo_84 (zb_90 I7) (zs_90 I7) (congrArg ov_r (rg_90_11 I7)) ?_
        refine ov_blk (ls2 := [(0, ov_r 90), (1, ov_i a), (2, ov_i x2), (3, ov_i x3)]) (st2 := [ov_i x3, ov_r 97]) (pc2 := 18) b_278_17_1 rfl rfl ?_
        refine ov_iald d_278_18 (zb_97 I7) (zs_97 I7) (by omega) ?_
        rw [show h6 97 = h 97 from E14]
        refine ov_blk (ls2 := [(0, ov_r 90), (1, ov_i a), (2, ov_i x2), (3, ov_i x3), (4, ov_i (h 97 x3))]) (st2 := [ov_i 1, ov_i (h 97 x3)]) (pc2 := 24) b_278_19_3 rfl rfl ?_
        refine ov_iceq (tgt := 33) d_278_24 (by decide) (by omega) (by omega) (fun c29 => ?_) (fun c29 => ?_)
        · skip
          refine ov_blk (ls2 := [(0, ov_r 90), (1, ov_i a), (2, ov_i x2), (3, ov_i x3), (4, ov_i (h 97 x3))]) (st2 := [ov_r 90]) (pc2 := 34) b_278_33_1 rfl rfl ?_
          refine ov_getf (v := ov_r 102) d_278_34 fl_Mo_99 (zb_90 I7) (zs_90 I7) (congrArg ov_r (rg_90_18 I7)) ?_
          refine ov_blk (ls2 := [(0, ov_r 90), (1, ov_i a), (2, ov_i x2), (3, ov_i x3), (4, ov_i (h 97 x3))]) (st2 := [ov_i 1, ov_i (h 97 x3), ov_i x2, ov_r 102]) (pc2 := 41) b_278_37_3 rfl rfl ?_
          refine ov_icne (tgt := 53) d_278_41 (by decide) (by omega) (by omega) (fun c30 => ?_) (fun c30 => ?_)
          · omega
          · skip
            refine ov_blk (ls2 := [(0, ov_r 90), (1, ov_i a), (2, ov_i x2), (3, ov_i x3), (4, ov_i (h 97 x3))]) (st2 := [ov_r 90, ov_i x2, ov_r 102]) (pc2 := 45) b_278_44_1 rfl rfl ?_
            refine ov_getf (v := ov_r 98) d_278_45 fl_Mo_87 (zb_90 I7) (zs_90 I7) (congrArg ov_r (rg_90_12 I7)) ?_
            refine ov_blk (ls2 := [(0, ov_r 90), (1, ov_i a), (2, ov_i x2), (3, ov_i x3), (4, ov_i (h 97 x3))]) (st2 := [ov_i x3, ov_r 98, ov_i x2, ov_r 102]) (pc2 := 49) b_278_48_1 rfl rfl ?_
            refine ov_iald d_278_49 (zb_98 I7) (zs_98 I7) (by omega) ?_
            rw [show h6 98 = h 98 from E15]
            have g31 := ra_98 I x3
            refine ov_goto (tgt := 64) d_278_50 (by decide) ?_
            refine ov_iast d_278_64 (zb_102 I7) (zs_102 I7) (by omega) ?_
            have I32 := ua_102 (k := x2) (x := (h 98 x3)) I7 (by omega)
            refine ov_blk (ls2 := [(0, ov_r 90), (1, ov_i a), (2, ov_i (x2 + 1)), (3, ov_i x3), (4, ov_i (h 97 x3))]) (st2 := []) (pc2 := 68) b_278_65_1 rfl rfl ?_
            refine ov_goto (tgt := 134) d_278_68 (by decide) ?_
            refine ov_blk (ls2 := [(0, ov_r 90), (1, ov_i a), (2, ov_i (x2 + 1)), (3, ov_i (x3 + 1)), (4, ov_i (h 97 x3))]) (st2 := []) (pc2 := 137) b_278_134_1 rfl rfl ?_
            refine ov_goto (tgt := 4) d_278_137 (by decide) ?_
            refine ov_sub (ls2 := [(0, ov_r 90), (1, ov_i a), (2, ov_i (x2 + 1)), (3, ov_i (x3 + 1))]) (List.Sublist.subset (by repeat (first | exact List.Sublist.refl _ | apply List.Sublist.cons_cons | apply List.Sublist.cons))) ?_
            exact ih2 (x2 + 1) (x3 + 1) _ _ I32 E8 E9 E10 E11 E12 E13 E14 E15 E16 E17 E18 E19 E20 E21 E22 E23 (by have e : t1 = (x2 + 1) := (by omega); rw [e] at r3; exact r3) (xe.trans (by rw [show Int.toNat (1101 - (x3 - a)) = Int.toNat (1101 - ((x3 + 1) - a)) + 1 by omega, ov_ev_1 (by omega)]; show _ = ov_ev _ _ _ _ _ _ ((ov_up h6 102 x2 (h 98 x3)) 102); rw [ov_up_row])) xf (by show 0 ≤ (x2 + 1) ∧ (x2 + 1) ≤ 1000 ∧ a ≤ (x3 + 1) ∧ (x3 + 1) ≤ 1099 ∧ (h6 90 2) = (h 90 2) ∧ (h6 90 7) = (h 90 7) ∧ (h6 90 8) = (h 90 8) ∧ (h6 90 13) = (h 90 13) ∧ (h6 90 20) = (h 90 20) ∧ (h6 90 22) = (h 90 22) ∧ (h6 90 25) = (h 90 25) ∧ (h6 90 26) = (h 90 26) ∧ (h6 90 28) = (h 90 28) ∧ (h6 90 29) = (h 90 29) ∧ (h6 90 30) = (h 90 30) ∧ (h6 90 34) = (h 90 34); omega) (by omega)
        · skip
          refine ov_blk (ls2 := [(0, ov_r 90), (1, ov_i a), (2, ov_i x2), (3, ov_i x3), (4, ov_i (h 97 x3))]) (st2 := [ov_i 2, ov_i (h 97 x3)]) (pc2 := 30) b_278_27_2 rfl rfl ?_
          refine ov_icne (tgt := 71) d_278_30 (by decide) (by omega) (by omega) (fun c33 => ?_) (fun c33 => ?_)
          · skip
            refine ov_blk (ls2 := [(0, ov_r 90), (1, ov_i a), (2, ov_i x2), (3, ov_i x3), (4, ov_i (h 97 x3))]) (st2 := [ov_i 3, ov_i (h 97 x3)]) (pc2 := 74) b_278_71_2 rfl rfl ?_
            refine ov_icne (tgt := 104) d_278_74 (by decide) (by omega) (by omega) (fun c34 => ?_) (fun c34 => ?_)
            · skip
              refine ov_blk (ls2 := [(0, ov_r 90), (1, ov_i a), (2, ov_i (x2 + (-1))), (3, ov_i x3), (4, ov_i (h 97 x3))]) (st2 := [ov_r 90]) (pc2 := 108) b_278_104_2 rfl rfl ?_
              refine ov_getf (v := ov_r 102) d_278_108 fl_Mo_99 (zb_90 I7) (zs_90 I7) (congrArg ov_r (rg_90_18 I7)) ?_
              refine ov_blk (ls2 := [(0, ov_r 90), (1, ov_i a), (2, ov_i (x2 + (-1))), (3, ov_i x3), (4, ov_i (h 97 x3))]) (st2 := [ov_r 90, ov_i (h 97 x3), ov_i ((x2 + (-1)) - 1), ov_r 102]) (pc2 := 117) b_278_111_5 rfl rfl ?_
              refine ov_getf (v := ov_r 102) d_278_117 fl_Mo_99 (zb_90 I7) (zs_90 I7) (congrArg ov_r (rg_90_18 I7)) ?_
              refine ov_blk (ls2 := [(0, ov_r 90), (1, ov_i a), (2, ov_i (x2 + (-1))), (3, ov_i x3), (4, ov_i (h 97 x3))]) (st2 := [ov_i ((x2 + (-1)) - 1), ov_r 102, ov_i (h 97 x3), ov_i ((x2 + (-1)) - 1), ov_r 102]) (pc2 := 123) b_278_120_3 rfl rfl ?_
              refine ov_iald d_278_123 (zb_102 I7) (zs_102 I7) (by omega) ?_
              have g35 := ra_102 I7 ((x2 + (-1)) - 1)
              refine ov_blk (ls2 := [(0, ov_r 90), (1, ov_i a), (2, ov_i (x2 + (-1))), (3, ov_i x3), (4, ov_i (h 97 x3))]) (st2 := [ov_r 90, ov_i (h6 102 ((x2 + (-1)) - 1)), ov_i (h 97 x3), ov_i ((x2 + (-1)) - 1), ov_r 102]) (pc2 := 125) b_278_124_1 rfl rfl ?_
              refine ov_getf (v := ov_r 102) d_278_125 fl_Mo_99 (zb_90 I7) (zs_90 I7) (congrArg ov_r (rg_90_18 I7)) ?_
              refine ov_blk (ls2 := [(0, ov_r 90), (1, ov_i a), (2, ov_i (x2 + (-1))), (3, ov_i x3), (4, ov_i (h 97 x3))]) (st2 := [ov_i (x2 + (-1)), ov_r 102, ov_i (h6 102 ((x2 + (-1)) - 1)), ov_i (h 97 x3), ov_i ((x2 + (-1)) - 1), ov_r 102]) (pc2 := 129) b_278_128_1 rfl rfl ?_
              refine ov_iald d_278_129 (zb_102 I7) (zs_102 I7) (by omega) ?_
              have g36 := ra_102 I7 (x2 + (-1))
              refine ov_cS (as := [ov_i (h 97 x3), ov_i (h6 102 ((x2 + (-1)) - 1)), ov_i (h6 102 (x2 + (-1)))]) (st := [ov_i ((x2 + (-1)) - 1), ov_r 102]) (d2 := d - 1) d_278_130 lk_Mo_272 rfl (Nat.le_of_ble_eq_true rfl) (by omega) (c_Mo_both_b (d - 1) (by omega) U I7 (h 97 x3) (h6 102 ((x2 + (-1)) - 1)) (h6 102 (x2 + (-1))) (by omega) (by omega) (by omega) (by omega)) ?_
              rintro _ _ _ ⟨v38, rfl, rfl, rfl, f37⟩
              show ov_R u d ov_m278 133 [(0, ov_r 90), (1, ov_i a), (2, ov_i (x2 + (-1))), (3, ov_i x3), (4, ov_i (h 97 x3))] [ov_i v38, ov_i ((x2 + (-1)) - 1), ov_r 102] z5 h6 (P_Mo_worthAt_90 F z h a)
              have f39 : v38 = ov_bo (h 97 x3) (h6 102 ((x2 + (-1)) - 1)) (h6 102 (x2 + (-1))) ∧ -2147483648 ≤ v38 ∧ v38 ≤ 2147483647 := f37
              clear f37
              have vb : v38 = ov_bo (h 97 x3) (h6 102 ((x2 + (-1)) - 1)) (h6 102 (x2 + (-1))) := by omega
              refine ov_iast d_278_133 (zb_102 I7) (zs_102 I7) (by omega) ?_
              have I40 := ua_102 (k := ((x2 + (-1)) - 1)) (x := v38) I7 (by omega)
              refine ov_blk (ls2 := [(0, ov_r 90), (1, ov_i a), (2, ov_i (x2 + (-1))), (3, ov_i (x3 + 1)), (4, ov_i (h 97 x3))]) (st2 := []) (pc2 := 137) b_278_134_1 rfl rfl ?_
              refine ov_goto (tgt := 4) d_278_137 (by decide) ?_
              refine ov_sub (ls2 := [(0, ov_r 90), (1, ov_i a), (2, ov_i (x2 + (-1))), (3, ov_i (x3 + 1))]) (List.Sublist.subset (by repeat (first | exact List.Sublist.refl _ | apply List.Sublist.cons_cons | apply List.Sublist.cons))) ?_
              exact ih2 (x2 + (-1)) (x3 + 1) _ _ I40 E8 E9 E10 E11 E12 E13 E14 E15 E16 E17 E18 E19 E20 E21 E22 E23 (by have e : t1 = (x2 + (-1)) := (by omega); rw [e] at r3; exact r3) (xe.trans (by rw [show Int.toNat (1101 - (x3 - a)) = Int.toNat (1101 - ((x3 + 1) - a)) + 1 by omega, ov_ev_4 (by omega)]; show _ = ov_ev _ _ _ _ _ _ ((ov_up h6 102 ((x2 + (-1)) - 1) v38) 102); rw [ov_up_row, vb, show x2 + (-1) - 1 = x2 - 2 by omega, show x2 + (-1) = x2 - 1 by omega])) xf (by show 0 ≤ (x2 + (-1)) ∧ (x2 + (-1)) ≤ 1000 ∧ a ≤ (x3 + 1) ∧ (x3 + 1) ≤ 1099 ∧ (h6 90 2) = (h 90 2) ∧ (h6 90 7) = (h 90 7) ∧ (h6 90 8) = (h 90 8) ∧ (h6 90 13) = (h 90 13) ∧ (h6 90 20) = (h 90 20) ∧ (h6 90 22) = (h 90 22) ∧ (h6 90 25) = (h 90 25) ∧ (h6 90 26) = (h 90 26) ∧ (h6 90 28) = (h 90 28) ∧ (h6 90 29) = (h 90 29) ∧ (h6 90 30) = (h 90 30) ∧ (h6 90 34) = (h 90 34); omega) (by omega)
            · skip
              refine ov_blk (ls2 := [(0, ov_r 90), (1, ov_i a), (2, ov_i x2), (3, ov_i x3), (4, ov_i (h 97 x3))]) (st2 := [ov_r 90]) (pc2 := 78) b_278_77_1 rfl rfl ?_
              refine ov_getf (v := ov_r 102) d_278_78 fl_Mo_99 (zb_90 I7) (zs_90 I7) (congrArg ov_r (rg_90_18 I7)) ?_
              refine ov_blk (ls2 := [(0, ov_r 90), (1, ov_i a), (2, ov_i x2), (3, ov_i x3), (4, ov_i (h 97 x3))]) (st2 := [ov_r 90, ov_i (x2 - 1), ov_r 102]) (pc2 := 85) b_278_81_4 rfl rfl ?_
              refine ov_getf (v := ov_r 102) d_278_85 fl_Mo_99 (zb_90 I7) (zs_90 I7) (congrArg ov_r (rg_90_18 I7)) ?_
              refine ov_blk (ls2 := [(0, ov_r 90), (1, ov_i a), (2, ov_i x2), (3, ov_i x3), (4, ov_i (h 97 x3))]) (st2 := [ov_i (x2 - 1), ov_r 102, ov_i (x2 - 1), ov_r 102]) (pc2 := 91) b_278_88_3 rfl rfl ?_
              refine ov_iald d_278_91 (zb_102 I7) (zs_102 I7) (by omega) ?_
              have g41 := ra_102 I7 (x2 - 1)
              refine ov_ifne (tgt := 99) d_278_92 (by decide) (by omega) (fun c42 => ?_) (fun c42 => ?_)
              · skip
                refine ov_blk (ls2 := [(0, ov_r 90), (1, ov_i a), (2, ov_i x2), (3, ov_i x3), (4, ov_i (h 97 x3))]) (st2 := [ov_i 0, ov_i (x2 - 1), ov_r 102]) (pc2 := 100) b_278_99_1 rfl rfl ?_
                refine ov_iast d_278_100 (zb_102 I7) (zs_102 I7) (by omega) ?_
                have I43 := ua_102 (k := (x2 - 1)) (x := 0) I7 (by omega)
                refine ov_goto (tgt := 134) d_278_101 (by decide) ?_
                refine ov_blk (ls2 := [(0, ov_r 90), (1, ov_i a), (2, ov_i x2), (3, ov_i (x3 + 1)), (4, ov_i (h 97 x3))]) (st2 := []) (pc2 := 137) b_278_134_1 rfl rfl ?_
                refine ov_goto (tgt := 4) d_278_137 (by decide) ?_
                refine ov_sub (ls2 := [(0, ov_r 90), (1, ov_i a), (2, ov_i x2), (3, ov_i (x3 + 1))]) (List.Sublist.subset (by repeat (first | exact List.Sublist.refl _ | apply List.Sublist.cons_cons | apply List.Sublist.cons))) ?_
                exact ih2 x2 (x3 + 1) _ _ I43 E8 E9 E10 E11 E12 E13 E14 E15 E16 E17 E18 E19 E20 E21 E22 E23 (by have e : t1 = x2 := (by omega); rw [e] at r3; exact r3) (xe.trans (by rw [show Int.toNat (1101 - (x3 - a)) = Int.toNat (1101 - ((x3 + 1) - a)) + 1 by omega, ov_ev_3 (by omega)]; show _ = ov_ev _ _ _ _ _ _ ((ov_up h6 102 (x2 - 1) 0) 102); rw [ov_up_row, if_neg (by omega)])) xf (by show 0 ≤ x2 ∧ x2 ≤ 1000 ∧ a ≤ (x3 + 1) ∧ (x3 + 1) ≤ 1099 ∧ (h6 90 2) = (h 90 2) ∧ (h6 90 7) = (h 90 7) ∧ (h6 90 8) = (h 90 8) ∧ (h6 90 13) = (h 90 13) ∧ (h6 90 20) = (h 90 20) ∧ (h6 90 22) = (h 90 22) ∧ (h6 90 25) = (h 90 25) ∧ (h6 90 26) = (h 90 26) ∧ (h6 90 28) = (h 90 28) ∧ (h6 90 29) = (h 90 29) ∧ (h6 90 30) = (h 90 30) ∧ (h6 90 34) = (h 90 34); omega) (by omega)
              · skip
                refine ov_blk (ls2 := [(0, ov_r 90), (1, ov_i a), (2, ov_i x2), (3, ov_i x3), (4, ov_i (h 97 x3))]) (st2 := [ov_i 1, ov_i (x2 - 1), ov_r 102]) (pc2 := 96) b_278_95_1 rfl rfl ?_
                refine ov_goto (tgt := 100) d_278_96 (by decide) ?_
                refine ov_iast d_278_100 (zb_102 I7) (zs_102 I7) (by omega) ?_
                have I44 := ua_102 (k := (x2 - 1)) (x := 1) I7 (by omega)
                refine ov_goto (tgt := 134) d_278_101 (by decide) ?_
                refine ov_blk (ls2 := [(0, ov_r 90), (1, ov_i a), (2, ov_i x2), (3, ov_i (x3 + 1)), (4, ov_i (h 97 x3))]) (st2 := []) (pc2 := 137) b_278_134_1 rfl rfl ?_
                refine ov_goto (tgt := 4) d_278_137 (by decide) ?_
                refine ov_sub (ls2 := [(0, ov_r 90), (1, ov_i a), (2, ov_i x2), (3, ov_i (x3 + 1))]) (List.Sublist.subset (by repeat (first | exact List.Sublist.refl _ | apply List.Sublist.cons_cons | apply List.Sublist.cons))) ?_
                exact ih2 x2 (x3 + 1) _ _ I44 E8 E9 E10 E11 E12 E13 E14 E15 E16 E17 E18 E19 E20 E21 E22 E23 (by have e : t1 = x2 := (by omega); rw [e] at r3; exact r3) (xe.trans (by rw [show Int.toNat (1101 - (x3 - a)) = Int.toNat (1101 - ((x3 + 1) - a)) + 1 by omega, ov_ev_3 (by omega)]; show _ = ov_ev _ _ _ _ _ _ ((ov_up h6 102 (x2 - 1) 1) 102); rw [ov_up_row, if_pos (by omega)])) xf (by show 0 ≤ x2 ∧ x2 ≤ 1000 ∧ a ≤ (x3 + 1) ∧ (x3 + 1) ≤ 1099 ∧ (h6 90 2) = (h 90 2) ∧ (h6 90 7) = (h 90 7) ∧ (h6 90 8) = (h 90 8) ∧ (h6 90 13) = (h 90 13) ∧ (h6 90 20) = (h 90 20) ∧ (h6 90 22) = (h 90 22) ∧ (h6 90 25) = (h 90 25) ∧ (h6 90 26) = (h 90 26) ∧ (h6 90 28) = (h 90 28) ∧ (h6 90 29) = (h 90 29) ∧ (h6 90 30) = (h 90 30) ∧ (h6 90 34) = (h 90 34); omega) (by omega)
          · skip
            refine ov_blk (ls2 := [(0, ov_r 90), (1, ov_i a), (2, ov_i x2), (3, ov_i x3), (4, ov_i (h 97 x3))]) (st2 := [ov_r 90]) (pc2 := 34) b_278_33_1 rfl rfl ?_
            refine ov_getf (v := ov_r 102) d_278_34 fl_Mo_99 (zb_90 I7) (zs_90 I7) (congrArg ov_r (rg_90_18 I7)) ?_
            refine ov_blk (ls2 := [(0, ov_r 90), (1, ov_i a), (2, ov_i x2), (3, ov_i x3), (4, ov_i (h 97 x3))]) (st2 := [ov_i 1, ov_i (h 97 x3), ov_i x2, ov_r 102]) (pc2 := 41) b_278_37_3 rfl rfl ?_
            refine ov_icne (tgt := 53) d_278_41 (by decide) (by omega) (by omega) (fun c45 => ?_) (fun c45 => ?_)
            · skip
              refine ov_blk (ls2 := [(0, ov_r 90), (1, ov_i a), (2, ov_i x2), (3, ov_i x3), (4, ov_i (h 97 x3))]) (st2 := [ov_r 90, ov_i x2, ov_r 102]) (pc2 := 54) b_278_53_1 rfl rfl ?_
              refine ov_getf (v := ov_r 101) d_278_54 fl_Mo_96 (zb_90 I7) (zs_90 I7) (congrArg ov_r (rg_90_17 I7)) ?_
              refine ov_blk (ls2 := [(0, ov_r 90), (1, ov_i a), (2, ov_i x2), (3, ov_i x3), (4, ov_i (h 97 x3))]) (st2 := [ov_r 90, ov_r 101, ov_i x2, ov_r 102]) (pc2 := 58) b_278_57_1 rfl rfl ?_
              refine ov_getf (v := ov_r 98) d_278_58 fl_Mo_87 (zb_90 I7) (zs_90 I7) (congrArg ov_r (rg_90_12 I7)) ?_
              refine ov_blk (ls2 := [(0, ov_r 90), (1, ov_i a), (2, ov_i x2), (3, ov_i x3), (4, ov_i (h 97 x3))]) (st2 := [ov_i x3, ov_r 98, ov_r 101, ov_i x2, ov_r 102]) (pc2 := 62) b_278_61_1 rfl rfl ?_
              refine ov_iald d_278_62 (zb_98 I7) (zs_98 I7) (by omega) ?_
              rw [show h6 98 = h 98 from E15]
              have g46 := ra_98 I x3
              refine ov_iald d_278_63 (zb_101 I7) (zs_101 I7) (by omega) ?_
              have g47 := ra_101 I7 (h 98 x3)
              refine ov_iast d_278_64 (zb_102 I7) (zs_102 I7) (by omega) ?_
              have I48 := ua_102 (k := x2) (x := (h6 101 (h 98 x3))) I7 (by omega)
              refine ov_blk (ls2 := [(0, ov_r 90), (1, ov_i a), (2, ov_i (x2 + 1)), (3, ov_i x3), (4, ov_i (h 97 x3))]) (st2 := []) (pc2 := 68) b_278_65_1 rfl rfl ?_
              refine ov_goto (tgt := 134) d_278_68 (by decide) ?_
              refine ov_blk (ls2 := [(0, ov_r 90), (1, ov_i a), (2, ov_i (x2 + 1)), (3, ov_i (x3 + 1)), (4, ov_i (h 97 x3))]) (st2 := []) (pc2 := 137) b_278_134_1 rfl rfl ?_
              refine ov_goto (tgt := 4) d_278_137 (by decide) ?_
              refine ov_sub (ls2 := [(0, ov_r 90), (1, ov_i a), (2, ov_i (x2 + 1)), (3, ov_i (x3 + 1))]) (List.Sublist.subset (by repeat (first | exact List.Sublist.refl _ | apply List.Sublist.cons_cons | apply List.Sublist.cons))) ?_
              exact ih2 (x2 + 1) (x3 + 1) _ _ I48 E8 E9 E10 E11 E12 E13 E14 E15 E16 E17 E18 E19 E20 E21 E22 E23 (by have e : t1 = (x2 + 1) := (by omega); rw [e] at r3; exact r3) (xe.trans (by rw [show Int.toNat (1101 - (x3 - a)) = Int.toNat (1101 - ((x3 + 1) - a)) + 1 by omega, ov_ev_2 (by omega)]; show _ = ov_ev _ _ _ _ _ _ ((ov_up h6 102 x2 (h6 101 (h 98 x3))) 102); rw [ov_up_row, xf])) xf (by show 0 ≤ (x2 + 1) ∧ (x2 + 1) ≤ 1000 ∧ a ≤ (x3 + 1) ∧ (x3 + 1) ≤ 1099 ∧ (h6 90 2) = (h 90 2) ∧ (h6 90 7) = (h 90 7) ∧ (h6 90 8) = (h 90 8) ∧ (h6 90 13) = (h 90 13) ∧ (h6 90 20) = (h 90 20) ∧ (h6 90 22) = (h 90 22) ∧ (h6 90 25) = (h 90 25) ∧ (h6 90 26) = (h 90 26) ∧ (h6 90 28) = (h 90 28) ∧ (h6 90 29) = (h 90 29) ∧ (h6 90 30) = (h 90 30) ∧ (h6 90 34) = (h 90 34); omega) (by omega)
            · omega
  exact L4 1101 0 a _ _ I rfl rfl rfl rfl rfl rfl rfl rfl rfl rfl rfl rfl rfl rfl rfl rfl RN (by rw [show Int.toNat (1101 - (a - a)) = 1101 by omega]) rfl (by show 0 ≤ 0 ∧ 0 ≤ 1000 ∧ a ≤ a ∧ a ≤ 1099 ∧ (h 90 2) = (h 90 2) ∧ (h 90 7) = (h 90 7) ∧ (h 90 8) = (h 90 8) ∧ (h 90 13) = (h 90 13) ∧ (h 90 20) = (h 90 20) ∧ (h 90 22) = (h 90 22) ∧ (h 90 25) = (h 90 25) ∧ (h 90 26) = (h 90 26) ∧ (h 90 28) = (h 90 28) ∧ (h 90 29) = (h 90 29) ∧ (h 90 30) = (h 90 30) ∧ (h 90 34) = (h 90 34); omega) (by omega)

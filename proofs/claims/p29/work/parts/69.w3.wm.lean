/-! the reference's copies -/
theorem cp_f_0 (f : Int → Int) (fr tt : Int) : f = cp_f f fr tt 0 := by
  funext j
  exact (cp_f_o (by omega)).symm
theorem cp_f_s {h h6 : ov_H} {fr tt k : Int} (E : h6 103 = cp_f (h 103) fr tt k) (k0 : 0 ≤ k) (k1 : k < 120) : ov_up h6 103 (120 * tt + k) (h6 103 (120 * fr + k)) 103 = cp_f (h 103) fr tt (k + 1) := by
  rw [ov_up_row, E]
  funext j
  by_cases q : j = 120 * tt + k
  · rw [q, ov_rs_eq]
    unfold cp_f
    rw [if_neg (by omega), if_pos (by omega), show 120 * fr + (120 * tt + k - 120 * tt) = 120 * fr + k by omega]
  · rw [ov_rs_ne q]
    unfold cp_f
    by_cases w : 120 * tt ≤ j ∧ j < 120 * tt + k
    · rw [if_pos w, if_pos (by omega)]
    · rw [if_neg w, if_neg (by omega)]
def ks_f (f : Int → Int) (x j : Int) : Int := if 600 ≤ j ∧ j < 600 + 120 * (x - 1) ∧ j % 120 < 58 then f (j + 120) else f j
theorem ks_f_1 (f : Int → Int) : f = ks_f f 1 := by
  funext j
  unfold ks_f
  rw [if_neg (by omega)]
theorem ks_s {f g g2 : Int → Int} {x a b : Int} (E : g = ks_f f x) (x0 : 1 ≤ x) (x1 : x ≤ 15) (e : g2 = cp_f g a b 58) (ha : a = 5 + x) (hb : b = 4 + x) : g2 = ks_f f (x + 1) := by
  rw [e, ha, hb]
  funext j
  unfold cp_f
  by_cases w : 120 * (4 + x) ≤ j ∧ j < 120 * (4 + x) + 58
  · rw [if_pos w, E]
    unfold ks_f
    rw [if_neg (by omega), if_pos (by omega)]
    exact congrArg f (by omega)
  · rw [if_neg w, E]
    unfold ks_f
    by_cases v : 600 ≤ j ∧ j < 600 + 120 * (x - 1) ∧ j % 120 < 58
    · rw [if_pos v, if_pos (by omega)]
    · rw [if_neg v, if_neg (by omega)]
theorem kp_end {f g g2 : Int → Int} {x t u : Int} (E : g = ks_f f x) (hx : x = 16) (e : g2 = cp_f g 0 t 58) (ht : t = 20) (hu : u = 16) : g2 = kp_f f u := by
  rw [e, ht, hu]
  rw [hx] at E
  funext j
  unfold cp_f kp_f
  rw [if_pos (rfl : (16 : Int) = 16), E]
  by_cases w : 120 * 20 ≤ j ∧ j < 120 * 20 + 58
  · rw [if_pos w, if_neg (by omega), if_pos (by omega)]
    unfold ks_f
    rw [if_neg (by omega)]
    exact congrArg f (by omega)
  · rw [if_neg w]
    unfold ks_f
    by_cases v : 600 ≤ j ∧ j < 2400 ∧ j % 120 < 58
    · rw [if_pos (by omega), if_pos v]
    · rw [if_neg (by omega), if_neg v, if_neg (by omega)]
theorem kp_els {f g2 : Int → Int} {t u : Int} (e : g2 = cp_f f 0 t 58) (ht : t = 5 + u) (hu : ¬ u = 16) : g2 = kp_f f u := by
  rw [e, ht]
  funext j
  unfold kp_f
  rw [if_neg hu]
theorem kp_u_of {u v : Int} (a : u = 16 → v = 16) (b : ¬ u = 16 → v = u + 1) : v = kp_u u := by
  unfold kp_u
  split
  · rename_i q
    exact a q
  · rename_i q
    exact b q
def st_rt (f : Int → Int) (run : Int) : Int := if run = 1 then (if f 3 < 0 then f 2 else f 3) else f 2
theorem st_rt_of {f : Int → Int} {run v : Int} (a : run = 1 → f 3 < 0 → v = f 2) (b : run = 1 → ¬ f 3 < 0 → v = f 3) (c : ¬ run = 1 → v = f 2) : v = st_rt f run := by
  unfold st_rt
  split
  · split
    · rename_i p q
      exact a p q
    · rename_i p q
      exact b p q
  · rename_i p
    exact c p
theorem b_253_114_2 : ov_ds ov_m253.2.1 114 [.iadd, .iadd] = true := by decide +kernel
abbrev P_Mo_runTime_90_t (F : ov_H × ov_Z) (z : ov_Z) (h : ov_H) : Option ov_V → ov_Z → ov_H → Prop := fun r0 z' h' => ∃ r : Int, r0 = some (ov_i r) ∧ z = z' ∧ h = h' ∧ (((h 96 3) < 0 → r = (h 96 2)) ∧ (¬ (h 96 3) < 0 → r = (h 96 3)) ∧ 0 ≤ r ∧ r ≤ 30)
set_option maxHeartbeats 4000000 in
theorem c_Mo_runTime_90_t {u : ov_U} {F : ov_H × ov_Z} {z : ov_Z} {h : ov_H} (d : Nat) (hd : 0 ≤ d) (U : ov_cap u) (I : ov_N F z h) : ov_T u d ov_m256 [ov_r 90] z h (P_Mo_runTime_90_t F z h) := by
  refine ov_en rfl (Nat.le_of_ble_eq_true rfl) ?_
  show ov_R u d ov_m256 0 [(0, ov_r 90)] [] z h (P_Mo_runTime_90_t F z h)
  refine ov_blk (ls2 := [(0, ov_r 90)]) (st2 := [ov_r 90]) (pc2 := 1) b_256_0_1 rfl rfl ?_
  refine ov_getf (v := ov_r 96) d_256_1 fl_Mo_81 (zb_90 I) (zs_90 I) (congrArg ov_r (rg_90_10 I)) ?_
  refine ov_blk (ls2 := [(0, ov_r 90)]) (st2 := [ov_i 3, ov_r 96]) (pc2 := 5) b_256_4_1 rfl rfl ?_
  refine ov_iald d_256_5 (zb_96 I) (zs_96 I) (by omega) ?_
  have g1 := t96_3 I
  refine ov_ifge (tgt := 18) d_256_6 (by decide) (by omega) (fun c2 => ?_) (fun c2 => ?_)
  · skip
    refine ov_blk (ls2 := [(0, ov_r 90)]) (st2 := [ov_r 90]) (pc2 := 19) b_256_18_1 rfl rfl ?_
    refine ov_getf (v := ov_r 96) d_256_19 fl_Mo_81 (zb_90 I) (zs_90 I) (congrArg ov_r (rg_90_10 I)) ?_
    refine ov_blk (ls2 := [(0, ov_r 90)]) (st2 := [ov_i 3, ov_r 96]) (pc2 := 23) b_256_22_1 rfl rfl ?_
    refine ov_iald d_256_23 (zb_96 I) (zs_96 I) (by omega) ?_
    exact ov_reti (st := []) d_256_24 rfl ⟨_, rfl, rfl, rfl, (by show ((h 96 3) < 0 → (h 96 3) = (h 96 2)) ∧ (¬ (h 96 3) < 0 → (h 96 3) = (h 96 3)) ∧ 0 ≤ (h 96 3) ∧ (h 96 3) ≤ 30; omega)⟩
  · skip
    refine ov_blk (ls2 := [(0, ov_r 90)]) (st2 := [ov_r 90]) (pc2 := 10) b_256_9_1 rfl rfl ?_
    refine ov_getf (v := ov_r 96) d_256_10 fl_Mo_81 (zb_90 I) (zs_90 I) (congrArg ov_r (rg_90_10 I)) ?_
    refine ov_blk (ls2 := [(0, ov_r 90)]) (st2 := [ov_i 2, ov_r 96]) (pc2 := 14) b_256_13_1 rfl rfl ?_
    refine ov_iald d_256_14 (zb_96 I) (zs_96 I) (by omega) ?_
    have g4 := t96_2 I
    refine ov_goto (tgt := 24) d_256_15 (by decide) ?_
    exact ov_reti (st := []) d_256_24 rfl ⟨_, rfl, rfl, rfl, (by show ((h 96 3) < 0 → (h 96 2) = (h 96 2)) ∧ (¬ (h 96 3) < 0 → (h 96 2) = (h 96 3)) ∧ 0 ≤ (h 96 2) ∧ (h 96 2) ≤ 30; omega)⟩
abbrev P_Mo_copies_90_t (F : ov_H × ov_Z) (z : ov_Z) (h : ov_H) (fr : Int) (tt : Int) (m : Int) : Option ov_V → ov_Z → ov_H → Prop := fun r0 z' h' => r0 = none ∧ ov_N F z' h' ∧ ((h' 90 2) = (h 90 2) ∧ (h' 90 7) = (h 90 7) ∧ (h' 90 8) = (h 90 8) ∧ (h' 90 13) = (h 90 13) ∧ (h' 90 20) = (h 90 20) ∧ (h' 90 22) = (h 90 22) ∧ (h' 90 25) = (h 90 25) ∧ (h' 90 26) = (h 90 26) ∧ (h' 90 28) = (h 90 28) ∧ (h' 90 29) = (h 90 29) ∧ (h' 90 30) = (h 90 30) ∧ (h' 90 34) = (h 90 34)) ∧ h' 91 = h 91 ∧ h' 92 = h 92 ∧ h' 93 = h 93 ∧ h' 94 = h 94 ∧ h' 95 = h 95 ∧ h' 96 = h 96 ∧ h' 97 = h 97 ∧ h' 98 = h 98 ∧ h' 99 = h 99 ∧ h' 100 = h 100 ∧ h' 104 = h 104 ∧ h' 105 = h 105 ∧ h' 106 = h 106 ∧ h' 109 = h 109 ∧ h' 114 = h 114 ∧ (∀ j : Int, j < 120 * tt ∨ 120 * tt + m ≤ j → (h' 103) j = (h 103) j) ∧ ((h' 103) = cp_f (h 103) fr tt m)
set_option maxHeartbeats 4000000 in
theorem c_Mo_copies_90_t {u : ov_U} {F : ov_H × ov_Z} {z : ov_Z} {h : ov_H} (d : Nat) (hd : 0 ≤ d) (U : ov_cap u) (I : ov_N F z h) (fr : Int) (tt : Int) (m : Int) (g_fr : ov_g fr) (g_tt : ov_g tt) (g_m : ov_g m) (p0 : 0 ≤ fr ∧ fr ≤ 20) (p1 : 0 ≤ tt ∧ tt ≤ 20) (p2 : 0 ≤ m ∧ m ≤ 120) : ov_T u d ov_m255 [ov_r 90, ov_i fr, ov_i tt, ov_i m] z h (P_Mo_copies_90_t F z h fr tt m) := by
  refine ov_en rfl (Nat.le_of_ble_eq_true rfl) ?_
  show ov_R u d ov_m255 0 [(0, ov_r 90), (1, ov_i fr), (2, ov_i tt), (3, ov_i m)] [] z h (P_Mo_copies_90_t F z h fr tt m)
  refine ov_blk (ls2 := [(0, ov_r 90), (1, ov_i fr), (2, ov_i tt), (3, ov_i m), (4, ov_i 0)]) (st2 := []) (pc2 := 3) b_255_0_2 rfl rfl ?_
  have L4 : ∀ (n1 : Nat) (x4 : Int) (z5 : ov_Z) (h6 : ov_H) (I7 : ov_N F z5 h6) (E8 : h6 91 = h 91) (E9 : h6 92 = h 92) (E10 : h6 93 = h 93) (E11 : h6 94 = h 94) (E12 : h6 95 = h 95) (E13 : h6 96 = h 96) (E14 : h6 97 = h 97) (E15 : h6 98 = h 98) (E16 : h6 99 = h 99) (E17 : h6 100 = h 100) (E18 : h6 104 = h 104) (E19 : h6 105 = h 105) (E20 : h6 106 = h 106) (E21 : h6 109 = h 109) (E22 : h6 114 = h 114) (xc : ∀ j : Int, j < 120 * tt ∨ 120 * tt + x4 ≤ j → (h6 103) j = (h 103) j) (xf : (h6 103) = cp_f (h 103) fr tt x4) (q3 : 0 ≤ x4 ∧ x4 ≤ m ∧ (h6 90 2) = (h 90 2) ∧ (h6 90 7) = (h 90 7) ∧ (h6 90 8) = (h 90 8) ∧ (h6 90 13) = (h 90 13) ∧ (h6 90 20) = (h 90 20) ∧ (h6 90 22) = (h 90 22) ∧ (h6 90 25) = (h 90 25) ∧ (h6 90 26) = (h 90 26) ∧ (h6 90 28) = (h 90 28) ∧ (h6 90 29) = (h 90 29) ∧ (h6 90 30) = (h 90 30) ∧ (h6 90 34) = (h 90 34)), m - x4 < (n1 : Int) → ov_R u d ov_m255 3 [(0, ov_r 90), (1, ov_i fr), (2, ov_i tt), (3, ov_i m), (4, ov_i x4)] [] z5 h6 (P_Mo_copies_90_t F z h fr tt m) := by
    intro n1
    induction n1 with
    | zero =>
      intro x4 z5 h6 I7 E8 E9 E10 E11 E12 E13 E14 E15 E16 E17 E18 E19 E20 E21 E22 xc xf q3 hn23
      exact absurd hn23 (by omega)
    | succ n1 ih2 =>
      intro x4 z5 h6 I7 E8 E9 E10 E11 E12 E13 E14 E15 E16 E17 E18 E19 E20 E21 E22 xc xf q3 hn23
      refine ov_blk (ls2 := [(0, ov_r 90), (1, ov_i fr), (2, ov_i tt), (3, ov_i m), (4, ov_i x4)]) (st2 := [ov_i m, ov_i x4]) (pc2 := 6) b_255_3_2 rfl rfl ?_
      refine ov_icge (tgt := 39) d_255_6 (by decide) (by omega) (by omega) (fun c24 => ?_) (fun c24 => ?_)
      · skip
        exact ov_retv (st := []) d_255_39 rfl ⟨rfl, I7, (by show (h6 90 2) = (h 90 2) ∧ (h6 90 7) = (h 90 7) ∧ (h6 90 8) = (h 90 8) ∧ (h6 90 13) = (h 90 13) ∧ (h6 90 20) = (h 90 20) ∧ (h6 90 22) = (h 90 22) ∧ (h6 90 25) = (h 90 25) ∧ (h6 90 26) = (h 90 26) ∧ (h6 90 28) = (h 90 28) ∧ (h6 90 29) = (h 90 29) ∧ (h6 90 30) = (h 90 30) ∧ (h6 90 34) = (h 90 34); omega), E8, E9, E10, E11, E12, E13, E14, E15, E16, E17, E18, E19, E20, E21, E22, (fun j hj => xc j (by omega)), (xf.trans (congrArg (cp_f (h 103) fr tt) (by omega)))⟩
      · skip
        refine ov_blk (ls2 := [(0, ov_r 90), (1, ov_i fr), (2, ov_i tt), (3, ov_i m), (4, ov_i x4)]) (st2 := [ov_r 90]) (pc2 := 10) b_255_9_1 rfl rfl ?_
        refine ov_getf (v := ov_r 103) d_255_10 fl_Mo_102 (zb_90 I7) (zs_90 I7) (congrArg ov_r (rg_90_19 I7)) ?_
        refine ov_blk (ls2 := [(0, ov_r 90), (1, ov_i fr), (2, ov_i tt), (3, ov_i m), (4, ov_i x4)]) (st2 := [ov_r 90, ov_i ((120 * tt) + x4), ov_r 103]) (pc2 := 21) b_255_13_6 rfl rfl ?_
        refine ov_getf (v := ov_r 103) d_255_21 fl_Mo_102 (zb_90 I7) (zs_90 I7) (congrArg ov_r (rg_90_19 I7)) ?_
        refine ov_blk (ls2 := [(0, ov_r 90), (1, ov_i fr), (2, ov_i tt), (3, ov_i m), (4, ov_i x4)]) (st2 := [ov_i ((120 * fr) + x4), ov_r 103, ov_i ((120 * tt) + x4), ov_r 103]) (pc2 := 31) b_255_24_5 rfl rfl ?_
        refine ov_iald d_255_31 (zb_103 I7) (zs_103 I7) (by omega) ?_
        have g25 := g103 I7 ((120 * fr) + x4)
        refine ov_iast d_255_32 (zb_103 I7) (zs_103 I7) (by omega) ?_
        have gw := ra_103 I7 (120 * fr + x4)
        have I26 := ua_103 (k := ((120 * tt) + x4)) (x := (h6 103 ((120 * fr) + x4))) I7 (by refine ⟨?_, ?_, ?_, ?_, ?_, ?_⟩ <;> omega)
        refine ov_blk (ls2 := [(0, ov_r 90), (1, ov_i fr), (2, ov_i tt), (3, ov_i m), (4, ov_i (x4 + 1))]) (st2 := []) (pc2 := 36) b_255_33_1 rfl rfl ?_
        refine ov_goto (tgt := 3) d_255_36 (by decide) ?_
        exact ih2 (x4 + 1) _ _ I26 E8 E9 E10 E11 E12 E13 E14 E15 E16 E17 E18 E19 E20 E21 E22 (fun j hj => by rw [ov_up_j (by omega)]; exact xc j (by omega)) (cp_f_s xf (by omega) (by omega)) (by show 0 ≤ (x4 + 1) ∧ (x4 + 1) ≤ m ∧ (h6 90 2) = (h 90 2) ∧ (h6 90 7) = (h 90 7) ∧ (h6 90 8) = (h 90 8) ∧ (h6 90 13) = (h 90 13) ∧ (h6 90 20) = (h 90 20) ∧ (h6 90 22) = (h 90 22) ∧ (h6 90 25) = (h 90 25) ∧ (h6 90 26) = (h 90 26) ∧ (h6 90 28) = (h 90 28) ∧ (h6 90 29) = (h 90 29) ∧ (h6 90 30) = (h 90 30) ∧ (h6 90 34) = (h 90 34); omega) (by omega)
  exact L4 200 0 _ _ I rfl rfl rfl rfl rfl rfl rfl rfl rfl rfl rfl rfl rfl rfl rfl (fun j _ => rfl) (cp_f_0 (h 103) fr tt) (by show 0 ≤ 0 ∧ 0 ≤ m ∧ (h 90 2) = (h 90 2) ∧ (h 90 7) = (h 90 7) ∧ (h 90 8) = (h 90 8) ∧ (h 90 13) = (h 90 13) ∧ (h 90 20) = (h 90 20) ∧ (h 90 22) = (h 90 22) ∧ (h 90 25) = (h 90 25) ∧ (h 90 26) = (h 90 26) ∧ (h 90 28) = (h 90 28) ∧ (h 90 29) = (h 90 29) ∧ (h 90 30) = (h 90 30) ∧ (h 90 34) = (h 90 34); omega) (by omega)
abbrev P_Mo_keeps_90_t (F : ov_H × ov_Z) (z : ov_Z) (h : ov_H) : Option ov_V → ov_Z → ov_H → Prop := fun r0 z' h' => r0 = none ∧ ov_N F z' h' ∧ ((h' 90 2) = (h 90 2) ∧ (h' 90 7) = (h 90 7) ∧ (h' 90 8) = (h 90 8) ∧ (h' 90 13) = (h 90 13) ∧ (h' 90 22) = (h 90 22) ∧ (h' 90 25) = (h 90 25) ∧ (h' 90 26) = (h 90 26) ∧ (h' 90 28) = (h 90 28) ∧ (h' 90 29) = (h 90 29) ∧ (h' 90 30) = (h 90 30) ∧ (h' 90 34) = (h 90 34) ∧ ((h 90 20) = 16 → (h' 90 20) = 16) ∧ (¬ (h 90 20) = 16 → (h' 90 20) = (h 90 20) + 1)) ∧ h' 91 = h 91 ∧ h' 92 = h 92 ∧ h' 93 = h 93 ∧ h' 94 = h 94 ∧ h' 95 = h 95 ∧ h' 96 = h 96 ∧ h' 97 = h 97 ∧ h' 98 = h 98 ∧ h' 99 = h 99 ∧ h' 100 = h 100 ∧ h' 104 = h 104 ∧ h' 105 = h 105 ∧ h' 106 = h 106 ∧ h' 109 = h 109 ∧ h' 114 = h 114 ∧ (∀ j : Int, j < 600 → (h' 103) j = (h 103) j) ∧ ((h' 103) = kp_f (h 103) (h 90 20))
set_option maxHeartbeats 4000000 in
theorem c_Mo_keeps_90_t {u : ov_U} {F : ov_H × ov_Z} {z : ov_Z} {h : ov_H} (d : Nat) (hd : 1 ≤ d) (U : ov_cap u) (I : ov_N F z h) : ov_T u d ov_m254 [ov_r 90] z h (P_Mo_keeps_90_t F z h) := by
  refine ov_en rfl (Nat.le_of_ble_eq_true rfl) ?_
  show ov_R u d ov_m254 0 [(0, ov_r 90)] [] z h (P_Mo_keeps_90_t F z h)
  refine ov_blk (ls2 := [(0, ov_r 90)]) (st2 := [ov_r 90]) (pc2 := 1) b_254_0_1 rfl rfl ?_
  refine ov_getf (v := ov_i (h 90 20)) d_254_1 fl_Mo_319 (zb_90 I) (zs_90 I) rfl ?_
  have g1 := rg_90_20 I
  refine ov_blk (ls2 := [(0, ov_r 90)]) (st2 := [ov_i 16, ov_i (h 90 20)]) (pc2 := 6) b_254_4_1 rfl rfl ?_
  refine ov_icne (tgt := 47) d_254_6 (by decide) (by omega) (by omega) (fun c2 => ?_) (fun c2 => ?_)
  · skip
    refine ov_blk (ls2 := [(0, ov_r 90)]) (st2 := [ov_r 90, ov_i 5, ov_i 0, ov_r 90]) (pc2 := 51) b_254_47_4 rfl rfl ?_
    refine ov_getf (v := ov_i (h 90 20)) d_254_51 fl_Mo_319 (zb_90 I) (zs_90 I) rfl ?_
    refine ov_blk (ls2 := [(0, ov_r 90)]) (st2 := [ov_i 58, ov_i (5 + (h 90 20)), ov_i 0, ov_r 90]) (pc2 := 57) b_254_54_2 rfl rfl ?_
    refine ov_cV (as := [ov_i 0, ov_i (5 + (h 90 20)), ov_i 58]) (st := []) (d2 := d - 1) d_254_57 lk_Mo_325 rfl (Nat.le_of_ble_eq_true rfl) (c := 1) (zb_90 I) (zs_90 I) ⟨by decide, rfl⟩ (by omega) (c_Mo_copies_90_t (d - 1) (by omega) U I 0 (5 + (h 90 20)) 58 (by omega) (by omega) (by omega) (by omega) (by omega) (by omega)) ?_
    rintro _ z22 h23 ⟨rfl, I24, f4, e5, e6, e7, e8, e9, e10, e11, e12, e13, e14, e15, e16, e17, e18, e19, y20, y21⟩
    have E25 : h23 91 = h 91 := e5
    have E26 : h23 92 = h 92 := e6
    have E27 : h23 93 = h 93 := e7
    have E28 : h23 94 = h 94 := e8
    have E29 : h23 95 = h 95 := e9
    have E30 : h23 96 = h 96 := e10
    have E31 : h23 97 = h 97 := e11
    have E32 : h23 98 = h 98 := e12
    have E33 : h23 99 = h 99 := e13
    have E34 : h23 100 = h 100 := e14
    have E35 : h23 104 = h 104 := e15
    have E36 : h23 105 = h 105 := e16
    have E37 : h23 106 = h 106 := e17
    have E38 : h23 109 = h 109 := e18
    have E39 : h23 114 = h 114 := e19
    show ov_R u d ov_m254 60 [(0, ov_r 90)] [] z22 h23 (P_Mo_keeps_90_t F z h)
    have f40 : (h23 90 2) = (h 90 2) ∧ (h23 90 7) = (h 90 7) ∧ (h23 90 8) = (h 90 8) ∧ (h23 90 13) = (h 90 13) ∧ (h23 90 20) = (h 90 20) ∧ (h23 90 22) = (h 90 22) ∧ (h23 90 25) = (h 90 25) ∧ (h23 90 26) = (h 90 26) ∧ (h23 90 28) = (h 90 28) ∧ (h23 90 29) = (h 90 29) ∧ (h23 90 30) = (h 90 30) ∧ (h23 90 34) = (h 90 34) := f4
    clear f4
    have y20_ : ∀ j : Int, j < 120 * (5 + (h 90 20)) ∨ 120 * (5 + (h 90 20)) + (58 : Int) ≤ j → (h23 103) j = (h 103) j := y20
    have y21_ : (h23 103) = cp_f (h 103) (0 : Int) (5 + (h 90 20)) (58 : Int) := y21
    refine ov_blk (ls2 := [(0, ov_r 90)]) (st2 := [ov_r 90, ov_r 90]) (pc2 := 62) b_254_60_2 rfl rfl ?_
    refine ov_getf (v := ov_i (h23 90 20)) d_254_62 fl_Mo_319 (zb_90 I24) (zs_90 I24) rfl ?_
    have g41 := rg_90_20 I24
    refine ov_blk (ls2 := [(0, ov_r 90)]) (st2 := [ov_i ((h23 90 20) + 1), ov_r 90]) (pc2 := 67) b_254_65_2 rfl rfl ?_
    refine ov_putf (x := ((h23 90 20) + 1)) d_254_67 fl_Mo_319 (zb_90 I24) (zs_90 I24) rfl nk_0 rfl ?_
    have I42 := up_90_20 (x := ((h23 90 20) + 1)) I24 (by omega)
    have xk0 : ∀ j : Int, j < 600 → (ov_up h23 90 20 ((h23 90 20) + 1)) 103 j = h 103 j := fun j hj => by show h23 103 j = _; rw [y20_ j (by omega)]
    have xf0 : h23 103 = kp_f (h 103) (h 90 20) := kp_els y21_ (by omega) (by omega)
    exact ov_retv (st := []) d_254_70 rfl ⟨rfl, I42, (by show (h23 90 2) = (h 90 2) ∧ (h23 90 7) = (h 90 7) ∧ (h23 90 8) = (h 90 8) ∧ (h23 90 13) = (h 90 13) ∧ (h23 90 22) = (h 90 22) ∧ (h23 90 25) = (h 90 25) ∧ (h23 90 26) = (h 90 26) ∧ (h23 90 28) = (h 90 28) ∧ (h23 90 29) = (h 90 29) ∧ (h23 90 30) = (h 90 30) ∧ (h23 90 34) = (h 90 34) ∧ ((h 90 20) = 16 → ((h23 90 20) + 1) = 16) ∧ (¬ (h 90 20) = 16 → ((h23 90 20) + 1) = (h 90 20) + 1); omega), E25, E26, E27, E28, E29, E30, E31, E32, E33, E34, E35, E36, E37, E38, E39, xk0, xf0⟩
  · skip
    refine ov_blk (ls2 := [(0, ov_r 90), (1, ov_i 1)]) (st2 := []) (pc2 := 11) b_254_9_2 rfl rfl ?_
    have L46 : ∀ (n43 : Nat) (x1 : Int) (z47 : ov_Z) (h48 : ov_H) (I49 : ov_N F z47 h48) (E50 : h48 91 = h 91) (E51 : h48 92 = h 92) (E52 : h48 93 = h 93) (E53 : h48 94 = h 94) (E54 : h48 95 = h 95) (E55 : h48 96 = h 96) (E56 : h48 97 = h 97) (E57 : h48 98 = h 98) (E58 : h48 99 = h 99) (E59 : h48 100 = h 100) (E60 : h48 104 = h 104) (E61 : h48 105 = h 105) (E62 : h48 106 = h 106) (E63 : h48 109 = h 109) (E64 : h48 114 = h 114) (xl : ∀ j : Int, j < 600 → (h48 103) j = (h 103) j) (xs : (h48 103) = ks_f (h 103) x1) (q45 : 1 ≤ x1 ∧ x1 ≤ 16 ∧ (h48 90 20) = 16 ∧ (h48 90 2) = (h 90 2) ∧ (h48 90 7) = (h 90 7) ∧ (h48 90 8) = (h 90 8) ∧ (h48 90 13) = (h 90 13) ∧ (h48 90 20) = (h 90 20) ∧ (h48 90 22) = (h 90 22) ∧ (h48 90 25) = (h 90 25) ∧ (h48 90 26) = (h 90 26) ∧ (h48 90 28) = (h 90 28) ∧ (h48 90 29) = (h 90 29) ∧ (h48 90 30) = (h 90 30) ∧ (h48 90 34) = (h 90 34)), 16 - x1 < (n43 : Int) → ov_R u d ov_m254 11 [(0, ov_r 90), (1, ov_i x1)] [] z47 h48 (P_Mo_keeps_90_t F z h) := by
      intro n43
      induction n43 with
      | zero =>
        intro x1 z47 h48 I49 E50 E51 E52 E53 E54 E55 E56 E57 E58 E59 E60 E61 E62 E63 E64 xl xs q45 hn65
        exact absurd hn65 (by omega)
      | succ n43 ih44 =>
        intro x1 z47 h48 I49 E50 E51 E52 E53 E54 E55 E56 E57 E58 E59 E60 E61 E62 E63 E64 xl xs q45 hn65
        refine ov_blk (ls2 := [(0, ov_r 90), (1, ov_i x1)]) (st2 := [ov_i 16, ov_i x1]) (pc2 := 14) b_254_11_2 rfl rfl ?_
        refine ov_icge (tgt := 37) d_254_14 (by decide) (by omega) (by omega) (fun c66 => ?_) (fun c66 => ?_)
        · skip
          refine ov_blk (ls2 := [(0, ov_r 90), (1, ov_i x1)]) (st2 := [ov_r 90, ov_r 90]) (pc2 := 39) b_254_37_2 rfl rfl ?_
          refine ov_getf (v := ov_i (h48 90 20)) d_254_39 fl_Mo_319 (zb_90 I49) (zs_90 I49) rfl ?_
          have g67 := rg_90_20 I49
          refine ov_blk (ls2 := [(0, ov_r 90), (1, ov_i x1)]) (st2 := [ov_i ((h48 90 20) - 1), ov_r 90]) (pc2 := 44) b_254_42_2 rfl rfl ?_
          refine ov_putf (x := ((h48 90 20) - 1)) d_254_44 fl_Mo_319 (zb_90 I49) (zs_90 I49) rfl nk_0 rfl ?_
          have I68 := up_90_20 (x := ((h48 90 20) - 1)) I49 (by omega)
          refine ov_blk (ls2 := [(0, ov_r 90), (1, ov_i x1)]) (st2 := [ov_r 90, ov_i 5, ov_i 0, ov_r 90]) (pc2 := 51) b_254_47_4 rfl rfl ?_
          refine ov_getf (v := ov_i ((h48 90 20) - 1)) d_254_51 fl_Mo_319 (zb_90 I68) (zs_90 I68) rfl ?_
          refine ov_blk (ls2 := [(0, ov_r 90), (1, ov_i x1)]) (st2 := [ov_i 58, ov_i (5 + ((h48 90 20) - 1)), ov_i 0, ov_r 90]) (pc2 := 57) b_254_54_2 rfl rfl ?_
          refine ov_cV (as := [ov_i 0, ov_i (5 + ((h48 90 20) - 1)), ov_i 58]) (st := []) (d2 := d - 1) d_254_57 lk_Mo_325 rfl (Nat.le_of_ble_eq_true rfl) (c := 1) (zb_90 I68) (zs_90 I68) ⟨by decide, rfl⟩ (by omega) (c_Mo_copies_90_t (d - 1) (by omega) U I68 0 (5 + ((h48 90 20) - 1)) 58 (by omega) (by omega) (by omega) (by omega) (by omega) (by omega)) ?_
          rintro _ z87 h88 ⟨rfl, I89, f69, e70, e71, e72, e73, e74, e75, e76, e77, e78, e79, e80, e81, e82, e83, e84, y85, y86⟩
          have E90 : h88 91 = h 91 := Eq.trans e70 E50
          have E91 : h88 92 = h 92 := Eq.trans e71 E51
          have E92 : h88 93 = h 93 := Eq.trans e72 E52
          have E93 : h88 94 = h 94 := Eq.trans e73 E53
          have E94 : h88 95 = h 95 := Eq.trans e74 E54
          have E95 : h88 96 = h 96 := Eq.trans e75 E55
          have E96 : h88 97 = h 97 := Eq.trans e76 E56
          have E97 : h88 98 = h 98 := Eq.trans e77 E57
          have E98 : h88 99 = h 99 := Eq.trans e78 E58
          have E99 : h88 100 = h 100 := Eq.trans e79 E59
          have E100 : h88 104 = h 104 := Eq.trans e80 E60
          have E101 : h88 105 = h 105 := Eq.trans e81 E61
          have E102 : h88 106 = h 106 := Eq.trans e82 E62
          have E103 : h88 109 = h 109 := Eq.trans e83 E63
          have E104 : h88 114 = h 114 := Eq.trans e84 E64
          show ov_R u d ov_m254 60 [(0, ov_r 90), (1, ov_i x1)] [] z87 h88 (P_Mo_keeps_90_t F z h)
          have f105 : (h88 90 2) = (h48 90 2) ∧ (h88 90 7) = (h48 90 7) ∧ (h88 90 8) = (h48 90 8) ∧ (h88 90 13) = (h48 90 13) ∧ (h88 90 20) = ((h48 90 20) - 1) ∧ (h88 90 22) = (h48 90 22) ∧ (h88 90 25) = (h48 90 25) ∧ (h88 90 26) = (h48 90 26) ∧ (h88 90 28) = (h48 90 28) ∧ (h88 90 29) = (h48 90 29) ∧ (h88 90 30) = (h48 90 30) ∧ (h88 90 34) = (h48 90 34) := f69
          clear f69
          have y85_ : ∀ j : Int, j < 120 * (5 + ((h48 90 20) - 1)) ∨ 120 * (5 + ((h48 90 20) - 1)) + (58 : Int) ≤ j → (h88 103) j = (h48 103) j := y85
          have y86_ : (h88 103) = cp_f (h48 103) (0 : Int) (5 + ((h48 90 20) - 1)) (58 : Int) := y86
          refine ov_blk (ls2 := [(0, ov_r 90), (1, ov_i x1)]) (st2 := [ov_r 90, ov_r 90]) (pc2 := 62) b_254_60_2 rfl rfl ?_
          refine ov_getf (v := ov_i (h88 90 20)) d_254_62 fl_Mo_319 (zb_90 I89) (zs_90 I89) rfl ?_
          have g106 := rg_90_20 I89
          refine ov_blk (ls2 := [(0, ov_r 90), (1, ov_i x1)]) (st2 := [ov_i ((h88 90 20) + 1), ov_r 90]) (pc2 := 67) b_254_65_2 rfl rfl ?_
          refine ov_putf (x := ((h88 90 20) + 1)) d_254_67 fl_Mo_319 (zb_90 I89) (zs_90 I89) rfl nk_0 rfl ?_
          have I107 := up_90_20 (x := ((h88 90 20) + 1)) I89 (by omega)
          have xk0 : ∀ j : Int, j < 600 → (ov_up h88 90 20 ((h88 90 20) + 1)) 103 j = h 103 j := fun j hj => by show h88 103 j = _; rw [y85_ j (by omega)]; exact xl j hj
          have xf0 : h88 103 = kp_f (h 103) (h 90 20) := kp_end xs (by omega) y86_ (by omega) (by omega)
          exact ov_retv (st := []) d_254_70 rfl ⟨rfl, I107, (by show (h88 90 2) = (h 90 2) ∧ (h88 90 7) = (h 90 7) ∧ (h88 90 8) = (h 90 8) ∧ (h88 90 13) = (h 90 13) ∧ (h88 90 22) = (h 90 22) ∧ (h88 90 25) = (h 90 25) ∧ (h88 90 26) = (h 90 26) ∧ (h88 90 28) = (h 90 28) ∧ (h88 90 29) = (h 90 29) ∧ (h88 90 30) = (h 90 30) ∧ (h88 90 34) = (h 90 34) ∧ ((h 90 20) = 16 → ((h88 90 20) + 1) = 16) ∧ (¬ (h 90 20) = 16 → ((h88 90 20) + 1) = (h 90 20) + 1); omega), E90, E91, E92, E93, E94, E95, E96, E97, E98, E99, E100, E101, E102, E103, E104, xk0, xf0⟩
        · skip
          refine ov_blk (ls2 := [(0, ov_r 90), (1, ov_i x1)]) (st2 := [ov_i 58, ov_i ((5 + x1) - 1), ov_i (5 + x1), ov_r 90]) (pc2 := 28) b_254_17_10 rfl rfl ?_
          refine ov_cV (as := [ov_i (5 + x1), ov_i ((5 + x1) - 1), ov_i 58]) (st := []) (d2 := d - 1) d_254_28 lk_Mo_325 rfl (Nat.le_of_ble_eq_true rfl) (c := 1) (zb_90 I49) (zs_90 I49) ⟨by decide, rfl⟩ (by omega) (c_Mo_copies_90_t (d - 1) (by omega) U I49 (5 + x1) ((5 + x1) - 1) 58 (by omega) (by omega) (by omega) (by omega) (by omega) (by omega)) ?_
          rintro _ z126 h127 ⟨rfl, I128, f108, e109, e110, e111, e112, e113, e114, e115, e116, e117, e118, e119, e120, e121, e122, e123, y124, y125⟩
          have E129 : h127 91 = h 91 := Eq.trans e109 E50
          have E130 : h127 92 = h 92 := Eq.trans e110 E51
          have E131 : h127 93 = h 93 := Eq.trans e111 E52
          have E132 : h127 94 = h 94 := Eq.trans e112 E53
          have E133 : h127 95 = h 95 := Eq.trans e113 E54
          have E134 : h127 96 = h 96 := Eq.trans e114 E55
          have E135 : h127 97 = h 97 := Eq.trans e115 E56
          have E136 : h127 98 = h 98 := Eq.trans e116 E57
          have E137 : h127 99 = h 99 := Eq.trans e117 E58
          have E138 : h127 100 = h 100 := Eq.trans e118 E59
          have E139 : h127 104 = h 104 := Eq.trans e119 E60
          have E140 : h127 105 = h 105 := Eq.trans e120 E61
          have E141 : h127 106 = h 106 := Eq.trans e121 E62
          have E142 : h127 109 = h 109 := Eq.trans e122 E63
          have E143 : h127 114 = h 114 := Eq.trans e123 E64
          show ov_R u d ov_m254 31 [(0, ov_r 90), (1, ov_i x1)] [] z126 h127 (P_Mo_keeps_90_t F z h)
          have f144 : (h127 90 2) = (h48 90 2) ∧ (h127 90 7) = (h48 90 7) ∧ (h127 90 8) = (h48 90 8) ∧ (h127 90 13) = (h48 90 13) ∧ (h127 90 20) = (h48 90 20) ∧ (h127 90 22) = (h48 90 22) ∧ (h127 90 25) = (h48 90 25) ∧ (h127 90 26) = (h48 90 26) ∧ (h127 90 28) = (h48 90 28) ∧ (h127 90 29) = (h48 90 29) ∧ (h127 90 30) = (h48 90 30) ∧ (h127 90 34) = (h48 90 34) := f108
          clear f108
          have y124_ : ∀ j : Int, j < 120 * ((5 + x1) - 1) ∨ 120 * ((5 + x1) - 1) + (58 : Int) ≤ j → (h127 103) j = (h48 103) j := y124
          have y125_ : (h127 103) = cp_f (h48 103) (5 + x1) ((5 + x1) - 1) (58 : Int) := y125
          refine ov_blk (ls2 := [(0, ov_r 90), (1, ov_i (x1 + 1))]) (st2 := []) (pc2 := 34) b_254_31_1 rfl rfl ?_
          refine ov_goto (tgt := 11) d_254_34 (by decide) ?_
          have xl2 : ∀ j : Int, j < 600 → (h127 103) j = h 103 j := fun j hj => by rw [y124_ j (by omega)]; exact xl j hj
          have xs2 := ks_s xs (by omega) (by omega) y125_ (by omega) (by omega)
          exact ih44 (x1 + 1) _ _ I128 E129 E130 E131 E132 E133 E134 E135 E136 E137 E138 E139 E140 E141 E142 E143 xl2 xs2 (by show 1 ≤ (x1 + 1) ∧ (x1 + 1) ≤ 16 ∧ (h127 90 20) = 16 ∧ (h127 90 2) = (h 90 2) ∧ (h127 90 7) = (h 90 7) ∧ (h127 90 8) = (h 90 8) ∧ (h127 90 13) = (h 90 13) ∧ (h127 90 20) = (h 90 20) ∧ (h127 90 22) = (h 90 22) ∧ (h127 90 25) = (h 90 25) ∧ (h127 90 26) = (h 90 26) ∧ (h127 90 28) = (h 90 28) ∧ (h127 90 29) = (h 90 29) ∧ (h127 90 30) = (h 90 30) ∧ (h127 90 34) = (h 90 34); omega) (by omega)
    exact L46 17 1 _ _ I rfl rfl rfl rfl rfl rfl rfl rfl rfl rfl rfl rfl rfl rfl rfl (fun j _ => rfl) (ks_f_1 (h 103)) (by show 1 ≤ 1 ∧ 1 ≤ 16 ∧ (h 90 20) = 16 ∧ (h 90 2) = (h 90 2) ∧ (h 90 7) = (h 90 7) ∧ (h 90 8) = (h 90 8) ∧ (h 90 13) = (h 90 13) ∧ (h 90 20) = (h 90 20) ∧ (h 90 22) = (h 90 22) ∧ (h 90 25) = (h 90 25) ∧ (h 90 26) = (h 90 26) ∧ (h 90 28) = (h 90 28) ∧ (h 90 29) = (h 90 29) ∧ (h 90 30) = (h 90 30) ∧ (h 90 34) = (h 90 34); omega) (by omega)
abbrev P_Mo_go_90_t (F : ov_H × ov_Z) (z : ov_Z) (h : ov_H) (way : Int) (run : Int) : Option ov_V → ov_Z → ov_H → Prop := fun r0 z' h' => ∃ r : Int, r0 = some (ov_i r) ∧ ov_N F z' h' ∧ ((h' 90 2) = (h 90 2) ∧ (h' 90 7) = (h 90 7) ∧ (h' 90 8) = (h 90 8) ∧ (h' 90 13) = (h 90 13) ∧ (h' 90 22) = (h 90 22) ∧ (h' 90 25) = (h 90 25) ∧ (h' 90 26) = (h 90 26) ∧ (h' 90 28) = (h 90 28) ∧ (h' 90 29) = (h 90 29) ∧ (h' 90 30) = (h 90 30) ∧ (h' 90 34) = (h 90 34) ∧ -2147483648 ≤ r ∧ r ≤ 2147483647) ∧ h' 91 = h 91 ∧ h' 92 = h 92 ∧ h' 93 = h 93 ∧ h' 94 = h 94 ∧ h' 95 = h 95 ∧ h' 96 = h 96 ∧ h' 97 = h 97 ∧ h' 98 = h 98 ∧ h' 99 = h 99 ∧ h' 100 = h 100 ∧ h' 104 = h 104 ∧ h' 105 = h 105 ∧ h' 106 = h 106 ∧ h' 109 = h 109 ∧ h' 114 = h 114 ∧ (∀ j : Int, 4 ≤ j → j ≤ 57 → (h' 103) j = (h 103) j) ∧ ((r = -1 ∧ ¬ (0 ≤ way ∧ way ≤ 1 ∧ ov_cgi (h 96) (h 103 0) (h 103 1) way = 1 ∧ (run = 0 ∨ ¬ (h 96 6) = 1 ∧ ¬ (h 103 3) = (h 96 5))) ∧ (h' 103) = (h 103) ∧ (h' 90 20) = (h 90 20)) ∨ ((0 ≤ way ∧ way ≤ 1 ∧ ov_cgi (h 96) (h 103 0) (h 103 1) way = 1 ∧ (run = 0 ∨ ¬ (h 96 6) = 1 ∧ ¬ (h 103 3) = (h 96 5))) ∧ r = (h 103 2) + (ov_wm (h 96) (6 * (h 103 1) + (h 103 0)) way (h 103 2) + st_rt (h 96) run) ∧ (h' 103) = ov_rs (ov_rs (ov_rs (ov_rs (kp_f (h 103) (h 90 20)) 2 ((h 103 2) + (ov_wm (h 96) (6 * (h 103 1) + (h 103 0)) way (h 103 2) + st_rt (h 96) run))) 0 ((h 103 0) + (1 - way))) 1 ((h 103 1) + way)) 3 ((h 103 3) + run) ∧ (h' 90 20) = kp_u (h 90 20)))
set_option maxHeartbeats 4000000 in
theorem c_Mo_go_90_t {u : ov_U} {F : ov_H × ov_Z} {z : ov_Z} {h : ov_H} (d : Nat) (hd : 3 ≤ d) (U : ov_cap u) (I : ov_N F z h) (way : Int) (run : Int) (g_way : ov_g way) (g_run : run = 0 ∨ run = 1) (p0 : (h 103 2) ≤ ov_bd F - 1000) (p1 : 0 ≤ ov_bd F ∧ ov_bd F ≤ 800000000) (p2 : 0 ≤ (h 103 3) ∧ (h 103 3) ≤ 9) (W : ov_WT (h 96)) : ov_T u d ov_m253 [ov_r 90, ov_i way, ov_i run] z h (P_Mo_go_90_t F z h way run) := by
  refine ov_en rfl (Nat.le_of_ble_eq_true rfl) ?_
  show ov_R u d ov_m253 0 [(0, ov_r 90), (1, ov_i way), (2, ov_i run)] [] z h (P_Mo_go_90_t F z h way run)
  have t0 := t96_0 I
  have t1 := t96_1 I
  have t5 := t96_5 I
  have t2 := t96_2 I
  refine ov_blk (ls2 := [(0, ov_r 90), (1, ov_i way), (2, ov_i run)]) (st2 := [ov_i 0, ov_r 90]) (pc2 := 2) b_253_0_2 rfl rfl ?_
  refine ov_putf (x := 0) d_253_2 fl_Mo_1 (zb_90 I) (zs_90 I) rfl nk_0 rfl ?_
  have I1 := up_90_0 (x := 0) I (by omega)
  refine ov_blk (ls2 := [(0, ov_r 90), (1, ov_i way), (2, ov_i run)]) (st2 := [ov_r 90]) (pc2 := 6) b_253_5_1 rfl rfl ?_
  refine ov_getf (v := ov_r 103) d_253_6 fl_Mo_102 (zb_90 I1) (zs_90 I1) (congrArg ov_r (rg_90_19 I1)) ?_
  refine ov_blk (ls2 := [(0, ov_r 90), (1, ov_i way), (2, ov_i run)]) (st2 := [ov_i 0, ov_r 103]) (pc2 := 10) b_253_9_1 rfl rfl ?_
  refine ov_iald d_253_10 (zb_103 I1) (zs_103 I1) (by omega) ?_
  show ov_R u d ov_m253 11 [(0, ov_r 90), (1, ov_i way), (2, ov_i run)] [ov_i (h 103 0)] z (ov_up h 90 0 0) (P_Mo_go_90_t F z h way run)
  have g2 := s103_0 I
  refine ov_blk (ls2 := [(0, ov_r 90), (1, ov_i way), (2, ov_i run), (3, ov_i (h 103 0))]) (st2 := [ov_r 90]) (pc2 := 13) b_253_11_2 rfl rfl ?_
  refine ov_getf (v := ov_r 103) d_253_13 fl_Mo_102 (zb_90 I1) (zs_90 I1) (congrArg ov_r (rg_90_19 I1)) ?_
  refine ov_blk (ls2 := [(0, ov_r 90), (1, ov_i way), (2, ov_i run), (3, ov_i (h 103 0))]) (st2 := [ov_i 1, ov_r 103]) (pc2 := 17) b_253_16_1 rfl rfl ?_
  refine ov_iald d_253_17 (zb_103 I1) (zs_103 I1) (by omega) ?_
  show ov_R u d ov_m253 18 [(0, ov_r 90), (1, ov_i way), (2, ov_i run), (3, ov_i (h 103 0))] [ov_i (h 103 1)] z (ov_up h 90 0 0) (P_Mo_go_90_t F z h way run)
  have g3 := s103_1 I
  refine ov_blk (ls2 := [(0, ov_r 90), (1, ov_i way), (2, ov_i run), (3, ov_i (h 103 0)), (4, ov_i (h 103 1))]) (st2 := [ov_i 1, ov_i 0, ov_i way]) (pc2 := 23) b_253_18_4 rfl rfl ?_
  refine ov_cS (as := [ov_i way, ov_i 0, ov_i 1]) (st := []) (d2 := d - 1) d_253_23 lk_Mo_299 rfl (Nat.le_of_ble_eq_true rfl) (by omega) (c_Mo_within (d - 1) (by omega) U I1 way 0 1 (by omega) (by omega) (by omega)) ?_
  rintro _ _ _ ⟨v5, rfl, rfl, rfl, f4⟩
  show ov_R u d ov_m253 26 [(0, ov_r 90), (1, ov_i way), (2, ov_i run), (3, ov_i (h 103 0)), (4, ov_i (h 103 1))] [ov_i v5] z (ov_up h 90 0 0) (P_Mo_go_90_t F z h way run)
  have f6 : (v5 = 0 ∨ v5 = 1) ∧ (v5 = 1 → (0 : Int) ≤ way ∧ way ≤ (1 : Int)) ∧ (v5 = 0 → way < (0 : Int) ∨ (1 : Int) < way) := f4
  clear f4
  refine ov_ifeq (tgt := 70) d_253_26 (by decide) (by omega) (fun c7 => ?_) (fun c7 => ?_)
  · skip
    have f6_ : v5 = 0 := by omega
    have f8 : way < (0 : Int) ∨ (1 : Int) < way := f6.2.2 (by omega)
    clear f6
    refine ov_blk (ls2 := [(0, ov_r 90), (1, ov_i way), (2, ov_i run), (3, ov_i (h 103 0)), (4, ov_i (h 103 1))]) (st2 := [ov_i (-1)]) (pc2 := 71) b_253_70_1 rfl rfl ?_
    exact ov_reti (st := []) d_253_71 rfl ⟨_, rfl, I1, ⟨rfl, rfl, rfl, rfl, rfl, rfl, rfl, rfl, rfl, rfl, rfl, (by show -2147483648 ≤ (-1) ∧ (-1) ≤ 2147483647; omega)⟩, rfl, rfl, rfl, rfl, rfl, rfl, rfl, rfl, rfl, rfl, rfl, rfl, rfl, rfl, rfl, (fun j h1 h2 => rfl), (Or.inl ⟨rfl, (by omega), (show (ov_up h 90 0 0) 103 = h 103 from rfl), (show (h 90 20) = h 90 20 from rfl)⟩)⟩
  · skip
    have f6_ : v5 = 1 := by omega
    have f9 : (0 : Int) ≤ way ∧ way ≤ (1 : Int) := f6.2.1 (by omega)
    clear f6
    refine ov_blk (ls2 := [(0, ov_r 90), (1, ov_i way), (2, ov_i run), (3, ov_i (h 103 0)), (4, ov_i (h 103 1))]) (st2 := [ov_i way, ov_i (h 103 1), ov_i (h 103 0), ov_r 90]) (pc2 := 34) b_253_29_4 rfl rfl ?_
    refine ov_cV (as := [ov_i (h 103 0), ov_i (h 103 1), ov_i way]) (st := []) (d2 := d - 1) d_253_34 lk_Mo_309 rfl (Nat.le_of_ble_eq_true rfl) (c := 1) (zb_90 I1) (zs_90 I1) ⟨by decide, rfl⟩ (by omega) (c_Mo_canGo_90 (d - 1) (by omega) U I1 (h 103 0) (h 103 1) way (by omega) (by omega) (by omega) (by omega) (by omega)) ?_
    rintro _ _ _ ⟨v11, rfl, rfl, rfl, f10⟩
    show ov_R u d ov_m253 37 [(0, ov_r 90), (1, ov_i way), (2, ov_i run), (3, ov_i (h 103 0)), (4, ov_i (h 103 1))] [ov_i v11] z (ov_up h 90 0 0) (P_Mo_go_90_t F z h way run)
    have f12 : (v11 = 0 ∨ v11 = 1) ∧ v11 = ov_cgi (h 96) (h 103 0) (h 103 1) way ∧ (v11 = 1 → ((way = 0 → (h 103 0) < (h 96 0) - 1) ∧ (¬ way = 0 → (h 103 1) < (h 96 1) - 1)) ∧ (((h 96 (10 + 4 * (6 * (h 103 1) + (h 103 0)))) = 1 ∨ (h 96 (10 + 4 * (6 * (h 103 1) + (h 103 0)))) = 2) → (way = 0 → 0 < (h 96 (10 + 4 * (6 * (h 103 1) + (h 103 0)) + 3))) ∧ (¬ way = 0 → (h 96 (10 + 4 * (6 * (h 103 1) + (h 103 0)) + 3)) < (h 96 (10 + 4 * (6 * (h 103 1) + (h 103 0)) + 1))))) := f10
    clear f10
    refine ov_ifeq (tgt := 70) d_253_37 (by decide) (by omega) (fun c13 => ?_) (fun c13 => ?_)
    · skip
      have f12_ : v11 = 0 := by omega
      have f14 : v11 = ov_cgi (h 96) (h 103 0) (h 103 1) way := f12.2.1
      clear f12
      refine ov_blk (ls2 := [(0, ov_r 90), (1, ov_i way), (2, ov_i run), (3, ov_i (h 103 0)), (4, ov_i (h 103 1))]) (st2 := [ov_i (-1)]) (pc2 := 71) b_253_70_1 rfl rfl ?_
      exact ov_reti (st := []) d_253_71 rfl ⟨_, rfl, I1, ⟨rfl, rfl, rfl, rfl, rfl, rfl, rfl, rfl, rfl, rfl, rfl, (by show -2147483648 ≤ (-1) ∧ (-1) ≤ 2147483647; omega)⟩, rfl, rfl, rfl, rfl, rfl, rfl, rfl, rfl, rfl, rfl, rfl, rfl, rfl, rfl, rfl, (fun j h1 h2 => rfl), (Or.inl ⟨rfl, (by omega), (show (ov_up h 90 0 0) 103 = h 103 from rfl), (show (h 90 20) = h 90 20 from rfl)⟩)⟩
    · skip
      have f12_ : v11 = 1 := by omega
      have f15 : v11 = ov_cgi (h 96) (h 103 0) (h 103 1) way := f12.2.1
      have f16 : ((way = 0 → (h 103 0) < (h 96 0) - 1) ∧ (¬ way = 0 → (h 103 1) < (h 96 1) - 1)) ∧ (((h 96 (10 + 4 * (6 * (h 103 1) + (h 103 0)))) = 1 ∨ (h 96 (10 + 4 * (6 * (h 103 1) + (h 103 0)))) = 2) → (way = 0 → 0 < (h 96 (10 + 4 * (6 * (h 103 1) + (h 103 0)) + 3))) ∧ (¬ way = 0 → (h 96 (10 + 4 * (6 * (h 103 1) + (h 103 0)) + 3)) < (h 96 (10 + 4 * (6 * (h 103 1) + (h 103 0)) + 1)))) := f12.2.2 (by omega)
      clear f12
      refine ov_blk (ls2 := [(0, ov_r 90), (1, ov_i way), (2, ov_i run), (3, ov_i (h 103 0)), (4, ov_i (h 103 1))]) (st2 := [ov_i run]) (pc2 := 41) b_253_40_1 rfl rfl ?_
      refine ov_ifeq (tgt := 72) d_253_41 (by decide) (by omega) (fun c17 => ?_) (fun c17 => ?_)
      · skip
        refine ov_blk (ls2 := [(0, ov_r 90), (1, ov_i way), (2, ov_i run), (3, ov_i (h 103 0)), (4, ov_i (h 103 1))]) (st2 := [ov_r 90]) (pc2 := 73) b_253_72_1 rfl rfl ?_
        refine ov_cV (as := []) (st := []) (d2 := d - 1) d_253_73 lk_Mo_329 rfl (Nat.le_of_ble_eq_true rfl) (c := 1) (zb_90 I1) (zs_90 I1) ⟨by decide, rfl⟩ (by omega) (c_Mo_keeps_90_t (d - 1) (by omega) U I1) ?_
        rintro _ z36 h37 ⟨rfl, I38, f18, e19, e20, e21, e22, e23, e24, e25, e26, e27, e28, e29, e30, e31, e32, e33, y34, y35⟩
        have E39 : h37 91 = h 91 := e19
        have E40 : h37 92 = h 92 := e20
        have E41 : h37 93 = h 93 := e21
        have E42 : h37 94 = h 94 := e22
        have E43 : h37 95 = h 95 := e23
        have E44 : h37 96 = h 96 := e24
        have E45 : h37 97 = h 97 := e25
        have E46 : h37 98 = h 98 := e26
        have E47 : h37 99 = h 99 := e27
        have E48 : h37 100 = h 100 := e28
        have E49 : h37 104 = h 104 := e29
        have E50 : h37 105 = h 105 := e30
        have E51 : h37 106 = h 106 := e31
        have E52 : h37 109 = h 109 := e32
        have E53 : h37 114 = h 114 := e33
        show ov_R u d ov_m253 76 [(0, ov_r 90), (1, ov_i way), (2, ov_i run), (3, ov_i (h 103 0)), (4, ov_i (h 103 1))] [] z36 h37 (P_Mo_go_90_t F z h way run)
        have f54 : (h37 90 2) = (h 90 2) ∧ (h37 90 7) = (h 90 7) ∧ (h37 90 8) = (h 90 8) ∧ (h37 90 13) = (h 90 13) ∧ (h37 90 22) = (h 90 22) ∧ (h37 90 25) = (h 90 25) ∧ (h37 90 26) = (h 90 26) ∧ (h37 90 28) = (h 90 28) ∧ (h37 90 29) = (h 90 29) ∧ (h37 90 30) = (h 90 30) ∧ (h37 90 34) = (h 90 34) ∧ ((h 90 20) = 16 → (h37 90 20) = 16) ∧ (¬ (h 90 20) = 16 → (h37 90 20) = (h 90 20) + 1) := f18
        clear f18
        have y34_ : ∀ j : Int, j < 600 → (h37 103) j = (h 103) j := y34
        have y35_ : (h37 103) = kp_f (h 103) (h 90 20) := y35
        have xg0 := y34_ 0 (by decide)
        have xg1 := y34_ 1 (by decide)
        have xg2 := y34_ 2 (by decide)
        have xg3 := y34_ 3 (by decide)
        refine ov_blk (ls2 := [(0, ov_r 90), (1, ov_i way), (2, ov_i run), (3, ov_i (h 103 0)), (4, ov_i (h 103 1))]) (st2 := [ov_r 90]) (pc2 := 77) b_253_76_1 rfl rfl ?_
        refine ov_getf (v := ov_r 103) d_253_77 fl_Mo_102 (zb_90 I38) (zs_90 I38) (congrArg ov_r (rg_90_19 I38)) ?_
        refine ov_blk (ls2 := [(0, ov_r 90), (1, ov_i way), (2, ov_i run), (3, ov_i (h 103 0)), (4, ov_i (h 103 1))]) (st2 := [ov_i 2, ov_r 103, ov_i 2, ov_r 103]) (pc2 := 82) b_253_80_2 rfl rfl ?_
        refine ov_iald d_253_82 (zb_103 I38) (zs_103 I38) (by omega) ?_
        have g55 := s103_2 I38
        refine ov_blk (ls2 := [(0, ov_r 90), (1, ov_i way), (2, ov_i run), (3, ov_i (h 103 0)), (4, ov_i (h 103 1))]) (st2 := [ov_r 90, ov_i way, ov_i (h 103 1), ov_i (h 103 0), ov_r 90, ov_i (h37 103 2), ov_i 2, ov_r 103]) (pc2 := 89) b_253_83_5 rfl rfl ?_
        refine ov_getf (v := ov_r 103) d_253_89 fl_Mo_102 (zb_90 I38) (zs_90 I38) (congrArg ov_r (rg_90_19 I38)) ?_
        refine ov_blk (ls2 := [(0, ov_r 90), (1, ov_i way), (2, ov_i run), (3, ov_i (h 103 0)), (4, ov_i (h 103 1))]) (st2 := [ov_i 2, ov_r 103, ov_i way, ov_i (h 103 1), ov_i (h 103 0), ov_r 90, ov_i (h37 103 2), ov_i 2, ov_r 103]) (pc2 := 93) b_253_92_1 rfl rfl ?_
        refine ov_iald d_253_93 (zb_103 I38) (zs_103 I38) (by omega) ?_
        have cf57 : h37 96 (10 + 4 * (6 * (h 103 1) + (h 103 0))) = h 96 (10 + 4 * (6 * (h 103 1) + (h 103 0))) := congrFun E44 (10 + 4 * (6 * (h 103 1) + (h 103 0)))
        have cf58 : h37 96 (10 + 4 * (6 * (h 103 1) + (h 103 0)) + 3) = h 96 (10 + 4 * (6 * (h 103 1) + (h 103 0)) + 3) := congrFun E44 (10 + 4 * (6 * (h 103 1) + (h 103 0)) + 3)
        have cf59 : h37 96 (10 + 4 * (6 * (h 103 1) + (h 103 0)) + 1) = h 96 (10 + 4 * (6 * (h 103 1) + (h 103 0)) + 1) := congrFun E44 (10 + 4 * (6 * (h 103 1) + (h 103 0)) + 1)
        refine ov_cV (as := [ov_i (h 103 0), ov_i (h 103 1), ov_i way, ov_i (h37 103 2)]) (st := [ov_i (h37 103 2), ov_i 2, ov_r 103]) (d2 := d - 1) d_253_94 lk_Mo_315 rfl (Nat.le_of_ble_eq_true rfl) (c := 1) (zb_90 I38) (zs_90 I38) ⟨by decide, rfl⟩ (by omega) (c_Mo_waitFor_90 (d - 1) (by omega) U I38 (h 103 0) (h 103 1) way (h37 103 2) (by omega) (by omega) (by omega) (by omega) (by omega) (by omega) (by omega) (by show (((h37 96 (10 + 4 * (6 * (h 103 1) + (h 103 0)))) = 1 ∨ (h37 96 (10 + 4 * (6 * (h 103 1) + (h 103 0)))) = 2) → (way = 0 → 0 < (h37 96 (10 + 4 * (6 * (h 103 1) + (h 103 0)) + 3))) ∧ (¬ way = 0 → (h37 96 (10 + 4 * (6 * (h 103 1) + (h 103 0)) + 3)) < (h37 96 (10 + 4 * (6 * (h 103 1) + (h 103 0)) + 1)))); omega) (by rw [show h37 96 = h 96 from E44]; exact W)) ?_
        rintro _ _ _ ⟨v61, rfl, rfl, rfl, f60⟩
        show ov_R u d ov_m253 97 [(0, ov_r 90), (1, ov_i way), (2, ov_i run), (3, ov_i (h 103 0)), (4, ov_i (h 103 1))] [ov_i v61, ov_i (h37 103 2), ov_i 2, ov_r 103] z36 h37 (P_Mo_go_90_t F z h way run)
        rw [show h37 96 = h 96 from E44] at f60
        have f62 : 0 ≤ v61 ∧ v61 ≤ 59 ∧ v61 = ov_wm (h 96) (6 * (h 103 1) + (h 103 0)) way (h37 103 2) := f60
        clear f60
        refine ov_blk (ls2 := [(0, ov_r 90), (1, ov_i way), (2, ov_i run), (3, ov_i (h 103 0)), (4, ov_i (h 103 1))]) (st2 := [ov_i run, ov_i v61, ov_i (h37 103 2), ov_i 2, ov_r 103]) (pc2 := 98) b_253_97_1 rfl rfl ?_
        refine ov_ifeq (tgt := 108) d_253_98 (by decide) (by omega) (fun c63 => ?_) (fun c63 => ?_)
        · skip
          refine ov_blk (ls2 := [(0, ov_r 90), (1, ov_i way), (2, ov_i run), (3, ov_i (h 103 0)), (4, ov_i (h 103 1))]) (st2 := [ov_r 90, ov_i v61, ov_i (h37 103 2), ov_i 2, ov_r 103]) (pc2 := 109) b_253_108_1 rfl rfl ?_
          refine ov_getf (v := ov_r 96) d_253_109 fl_Mo_81 (zb_90 I38) (zs_90 I38) (congrArg ov_r (rg_90_10 I38)) ?_
          refine ov_blk (ls2 := [(0, ov_r 90), (1, ov_i way), (2, ov_i run), (3, ov_i (h 103 0)), (4, ov_i (h 103 1))]) (st2 := [ov_i 2, ov_r 96, ov_i v61, ov_i (h37 103 2), ov_i 2, ov_r 103]) (pc2 := 113) b_253_112_1 rfl rfl ?_
          refine ov_iald d_253_113 (zb_96 I38) (zs_96 I38) (by omega) ?_
          rw [show h37 96 = h 96 from E44]
          have g64 := t96_2 I
          refine ov_blk (ls2 := [(0, ov_r 90), (1, ov_i way), (2, ov_i run), (3, ov_i (h 103 0)), (4, ov_i (h 103 1))]) (st2 := [ov_i ((h37 103 2) + (v61 + (h 96 2))), ov_i 2, ov_r 103]) (pc2 := 116) b_253_114_2 rfl rfl ?_
          refine ov_iast d_253_116 (zb_103 I38) (zs_103 I38) (by omega) ?_
          have I65 := ua_103 (k := 2) (x := ((h37 103 2) + (v61 + (h 96 2)))) I38 (by refine ⟨?_, ?_, ?_, ?_, ?_, ?_⟩ <;> omega)
          refine ov_blk (ls2 := [(0, ov_r 90), (1, ov_i way), (2, ov_i run), (3, ov_i (h 103 0)), (4, ov_i (h 103 1))]) (st2 := [ov_r 90]) (pc2 := 118) b_253_117_1 rfl rfl ?_
          refine ov_getf (v := ov_r 103) d_253_118 fl_Mo_102 (zb_90 I65) (zs_90 I65) (congrArg ov_r (rg_90_19 I65)) ?_
          refine ov_blk (ls2 := [(0, ov_r 90), (1, ov_i way), (2, ov_i run), (3, ov_i (h 103 0)), (4, ov_i (h 103 1))]) (st2 := [ov_i 0, ov_r 103, ov_i 0, ov_r 103]) (pc2 := 123) b_253_121_2 rfl rfl ?_
          refine ov_iald d_253_123 (zb_103 I65) (zs_103 I65) (by omega) ?_
          show ov_R u d ov_m253 124 [(0, ov_r 90), (1, ov_i way), (2, ov_i run), (3, ov_i (h 103 0)), (4, ov_i (h 103 1))] [ov_i (h37 103 0), ov_i 0, ov_r 103] z36 (ov_up h37 103 2 ((h37 103 2) + (v61 + (h 96 2)))) (P_Mo_go_90_t F z h way run)
          have g66 := s103_0 I38
          refine ov_blk (ls2 := [(0, ov_r 90), (1, ov_i way), (2, ov_i run), (3, ov_i (h 103 0)), (4, ov_i (h 103 1))]) (st2 := [ov_i ((h37 103 0) + (1 - way)), ov_i 0, ov_r 103]) (pc2 := 128) b_253_124_4 rfl rfl ?_
          refine ov_iast d_253_128 (zb_103 I65) (zs_103 I65) (by omega) ?_
          have I67 := ua_103 (k := 0) (x := ((h37 103 0) + (1 - way))) I65 (by refine ⟨?_, ?_, ?_, ?_, ?_, ?_⟩ <;> omega)
          refine ov_blk (ls2 := [(0, ov_r 90), (1, ov_i way), (2, ov_i run), (3, ov_i (h 103 0)), (4, ov_i (h 103 1))]) (st2 := [ov_r 90]) (pc2 := 130) b_253_129_1 rfl rfl ?_
          refine ov_getf (v := ov_r 103) d_253_130 fl_Mo_102 (zb_90 I67) (zs_90 I67) (congrArg ov_r (rg_90_19 I67)) ?_
          refine ov_blk (ls2 := [(0, ov_r 90), (1, ov_i way), (2, ov_i run), (3, ov_i (h 103 0)), (4, ov_i (h 103 1))]) (st2 := [ov_i 1, ov_r 103, ov_i 1, ov_r 103]) (pc2 := 135) b_253_133_2 rfl rfl ?_
          refine ov_iald d_253_135 (zb_103 I67) (zs_103 I67) (by omega) ?_
          show ov_R u d ov_m253 136 [(0, ov_r 90), (1, ov_i way), (2, ov_i run), (3, ov_i (h 103 0)), (4, ov_i (h 103 1))] [ov_i (h37 103 1), ov_i 1, ov_r 103] z36 (ov_up (ov_up h37 103 2 ((h37 103 2) + (v61 + (h 96 2)))) 103 0 ((h37 103 0) + (1 - way))) (P_Mo_go_90_t F z h way run)
          have g68 := s103_1 I38
          refine ov_blk (ls2 := [(0, ov_r 90), (1, ov_i way), (2, ov_i run), (3, ov_i (h 103 0)), (4, ov_i (h 103 1))]) (st2 := [ov_i ((h37 103 1) + way), ov_i 1, ov_r 103]) (pc2 := 138) b_253_136_2 rfl rfl ?_
          refine ov_iast d_253_138 (zb_103 I67) (zs_103 I67) (by omega) ?_
          have I69 := ua_103 (k := 1) (x := ((h37 103 1) + way)) I67 (by refine ⟨?_, ?_, ?_, ?_, ?_, ?_⟩ <;> omega)
          refine ov_blk (ls2 := [(0, ov_r 90), (1, ov_i way), (2, ov_i run), (3, ov_i (h 103 0)), (4, ov_i (h 103 1))]) (st2 := [ov_r 90]) (pc2 := 140) b_253_139_1 rfl rfl ?_
          refine ov_getf (v := ov_r 103) d_253_140 fl_Mo_102 (zb_90 I69) (zs_90 I69) (congrArg ov_r (rg_90_19 I69)) ?_
          refine ov_blk (ls2 := [(0, ov_r 90), (1, ov_i way), (2, ov_i run), (3, ov_i (h 103 0)), (4, ov_i (h 103 1))]) (st2 := [ov_i 3, ov_r 103, ov_i 3, ov_r 103]) (pc2 := 145) b_253_143_2 rfl rfl ?_
          refine ov_iald d_253_145 (zb_103 I69) (zs_103 I69) (by omega) ?_
          show ov_R u d ov_m253 146 [(0, ov_r 90), (1, ov_i way), (2, ov_i run), (3, ov_i (h 103 0)), (4, ov_i (h 103 1))] [ov_i (h37 103 3), ov_i 3, ov_r 103] z36 (ov_up (ov_up (ov_up h37 103 2 ((h37 103 2) + (v61 + (h 96 2)))) 103 0 ((h37 103 0) + (1 - way))) 103 1 ((h37 103 1) + way)) (P_Mo_go_90_t F z h way run)
          have g70 := g103 I38 3
          refine ov_blk (ls2 := [(0, ov_r 90), (1, ov_i way), (2, ov_i run), (3, ov_i (h 103 0)), (4, ov_i (h 103 1))]) (st2 := [ov_i run, ov_i (h37 103 3), ov_i 3, ov_r 103]) (pc2 := 147) b_253_146_1 rfl rfl ?_
          refine ov_ifeq (tgt := 154) d_253_147 (by decide) (by omega) (fun c71 => ?_) (fun c71 => ?_)
          · skip
            refine ov_blk (ls2 := [(0, ov_r 90), (1, ov_i way), (2, ov_i run), (3, ov_i (h 103 0)), (4, ov_i (h 103 1))]) (st2 := [ov_i ((h37 103 3) + 0), ov_i 3, ov_r 103]) (pc2 := 156) b_253_154_2 rfl rfl ?_
            refine ov_iast d_253_156 (zb_103 I69) (zs_103 I69) (by omega) ?_
            have I72 := ua_103 (k := 3) (x := ((h37 103 3) + 0)) I69 (by refine ⟨?_, ?_, ?_, ?_, ?_, ?_⟩ <;> omega)
            refine ov_blk (ls2 := [(0, ov_r 90), (1, ov_i way), (2, ov_i run), (3, ov_i (h 103 0)), (4, ov_i (h 103 1))]) (st2 := [ov_r 90]) (pc2 := 158) b_253_157_1 rfl rfl ?_
            refine ov_getf (v := ov_r 103) d_253_158 fl_Mo_102 (zb_90 I72) (zs_90 I72) (congrArg ov_r (rg_90_19 I72)) ?_
            refine ov_blk (ls2 := [(0, ov_r 90), (1, ov_i way), (2, ov_i run), (3, ov_i (h 103 0)), (4, ov_i (h 103 1))]) (st2 := [ov_i 2, ov_r 103]) (pc2 := 162) b_253_161_1 rfl rfl ?_
            refine ov_iald d_253_162 (zb_103 I72) (zs_103 I72) (by omega) ?_
            show ov_R u d ov_m253 163 [(0, ov_r 90), (1, ov_i way), (2, ov_i run), (3, ov_i (h 103 0)), (4, ov_i (h 103 1))] [ov_i ((h37 103 2) + (v61 + (h 96 2)))] z36 (ov_up (ov_up (ov_up (ov_up h37 103 2 ((h37 103 2) + (v61 + (h 96 2)))) 103 0 ((h37 103 0) + (1 - way))) 103 1 ((h37 103 1) + way)) 103 3 ((h37 103 3) + 0)) (P_Mo_go_90_t F z h way run)
            have xrt : (h 96 2) = st_rt (h 96) run := st_rt_of (by omega) (by omega) (by omega)
            have xwm : ov_wm (h 96) (6 * h 103 1 + h 103 0) way (h37 103 2) = ov_wm (h 96) (6 * h 103 1 + h 103 0) way (h 103 2) := by rw [xg2]
            exact ov_reti (st := []) d_253_163 rfl ⟨_, rfl, I72, (by show (h37 90 2) = (h 90 2) ∧ (h37 90 7) = (h 90 7) ∧ (h37 90 8) = (h 90 8) ∧ (h37 90 13) = (h 90 13) ∧ (h37 90 22) = (h 90 22) ∧ (h37 90 25) = (h 90 25) ∧ (h37 90 26) = (h 90 26) ∧ (h37 90 28) = (h 90 28) ∧ (h37 90 29) = (h 90 29) ∧ (h37 90 30) = (h 90 30) ∧ (h37 90 34) = (h 90 34) ∧ -2147483648 ≤ ((h37 103 2) + (v61 + (h 96 2))) ∧ ((h37 103 2) + (v61 + (h 96 2))) ≤ 2147483647; omega), E39, E40, E41, E42, E43, E44, E45, E46, E47, E48, E49, E50, E51, E52, E53, (fun j h1 h2 => by show (ov_up (ov_up (ov_up (ov_up h37 103 2 ((h37 103 2) + (v61 + (h 96 2)))) 103 0 ((h37 103 0) + (1 - way))) 103 1 ((h37 103 1) + way)) 103 3 ((h37 103 3) + 0)) 103 j = h 103 j; rw [ov_up_j (by omega)]; rw [ov_up_j (by omega)]; rw [ov_up_j (by omega)]; rw [ov_up_j (by omega)]; exact y34_ j (by omega)), (Or.inr ⟨(by omega), (by show ((h37 103 2) + (v61 + (h 96 2))) = (h 103 2) + (ov_wm (h 96) (6 * (h 103 1) + (h 103 0)) way (h 103 2) + st_rt (h 96) run); omega), (st_up (st_up (st_up (st_up y35_ (by omega) (by omega)) (by omega) (by omega)) (by omega) (by omega)) (by omega) (by omega)), (by show (h37 90 20) = kp_u (h 90 20); exact kp_u_of (by omega) (by omega))⟩)⟩
          · omega
        · omega
      · skip
        refine ov_blk (ls2 := [(0, ov_r 90), (1, ov_i way), (2, ov_i run), (3, ov_i (h 103 0)), (4, ov_i (h 103 1))]) (st2 := [ov_r 90]) (pc2 := 45) b_253_44_1 rfl rfl ?_
        refine ov_getf (v := ov_r 96) d_253_45 fl_Mo_81 (zb_90 I1) (zs_90 I1) (congrArg ov_r (rg_90_10 I1)) ?_
        refine ov_blk (ls2 := [(0, ov_r 90), (1, ov_i way), (2, ov_i run), (3, ov_i (h 103 0)), (4, ov_i (h 103 1))]) (st2 := [ov_i 6, ov_r 96]) (pc2 := 50) b_253_48_1 rfl rfl ?_
        refine ov_iald d_253_50 (zb_96 I1) (zs_96 I1) (by omega) ?_
        show ov_R u d ov_m253 51 [(0, ov_r 90), (1, ov_i way), (2, ov_i run), (3, ov_i (h 103 0)), (4, ov_i (h 103 1))] [ov_i (h 96 6)] z (ov_up h 90 0 0) (P_Mo_go_90_t F z h way run)
        have g73 := t96_6 I
        refine ov_blk (ls2 := [(0, ov_r 90), (1, ov_i way), (2, ov_i run), (3, ov_i (h 103 0)), (4, ov_i (h 103 1))]) (st2 := [ov_i 1, ov_i (h 96 6)]) (pc2 := 52) b_253_51_1 rfl rfl ?_
        refine ov_iceq (tgt := 70) d_253_52 (by decide) (by omega) (by omega) (fun c74 => ?_) (fun c74 => ?_)
        · skip
          refine ov_blk (ls2 := [(0, ov_r 90), (1, ov_i way), (2, ov_i run), (3, ov_i (h 103 0)), (4, ov_i (h 103 1))]) (st2 := [ov_i (-1)]) (pc2 := 71) b_253_70_1 rfl rfl ?_
          exact ov_reti (st := []) d_253_71 rfl ⟨_, rfl, I1, ⟨rfl, rfl, rfl, rfl, rfl, rfl, rfl, rfl, rfl, rfl, rfl, (by show -2147483648 ≤ (-1) ∧ (-1) ≤ 2147483647; omega)⟩, rfl, rfl, rfl, rfl, rfl, rfl, rfl, rfl, rfl, rfl, rfl, rfl, rfl, rfl, rfl, (fun j h1 h2 => rfl), (Or.inl ⟨rfl, (by omega), (show (ov_up h 90 0 0) 103 = h 103 from rfl), (show (h 90 20) = h 90 20 from rfl)⟩)⟩
        · skip
          refine ov_blk (ls2 := [(0, ov_r 90), (1, ov_i way), (2, ov_i run), (3, ov_i (h 103 0)), (4, ov_i (h 103 1))]) (st2 := [ov_r 90]) (pc2 := 56) b_253_55_1 rfl rfl ?_
          refine ov_getf (v := ov_r 103) d_253_56 fl_Mo_102 (zb_90 I1) (zs_90 I1) (congrArg ov_r (rg_90_19 I1)) ?_
          refine ov_blk (ls2 := [(0, ov_r 90), (1, ov_i way), (2, ov_i run), (3, ov_i (h 103 0)), (4, ov_i (h 103 1))]) (st2 := [ov_i 3, ov_r 103]) (pc2 := 60) b_253_59_1 rfl rfl ?_
          refine ov_iald d_253_60 (zb_103 I1) (zs_103 I1) (by omega) ?_
          show ov_R u d ov_m253 61 [(0, ov_r 90), (1, ov_i way), (2, ov_i run), (3, ov_i (h 103 0)), (4, ov_i (h 103 1))] [ov_i (h 103 3)] z (ov_up h 90 0 0) (P_Mo_go_90_t F z h way run)
          have g75 := g103 I 3
          refine ov_blk (ls2 := [(0, ov_r 90), (1, ov_i way), (2, ov_i run), (3, ov_i (h 103 0)), (4, ov_i (h 103 1))]) (st2 := [ov_r 90, ov_i (h 103 3)]) (pc2 := 62) b_253_61_1 rfl rfl ?_
          refine ov_getf (v := ov_r 96) d_253_62 fl_Mo_81 (zb_90 I1) (zs_90 I1) (congrArg ov_r (rg_90_10 I1)) ?_
          refine ov_blk (ls2 := [(0, ov_r 90), (1, ov_i way), (2, ov_i run), (3, ov_i (h 103 0)), (4, ov_i (h 103 1))]) (st2 := [ov_i 5, ov_r 96, ov_i (h 103 3)]) (pc2 := 66) b_253_65_1 rfl rfl ?_
          refine ov_iald d_253_66 (zb_96 I1) (zs_96 I1) (by omega) ?_
          show ov_R u d ov_m253 67 [(0, ov_r 90), (1, ov_i way), (2, ov_i run), (3, ov_i (h 103 0)), (4, ov_i (h 103 1))] [ov_i (h 96 5), ov_i (h 103 3)] z (ov_up h 90 0 0) (P_Mo_go_90_t F z h way run)
          have g76 := t96_5 I
          refine ov_icne (tgt := 72) d_253_67 (by decide) (by omega) (by omega) (fun c77 => ?_) (fun c77 => ?_)
          · skip
            refine ov_blk (ls2 := [(0, ov_r 90), (1, ov_i way), (2, ov_i run), (3, ov_i (h 103 0)), (4, ov_i (h 103 1))]) (st2 := [ov_r 90]) (pc2 := 73) b_253_72_1 rfl rfl ?_
            refine ov_cV (as := []) (st := []) (d2 := d - 1) d_253_73 lk_Mo_329 rfl (Nat.le_of_ble_eq_true rfl) (c := 1) (zb_90 I1) (zs_90 I1) ⟨by decide, rfl⟩ (by omega) (c_Mo_keeps_90_t (d - 1) (by omega) U I1) ?_
            rintro _ z96 h97 ⟨rfl, I98, f78, e79, e80, e81, e82, e83, e84, e85, e86, e87, e88, e89, e90, e91, e92, e93, y94, y95⟩
            have E99 : h97 91 = h 91 := e79
            have E100 : h97 92 = h 92 := e80
            have E101 : h97 93 = h 93 := e81
            have E102 : h97 94 = h 94 := e82
            have E103 : h97 95 = h 95 := e83
            have E104 : h97 96 = h 96 := e84
            have E105 : h97 97 = h 97 := e85
            have E106 : h97 98 = h 98 := e86
            have E107 : h97 99 = h 99 := e87
            have E108 : h97 100 = h 100 := e88
            have E109 : h97 104 = h 104 := e89
            have E110 : h97 105 = h 105 := e90
            have E111 : h97 106 = h 106 := e91
            have E112 : h97 109 = h 109 := e92
            have E113 : h97 114 = h 114 := e93
            show ov_R u d ov_m253 76 [(0, ov_r 90), (1, ov_i way), (2, ov_i run), (3, ov_i (h 103 0)), (4, ov_i (h 103 1))] [] z96 h97 (P_Mo_go_90_t F z h way run)
            have f114 : (h97 90 2) = (h 90 2) ∧ (h97 90 7) = (h 90 7) ∧ (h97 90 8) = (h 90 8) ∧ (h97 90 13) = (h 90 13) ∧ (h97 90 22) = (h 90 22) ∧ (h97 90 25) = (h 90 25) ∧ (h97 90 26) = (h 90 26) ∧ (h97 90 28) = (h 90 28) ∧ (h97 90 29) = (h 90 29) ∧ (h97 90 30) = (h 90 30) ∧ (h97 90 34) = (h 90 34) ∧ ((h 90 20) = 16 → (h97 90 20) = 16) ∧ (¬ (h 90 20) = 16 → (h97 90 20) = (h 90 20) + 1) := f78
            clear f78
            have y94_ : ∀ j : Int, j < 600 → (h97 103) j = (h 103) j := y94
            have y95_ : (h97 103) = kp_f (h 103) (h 90 20) := y95
            have xg0 := y94_ 0 (by decide)
            have xg1 := y94_ 1 (by decide)
            have xg2 := y94_ 2 (by decide)
            have xg3 := y94_ 3 (by decide)
            refine ov_blk (ls2 := [(0, ov_r 90), (1, ov_i way), (2, ov_i run), (3, ov_i (h 103 0)), (4, ov_i (h 103 1))]) (st2 := [ov_r 90]) (pc2 := 77) b_253_76_1 rfl rfl ?_
            refine ov_getf (v := ov_r 103) d_253_77 fl_Mo_102 (zb_90 I98) (zs_90 I98) (congrArg ov_r (rg_90_19 I98)) ?_
            refine ov_blk (ls2 := [(0, ov_r 90), (1, ov_i way), (2, ov_i run), (3, ov_i (h 103 0)), (4, ov_i (h 103 1))]) (st2 := [ov_i 2, ov_r 103, ov_i 2, ov_r 103]) (pc2 := 82) b_253_80_2 rfl rfl ?_
            refine ov_iald d_253_82 (zb_103 I98) (zs_103 I98) (by omega) ?_
            have g115 := s103_2 I98
            refine ov_blk (ls2 := [(0, ov_r 90), (1, ov_i way), (2, ov_i run), (3, ov_i (h 103 0)), (4, ov_i (h 103 1))]) (st2 := [ov_r 90, ov_i way, ov_i (h 103 1), ov_i (h 103 0), ov_r 90, ov_i (h97 103 2), ov_i 2, ov_r 103]) (pc2 := 89) b_253_83_5 rfl rfl ?_
            refine ov_getf (v := ov_r 103) d_253_89 fl_Mo_102 (zb_90 I98) (zs_90 I98) (congrArg ov_r (rg_90_19 I98)) ?_
            refine ov_blk (ls2 := [(0, ov_r 90), (1, ov_i way), (2, ov_i run), (3, ov_i (h 103 0)), (4, ov_i (h 103 1))]) (st2 := [ov_i 2, ov_r 103, ov_i way, ov_i (h 103 1), ov_i (h 103 0), ov_r 90, ov_i (h97 103 2), ov_i 2, ov_r 103]) (pc2 := 93) b_253_92_1 rfl rfl ?_
            refine ov_iald d_253_93 (zb_103 I98) (zs_103 I98) (by omega) ?_
            have cf117 : h97 96 (10 + 4 * (6 * (h 103 1) + (h 103 0))) = h 96 (10 + 4 * (6 * (h 103 1) + (h 103 0))) := congrFun E104 (10 + 4 * (6 * (h 103 1) + (h 103 0)))
            have cf118 : h97 96 (10 + 4 * (6 * (h 103 1) + (h 103 0)) + 3) = h 96 (10 + 4 * (6 * (h 103 1) + (h 103 0)) + 3) := congrFun E104 (10 + 4 * (6 * (h 103 1) + (h 103 0)) + 3)
            have cf119 : h97 96 (10 + 4 * (6 * (h 103 1) + (h 103 0)) + 1) = h 96 (10 + 4 * (6 * (h 103 1) + (h 103 0)) + 1) := congrFun E104 (10 + 4 * (6 * (h 103 1) + (h 103 0)) + 1)
            refine ov_cV (as := [ov_i (h 103 0), ov_i (h 103 1), ov_i way, ov_i (h97 103 2)]) (st := [ov_i (h97 103 2), ov_i 2, ov_r 103]) (d2 := d - 1) d_253_94 lk_Mo_315 rfl (Nat.le_of_ble_eq_true rfl) (c := 1) (zb_90 I98) (zs_90 I98) ⟨by decide, rfl⟩ (by omega) (c_Mo_waitFor_90 (d - 1) (by omega) U I98 (h 103 0) (h 103 1) way (h97 103 2) (by omega) (by omega) (by omega) (by omega) (by omega) (by omega) (by omega) (by show (((h97 96 (10 + 4 * (6 * (h 103 1) + (h 103 0)))) = 1 ∨ (h97 96 (10 + 4 * (6 * (h 103 1) + (h 103 0)))) = 2) → (way = 0 → 0 < (h97 96 (10 + 4 * (6 * (h 103 1) + (h 103 0)) + 3))) ∧ (¬ way = 0 → (h97 96 (10 + 4 * (6 * (h 103 1) + (h 103 0)) + 3)) < (h97 96 (10 + 4 * (6 * (h 103 1) + (h 103 0)) + 1)))); omega) (by rw [show h97 96 = h 96 from E104]; exact W)) ?_
            rintro _ _ _ ⟨v121, rfl, rfl, rfl, f120⟩
            show ov_R u d ov_m253 97 [(0, ov_r 90), (1, ov_i way), (2, ov_i run), (3, ov_i (h 103 0)), (4, ov_i (h 103 1))] [ov_i v121, ov_i (h97 103 2), ov_i 2, ov_r 103] z96 h97 (P_Mo_go_90_t F z h way run)
            rw [show h97 96 = h 96 from E104] at f120
            have f122 : 0 ≤ v121 ∧ v121 ≤ 59 ∧ v121 = ov_wm (h 96) (6 * (h 103 1) + (h 103 0)) way (h97 103 2) := f120
            clear f120
            refine ov_blk (ls2 := [(0, ov_r 90), (1, ov_i way), (2, ov_i run), (3, ov_i (h 103 0)), (4, ov_i (h 103 1))]) (st2 := [ov_i run, ov_i v121, ov_i (h97 103 2), ov_i 2, ov_r 103]) (pc2 := 98) b_253_97_1 rfl rfl ?_
            refine ov_ifeq (tgt := 108) d_253_98 (by decide) (by omega) (fun c123 => ?_) (fun c123 => ?_)
            · omega
            · skip
              refine ov_blk (ls2 := [(0, ov_r 90), (1, ov_i way), (2, ov_i run), (3, ov_i (h 103 0)), (4, ov_i (h 103 1))]) (st2 := [ov_r 90, ov_i v121, ov_i (h97 103 2), ov_i 2, ov_r 103]) (pc2 := 102) b_253_101_1 rfl rfl ?_
              refine ov_cV (as := []) (st := [ov_i v121, ov_i (h97 103 2), ov_i 2, ov_r 103]) (d2 := d - 1) d_253_102 lk_Mo_332 rfl (Nat.le_of_ble_eq_true rfl) (c := 1) (zb_90 I98) (zs_90 I98) ⟨by decide, rfl⟩ (by omega) (c_Mo_runTime_90_t (d - 1) (by omega) U I98) ?_
              rintro _ _ _ ⟨v125, rfl, rfl, rfl, f124⟩
              show ov_R u d ov_m253 105 [(0, ov_r 90), (1, ov_i way), (2, ov_i run), (3, ov_i (h 103 0)), (4, ov_i (h 103 1))] [ov_i v125, ov_i v121, ov_i (h97 103 2), ov_i 2, ov_r 103] z96 h97 (P_Mo_go_90_t F z h way run)
              rw [show h97 96 = h 96 from E104] at f124
              have f126 : ((h 96 3) < 0 → v125 = (h 96 2)) ∧ (¬ (h 96 3) < 0 → v125 = (h 96 3)) ∧ 0 ≤ v125 ∧ v125 ≤ 30 := f124
              clear f124
              refine ov_goto (tgt := 114) d_253_105 (by decide) ?_
              refine ov_blk (ls2 := [(0, ov_r 90), (1, ov_i way), (2, ov_i run), (3, ov_i (h 103 0)), (4, ov_i (h 103 1))]) (st2 := [ov_i ((h97 103 2) + (v121 + v125)), ov_i 2, ov_r 103]) (pc2 := 116) b_253_114_2 rfl rfl ?_
              refine ov_iast d_253_116 (zb_103 I98) (zs_103 I98) (by omega) ?_
              have I127 := ua_103 (k := 2) (x := ((h97 103 2) + (v121 + v125))) I98 (by refine ⟨?_, ?_, ?_, ?_, ?_, ?_⟩ <;> omega)
              refine ov_blk (ls2 := [(0, ov_r 90), (1, ov_i way), (2, ov_i run), (3, ov_i (h 103 0)), (4, ov_i (h 103 1))]) (st2 := [ov_r 90]) (pc2 := 118) b_253_117_1 rfl rfl ?_
              refine ov_getf (v := ov_r 103) d_253_118 fl_Mo_102 (zb_90 I127) (zs_90 I127) (congrArg ov_r (rg_90_19 I127)) ?_
              refine ov_blk (ls2 := [(0, ov_r 90), (1, ov_i way), (2, ov_i run), (3, ov_i (h 103 0)), (4, ov_i (h 103 1))]) (st2 := [ov_i 0, ov_r 103, ov_i 0, ov_r 103]) (pc2 := 123) b_253_121_2 rfl rfl ?_
              refine ov_iald d_253_123 (zb_103 I127) (zs_103 I127) (by omega) ?_
              show ov_R u d ov_m253 124 [(0, ov_r 90), (1, ov_i way), (2, ov_i run), (3, ov_i (h 103 0)), (4, ov_i (h 103 1))] [ov_i (h97 103 0), ov_i 0, ov_r 103] z96 (ov_up h97 103 2 ((h97 103 2) + (v121 + v125))) (P_Mo_go_90_t F z h way run)
              have g128 := s103_0 I98
              refine ov_blk (ls2 := [(0, ov_r 90), (1, ov_i way), (2, ov_i run), (3, ov_i (h 103 0)), (4, ov_i (h 103 1))]) (st2 := [ov_i ((h97 103 0) + (1 - way)), ov_i 0, ov_r 103]) (pc2 := 128) b_253_124_4 rfl rfl ?_
              refine ov_iast d_253_128 (zb_103 I127) (zs_103 I127) (by omega) ?_
              have I129 := ua_103 (k := 0) (x := ((h97 103 0) + (1 - way))) I127 (by refine ⟨?_, ?_, ?_, ?_, ?_, ?_⟩ <;> omega)
              refine ov_blk (ls2 := [(0, ov_r 90), (1, ov_i way), (2, ov_i run), (3, ov_i (h 103 0)), (4, ov_i (h 103 1))]) (st2 := [ov_r 90]) (pc2 := 130) b_253_129_1 rfl rfl ?_
              refine ov_getf (v := ov_r 103) d_253_130 fl_Mo_102 (zb_90 I129) (zs_90 I129) (congrArg ov_r (rg_90_19 I129)) ?_
              refine ov_blk (ls2 := [(0, ov_r 90), (1, ov_i way), (2, ov_i run), (3, ov_i (h 103 0)), (4, ov_i (h 103 1))]) (st2 := [ov_i 1, ov_r 103, ov_i 1, ov_r 103]) (pc2 := 135) b_253_133_2 rfl rfl ?_
              refine ov_iald d_253_135 (zb_103 I129) (zs_103 I129) (by omega) ?_
              show ov_R u d ov_m253 136 [(0, ov_r 90), (1, ov_i way), (2, ov_i run), (3, ov_i (h 103 0)), (4, ov_i (h 103 1))] [ov_i (h97 103 1), ov_i 1, ov_r 103] z96 (ov_up (ov_up h97 103 2 ((h97 103 2) + (v121 + v125))) 103 0 ((h97 103 0) + (1 - way))) (P_Mo_go_90_t F z h way run)
              have g130 := s103_1 I98
              refine ov_blk (ls2 := [(0, ov_r 90), (1, ov_i way), (2, ov_i run), (3, ov_i (h 103 0)), (4, ov_i (h 103 1))]) (st2 := [ov_i ((h97 103 1) + way), ov_i 1, ov_r 103]) (pc2 := 138) b_253_136_2 rfl rfl ?_
              refine ov_iast d_253_138 (zb_103 I129) (zs_103 I129) (by omega) ?_
              have I131 := ua_103 (k := 1) (x := ((h97 103 1) + way)) I129 (by refine ⟨?_, ?_, ?_, ?_, ?_, ?_⟩ <;> omega)
              refine ov_blk (ls2 := [(0, ov_r 90), (1, ov_i way), (2, ov_i run), (3, ov_i (h 103 0)), (4, ov_i (h 103 1))]) (st2 := [ov_r 90]) (pc2 := 140) b_253_139_1 rfl rfl ?_
              refine ov_getf (v := ov_r 103) d_253_140 fl_Mo_102 (zb_90 I131) (zs_90 I131) (congrArg ov_r (rg_90_19 I131)) ?_
              refine ov_blk (ls2 := [(0, ov_r 90), (1, ov_i way), (2, ov_i run), (3, ov_i (h 103 0)), (4, ov_i (h 103 1))]) (st2 := [ov_i 3, ov_r 103, ov_i 3, ov_r 103]) (pc2 := 145) b_253_143_2 rfl rfl ?_
              refine ov_iald d_253_145 (zb_103 I131) (zs_103 I131) (by omega) ?_
              show ov_R u d ov_m253 146 [(0, ov_r 90), (1, ov_i way), (2, ov_i run), (3, ov_i (h 103 0)), (4, ov_i (h 103 1))] [ov_i (h97 103 3), ov_i 3, ov_r 103] z96 (ov_up (ov_up (ov_up h97 103 2 ((h97 103 2) + (v121 + v125))) 103 0 ((h97 103 0) + (1 - way))) 103 1 ((h97 103 1) + way)) (P_Mo_go_90_t F z h way run)
              have g132 := g103 I98 3
              refine ov_blk (ls2 := [(0, ov_r 90), (1, ov_i way), (2, ov_i run), (3, ov_i (h 103 0)), (4, ov_i (h 103 1))]) (st2 := [ov_i run, ov_i (h97 103 3), ov_i 3, ov_r 103]) (pc2 := 147) b_253_146_1 rfl rfl ?_
              refine ov_ifeq (tgt := 154) d_253_147 (by decide) (by omega) (fun c133 => ?_) (fun c133 => ?_)
              · omega
              · skip
                refine ov_blk (ls2 := [(0, ov_r 90), (1, ov_i way), (2, ov_i run), (3, ov_i (h 103 0)), (4, ov_i (h 103 1))]) (st2 := [ov_i 1, ov_i (h97 103 3), ov_i 3, ov_r 103]) (pc2 := 151) b_253_150_1 rfl rfl ?_
                refine ov_goto (tgt := 155) d_253_151 (by decide) ?_
                refine ov_blk (ls2 := [(0, ov_r 90), (1, ov_i way), (2, ov_i run), (3, ov_i (h 103 0)), (4, ov_i (h 103 1))]) (st2 := [ov_i ((h97 103 3) + 1), ov_i 3, ov_r 103]) (pc2 := 156) b_253_155_1 rfl rfl ?_
                refine ov_iast d_253_156 (zb_103 I131) (zs_103 I131) (by omega) ?_
                have I134 := ua_103 (k := 3) (x := ((h97 103 3) + 1)) I131 (by refine ⟨?_, ?_, ?_, ?_, ?_, ?_⟩ <;> omega)
                refine ov_blk (ls2 := [(0, ov_r 90), (1, ov_i way), (2, ov_i run), (3, ov_i (h 103 0)), (4, ov_i (h 103 1))]) (st2 := [ov_r 90]) (pc2 := 158) b_253_157_1 rfl rfl ?_
                refine ov_getf (v := ov_r 103) d_253_158 fl_Mo_102 (zb_90 I134) (zs_90 I134) (congrArg ov_r (rg_90_19 I134)) ?_
                refine ov_blk (ls2 := [(0, ov_r 90), (1, ov_i way), (2, ov_i run), (3, ov_i (h 103 0)), (4, ov_i (h 103 1))]) (st2 := [ov_i 2, ov_r 103]) (pc2 := 162) b_253_161_1 rfl rfl ?_
                refine ov_iald d_253_162 (zb_103 I134) (zs_103 I134) (by omega) ?_
                show ov_R u d ov_m253 163 [(0, ov_r 90), (1, ov_i way), (2, ov_i run), (3, ov_i (h 103 0)), (4, ov_i (h 103 1))] [ov_i ((h97 103 2) + (v121 + v125))] z96 (ov_up (ov_up (ov_up (ov_up h97 103 2 ((h97 103 2) + (v121 + v125))) 103 0 ((h97 103 0) + (1 - way))) 103 1 ((h97 103 1) + way)) 103 3 ((h97 103 3) + 1)) (P_Mo_go_90_t F z h way run)
                have xrt : v125 = st_rt (h 96) run := st_rt_of (by omega) (by omega) (by omega)
                have xwm : ov_wm (h 96) (6 * h 103 1 + h 103 0) way (h97 103 2) = ov_wm (h 96) (6 * h 103 1 + h 103 0) way (h 103 2) := by rw [xg2]
                exact ov_reti (st := []) d_253_163 rfl ⟨_, rfl, I134, (by show (h97 90 2) = (h 90 2) ∧ (h97 90 7) = (h 90 7) ∧ (h97 90 8) = (h 90 8) ∧ (h97 90 13) = (h 90 13) ∧ (h97 90 22) = (h 90 22) ∧ (h97 90 25) = (h 90 25) ∧ (h97 90 26) = (h 90 26) ∧ (h97 90 28) = (h 90 28) ∧ (h97 90 29) = (h 90 29) ∧ (h97 90 30) = (h 90 30) ∧ (h97 90 34) = (h 90 34) ∧ -2147483648 ≤ ((h97 103 2) + (v121 + v125)) ∧ ((h97 103 2) + (v121 + v125)) ≤ 2147483647; omega), E99, E100, E101, E102, E103, E104, E105, E106, E107, E108, E109, E110, E111, E112, E113, (fun j h1 h2 => by show (ov_up (ov_up (ov_up (ov_up h97 103 2 ((h97 103 2) + (v121 + v125))) 103 0 ((h97 103 0) + (1 - way))) 103 1 ((h97 103 1) + way)) 103 3 ((h97 103 3) + 1)) 103 j = h 103 j; rw [ov_up_j (by omega)]; rw [ov_up_j (by omega)]; rw [ov_up_j (by omega)]; rw [ov_up_j (by omega)]; exact y94_ j (by omega)), (Or.inr ⟨(by omega), (by show ((h97 103 2) + (v121 + v125)) = (h 103 2) + (ov_wm (h 96) (6 * (h 103 1) + (h 103 0)) way (h 103 2) + st_rt (h 96) run); omega), (st_up (st_up (st_up (st_up y95_ (by omega) (by omega)) (by omega) (by omega)) (by omega) (by omega)) (by omega) (by omega)), (by show (h97 90 20) = kp_u (h 90 20); exact kp_u_of (by omega) (by omega))⟩)⟩
          · skip
            refine ov_blk (ls2 := [(0, ov_r 90), (1, ov_i way), (2, ov_i run), (3, ov_i (h 103 0)), (4, ov_i (h 103 1))]) (st2 := [ov_i (-1)]) (pc2 := 71) b_253_70_1 rfl rfl ?_
            exact ov_reti (st := []) d_253_71 rfl ⟨_, rfl, I1, ⟨rfl, rfl, rfl, rfl, rfl, rfl, rfl, rfl, rfl, rfl, rfl, (by show -2147483648 ≤ (-1) ∧ (-1) ≤ 2147483647; omega)⟩, rfl, rfl, rfl, rfl, rfl, rfl, rfl, rfl, rfl, rfl, rfl, rfl, rfl, rfl, rfl, (fun j h1 h2 => rfl), (Or.inl ⟨rfl, (by omega), (show (ov_up h 90 0 0) 103 = h 103 from rfl), (show (h 90 20) = h 90 20 from rfl)⟩)⟩
abbrev P_Mo_stay_90_t (F : ov_H × ov_Z) (z : ov_Z) (h : ov_H) (m : Int) : Option ov_V → ov_Z → ov_H → Prop := fun r0 z' h' => ∃ r : Int, r0 = some (ov_i r) ∧ ov_N F z' h' ∧ ((h' 90 2) = (h 90 2) ∧ (h' 90 7) = (h 90 7) ∧ (h' 90 8) = (h 90 8) ∧ (h' 90 13) = (h 90 13) ∧ (h' 90 22) = (h 90 22) ∧ (h' 90 25) = (h 90 25) ∧ (h' 90 26) = (h 90 26) ∧ (h' 90 28) = (h 90 28) ∧ (h' 90 29) = (h 90 29) ∧ (h' 90 30) = (h 90 30) ∧ (h' 90 34) = (h 90 34) ∧ -2147483648 ≤ r ∧ r ≤ 2147483647) ∧ h' 91 = h 91 ∧ h' 92 = h 92 ∧ h' 93 = h 93 ∧ h' 94 = h 94 ∧ h' 95 = h 95 ∧ h' 96 = h 96 ∧ h' 97 = h 97 ∧ h' 98 = h 98 ∧ h' 99 = h 99 ∧ h' 100 = h 100 ∧ h' 104 = h 104 ∧ h' 105 = h 105 ∧ h' 106 = h 106 ∧ h' 109 = h 109 ∧ h' 114 = h 114 ∧ (∀ j : Int, 4 ≤ j → j ≤ 57 → (h' 103) j = (h 103) j) ∧ ((r = -1 ∧ (m < 1 ∨ 1000 < m) ∧ (h' 103) = (h 103) ∧ (h' 90 20) = (h 90 20)) ∨ (1 ≤ m ∧ m ≤ 1000 ∧ r = (h 103 2) + m ∧ (h' 103) = ov_rs (kp_f (h 103) (h 90 20)) 2 ((h 103 2) + m) ∧ (h' 90 20) = kp_u (h 90 20)))
set_option maxHeartbeats 4000000 in
theorem c_Mo_stay_90_t {u : ov_U} {F : ov_H × ov_Z} {z : ov_Z} {h : ov_H} (d : Nat) (hd : 2 ≤ d) (U : ov_cap u) (I : ov_N F z h) (m : Int) (g_m : ov_g m) (p0 : (h 103 2) ≤ ov_bd F - 1000) (p1 : 0 ≤ ov_bd F ∧ ov_bd F ≤ 800000000) : ov_T u d ov_m257 [ov_r 90, ov_i m] z h (P_Mo_stay_90_t F z h m) := by
  refine ov_en rfl (Nat.le_of_ble_eq_true rfl) ?_
  show ov_R u d ov_m257 0 [(0, ov_r 90), (1, ov_i m)] [] z h (P_Mo_stay_90_t F z h m)
  refine ov_blk (ls2 := [(0, ov_r 90), (1, ov_i m)]) (st2 := [ov_i 0, ov_r 90]) (pc2 := 2) b_257_0_2 rfl rfl ?_
  refine ov_putf (x := 0) d_257_2 fl_Mo_1 (zb_90 I) (zs_90 I) rfl nk_0 rfl ?_
  have I1 := up_90_0 (x := 0) I (by omega)
  refine ov_blk (ls2 := [(0, ov_r 90), (1, ov_i m)]) (st2 := [ov_i 1000, ov_i 1, ov_i m]) (pc2 := 10) b_257_5_3 rfl rfl ?_
  refine ov_cS (as := [ov_i m, ov_i 1, ov_i 1000]) (st := []) (d2 := d - 1) d_257_10 lk_Mo_299 rfl (Nat.le_of_ble_eq_true rfl) (by omega) (c_Mo_within (d - 1) (by omega) U I1 m 1 1000 (by omega) (by omega) (by omega)) ?_
  rintro _ _ _ ⟨v3, rfl, rfl, rfl, f2⟩
  show ov_R u d ov_m257 13 [(0, ov_r 90), (1, ov_i m)] [ov_i v3] z (ov_up h 90 0 0) (P_Mo_stay_90_t F z h m)
  have f4 : (v3 = 0 ∨ v3 = 1) ∧ (v3 = 1 → (1 : Int) ≤ m ∧ m ≤ (1000 : Int)) ∧ (v3 = 0 → m < (1 : Int) ∨ (1000 : Int) < m) := f2
  clear f2
  refine ov_ifne (tgt := 18) d_257_13 (by decide) (by omega) (fun c5 => ?_) (fun c5 => ?_)
  · skip
    have f4_ : v3 = 1 := by omega
    have f6 : (1 : Int) ≤ m ∧ m ≤ (1000 : Int) := f4.2.1 (by omega)
    clear f4
    refine ov_blk (ls2 := [(0, ov_r 90), (1, ov_i m)]) (st2 := [ov_r 90]) (pc2 := 19) b_257_18_1 rfl rfl ?_
    refine ov_cV (as := []) (st := []) (d2 := d - 1) d_257_19 lk_Mo_329 rfl (Nat.le_of_ble_eq_true rfl) (c := 1) (zb_90 I1) (zs_90 I1) ⟨by decide, rfl⟩ (by omega) (c_Mo_keeps_90_t (d - 1) (by omega) U I1) ?_
    rintro _ z25 h26 ⟨rfl, I27, f7, e8, e9, e10, e11, e12, e13, e14, e15, e16, e17, e18, e19, e20, e21, e22, y23, y24⟩
    have E28 : h26 91 = h 91 := e8
    have E29 : h26 92 = h 92 := e9
    have E30 : h26 93 = h 93 := e10
    have E31 : h26 94 = h 94 := e11
    have E32 : h26 95 = h 95 := e12
    have E33 : h26 96 = h 96 := e13
    have E34 : h26 97 = h 97 := e14
    have E35 : h26 98 = h 98 := e15
    have E36 : h26 99 = h 99 := e16
    have E37 : h26 100 = h 100 := e17
    have E38 : h26 104 = h 104 := e18
    have E39 : h26 105 = h 105 := e19
    have E40 : h26 106 = h 106 := e20
    have E41 : h26 109 = h 109 := e21
    have E42 : h26 114 = h 114 := e22
    show ov_R u d ov_m257 22 [(0, ov_r 90), (1, ov_i m)] [] z25 h26 (P_Mo_stay_90_t F z h m)
    have f43 : (h26 90 2) = (h 90 2) ∧ (h26 90 7) = (h 90 7) ∧ (h26 90 8) = (h 90 8) ∧ (h26 90 13) = (h 90 13) ∧ (h26 90 22) = (h 90 22) ∧ (h26 90 25) = (h 90 25) ∧ (h26 90 26) = (h 90 26) ∧ (h26 90 28) = (h 90 28) ∧ (h26 90 29) = (h 90 29) ∧ (h26 90 30) = (h 90 30) ∧ (h26 90 34) = (h 90 34) ∧ ((h 90 20) = 16 → (h26 90 20) = 16) ∧ (¬ (h 90 20) = 16 → (h26 90 20) = (h 90 20) + 1) := f7
    clear f7
    have y23_ : ∀ j : Int, j < 600 → (h26 103) j = (h 103) j := y23
    have y24_ : (h26 103) = kp_f (h 103) (h 90 20) := y24
    have xg0 := y23_ 0 (by decide)
    have xg1 := y23_ 1 (by decide)
    have xg2 := y23_ 2 (by decide)
    have xg3 := y23_ 3 (by decide)
    refine ov_blk (ls2 := [(0, ov_r 90), (1, ov_i m)]) (st2 := [ov_r 90]) (pc2 := 23) b_257_22_1 rfl rfl ?_
    refine ov_getf (v := ov_r 103) d_257_23 fl_Mo_102 (zb_90 I27) (zs_90 I27) (congrArg ov_r (rg_90_19 I27)) ?_
    refine ov_blk (ls2 := [(0, ov_r 90), (1, ov_i m)]) (st2 := [ov_i 2, ov_r 103, ov_i 2, ov_r 103]) (pc2 := 28) b_257_26_2 rfl rfl ?_
    refine ov_iald d_257_28 (zb_103 I27) (zs_103 I27) (by omega) ?_
    have g44 := s103_2 I27
    refine ov_blk (ls2 := [(0, ov_r 90), (1, ov_i m)]) (st2 := [ov_i ((h26 103 2) + m), ov_i 2, ov_r 103]) (pc2 := 31) b_257_29_2 rfl rfl ?_
    refine ov_iast d_257_31 (zb_103 I27) (zs_103 I27) (by omega) ?_
    have I45 := ua_103 (k := 2) (x := ((h26 103 2) + m)) I27 (by refine ⟨?_, ?_, ?_, ?_, ?_, ?_⟩ <;> omega)
    refine ov_blk (ls2 := [(0, ov_r 90), (1, ov_i m)]) (st2 := [ov_r 90]) (pc2 := 33) b_257_32_1 rfl rfl ?_
    refine ov_getf (v := ov_r 103) d_257_33 fl_Mo_102 (zb_90 I45) (zs_90 I45) (congrArg ov_r (rg_90_19 I45)) ?_
    refine ov_blk (ls2 := [(0, ov_r 90), (1, ov_i m)]) (st2 := [ov_i 2, ov_r 103]) (pc2 := 37) b_257_36_1 rfl rfl ?_
    refine ov_iald d_257_37 (zb_103 I45) (zs_103 I45) (by omega) ?_
    show ov_R u d ov_m257 38 [(0, ov_r 90), (1, ov_i m)] [ov_i ((h26 103 2) + m)] z25 (ov_up h26 103 2 ((h26 103 2) + m)) (P_Mo_stay_90_t F z h m)
    exact ov_reti (st := []) d_257_38 rfl ⟨_, rfl, I45, (by show (h26 90 2) = (h 90 2) ∧ (h26 90 7) = (h 90 7) ∧ (h26 90 8) = (h 90 8) ∧ (h26 90 13) = (h 90 13) ∧ (h26 90 22) = (h 90 22) ∧ (h26 90 25) = (h 90 25) ∧ (h26 90 26) = (h 90 26) ∧ (h26 90 28) = (h 90 28) ∧ (h26 90 29) = (h 90 29) ∧ (h26 90 30) = (h 90 30) ∧ (h26 90 34) = (h 90 34) ∧ -2147483648 ≤ ((h26 103 2) + m) ∧ ((h26 103 2) + m) ≤ 2147483647; omega), E28, E29, E30, E31, E32, E33, E34, E35, E36, E37, E38, E39, E40, E41, E42, (fun j h1 h2 => by show (ov_up h26 103 2 ((h26 103 2) + m)) 103 j = h 103 j; rw [ov_up_j (by omega)]; exact y23_ j (by omega)), (Or.inr ⟨(by omega), (by omega), (by show ((h26 103 2) + m) = (h 103 2) + m; omega), (st_up y24_ (by omega) (by omega)), (by show (h26 90 20) = kp_u (h 90 20); exact kp_u_of (by omega) (by omega))⟩)⟩
  · skip
    have f4_ : v3 = 0 := by omega
    have f46 : m < (1 : Int) ∨ (1000 : Int) < m := f4.2.2 (by omega)
    clear f4
    refine ov_blk (ls2 := [(0, ov_r 90), (1, ov_i m)]) (st2 := [ov_i (-1)]) (pc2 := 17) b_257_16_1 rfl rfl ?_
    exact ov_reti (st := []) d_257_17 rfl ⟨_, rfl, I1, ⟨rfl, rfl, rfl, rfl, rfl, rfl, rfl, rfl, rfl, rfl, rfl, (by show -2147483648 ≤ (-1) ∧ (-1) ≤ 2147483647; omega)⟩, rfl, rfl, rfl, rfl, rfl, rfl, rfl, rfl, rfl, rfl, rfl, rfl, rfl, rfl, rfl, (fun j h1 h2 => rfl), (Or.inl ⟨rfl, (by omega), (show (ov_up h 90 0 0) 103 = h 103 from rfl), (show (h 90 20) = h 90 20 from rfl)⟩)⟩
abbrev P_Mo_look_90_t (F : ov_H × ov_Z) (z : ov_Z) (h : ov_H) : Option ov_V → ov_Z → ov_H → Prop := fun r0 z' h' => ∃ r : Int, r0 = some (ov_i r) ∧ ov_N F z' h' ∧ ((h' 90 2) = (h 90 2) ∧ (h' 90 7) = (h 90 7) ∧ (h' 90 8) = (h 90 8) ∧ (h' 90 13) = (h 90 13) ∧ (h' 90 25) = (h 90 25) ∧ (h' 90 26) = (h 90 26) ∧ (h' 90 28) = (h 90 28) ∧ (h' 90 29) = (h 90 29) ∧ (h' 90 30) = (h 90 30) ∧ (h' 90 34) = (h 90 34) ∧ (r = 0 ∨ r = 1) ∧ (h 90 22) ≤ (h' 90 22) ∧ (h' 90 22) ≤ (h 90 22) + 1) ∧ h' 91 = h 91 ∧ h' 92 = h 92 ∧ h' 93 = h 93 ∧ h' 94 = h 94 ∧ h' 95 = h 95 ∧ h' 96 = h 96 ∧ h' 97 = h 97 ∧ h' 98 = h 98 ∧ h' 99 = h 99 ∧ h' 100 = h 100 ∧ h' 104 = h 104 ∧ h' 105 = h 105 ∧ h' 106 = h 106 ∧ h' 109 = h 109 ∧ h' 114 = h 114 ∧ (((h' 90 22) = (h 90 22) ∧ (h' 103) = (h 103)) ∨ (h' 90 22) = (h 90 22) + 1) ∧ ((r = 0 ∧ ¬ ((h 96 (10 + 4 * (6 * (h 103 1) + (h 103 0)))) = 2 ∧ ¬ (h 103 (4 + 6 * (h 103 1) + (h 103 0))) = 1) ∧ (h' 103) = (h 103) ∧ (h' 90 20) = (h 90 20)) ∨ (r = 1 ∧ ((h 96 (10 + 4 * (6 * (h 103 1) + (h 103 0)))) = 2 ∧ ¬ (h 103 (4 + 6 * (h 103 1) + (h 103 0))) = 1) ∧ (h' 103) = ov_rs (kp_f (h 103) (h 90 20)) (4 + 6 * (h 103 1) + (h 103 0)) 1 ∧ (h' 90 20) = kp_u (h 90 20)))
set_option maxHeartbeats 4000000 in
theorem c_Mo_look_90_t {u : ov_U} {F : ov_H × ov_Z} {z : ov_Z} {h : ov_H} (d : Nat) (hd : 2 ≤ d) (U : ov_cap u) (I : ov_N F z h) (p0 : 0 ≤ (h 90 22) ∧ (h 90 22) ≤ 2000000000) : ov_T u d ov_m258 [ov_r 90] z h (P_Mo_look_90_t F z h) := by
  refine ov_en rfl (Nat.le_of_ble_eq_true rfl) ?_
  show ov_R u d ov_m258 0 [(0, ov_r 90)] [] z h (P_Mo_look_90_t F z h)
  refine ov_blk (ls2 := [(0, ov_r 90)]) (st2 := [ov_i 0, ov_r 90]) (pc2 := 2) b_258_0_2 rfl rfl ?_
  refine ov_putf (x := 0) d_258_2 fl_Mo_1 (zb_90 I) (zs_90 I) rfl nk_0 rfl ?_
  have I1 := up_90_0 (x := 0) I (by omega)
  refine ov_blk (ls2 := [(0, ov_r 90)]) (st2 := [ov_r 90]) (pc2 := 6) b_258_5_1 rfl rfl ?_
  refine ov_getf (v := ov_r 103) d_258_6 fl_Mo_102 (zb_90 I1) (zs_90 I1) (congrArg ov_r (rg_90_19 I1)) ?_
  refine ov_blk (ls2 := [(0, ov_r 90)]) (st2 := [ov_i 0, ov_r 103]) (pc2 := 10) b_258_9_1 rfl rfl ?_
  refine ov_iald d_258_10 (zb_103 I1) (zs_103 I1) (by omega) ?_
  show ov_R u d ov_m258 11 [(0, ov_r 90)] [ov_i (h 103 0)] z (ov_up h 90 0 0) (P_Mo_look_90_t F z h)
  have g2 := s103_0 I
  refine ov_blk (ls2 := [(0, ov_r 90), (1, ov_i (h 103 0))]) (st2 := [ov_r 90]) (pc2 := 13) b_258_11_2 rfl rfl ?_
  refine ov_getf (v := ov_r 103) d_258_13 fl_Mo_102 (zb_90 I1) (zs_90 I1) (congrArg ov_r (rg_90_19 I1)) ?_
  refine ov_blk (ls2 := [(0, ov_r 90), (1, ov_i (h 103 0))]) (st2 := [ov_i 1, ov_r 103]) (pc2 := 17) b_258_16_1 rfl rfl ?_
  refine ov_iald d_258_17 (zb_103 I1) (zs_103 I1) (by omega) ?_
  show ov_R u d ov_m258 18 [(0, ov_r 90), (1, ov_i (h 103 0))] [ov_i (h 103 1)] z (ov_up h 90 0 0) (P_Mo_look_90_t F z h)
  have g3 := s103_1 I
  refine ov_blk (ls2 := [(0, ov_r 90), (1, ov_i (h 103 0)), (2, ov_i (h 103 1))]) (st2 := [ov_i (h 103 1), ov_i (h 103 0), ov_r 90]) (pc2 := 22) b_258_18_4 rfl rfl ?_
  refine ov_cV (as := [ov_i (h 103 0), ov_i (h 103 1)]) (st := []) (d2 := d - 1) d_258_22 lk_Mo_282 rfl (Nat.le_of_ble_eq_true rfl) (c := 1) (zb_90 I1) (zs_90 I1) ⟨by decide, rfl⟩ (by omega) (c_Mo_kindAt_90 (d - 1) (by omega) U I1 (h 103 0) (h 103 1) (by omega) (by omega) (by omega)) ?_
  rintro _ _ _ ⟨v5, rfl, rfl, rfl, f4⟩
  show ov_R u d ov_m258 25 [(0, ov_r 90), (1, ov_i (h 103 0)), (2, ov_i (h 103 1))] [ov_i v5] z (ov_up h 90 0 0) (P_Mo_look_90_t F z h)
  have f6 : v5 = (h 96 (10 + 4 * (6 * (h 103 1) + (h 103 0)))) - 1 ∧ -1 ≤ v5 ∧ v5 ≤ 3 := f4
  clear f4
  refine ov_blk (ls2 := [(0, ov_r 90), (1, ov_i (h 103 0)), (2, ov_i (h 103 1))]) (st2 := [ov_i 1, ov_i v5]) (pc2 := 26) b_258_25_1 rfl rfl ?_
  refine ov_icne (tgt := 38) d_258_26 (by decide) (by omega) (by omega) (fun c7 => ?_) (fun c7 => ?_)
  · skip
    refine ov_blk (ls2 := [(0, ov_r 90), (1, ov_i (h 103 0)), (2, ov_i (h 103 1))]) (st2 := [ov_i 0]) (pc2 := 39) b_258_38_1 rfl rfl ?_
    exact ov_retz (st := []) d_258_39 rfl (by omega) ⟨_, rfl, I1, ⟨rfl, rfl, rfl, rfl, rfl, rfl, rfl, rfl, rfl, rfl, (by show (0 = 0 ∨ 0 = 1) ∧ (h 90 22) ≤ (h 90 22) ∧ (h 90 22) ≤ (h 90 22) + 1; omega)⟩, rfl, rfl, rfl, rfl, rfl, rfl, rfl, rfl, rfl, rfl, rfl, rfl, rfl, rfl, rfl, (Or.inl ⟨rfl, rfl⟩), (Or.inl ⟨rfl, (by omega), (show (ov_up h 90 0 0) 103 = h 103 from rfl), (show (h 90 20) = h 90 20 from rfl)⟩)⟩
  · skip
    refine ov_blk (ls2 := [(0, ov_r 90), (1, ov_i (h 103 0)), (2, ov_i (h 103 1))]) (st2 := [ov_i (h 103 1), ov_i (h 103 0), ov_r 90]) (pc2 := 32) b_258_29_3 rfl rfl ?_
    refine ov_cV (as := [ov_i (h 103 0), ov_i (h 103 1)]) (st := []) (d2 := d - 1) d_258_32 lk_Mo_302 rfl (Nat.le_of_ble_eq_true rfl) (c := 1) (zb_90 I1) (zs_90 I1) ⟨by decide, rfl⟩ (by omega) (c_Mo_isKnown_90 (d - 1) (by omega) U I1 (h 103 0) (h 103 1) (by omega) (by omega) (by omega)) ?_
    rintro _ _ _ ⟨v9, rfl, rfl, rfl, f8⟩
    show ov_R u d ov_m258 35 [(0, ov_r 90), (1, ov_i (h 103 0)), (2, ov_i (h 103 1))] [ov_i v9] z (ov_up h 90 0 0) (P_Mo_look_90_t F z h)
    have f10 : (v9 = 0 ∨ v9 = 1) ∧ (v9 = 1 → ((h 96 (10 + 4 * (6 * (h 103 1) + (h 103 0)))) = 2 ∧ (h 103 (4 + 6 * (h 103 1) + (h 103 0))) = 1)) ∧ (v9 = 0 → ¬ ((h 96 (10 + 4 * (6 * (h 103 1) + (h 103 0)))) = 2 ∧ (h 103 (4 + 6 * (h 103 1) + (h 103 0))) = 1)) := f8
    clear f8
    refine ov_ifeq (tgt := 40) d_258_35 (by decide) (by omega) (fun c11 => ?_) (fun c11 => ?_)
    · skip
      have f10_ : v9 = 0 := by omega
      have f12 : ¬ ((h 96 (10 + 4 * (6 * (h 103 1) + (h 103 0)))) = 2 ∧ (h 103 (4 + 6 * (h 103 1) + (h 103 0))) = 1) := f10.2.2 (by omega)
      clear f10
      refine ov_blk (ls2 := [(0, ov_r 90), (1, ov_i (h 103 0)), (2, ov_i (h 103 1))]) (st2 := [ov_r 90]) (pc2 := 41) b_258_40_1 rfl rfl ?_
      refine ov_cV (as := []) (st := []) (d2 := d - 1) d_258_41 lk_Mo_329 rfl (Nat.le_of_ble_eq_true rfl) (c := 1) (zb_90 I1) (zs_90 I1) ⟨by decide, rfl⟩ (by omega) (c_Mo_keeps_90_t (d - 1) (by omega) U I1) ?_
      rintro _ z31 h32 ⟨rfl, I33, f13, e14, e15, e16, e17, e18, e19, e20, e21, e22, e23, e24, e25, e26, e27, e28, y29, y30⟩
      have E34 : h32 91 = h 91 := e14
      have E35 : h32 92 = h 92 := e15
      have E36 : h32 93 = h 93 := e16
      have E37 : h32 94 = h 94 := e17
      have E38 : h32 95 = h 95 := e18
      have E39 : h32 96 = h 96 := e19
      have E40 : h32 97 = h 97 := e20
      have E41 : h32 98 = h 98 := e21
      have E42 : h32 99 = h 99 := e22
      have E43 : h32 100 = h 100 := e23
      have E44 : h32 104 = h 104 := e24
      have E45 : h32 105 = h 105 := e25
      have E46 : h32 106 = h 106 := e26
      have E47 : h32 109 = h 109 := e27
      have E48 : h32 114 = h 114 := e28
      show ov_R u d ov_m258 44 [(0, ov_r 90), (1, ov_i (h 103 0)), (2, ov_i (h 103 1))] [] z31 h32 (P_Mo_look_90_t F z h)
      have f49 : (h32 90 2) = (h 90 2) ∧ (h32 90 7) = (h 90 7) ∧ (h32 90 8) = (h 90 8) ∧ (h32 90 13) = (h 90 13) ∧ (h32 90 22) = (h 90 22) ∧ (h32 90 25) = (h 90 25) ∧ (h32 90 26) = (h 90 26) ∧ (h32 90 28) = (h 90 28) ∧ (h32 90 29) = (h 90 29) ∧ (h32 90 30) = (h 90 30) ∧ (h32 90 34) = (h 90 34) ∧ ((h 90 20) = 16 → (h32 90 20) = 16) ∧ (¬ (h 90 20) = 16 → (h32 90 20) = (h 90 20) + 1) := f13
      clear f13
      have y29_ : ∀ j : Int, j < 600 → (h32 103) j = (h 103) j := y29
      have y30_ : (h32 103) = kp_f (h 103) (h 90 20) := y30
      have xg0 := y29_ 0 (by decide)
      have xg1 := y29_ 1 (by decide)
      have xg2 := y29_ 2 (by decide)
      have xg3 := y29_ 3 (by decide)
      refine ov_blk (ls2 := [(0, ov_r 90), (1, ov_i (h 103 0)), (2, ov_i (h 103 1))]) (st2 := [ov_r 90]) (pc2 := 45) b_258_44_1 rfl rfl ?_
      refine ov_getf (v := ov_r 103) d_258_45 fl_Mo_102 (zb_90 I33) (zs_90 I33) (congrArg ov_r (rg_90_19 I33)) ?_
      refine ov_blk (ls2 := [(0, ov_r 90), (1, ov_i (h 103 0)), (2, ov_i (h 103 1))]) (st2 := [ov_i 1, ov_i ((4 + (6 * (h 103 1))) + (h 103 0)), ov_r 103]) (pc2 := 57) b_258_48_8 rfl rfl ?_
      refine ov_iast d_258_57 (zb_103 I33) (zs_103 I33) (by omega) ?_
      have I50 := ua_103 (k := ((4 + (6 * (h 103 1))) + (h 103 0))) (x := 1) I33 (by refine ⟨?_, ?_, ?_, ?_, ?_, ?_⟩ <;> omega)
      refine ov_blk (ls2 := [(0, ov_r 90), (1, ov_i (h 103 0)), (2, ov_i (h 103 1))]) (st2 := [ov_r 90, ov_r 90]) (pc2 := 60) b_258_58_2 rfl rfl ?_
      refine ov_getf (v := ov_i (h32 90 22)) d_258_60 fl_Mo_322 (zb_90 I50) (zs_90 I50) rfl ?_
      have g51 := rg_90_22 I33
      refine ov_blk (ls2 := [(0, ov_r 90), (1, ov_i (h 103 0)), (2, ov_i (h 103 1))]) (st2 := [ov_i ((h32 90 22) + 1), ov_r 90]) (pc2 := 65) b_258_63_2 rfl rfl ?_
      refine ov_putf (x := ((h32 90 22) + 1)) d_258_65 fl_Mo_322 (zb_90 I50) (zs_90 I50) rfl nk_0 rfl ?_
      have I52 := up_90_22 (x := ((h32 90 22) + 1)) I50 (by omega)
      refine ov_blk (ls2 := [(0, ov_r 90), (1, ov_i (h 103 0)), (2, ov_i (h 103 1))]) (st2 := [ov_i 1]) (pc2 := 69) b_258_68_1 rfl rfl ?_
      exact ov_retz (st := []) d_258_69 rfl (by omega) ⟨_, rfl, I52, (by show (h32 90 2) = (h 90 2) ∧ (h32 90 7) = (h 90 7) ∧ (h32 90 8) = (h 90 8) ∧ (h32 90 13) = (h 90 13) ∧ (h32 90 25) = (h 90 25) ∧ (h32 90 26) = (h 90 26) ∧ (h32 90 28) = (h 90 28) ∧ (h32 90 29) = (h 90 29) ∧ (h32 90 30) = (h 90 30) ∧ (h32 90 34) = (h 90 34) ∧ (1 = 0 ∨ 1 = 1) ∧ (h 90 22) ≤ ((h32 90 22) + 1) ∧ ((h32 90 22) + 1) ≤ (h 90 22) + 1; omega), E34, E35, E36, E37, E38, E39, E40, E41, E42, E43, E44, E45, E46, E47, E48, (Or.inr (by show ((h32 90 22) + 1) = h 90 22 + 1; omega)), (Or.inr ⟨rfl, (by omega), (st_un (by decide) (st_up y30_ (by omega) (by omega))), (by show (h32 90 20) = kp_u (h 90 20); exact kp_u_of (by omega) (by omega))⟩)⟩
    · skip
      have f10_ : v9 = 1 := by omega
      have f53 : ((h 96 (10 + 4 * (6 * (h 103 1) + (h 103 0)))) = 2 ∧ (h 103 (4 + 6 * (h 103 1) + (h 103 0))) = 1) := f10.2.1 (by omega)
      clear f10
      refine ov_blk (ls2 := [(0, ov_r 90), (1, ov_i (h 103 0)), (2, ov_i (h 103 1))]) (st2 := [ov_i 0]) (pc2 := 39) b_258_38_1 rfl rfl ?_
      exact ov_retz (st := []) d_258_39 rfl (by omega) ⟨_, rfl, I1, ⟨rfl, rfl, rfl, rfl, rfl, rfl, rfl, rfl, rfl, rfl, (by show (0 = 0 ∨ 0 = 1) ∧ (h 90 22) ≤ (h 90 22) ∧ (h 90 22) ≤ (h 90 22) + 1; omega)⟩, rfl, rfl, rfl, rfl, rfl, rfl, rfl, rfl, rfl, rfl, rfl, rfl, rfl, rfl, rfl, (Or.inl ⟨rfl, rfl⟩), (Or.inl ⟨rfl, (by omega), (show (ov_up h 90 0 0) 103 = h 103 from rfl), (show (h 90 20) = h 90 20 from rfl)⟩)⟩
abbrev P_Mo_undo_90_t (F : ov_H × ov_Z) (z : ov_Z) (h : ov_H) : Option ov_V → ov_Z → ov_H → Prop := fun r0 z' h' => ∃ r : Int, r0 = some (ov_i r) ∧ ov_N F z' h' ∧ ((h' 90 2) = (h 90 2) ∧ (h' 90 7) = (h 90 7) ∧ (h' 90 8) = (h 90 8) ∧ (h' 90 13) = (h 90 13) ∧ (h' 90 25) = (h 90 25) ∧ (h' 90 26) = (h 90 26) ∧ (h' 90 28) = (h 90 28) ∧ (h' 90 29) = (h 90 29) ∧ (h' 90 30) = (h 90 30) ∧ (h' 90 34) = (h 90 34) ∧ (r = 0 ∨ r = 1) ∧ (h 90 22) ≤ (h' 90 22) ∧ (h' 90 22) ≤ (h 90 22) + 1) ∧ h' 91 = h 91 ∧ h' 92 = h 92 ∧ h' 93 = h 93 ∧ h' 94 = h 94 ∧ h' 95 = h 95 ∧ h' 96 = h 96 ∧ h' 97 = h 97 ∧ h' 98 = h 98 ∧ h' 99 = h 99 ∧ h' 100 = h 100 ∧ h' 104 = h 104 ∧ h' 105 = h 105 ∧ h' 106 = h 106 ∧ h' 109 = h 109 ∧ h' 114 = h 114 ∧ (((h' 90 22) = (h 90 22) ∧ (h' 103) = (h 103)) ∨ (h' 90 22) = (h 90 22) + 1) ∧ ((r = 0 ∧ (h 90 20) = 0 ∧ (h' 103) = (h 103) ∧ (h' 90 20) = (h 90 20)) ∨ (r = 1 ∧ ¬ (h 90 20) = 0 ∧ (h' 103) = cp_f (h 103) (5 + ((h 90 20) - 1)) 0 58 ∧ (h' 90 20) = (h 90 20) - 1))
set_option maxHeartbeats 4000000 in
theorem c_Mo_undo_90_t {u : ov_U} {F : ov_H × ov_Z} {z : ov_Z} {h : ov_H} (d : Nat) (hd : 1 ≤ d) (U : ov_cap u) (I : ov_N F z h) (p0 : 0 ≤ (h 90 22) ∧ (h 90 22) ≤ 2000000000) : ov_T u d ov_m259 [ov_r 90] z h (P_Mo_undo_90_t F z h) := by
  refine ov_en rfl (Nat.le_of_ble_eq_true rfl) ?_
  show ov_R u d ov_m259 0 [(0, ov_r 90)] [] z h (P_Mo_undo_90_t F z h)
  refine ov_blk (ls2 := [(0, ov_r 90)]) (st2 := [ov_i 0, ov_r 90]) (pc2 := 2) b_259_0_2 rfl rfl ?_
  refine ov_putf (x := 0) d_259_2 fl_Mo_1 (zb_90 I) (zs_90 I) rfl nk_0 rfl ?_
  have I1 := up_90_0 (x := 0) I (by omega)
  refine ov_blk (ls2 := [(0, ov_r 90)]) (st2 := [ov_r 90]) (pc2 := 6) b_259_5_1 rfl rfl ?_
  refine ov_getf (v := ov_i (h 90 20)) d_259_6 fl_Mo_319 (zb_90 I1) (zs_90 I1) rfl ?_
  have g2 := rg_90_20 I
  refine ov_ifne (tgt := 14) d_259_9 (by decide) (by omega) (fun c3 => ?_) (fun c3 => ?_)
  · skip
    refine ov_blk (ls2 := [(0, ov_r 90)]) (st2 := [ov_r 90, ov_r 90]) (pc2 := 16) b_259_14_2 rfl rfl ?_
    refine ov_getf (v := ov_i (h 90 20)) d_259_16 fl_Mo_319 (zb_90 I1) (zs_90 I1) rfl ?_
    refine ov_blk (ls2 := [(0, ov_r 90)]) (st2 := [ov_i ((h 90 20) - 1), ov_r 90]) (pc2 := 21) b_259_19_2 rfl rfl ?_
    refine ov_putf (x := ((h 90 20) - 1)) d_259_21 fl_Mo_319 (zb_90 I1) (zs_90 I1) rfl nk_0 rfl ?_
    have I5 := up_90_20 (x := ((h 90 20) - 1)) I1 (by omega)
    refine ov_blk (ls2 := [(0, ov_r 90)]) (st2 := [ov_r 90, ov_i 5, ov_r 90]) (pc2 := 27) b_259_24_3 rfl rfl ?_
    refine ov_getf (v := ov_i ((h 90 20) - 1)) d_259_27 fl_Mo_319 (zb_90 I5) (zs_90 I5) rfl ?_
    refine ov_blk (ls2 := [(0, ov_r 90)]) (st2 := [ov_i 58, ov_i 0, ov_i (5 + ((h 90 20) - 1)), ov_r 90]) (pc2 := 34) b_259_30_3 rfl rfl ?_
    refine ov_cV (as := [ov_i (5 + ((h 90 20) - 1)), ov_i 0, ov_i 58]) (st := []) (d2 := d - 1) d_259_34 lk_Mo_325 rfl (Nat.le_of_ble_eq_true rfl) (c := 1) (zb_90 I5) (zs_90 I5) ⟨by decide, rfl⟩ (by omega) (c_Mo_copies_90_t (d - 1) (by omega) U I5 (5 + ((h 90 20) - 1)) 0 58 (by omega) (by omega) (by omega) (by omega) (by omega) (by omega)) ?_
    rintro _ z24 h25 ⟨rfl, I26, f6, e7, e8, e9, e10, e11, e12, e13, e14, e15, e16, e17, e18, e19, e20, e21, y22, y23⟩
    have E27 : h25 91 = h 91 := e7
    have E28 : h25 92 = h 92 := e8
    have E29 : h25 93 = h 93 := e9
    have E30 : h25 94 = h 94 := e10
    have E31 : h25 95 = h 95 := e11
    have E32 : h25 96 = h 96 := e12
    have E33 : h25 97 = h 97 := e13
    have E34 : h25 98 = h 98 := e14
    have E35 : h25 99 = h 99 := e15
    have E36 : h25 100 = h 100 := e16
    have E37 : h25 104 = h 104 := e17
    have E38 : h25 105 = h 105 := e18
    have E39 : h25 106 = h 106 := e19
    have E40 : h25 109 = h 109 := e20
    have E41 : h25 114 = h 114 := e21
    show ov_R u d ov_m259 37 [(0, ov_r 90)] [] z24 h25 (P_Mo_undo_90_t F z h)
    have f42 : (h25 90 2) = (h 90 2) ∧ (h25 90 7) = (h 90 7) ∧ (h25 90 8) = (h 90 8) ∧ (h25 90 13) = (h 90 13) ∧ (h25 90 20) = ((h 90 20) - 1) ∧ (h25 90 22) = (h 90 22) ∧ (h25 90 25) = (h 90 25) ∧ (h25 90 26) = (h 90 26) ∧ (h25 90 28) = (h 90 28) ∧ (h25 90 29) = (h 90 29) ∧ (h25 90 30) = (h 90 30) ∧ (h25 90 34) = (h 90 34) := f6
    clear f6
    have y22_ : ∀ j : Int, j < 120 * (0 : Int) ∨ 120 * (0 : Int) + (58 : Int) ≤ j → (h25 103) j = (h 103) j := y22
    have y23_ : (h25 103) = cp_f (h 103) (5 + ((h 90 20) - 1)) (0 : Int) (58 : Int) := y23
    refine ov_blk (ls2 := [(0, ov_r 90)]) (st2 := [ov_r 90, ov_r 90]) (pc2 := 39) b_259_37_2 rfl rfl ?_
    refine ov_getf (v := ov_i (h25 90 22)) d_259_39 fl_Mo_322 (zb_90 I26) (zs_90 I26) rfl ?_
    have g43 := rg_90_22 I26
    refine ov_blk (ls2 := [(0, ov_r 90)]) (st2 := [ov_i ((h25 90 22) + 1), ov_r 90]) (pc2 := 44) b_259_42_2 rfl rfl ?_
    refine ov_putf (x := ((h25 90 22) + 1)) d_259_44 fl_Mo_322 (zb_90 I26) (zs_90 I26) rfl nk_0 rfl ?_
    have I44 := up_90_22 (x := ((h25 90 22) + 1)) I26 (by omega)
    refine ov_blk (ls2 := [(0, ov_r 90)]) (st2 := [ov_i 1]) (pc2 := 48) b_259_47_1 rfl rfl ?_
    exact ov_retz (st := []) d_259_48 rfl (by omega) ⟨_, rfl, I44, (by show (h25 90 2) = (h 90 2) ∧ (h25 90 7) = (h 90 7) ∧ (h25 90 8) = (h 90 8) ∧ (h25 90 13) = (h 90 13) ∧ (h25 90 25) = (h 90 25) ∧ (h25 90 26) = (h 90 26) ∧ (h25 90 28) = (h 90 28) ∧ (h25 90 29) = (h 90 29) ∧ (h25 90 30) = (h 90 30) ∧ (h25 90 34) = (h 90 34) ∧ (1 = 0 ∨ 1 = 1) ∧ (h 90 22) ≤ ((h25 90 22) + 1) ∧ ((h25 90 22) + 1) ≤ (h 90 22) + 1; omega), E27, E28, E29, E30, E31, E32, E33, E34, E35, E36, E37, E38, E39, E40, E41, (Or.inr (by show ((h25 90 22) + 1) = h 90 22 + 1; omega)), (Or.inr ⟨rfl, (by omega), y23_, (by show (h25 90 20) = h 90 20 - 1; omega)⟩)⟩
  · skip
    refine ov_blk (ls2 := [(0, ov_r 90)]) (st2 := [ov_i 0]) (pc2 := 13) b_259_12_1 rfl rfl ?_
    exact ov_retz (st := []) d_259_13 rfl (by omega) ⟨_, rfl, I1, ⟨rfl, rfl, rfl, rfl, rfl, rfl, rfl, rfl, rfl, rfl, (by show (0 = 0 ∨ 0 = 1) ∧ (h 90 22) ≤ (h 90 22) ∧ (h 90 22) ≤ (h 90 22) + 1; omega)⟩, rfl, rfl, rfl, rfl, rfl, rfl, rfl, rfl, rfl, rfl, rfl, rfl, rfl, rfl, rfl, (Or.inl ⟨rfl, rfl⟩), (Or.inl ⟨rfl, (by omega), (show (ov_up h 90 0 0) 103 = h 103 from rfl), (show (h 90 20) = h 90 20 from rfl)⟩)⟩
abbrev P_Mo_tried_90_t (F : ov_H × ov_Z) (z : ov_Z) (h : ov_H) (x : Int) (y : Int) (p : Int) (t : Int) : Option ov_V → ov_Z → ov_H → Prop := fun r0 z' h' => ∃ r : Int, r0 = some (ov_i r) ∧ ov_N F z' h' ∧ ((h' 90 2) = (h 90 2) ∧ (h' 90 7) = (h 90 7) ∧ (h' 90 8) = (h 90 8) ∧ (h' 90 13) = (h 90 13) ∧ (h' 90 20) = (h 90 20) ∧ (h' 90 22) = (h 90 22) ∧ (h' 90 25) = (h 90 25) ∧ (h' 90 26) = (h 90 26) ∧ (h' 90 28) = (h 90 28) ∧ (h' 90 29) = (h 90 29) ∧ (h' 90 30) = (h 90 30) ∧ (h' 90 34) = (h 90 34) ∧ (r = 0 ∨ r = 1)) ∧ h' 91 = h 91 ∧ h' 92 = h 92 ∧ h' 93 = h 93 ∧ h' 94 = h 94 ∧ h' 95 = h 95 ∧ h' 96 = h 96 ∧ h' 97 = h 97 ∧ h' 98 = h 98 ∧ h' 99 = h 99 ∧ h' 100 = h 100 ∧ h' 104 = h 104 ∧ h' 105 = h 105 ∧ h' 106 = h 106 ∧ h' 109 = h 109 ∧ h' 114 = h 114 ∧ (∀ j : Int, 4 ≤ j → j ≤ 57 → (h' 103) j = (h 103) j) ∧ ((r = 0 ∧ ¬ (0 ≤ x ∧ x < (h 96 0) ∧ 0 ≤ y ∧ y < (h 96 1) ∧ (h 96 (10 + 4 * (6 * y + x))) = 3 ∧ 0 ≤ t ∧ t ≤ 59 ∧ ¬ (h 103 58) = 10) ∧ (h' 103) = (h 103)) ∨ (r = 1 ∧ (0 ≤ x ∧ x < (h 96 0) ∧ 0 ≤ y ∧ y < (h 96 1) ∧ (h 96 (10 + 4 * (6 * y + x))) = 3 ∧ 0 ≤ t ∧ t ≤ 59 ∧ ¬ (h 103 58) = 10) ∧ (h' 103) = ov_rs (ov_rs (ov_rs (ov_rs ((h 103)) (60 + 3 * (h 103 58)) (6 * y + x)) (60 + 3 * (h 103 58) + 1) p) (60 + 3 * (h 103 58) + 2) t) 58 ((h 103 58) + 1)))
set_option maxHeartbeats 4000000 in
theorem c_Mo_tried_90_t {u : ov_U} {F : ov_H × ov_Z} {z : ov_Z} {h : ov_H} (d : Nat) (hd : 2 ≤ d) (U : ov_cap u) (I : ov_N F z h) (x : Int) (y : Int) (p : Int) (t : Int) (g_x : ov_g x) (g_y : ov_g y) (g_p : p = 0 ∨ p = 1) (g_t : ov_g t) : ov_T u d ov_m295 [ov_r 90, ov_i x, ov_i y, ov_i p, ov_i t] z h (P_Mo_tried_90_t F z h x y p t) := by
  refine ov_en rfl (Nat.le_of_ble_eq_true rfl) ?_
  show ov_R u d ov_m295 0 [(0, ov_r 90), (1, ov_i x), (2, ov_i y), (3, ov_i p), (4, ov_i t)] [] z h (P_Mo_tried_90_t F z h x y p t)
  have t0 := t96_0 I
  have t1 := t96_1 I
  refine ov_blk (ls2 := [(0, ov_r 90), (1, ov_i x), (2, ov_i y), (3, ov_i p), (4, ov_i t)]) (st2 := [ov_i 0, ov_r 90]) (pc2 := 2) b_295_0_2 rfl rfl ?_
  refine ov_putf (x := 0) d_295_2 fl_Mo_1 (zb_90 I) (zs_90 I) rfl nk_0 rfl ?_
  have I1 := up_90_0 (x := 0) I (by omega)
  refine ov_blk (ls2 := [(0, ov_r 90), (1, ov_i x), (2, ov_i y), (3, ov_i p), (4, ov_i t)]) (st2 := [ov_i y, ov_i x, ov_r 90]) (pc2 := 8) b_295_5_3 rfl rfl ?_
  refine ov_cV (as := [ov_i x, ov_i y]) (st := []) (d2 := d - 1) d_295_8 lk_Mo_296 rfl (Nat.le_of_ble_eq_true rfl) (c := 1) (zb_90 I1) (zs_90 I1) ⟨by decide, rfl⟩ (by omega) (c_Mo_isCorner_90_t (d - 1) (by omega) U I1 x y (by omega) (by omega)) ?_
  rintro _ _ _ ⟨v3, rfl, rfl, rfl, f2⟩
  show ov_R u d ov_m295 11 [(0, ov_r 90), (1, ov_i x), (2, ov_i y), (3, ov_i p), (4, ov_i t)] [ov_i v3] z (ov_up h 90 0 0) (P_Mo_tried_90_t F z h x y p t)
  have f4 : (v3 = 0 ∨ v3 = 1) ∧ (v3 = 1 → 0 ≤ x ∧ x ≤ 5 ∧ 0 ≤ y ∧ y ≤ 8 ∧ x < (h 96 0) ∧ y < (h 96 1)) ∧ (v3 = 0 → x < 0 ∨ y < 0 ∨ (h 96 0) ≤ x ∨ (h 96 1) ≤ y) := f2
  clear f2
  refine ov_ifeq (tgt := 47) d_295_11 (by decide) (by omega) (fun c5 => ?_) (fun c5 => ?_)
  · skip
    have f4_ : v3 = 0 := by omega
    have f6 : x < 0 ∨ y < 0 ∨ (h 96 0) ≤ x ∨ (h 96 1) ≤ y := f4.2.2 (by omega)
    clear f4
    refine ov_blk (ls2 := [(0, ov_r 90), (1, ov_i x), (2, ov_i y), (3, ov_i p), (4, ov_i t)]) (st2 := [ov_i 0]) (pc2 := 48) b_295_47_1 rfl rfl ?_
    exact ov_retz (st := []) d_295_48 rfl (by omega) ⟨_, rfl, I1, ⟨rfl, rfl, rfl, rfl, rfl, rfl, rfl, rfl, rfl, rfl, rfl, rfl, (by show (0 = 0 ∨ 0 = 1); omega)⟩, rfl, rfl, rfl, rfl, rfl, rfl, rfl, rfl, rfl, rfl, rfl, rfl, rfl, rfl, rfl, (fun j h1 h2 => rfl), (Or.inl ⟨rfl, (by omega), (show (ov_up h 90 0 0) 103 = h 103 from rfl)⟩)⟩
  · skip
    have f4_ : v3 = 1 := by omega
    have f7 : 0 ≤ x ∧ x ≤ 5 ∧ 0 ≤ y ∧ y ≤ 8 ∧ x < (h 96 0) ∧ y < (h 96 1) := f4.2.1 (by omega)
    clear f4
    refine ov_blk (ls2 := [(0, ov_r 90), (1, ov_i x), (2, ov_i y), (3, ov_i p), (4, ov_i t)]) (st2 := [ov_i y, ov_i x, ov_r 90]) (pc2 := 17) b_295_14_3 rfl rfl ?_
    refine ov_cV (as := [ov_i x, ov_i y]) (st := []) (d2 := d - 1) d_295_17 lk_Mo_282 rfl (Nat.le_of_ble_eq_true rfl) (c := 1) (zb_90 I1) (zs_90 I1) ⟨by decide, rfl⟩ (by omega) (c_Mo_kindAt_90 (d - 1) (by omega) U I1 x y (by omega) (by omega) (by omega)) ?_
    rintro _ _ _ ⟨v9, rfl, rfl, rfl, f8⟩
    show ov_R u d ov_m295 20 [(0, ov_r 90), (1, ov_i x), (2, ov_i y), (3, ov_i p), (4, ov_i t)] [ov_i v9] z (ov_up h 90 0 0) (P_Mo_tried_90_t F z h x y p t)
    have f10 : v9 = (h 96 (10 + 4 * (6 * y + x))) - 1 ∧ -1 ≤ v9 ∧ v9 ≤ 3 := f8
    clear f8
    refine ov_blk (ls2 := [(0, ov_r 90), (1, ov_i x), (2, ov_i y), (3, ov_i p), (4, ov_i t)]) (st2 := [ov_i 2, ov_i v9]) (pc2 := 21) b_295_20_1 rfl rfl ?_
    refine ov_icne (tgt := 47) d_295_21 (by decide) (by omega) (by omega) (fun c11 => ?_) (fun c11 => ?_)
    · skip
      refine ov_blk (ls2 := [(0, ov_r 90), (1, ov_i x), (2, ov_i y), (3, ov_i p), (4, ov_i t)]) (st2 := [ov_i 0]) (pc2 := 48) b_295_47_1 rfl rfl ?_
      exact ov_retz (st := []) d_295_48 rfl (by omega) ⟨_, rfl, I1, ⟨rfl, rfl, rfl, rfl, rfl, rfl, rfl, rfl, rfl, rfl, rfl, rfl, (by show (0 = 0 ∨ 0 = 1); omega)⟩, rfl, rfl, rfl, rfl, rfl, rfl, rfl, rfl, rfl, rfl, rfl, rfl, rfl, rfl, rfl, (fun j h1 h2 => rfl), (Or.inl ⟨rfl, (by omega), (show (ov_up h 90 0 0) 103 = h 103 from rfl)⟩)⟩
    · skip
      refine ov_blk (ls2 := [(0, ov_r 90), (1, ov_i x), (2, ov_i y), (3, ov_i p), (4, ov_i t)]) (st2 := [ov_i 59, ov_i 0, ov_i t]) (pc2 := 29) b_295_24_3 rfl rfl ?_
      refine ov_cS (as := [ov_i t, ov_i 0, ov_i 59]) (st := []) (d2 := d - 1) d_295_29 lk_Mo_299 rfl (Nat.le_of_ble_eq_true rfl) (by omega) (c_Mo_within (d - 1) (by omega) U I1 t 0 59 (by omega) (by omega) (by omega)) ?_
      rintro _ _ _ ⟨v13, rfl, rfl, rfl, f12⟩
      show ov_R u d ov_m295 32 [(0, ov_r 90), (1, ov_i x), (2, ov_i y), (3, ov_i p), (4, ov_i t)] [ov_i v13] z (ov_up h 90 0 0) (P_Mo_tried_90_t F z h x y p t)
      have f14 : (v13 = 0 ∨ v13 = 1) ∧ (v13 = 1 → (0 : Int) ≤ t ∧ t ≤ (59 : Int)) ∧ (v13 = 0 → t < (0 : Int) ∨ (59 : Int) < t) := f12
      clear f12
      refine ov_ifeq (tgt := 47) d_295_32 (by decide) (by omega) (fun c15 => ?_) (fun c15 => ?_)
      · skip
        have f14_ : v13 = 0 := by omega
        have f16 : t < (0 : Int) ∨ (59 : Int) < t := f14.2.2 (by omega)
        clear f14
        refine ov_blk (ls2 := [(0, ov_r 90), (1, ov_i x), (2, ov_i y), (3, ov_i p), (4, ov_i t)]) (st2 := [ov_i 0]) (pc2 := 48) b_295_47_1 rfl rfl ?_
        exact ov_retz (st := []) d_295_48 rfl (by omega) ⟨_, rfl, I1, ⟨rfl, rfl, rfl, rfl, rfl, rfl, rfl, rfl, rfl, rfl, rfl, rfl, (by show (0 = 0 ∨ 0 = 1); omega)⟩, rfl, rfl, rfl, rfl, rfl, rfl, rfl, rfl, rfl, rfl, rfl, rfl, rfl, rfl, rfl, (fun j h1 h2 => rfl), (Or.inl ⟨rfl, (by omega), (show (ov_up h 90 0 0) 103 = h 103 from rfl)⟩)⟩
      · skip
        have f14_ : v13 = 1 := by omega
        have f17 : (0 : Int) ≤ t ∧ t ≤ (59 : Int) := f14.2.1 (by omega)
        clear f14
        refine ov_blk (ls2 := [(0, ov_r 90), (1, ov_i x), (2, ov_i y), (3, ov_i p), (4, ov_i t)]) (st2 := [ov_r 90]) (pc2 := 36) b_295_35_1 rfl rfl ?_
        refine ov_getf (v := ov_r 103) d_295_36 fl_Mo_102 (zb_90 I1) (zs_90 I1) (congrArg ov_r (rg_90_19 I1)) ?_
        refine ov_blk (ls2 := [(0, ov_r 90), (1, ov_i x), (2, ov_i y), (3, ov_i p), (4, ov_i t)]) (st2 := [ov_i 58, ov_r 103]) (pc2 := 41) b_295_39_1 rfl rfl ?_
        refine ov_iald d_295_41 (zb_103 I1) (zs_103 I1) (by omega) ?_
        show ov_R u d ov_m295 42 [(0, ov_r 90), (1, ov_i x), (2, ov_i y), (3, ov_i p), (4, ov_i t)] [ov_i (h 103 58)] z (ov_up h 90 0 0) (P_Mo_tried_90_t F z h x y p t)
        have g18 := s103_58 I
        refine ov_blk (ls2 := [(0, ov_r 90), (1, ov_i x), (2, ov_i y), (3, ov_i p), (4, ov_i t)]) (st2 := [ov_i 10, ov_i (h 103 58)]) (pc2 := 44) b_295_42_1 rfl rfl ?_
        refine ov_icne (tgt := 49) d_295_44 (by decide) (by omega) (by omega) (fun c19 => ?_) (fun c19 => ?_)
        · skip
          refine ov_blk (ls2 := [(0, ov_r 90), (1, ov_i x), (2, ov_i y), (3, ov_i p), (4, ov_i t)]) (st2 := [ov_r 90, ov_i 3, ov_i 60]) (pc2 := 53) b_295_49_3 rfl rfl ?_
          refine ov_getf (v := ov_r 103) d_295_53 fl_Mo_102 (zb_90 I1) (zs_90 I1) (congrArg ov_r (rg_90_19 I1)) ?_
          refine ov_blk (ls2 := [(0, ov_r 90), (1, ov_i x), (2, ov_i y), (3, ov_i p), (4, ov_i t)]) (st2 := [ov_i 58, ov_r 103, ov_i 3, ov_i 60]) (pc2 := 58) b_295_56_1 rfl rfl ?_
          refine ov_iald d_295_58 (zb_103 I1) (zs_103 I1) (by omega) ?_
          show ov_R u d ov_m295 59 [(0, ov_r 90), (1, ov_i x), (2, ov_i y), (3, ov_i p), (4, ov_i t)] [ov_i (h 103 58), ov_i 3, ov_i 60] z (ov_up h 90 0 0) (P_Mo_tried_90_t F z h x y p t)
          refine ov_blk (ls2 := [(0, ov_r 90), (1, ov_i x), (2, ov_i y), (3, ov_i p), (4, ov_i t), (5, ov_i (60 + (3 * (h 103 58))))]) (st2 := [ov_r 90]) (pc2 := 64) b_295_59_4 rfl rfl ?_
          refine ov_getf (v := ov_r 103) d_295_64 fl_Mo_102 (zb_90 I1) (zs_90 I1) (congrArg ov_r (rg_90_19 I1)) ?_
          refine ov_blk (ls2 := [(0, ov_r 90), (1, ov_i x), (2, ov_i y), (3, ov_i p), (4, ov_i t), (5, ov_i (60 + (3 * (h 103 58))))]) (st2 := [ov_i ((6 * y) + x), ov_i (60 + (3 * (h 103 58))), ov_r 103]) (pc2 := 75) b_295_67_6 rfl rfl ?_
          refine ov_iast d_295_75 (zb_103 I1) (zs_103 I1) (by omega) ?_
          have I21 := ua_103 (k := (60 + (3 * (h 103 58)))) (x := ((6 * y) + x)) I1 (by refine ⟨?_, ?_, ?_, ?_, ?_, ?_⟩ <;> omega)
          refine ov_blk (ls2 := [(0, ov_r 90), (1, ov_i x), (2, ov_i y), (3, ov_i p), (4, ov_i t), (5, ov_i (60 + (3 * (h 103 58))))]) (st2 := [ov_r 90]) (pc2 := 77) b_295_76_1 rfl rfl ?_
          refine ov_getf (v := ov_r 103) d_295_77 fl_Mo_102 (zb_90 I21) (zs_90 I21) (congrArg ov_r (rg_90_19 I21)) ?_
          refine ov_blk (ls2 := [(0, ov_r 90), (1, ov_i x), (2, ov_i y), (3, ov_i p), (4, ov_i t), (5, ov_i (60 + (3 * (h 103 58))))]) (st2 := [ov_i p, ov_i ((60 + (3 * (h 103 58))) + 1), ov_r 103]) (pc2 := 85) b_295_80_4 rfl rfl ?_
          refine ov_ifeq (tgt := 92) d_295_85 (by decide) (by omega) (fun c22 => ?_) (fun c22 => ?_)
          · skip
            refine ov_blk (ls2 := [(0, ov_r 90), (1, ov_i x), (2, ov_i y), (3, ov_i p), (4, ov_i t), (5, ov_i (60 + (3 * (h 103 58))))]) (st2 := [ov_i 0, ov_i ((60 + (3 * (h 103 58))) + 1), ov_r 103]) (pc2 := 93) b_295_92_1 rfl rfl ?_
            refine ov_iast d_295_93 (zb_103 I21) (zs_103 I21) (by omega) ?_
            have I23 := ua_103 (k := ((60 + (3 * (h 103 58))) + 1)) (x := 0) I21 (by refine ⟨?_, ?_, ?_, ?_, ?_, ?_⟩ <;> omega)
            refine ov_blk (ls2 := [(0, ov_r 90), (1, ov_i x), (2, ov_i y), (3, ov_i p), (4, ov_i t), (5, ov_i (60 + (3 * (h 103 58))))]) (st2 := [ov_r 90]) (pc2 := 95) b_295_94_1 rfl rfl ?_
            refine ov_getf (v := ov_r 103) d_295_95 fl_Mo_102 (zb_90 I23) (zs_90 I23) (congrArg ov_r (rg_90_19 I23)) ?_
            refine ov_blk (ls2 := [(0, ov_r 90), (1, ov_i x), (2, ov_i y), (3, ov_i p), (4, ov_i t), (5, ov_i (60 + (3 * (h 103 58))))]) (st2 := [ov_i t, ov_i ((60 + (3 * (h 103 58))) + 2), ov_r 103]) (pc2 := 104) b_295_98_4 rfl rfl ?_
            refine ov_iast d_295_104 (zb_103 I23) (zs_103 I23) (by omega) ?_
            have I24 := ua_103 (k := ((60 + (3 * (h 103 58))) + 2)) (x := t) I23 (by refine ⟨?_, ?_, ?_, ?_, ?_, ?_⟩ <;> omega)
            refine ov_blk (ls2 := [(0, ov_r 90), (1, ov_i x), (2, ov_i y), (3, ov_i p), (4, ov_i t), (5, ov_i (60 + (3 * (h 103 58))))]) (st2 := [ov_r 90]) (pc2 := 106) b_295_105_1 rfl rfl ?_
            refine ov_getf (v := ov_r 103) d_295_106 fl_Mo_102 (zb_90 I24) (zs_90 I24) (congrArg ov_r (rg_90_19 I24)) ?_
            refine ov_blk (ls2 := [(0, ov_r 90), (1, ov_i x), (2, ov_i y), (3, ov_i p), (4, ov_i t), (5, ov_i (60 + (3 * (h 103 58))))]) (st2 := [ov_i 58, ov_r 103, ov_i 58, ov_r 103]) (pc2 := 112) b_295_109_2 rfl rfl ?_
            refine ov_iald d_295_112 (zb_103 I24) (zs_103 I24) (by omega) ?_
            show ov_R u d ov_m295 113 [(0, ov_r 90), (1, ov_i x), (2, ov_i y), (3, ov_i p), (4, ov_i t), (5, ov_i (60 + (3 * (h 103 58))))] [ov_i ((ov_up (ov_up (ov_up (ov_up h 90 0 0) 103 (60 + (3 * (h 103 58))) ((6 * y) + x)) 103 ((60 + (3 * (h 103 58))) + 1) 0) 103 ((60 + (3 * (h 103 58))) + 2) t) 103 58), ov_i 58, ov_r 103] z (ov_up (ov_up (ov_up (ov_up h 90 0 0) 103 (60 + (3 * (h 103 58))) ((6 * y) + x)) 103 ((60 + (3 * (h 103 58))) + 1) 0) 103 ((60 + (3 * (h 103 58))) + 2) t) (P_Mo_tried_90_t F z h x y p t)
            have hh58 : ((ov_up (ov_up (ov_up (ov_up h 90 0 0) 103 (60 + (3 * (h 103 58))) ((6 * y) + x)) 103 ((60 + (3 * (h 103 58))) + 1) 0) 103 ((60 + (3 * (h 103 58))) + 2) t) 103 58) = h 103 58 := by rw [ov_up_j (by omega)]; rw [ov_up_j (by omega)]; rw [ov_up_j (by omega)]; rfl
            refine ov_blk (ls2 := [(0, ov_r 90), (1, ov_i x), (2, ov_i y), (3, ov_i p), (4, ov_i t), (5, ov_i (60 + (3 * (h 103 58))))]) (st2 := [ov_i (((ov_up (ov_up (ov_up (ov_up h 90 0 0) 103 (60 + (3 * (h 103 58))) ((6 * y) + x)) 103 ((60 + (3 * (h 103 58))) + 1) 0) 103 ((60 + (3 * (h 103 58))) + 2) t) 103 58) + 1), ov_i 58, ov_r 103]) (pc2 := 115) b_295_113_2 rfl rfl ?_
            refine ov_iast d_295_115 (zb_103 I24) (zs_103 I24) (by omega) ?_
            have I25 := ua_103 (k := 58) (x := (((ov_up (ov_up (ov_up (ov_up h 90 0 0) 103 (60 + (3 * (h 103 58))) ((6 * y) + x)) 103 ((60 + (3 * (h 103 58))) + 1) 0) 103 ((60 + (3 * (h 103 58))) + 2) t) 103 58) + 1)) I24 (by refine ⟨?_, ?_, ?_, ?_, ?_, ?_⟩ <;> omega)
            refine ov_blk (ls2 := [(0, ov_r 90), (1, ov_i x), (2, ov_i y), (3, ov_i p), (4, ov_i t), (5, ov_i (60 + (3 * (h 103 58))))]) (st2 := [ov_i 1]) (pc2 := 117) b_295_116_1 rfl rfl ?_
            exact ov_retz (st := []) d_295_117 rfl (by omega) ⟨_, rfl, I25, ⟨rfl, rfl, rfl, rfl, rfl, rfl, rfl, rfl, rfl, rfl, rfl, rfl, (by show (1 = 0 ∨ 1 = 1); omega)⟩, rfl, rfl, rfl, rfl, rfl, rfl, rfl, rfl, rfl, rfl, rfl, rfl, rfl, rfl, rfl, (fun j h1 h2 => by show (ov_up (ov_up (ov_up (ov_up (ov_up h 90 0 0) 103 (60 + (3 * (h 103 58))) ((6 * y) + x)) 103 ((60 + (3 * (h 103 58))) + 1) 0) 103 ((60 + (3 * (h 103 58))) + 2) t) 103 58 (((ov_up (ov_up (ov_up (ov_up h 90 0 0) 103 (60 + (3 * (h 103 58))) ((6 * y) + x)) 103 ((60 + (3 * (h 103 58))) + 1) 0) 103 ((60 + (3 * (h 103 58))) + 2) t) 103 58) + 1)) 103 j = h 103 j; rw [ov_up_j (by omega)]; rw [ov_up_j (by omega)]; rw [ov_up_j (by omega)]; rw [ov_up_j (by omega)]; rw [ov_up_ne (by decide)]), (Or.inr ⟨rfl, (by omega), (st_up (st_up (st_up (st_up (st_un (by decide) (rfl : h 103 = h 103)) (by omega) (by omega)) (by omega) (by omega)) (by omega) (by omega)) (by omega) (by omega))⟩)⟩
          · skip
            refine ov_blk (ls2 := [(0, ov_r 90), (1, ov_i x), (2, ov_i y), (3, ov_i p), (4, ov_i t), (5, ov_i (60 + (3 * (h 103 58))))]) (st2 := [ov_i 1, ov_i ((60 + (3 * (h 103 58))) + 1), ov_r 103]) (pc2 := 89) b_295_88_1 rfl rfl ?_
            refine ov_goto (tgt := 93) d_295_89 (by decide) ?_
            refine ov_iast d_295_93 (zb_103 I21) (zs_103 I21) (by omega) ?_
            have I26 := ua_103 (k := ((60 + (3 * (h 103 58))) + 1)) (x := 1) I21 (by refine ⟨?_, ?_, ?_, ?_, ?_, ?_⟩ <;> omega)
            refine ov_blk (ls2 := [(0, ov_r 90), (1, ov_i x), (2, ov_i y), (3, ov_i p), (4, ov_i t), (5, ov_i (60 + (3 * (h 103 58))))]) (st2 := [ov_r 90]) (pc2 := 95) b_295_94_1 rfl rfl ?_
            refine ov_getf (v := ov_r 103) d_295_95 fl_Mo_102 (zb_90 I26) (zs_90 I26) (congrArg ov_r (rg_90_19 I26)) ?_
            refine ov_blk (ls2 := [(0, ov_r 90), (1, ov_i x), (2, ov_i y), (3, ov_i p), (4, ov_i t), (5, ov_i (60 + (3 * (h 103 58))))]) (st2 := [ov_i t, ov_i ((60 + (3 * (h 103 58))) + 2), ov_r 103]) (pc2 := 104) b_295_98_4 rfl rfl ?_
            refine ov_iast d_295_104 (zb_103 I26) (zs_103 I26) (by omega) ?_
            have I27 := ua_103 (k := ((60 + (3 * (h 103 58))) + 2)) (x := t) I26 (by refine ⟨?_, ?_, ?_, ?_, ?_, ?_⟩ <;> omega)
            refine ov_blk (ls2 := [(0, ov_r 90), (1, ov_i x), (2, ov_i y), (3, ov_i p), (4, ov_i t), (5, ov_i (60 + (3 * (h 103 58))))]) (st2 := [ov_r 90]) (pc2 := 106) b_295_105_1 rfl rfl ?_
            refine ov_getf (v := ov_r 103) d_295_106 fl_Mo_102 (zb_90 I27) (zs_90 I27) (congrArg ov_r (rg_90_19 I27)) ?_
            refine ov_blk (ls2 := [(0, ov_r 90), (1, ov_i x), (2, ov_i y), (3, ov_i p), (4, ov_i t), (5, ov_i (60 + (3 * (h 103 58))))]) (st2 := [ov_i 58, ov_r 103, ov_i 58, ov_r 103]) (pc2 := 112) b_295_109_2 rfl rfl ?_
            refine ov_iald d_295_112 (zb_103 I27) (zs_103 I27) (by omega) ?_
            show ov_R u d ov_m295 113 [(0, ov_r 90), (1, ov_i x), (2, ov_i y), (3, ov_i p), (4, ov_i t), (5, ov_i (60 + (3 * (h 103 58))))] [ov_i ((ov_up (ov_up (ov_up (ov_up h 90 0 0) 103 (60 + (3 * (h 103 58))) ((6 * y) + x)) 103 ((60 + (3 * (h 103 58))) + 1) 1) 103 ((60 + (3 * (h 103 58))) + 2) t) 103 58), ov_i 58, ov_r 103] z (ov_up (ov_up (ov_up (ov_up h 90 0 0) 103 (60 + (3 * (h 103 58))) ((6 * y) + x)) 103 ((60 + (3 * (h 103 58))) + 1) 1) 103 ((60 + (3 * (h 103 58))) + 2) t) (P_Mo_tried_90_t F z h x y p t)
            have hh58 : ((ov_up (ov_up (ov_up (ov_up h 90 0 0) 103 (60 + (3 * (h 103 58))) ((6 * y) + x)) 103 ((60 + (3 * (h 103 58))) + 1) 1) 103 ((60 + (3 * (h 103 58))) + 2) t) 103 58) = h 103 58 := by rw [ov_up_j (by omega)]; rw [ov_up_j (by omega)]; rw [ov_up_j (by omega)]; rfl
            refine ov_blk (ls2 := [(0, ov_r 90), (1, ov_i x), (2, ov_i y), (3, ov_i p), (4, ov_i t), (5, ov_i (60 + (3 * (h 103 58))))]) (st2 := [ov_i (((ov_up (ov_up (ov_up (ov_up h 90 0 0) 103 (60 + (3 * (h 103 58))) ((6 * y) + x)) 103 ((60 + (3 * (h 103 58))) + 1) 1) 103 ((60 + (3 * (h 103 58))) + 2) t) 103 58) + 1), ov_i 58, ov_r 103]) (pc2 := 115) b_295_113_2 rfl rfl ?_
            refine ov_iast d_295_115 (zb_103 I27) (zs_103 I27) (by omega) ?_
            have I28 := ua_103 (k := 58) (x := (((ov_up (ov_up (ov_up (ov_up h 90 0 0) 103 (60 + (3 * (h 103 58))) ((6 * y) + x)) 103 ((60 + (3 * (h 103 58))) + 1) 1) 103 ((60 + (3 * (h 103 58))) + 2) t) 103 58) + 1)) I27 (by refine ⟨?_, ?_, ?_, ?_, ?_, ?_⟩ <;> omega)
            refine ov_blk (ls2 := [(0, ov_r 90), (1, ov_i x), (2, ov_i y), (3, ov_i p), (4, ov_i t), (5, ov_i (60 + (3 * (h 103 58))))]) (st2 := [ov_i 1]) (pc2 := 117) b_295_116_1 rfl rfl ?_
            exact ov_retz (st := []) d_295_117 rfl (by omega) ⟨_, rfl, I28, ⟨rfl, rfl, rfl, rfl, rfl, rfl, rfl, rfl, rfl, rfl, rfl, rfl, (by show (1 = 0 ∨ 1 = 1); omega)⟩, rfl, rfl, rfl, rfl, rfl, rfl, rfl, rfl, rfl, rfl, rfl, rfl, rfl, rfl, rfl, (fun j h1 h2 => by show (ov_up (ov_up (ov_up (ov_up (ov_up h 90 0 0) 103 (60 + (3 * (h 103 58))) ((6 * y) + x)) 103 ((60 + (3 * (h 103 58))) + 1) 1) 103 ((60 + (3 * (h 103 58))) + 2) t) 103 58 (((ov_up (ov_up (ov_up (ov_up h 90 0 0) 103 (60 + (3 * (h 103 58))) ((6 * y) + x)) 103 ((60 + (3 * (h 103 58))) + 1) 1) 103 ((60 + (3 * (h 103 58))) + 2) t) 103 58) + 1)) 103 j = h 103 j; rw [ov_up_j (by omega)]; rw [ov_up_j (by omega)]; rw [ov_up_j (by omega)]; rw [ov_up_j (by omega)]; rw [ov_up_ne (by decide)]), (Or.inr ⟨rfl, (by omega), (st_up (st_up (st_up (st_up (st_un (by decide) (rfl : h 103 = h 103)) (by omega) (by omega)) (by omega) (by omega)) (by omega) (by omega)) (by omega) (by omega))⟩)⟩
        · skip
          refine ov_blk (ls2 := [(0, ov_r 90), (1, ov_i x), (2, ov_i y), (3, ov_i p), (4, ov_i t)]) (st2 := [ov_i 0]) (pc2 := 48) b_295_47_1 rfl rfl ?_
          exact ov_retz (st := []) d_295_48 rfl (by omega) ⟨_, rfl, I1, ⟨rfl, rfl, rfl, rfl, rfl, rfl, rfl, rfl, rfl, rfl, rfl, rfl, (by show (0 = 0 ∨ 0 = 1); omega)⟩, rfl, rfl, rfl, rfl, rfl, rfl, rfl, rfl, rfl, rfl, rfl, rfl, rfl, rfl, rfl, (fun j h1 h2 => rfl), (Or.inl ⟨rfl, (by omega), (show (ov_up h 90 0 0) 103 = h 103 from rfl)⟩)⟩
abbrev P_Mo_was_90_t (F : ov_H × ov_Z) (z : ov_Z) (h : ov_H) (x : Int) (y : Int) (t : Int) : Option ov_V → ov_Z → ov_H → Prop := fun r0 z' h' => ∃ r : Int, r0 = some (ov_i r) ∧ ov_N F z' h' ∧ ((h' 90 2) = (h 90 2) ∧ (h' 90 7) = (h 90 7) ∧ (h' 90 8) = (h 90 8) ∧ (h' 90 13) = (h 90 13) ∧ (h' 90 20) = (h 90 20) ∧ (h' 90 22) = (h 90 22) ∧ (h' 90 25) = (h 90 25) ∧ (h' 90 26) = (h 90 26) ∧ (h' 90 28) = (h 90 28) ∧ (h' 90 29) = (h 90 29) ∧ (h' 90 30) = (h 90 30) ∧ (h' 90 34) = (h 90 34) ∧ (r = 0 ∨ r = 1)) ∧ h' 91 = h 91 ∧ h' 92 = h 92 ∧ h' 93 = h 93 ∧ h' 94 = h 94 ∧ h' 95 = h 95 ∧ h' 96 = h 96 ∧ h' 97 = h 97 ∧ h' 98 = h 98 ∧ h' 99 = h 99 ∧ h' 100 = h 100 ∧ h' 104 = h 104 ∧ h' 105 = h 105 ∧ h' 106 = h 106 ∧ h' 109 = h 109 ∧ h' 114 = h 114 ∧ (∀ j : Int, 4 ≤ j → j ≤ 57 → (h' 103) j = (h 103) j) ∧ ((r = 0 ∧ ¬ (0 ≤ x ∧ x < (h 96 0) ∧ 0 ≤ y ∧ y < (h 96 1) ∧ 0 ≤ t ∧ t ≤ 9999 ∧ ¬ (h 103 59) = 8) ∧ (h' 103) = (h 103)) ∨ (r = 1 ∧ (0 ≤ x ∧ x < (h 96 0) ∧ 0 ≤ y ∧ y < (h 96 1) ∧ 0 ≤ t ∧ t ≤ 9999 ∧ ¬ (h 103 59) = 8) ∧ (h' 103) = ov_rs (ov_rs (ov_rs (ov_rs ((h 103)) (92 + 3 * (h 103 59)) x) (92 + 3 * (h 103 59) + 1) y) (92 + 3 * (h 103 59) + 2) t) 59 ((h 103 59) + 1)))
set_option maxHeartbeats 4000000 in
theorem c_Mo_was_90_t {u : ov_U} {F : ov_H × ov_Z} {z : ov_Z} {h : ov_H} (d : Nat) (hd : 2 ≤ d) (U : ov_cap u) (I : ov_N F z h) (x : Int) (y : Int) (t : Int) (g_x : ov_g x) (g_y : ov_g y) (g_t : ov_g t) : ov_T u d ov_m302 [ov_r 90, ov_i x, ov_i y, ov_i t] z h (P_Mo_was_90_t F z h x y t) := by
  refine ov_en rfl (Nat.le_of_ble_eq_true rfl) ?_
  show ov_R u d ov_m302 0 [(0, ov_r 90), (1, ov_i x), (2, ov_i y), (3, ov_i t)] [] z h (P_Mo_was_90_t F z h x y t)
  have t0 := t96_0 I
  have t1 := t96_1 I
  refine ov_blk (ls2 := [(0, ov_r 90), (1, ov_i x), (2, ov_i y), (3, ov_i t)]) (st2 := [ov_i 0, ov_r 90]) (pc2 := 2) b_302_0_2 rfl rfl ?_
  refine ov_putf (x := 0) d_302_2 fl_Mo_1 (zb_90 I) (zs_90 I) rfl nk_0 rfl ?_
  have I1 := up_90_0 (x := 0) I (by omega)
  refine ov_blk (ls2 := [(0, ov_r 90), (1, ov_i x), (2, ov_i y), (3, ov_i t)]) (st2 := [ov_i y, ov_i x, ov_r 90]) (pc2 := 8) b_302_5_3 rfl rfl ?_
  refine ov_cV (as := [ov_i x, ov_i y]) (st := []) (d2 := d - 1) d_302_8 lk_Mo_296 rfl (Nat.le_of_ble_eq_true rfl) (c := 1) (zb_90 I1) (zs_90 I1) ⟨by decide, rfl⟩ (by omega) (c_Mo_isCorner_90_t (d - 1) (by omega) U I1 x y (by omega) (by omega)) ?_
  rintro _ _ _ ⟨v3, rfl, rfl, rfl, f2⟩
  show ov_R u d ov_m302 11 [(0, ov_r 90), (1, ov_i x), (2, ov_i y), (3, ov_i t)] [ov_i v3] z (ov_up h 90 0 0) (P_Mo_was_90_t F z h x y t)
  have f4 : (v3 = 0 ∨ v3 = 1) ∧ (v3 = 1 → 0 ≤ x ∧ x ≤ 5 ∧ 0 ≤ y ∧ y ≤ 8 ∧ x < (h 96 0) ∧ y < (h 96 1)) ∧ (v3 = 0 → x < 0 ∨ y < 0 ∨ (h 96 0) ≤ x ∨ (h 96 1) ≤ y) := f2
  clear f2
  refine ov_ifeq (tgt := 37) d_302_11 (by decide) (by omega) (fun c5 => ?_) (fun c5 => ?_)
  · skip
    have f4_ : v3 = 0 := by omega
    have f6 : x < 0 ∨ y < 0 ∨ (h 96 0) ≤ x ∨ (h 96 1) ≤ y := f4.2.2 (by omega)
    clear f4
    refine ov_blk (ls2 := [(0, ov_r 90), (1, ov_i x), (2, ov_i y), (3, ov_i t)]) (st2 := [ov_i 0]) (pc2 := 38) b_302_37_1 rfl rfl ?_
    exact ov_retz (st := []) d_302_38 rfl (by omega) ⟨_, rfl, I1, ⟨rfl, rfl, rfl, rfl, rfl, rfl, rfl, rfl, rfl, rfl, rfl, rfl, (by show (0 = 0 ∨ 0 = 1); omega)⟩, rfl, rfl, rfl, rfl, rfl, rfl, rfl, rfl, rfl, rfl, rfl, rfl, rfl, rfl, rfl, (fun j h1 h2 => rfl), (Or.inl ⟨rfl, (by omega), (show (ov_up h 90 0 0) 103 = h 103 from rfl)⟩)⟩
  · skip
    have f4_ : v3 = 1 := by omega
    have f7 : 0 ≤ x ∧ x ≤ 5 ∧ 0 ≤ y ∧ y ≤ 8 ∧ x < (h 96 0) ∧ y < (h 96 1) := f4.2.1 (by omega)
    clear f4
    refine ov_blk (ls2 := [(0, ov_r 90), (1, ov_i x), (2, ov_i y), (3, ov_i t)]) (st2 := [ov_i 9999, ov_i 0, ov_i t]) (pc2 := 19) b_302_14_3 rfl rfl ?_
    refine ov_cS (as := [ov_i t, ov_i 0, ov_i 9999]) (st := []) (d2 := d - 1) d_302_19 lk_Mo_299 rfl (Nat.le_of_ble_eq_true rfl) (by omega) (c_Mo_within (d - 1) (by omega) U I1 t 0 9999 (by omega) (by omega) (by omega)) ?_
    rintro _ _ _ ⟨v9, rfl, rfl, rfl, f8⟩
    show ov_R u d ov_m302 22 [(0, ov_r 90), (1, ov_i x), (2, ov_i y), (3, ov_i t)] [ov_i v9] z (ov_up h 90 0 0) (P_Mo_was_90_t F z h x y t)
    have f10 : (v9 = 0 ∨ v9 = 1) ∧ (v9 = 1 → (0 : Int) ≤ t ∧ t ≤ (9999 : Int)) ∧ (v9 = 0 → t < (0 : Int) ∨ (9999 : Int) < t) := f8
    clear f8
    refine ov_ifeq (tgt := 37) d_302_22 (by decide) (by omega) (fun c11 => ?_) (fun c11 => ?_)
    · skip
      have f10_ : v9 = 0 := by omega
      have f12 : t < (0 : Int) ∨ (9999 : Int) < t := f10.2.2 (by omega)
      clear f10
      refine ov_blk (ls2 := [(0, ov_r 90), (1, ov_i x), (2, ov_i y), (3, ov_i t)]) (st2 := [ov_i 0]) (pc2 := 38) b_302_37_1 rfl rfl ?_
      exact ov_retz (st := []) d_302_38 rfl (by omega) ⟨_, rfl, I1, ⟨rfl, rfl, rfl, rfl, rfl, rfl, rfl, rfl, rfl, rfl, rfl, rfl, (by show (0 = 0 ∨ 0 = 1); omega)⟩, rfl, rfl, rfl, rfl, rfl, rfl, rfl, rfl, rfl, rfl, rfl, rfl, rfl, rfl, rfl, (fun j h1 h2 => rfl), (Or.inl ⟨rfl, (by omega), (show (ov_up h 90 0 0) 103 = h 103 from rfl)⟩)⟩
    · skip
      have f10_ : v9 = 1 := by omega
      have f13 : (0 : Int) ≤ t ∧ t ≤ (9999 : Int) := f10.2.1 (by omega)
      clear f10
      refine ov_blk (ls2 := [(0, ov_r 90), (1, ov_i x), (2, ov_i y), (3, ov_i t)]) (st2 := [ov_r 90]) (pc2 := 26) b_302_25_1 rfl rfl ?_
      refine ov_getf (v := ov_r 103) d_302_26 fl_Mo_102 (zb_90 I1) (zs_90 I1) (congrArg ov_r (rg_90_19 I1)) ?_
      refine ov_blk (ls2 := [(0, ov_r 90), (1, ov_i x), (2, ov_i y), (3, ov_i t)]) (st2 := [ov_i 59, ov_r 103]) (pc2 := 31) b_302_29_1 rfl rfl ?_
      refine ov_iald d_302_31 (zb_103 I1) (zs_103 I1) (by omega) ?_
      show ov_R u d ov_m302 32 [(0, ov_r 90), (1, ov_i x), (2, ov_i y), (3, ov_i t)] [ov_i (h 103 59)] z (ov_up h 90 0 0) (P_Mo_was_90_t F z h x y t)
      have g14 := s103_59 I
      refine ov_blk (ls2 := [(0, ov_r 90), (1, ov_i x), (2, ov_i y), (3, ov_i t)]) (st2 := [ov_i 8, ov_i (h 103 59)]) (pc2 := 34) b_302_32_1 rfl rfl ?_
      refine ov_icne (tgt := 39) d_302_34 (by decide) (by omega) (by omega) (fun c15 => ?_) (fun c15 => ?_)
      · skip
        refine ov_blk (ls2 := [(0, ov_r 90), (1, ov_i x), (2, ov_i y), (3, ov_i t)]) (st2 := [ov_r 90, ov_i 3, ov_i 92]) (pc2 := 43) b_302_39_3 rfl rfl ?_
        refine ov_getf (v := ov_r 103) d_302_43 fl_Mo_102 (zb_90 I1) (zs_90 I1) (congrArg ov_r (rg_90_19 I1)) ?_
        refine ov_blk (ls2 := [(0, ov_r 90), (1, ov_i x), (2, ov_i y), (3, ov_i t)]) (st2 := [ov_i 59, ov_r 103, ov_i 3, ov_i 92]) (pc2 := 48) b_302_46_1 rfl rfl ?_
        refine ov_iald d_302_48 (zb_103 I1) (zs_103 I1) (by omega) ?_
        show ov_R u d ov_m302 49 [(0, ov_r 90), (1, ov_i x), (2, ov_i y), (3, ov_i t)] [ov_i (h 103 59), ov_i 3, ov_i 92] z (ov_up h 90 0 0) (P_Mo_was_90_t F z h x y t)
        refine ov_blk (ls2 := [(0, ov_r 90), (1, ov_i x), (2, ov_i y), (3, ov_i t), (4, ov_i (92 + (3 * (h 103 59))))]) (st2 := [ov_r 90]) (pc2 := 54) b_302_49_4 rfl rfl ?_
        refine ov_getf (v := ov_r 103) d_302_54 fl_Mo_102 (zb_90 I1) (zs_90 I1) (congrArg ov_r (rg_90_19 I1)) ?_
        refine ov_blk (ls2 := [(0, ov_r 90), (1, ov_i x), (2, ov_i y), (3, ov_i t), (4, ov_i (92 + (3 * (h 103 59))))]) (st2 := [ov_i x, ov_i (92 + (3 * (h 103 59))), ov_r 103]) (pc2 := 60) b_302_57_2 rfl rfl ?_
        refine ov_iast d_302_60 (zb_103 I1) (zs_103 I1) (by omega) ?_
        have I17 := ua_103 (k := (92 + (3 * (h 103 59)))) (x := x) I1 (by refine ⟨?_, ?_, ?_, ?_, ?_, ?_⟩ <;> omega)
        refine ov_blk (ls2 := [(0, ov_r 90), (1, ov_i x), (2, ov_i y), (3, ov_i t), (4, ov_i (92 + (3 * (h 103 59))))]) (st2 := [ov_r 90]) (pc2 := 62) b_302_61_1 rfl rfl ?_
        refine ov_getf (v := ov_r 103) d_302_62 fl_Mo_102 (zb_90 I17) (zs_90 I17) (congrArg ov_r (rg_90_19 I17)) ?_
        refine ov_blk (ls2 := [(0, ov_r 90), (1, ov_i x), (2, ov_i y), (3, ov_i t), (4, ov_i (92 + (3 * (h 103 59))))]) (st2 := [ov_i y, ov_i ((92 + (3 * (h 103 59))) + 1), ov_r 103]) (pc2 := 70) b_302_65_4 rfl rfl ?_
        refine ov_iast d_302_70 (zb_103 I17) (zs_103 I17) (by omega) ?_
        have I18 := ua_103 (k := ((92 + (3 * (h 103 59))) + 1)) (x := y) I17 (by refine ⟨?_, ?_, ?_, ?_, ?_, ?_⟩ <;> omega)
        refine ov_blk (ls2 := [(0, ov_r 90), (1, ov_i x), (2, ov_i y), (3, ov_i t), (4, ov_i (92 + (3 * (h 103 59))))]) (st2 := [ov_r 90]) (pc2 := 72) b_302_71_1 rfl rfl ?_
        refine ov_getf (v := ov_r 103) d_302_72 fl_Mo_102 (zb_90 I18) (zs_90 I18) (congrArg ov_r (rg_90_19 I18)) ?_
        refine ov_blk (ls2 := [(0, ov_r 90), (1, ov_i x), (2, ov_i y), (3, ov_i t), (4, ov_i (92 + (3 * (h 103 59))))]) (st2 := [ov_i t, ov_i ((92 + (3 * (h 103 59))) + 2), ov_r 103]) (pc2 := 80) b_302_75_4 rfl rfl ?_
        refine ov_iast d_302_80 (zb_103 I18) (zs_103 I18) (by omega) ?_
        have I19 := ua_103 (k := ((92 + (3 * (h 103 59))) + 2)) (x := t) I18 (by refine ⟨?_, ?_, ?_, ?_, ?_, ?_⟩ <;> omega)
        refine ov_blk (ls2 := [(0, ov_r 90), (1, ov_i x), (2, ov_i y), (3, ov_i t), (4, ov_i (92 + (3 * (h 103 59))))]) (st2 := [ov_r 90]) (pc2 := 82) b_302_81_1 rfl rfl ?_
        refine ov_getf (v := ov_r 103) d_302_82 fl_Mo_102 (zb_90 I19) (zs_90 I19) (congrArg ov_r (rg_90_19 I19)) ?_
        refine ov_blk (ls2 := [(0, ov_r 90), (1, ov_i x), (2, ov_i y), (3, ov_i t), (4, ov_i (92 + (3 * (h 103 59))))]) (st2 := [ov_i 59, ov_r 103, ov_i 59, ov_r 103]) (pc2 := 88) b_302_85_2 rfl rfl ?_
        refine ov_iald d_302_88 (zb_103 I19) (zs_103 I19) (by omega) ?_
        show ov_R u d ov_m302 89 [(0, ov_r 90), (1, ov_i x), (2, ov_i y), (3, ov_i t), (4, ov_i (92 + (3 * (h 103 59))))] [ov_i ((ov_up (ov_up (ov_up (ov_up h 90 0 0) 103 (92 + (3 * (h 103 59))) x) 103 ((92 + (3 * (h 103 59))) + 1) y) 103 ((92 + (3 * (h 103 59))) + 2) t) 103 59), ov_i 59, ov_r 103] z (ov_up (ov_up (ov_up (ov_up h 90 0 0) 103 (92 + (3 * (h 103 59))) x) 103 ((92 + (3 * (h 103 59))) + 1) y) 103 ((92 + (3 * (h 103 59))) + 2) t) (P_Mo_was_90_t F z h x y t)
        have hh58 : ((ov_up (ov_up (ov_up (ov_up h 90 0 0) 103 (92 + (3 * (h 103 59))) x) 103 ((92 + (3 * (h 103 59))) + 1) y) 103 ((92 + (3 * (h 103 59))) + 2) t) 103 59) = h 103 59 := by rw [ov_up_j (by omega)]; rw [ov_up_j (by omega)]; rw [ov_up_j (by omega)]; rfl
        refine ov_blk (ls2 := [(0, ov_r 90), (1, ov_i x), (2, ov_i y), (3, ov_i t), (4, ov_i (92 + (3 * (h 103 59))))]) (st2 := [ov_i (((ov_up (ov_up (ov_up (ov_up h 90 0 0) 103 (92 + (3 * (h 103 59))) x) 103 ((92 + (3 * (h 103 59))) + 1) y) 103 ((92 + (3 * (h 103 59))) + 2) t) 103 59) + 1), ov_i 59, ov_r 103]) (pc2 := 91) b_302_89_2 rfl rfl ?_
        refine ov_iast d_302_91 (zb_103 I19) (zs_103 I19) (by omega) ?_
        have I20 := ua_103 (k := 59) (x := (((ov_up (ov_up (ov_up (ov_up h 90 0 0) 103 (92 + (3 * (h 103 59))) x) 103 ((92 + (3 * (h 103 59))) + 1) y) 103 ((92 + (3 * (h 103 59))) + 2) t) 103 59) + 1)) I19 (by refine ⟨?_, ?_, ?_, ?_, ?_, ?_⟩ <;> omega)
        refine ov_blk (ls2 := [(0, ov_r 90), (1, ov_i x), (2, ov_i y), (3, ov_i t), (4, ov_i (92 + (3 * (h 103 59))))]) (st2 := [ov_i 1]) (pc2 := 93) b_302_92_1 rfl rfl ?_
        exact ov_retz (st := []) d_302_93 rfl (by omega) ⟨_, rfl, I20, ⟨rfl, rfl, rfl, rfl, rfl, rfl, rfl, rfl, rfl, rfl, rfl, rfl, (by show (1 = 0 ∨ 1 = 1); omega)⟩, rfl, rfl, rfl, rfl, rfl, rfl, rfl, rfl, rfl, rfl, rfl, rfl, rfl, rfl, rfl, (fun j h1 h2 => by show (ov_up (ov_up (ov_up (ov_up (ov_up h 90 0 0) 103 (92 + (3 * (h 103 59))) x) 103 ((92 + (3 * (h 103 59))) + 1) y) 103 ((92 + (3 * (h 103 59))) + 2) t) 103 59 (((ov_up (ov_up (ov_up (ov_up h 90 0 0) 103 (92 + (3 * (h 103 59))) x) 103 ((92 + (3 * (h 103 59))) + 1) y) 103 ((92 + (3 * (h 103 59))) + 2) t) 103 59) + 1)) 103 j = h 103 j; rw [ov_up_j (by omega)]; rw [ov_up_j (by omega)]; rw [ov_up_j (by omega)]; rw [ov_up_j (by omega)]; rw [ov_up_ne (by decide)]), (Or.inr ⟨rfl, (by omega), (st_up (st_up (st_up (st_up (st_un (by decide) (rfl : h 103 = h 103)) (by omega) (by omega)) (by omega) (by omega)) (by omega) (by omega)) (by omega) (by omega))⟩)⟩
      · skip
        refine ov_blk (ls2 := [(0, ov_r 90), (1, ov_i x), (2, ov_i y), (3, ov_i t)]) (st2 := [ov_i 0]) (pc2 := 38) b_302_37_1 rfl rfl ?_
        exact ov_retz (st := []) d_302_38 rfl (by omega) ⟨_, rfl, I1, ⟨rfl, rfl, rfl, rfl, rfl, rfl, rfl, rfl, rfl, rfl, rfl, rfl, (by show (0 = 0 ∨ 0 = 1); omega)⟩, rfl, rfl, rfl, rfl, rfl, rfl, rfl, rfl, rfl, rfl, rfl, rfl, rfl, rfl, rfl, (fun j h1 h2 => rfl), (Or.inl ⟨rfl, (by omega), (show (ov_up h 90 0 0) 103 = h 103 from rfl)⟩)⟩
abbrev P_Mo_mark_90_t (F : ov_H × ov_Z) (z : ov_Z) (h : ov_H) (m : Int) (b : Int) : Option ov_V → ov_Z → ov_H → Prop := fun r0 z' h' => ∃ r : Int, r0 = some (ov_i r) ∧ ov_N F z' h' ∧ ((h' 90 2) = (h 90 2) ∧ (h' 90 7) = (h 90 7) ∧ (h' 90 8) = (h 90 8) ∧ (h' 90 13) = (h 90 13) ∧ (h' 90 25) = (h 90 25) ∧ (h' 90 26) = (h 90 26) ∧ (h' 90 28) = (h 90 28) ∧ (h' 90 29) = (h 90 29) ∧ (h' 90 30) = (h 90 30) ∧ (h' 90 34) = (h 90 34) ∧ (r = 0 ∨ r = 1) ∧ (h 90 22) ≤ (h' 90 22) ∧ (h' 90 22) ≤ (h 90 22) + 1) ∧ h' 91 = h 91 ∧ h' 92 = h 92 ∧ h' 93 = h 93 ∧ h' 94 = h 94 ∧ h' 95 = h 95 ∧ h' 96 = h 96 ∧ h' 97 = h 97 ∧ h' 98 = h 98 ∧ h' 99 = h 99 ∧ h' 100 = h 100 ∧ h' 105 = h 105 ∧ h' 106 = h 106 ∧ h' 109 = h 109 ∧ h' 114 = h 114 ∧ (((h' 90 22) = (h 90 22) ∧ (h' 103) = (h 103)) ∨ (h' 90 22) = (h 90 22) + 1) ∧ ((r = 0 ∧ ¬ (0 ≤ m ∧ m ≤ 3 ∧ (b = 0 ∨ (h 104 (m)) = 1)) ∧ (h' 103) = (h 103) ∧ (h' 104) = (h 104) ∧ (h' 90 20) = (h 90 20)) ∨ (r = 1 ∧ (0 ≤ m ∧ m ≤ 3 ∧ (b = 0 ∨ (h 104 (m)) = 1)) ∧ (h' 104) = ov_rs (h 104) m 1 ∧ (b = 0 ∧ (h' 103) = cp_f (h 103) 0 (1 + m) 120 ∧ (h' 90 20) = (h 90 20) ∨ b = 1 ∧ (h' 103) = cp_f (h 103) (1 + m) 0 120 ∧ (h' 90 20) = 0)))
set_option maxHeartbeats 4000000 in
theorem c_Mo_mark_90_t {u : ov_U} {F : ov_H × ov_Z} {z : ov_Z} {h : ov_H} (d : Nat) (hd : 1 ≤ d) (U : ov_cap u) (I : ov_N F z h) (m : Int) (b : Int) (g_m : ov_g m) (g_b : b = 0 ∨ b = 1) (p0 : 0 ≤ (h 90 22) ∧ (h 90 22) ≤ 2000000000) : ov_T u d ov_m311 [ov_r 90, ov_i m, ov_i b] z h (P_Mo_mark_90_t F z h m b) := by
  refine ov_en rfl (Nat.le_of_ble_eq_true rfl) ?_
  show ov_R u d ov_m311 0 [(0, ov_r 90), (1, ov_i m), (2, ov_i b)] [] z h (P_Mo_mark_90_t F z h m b)
  have t0 := t96_0 I
  have t1 := t96_1 I
  refine ov_blk (ls2 := [(0, ov_r 90), (1, ov_i m), (2, ov_i b)]) (st2 := [ov_i 0, ov_r 90]) (pc2 := 2) b_311_0_2 rfl rfl ?_
  refine ov_putf (x := 0) d_311_2 fl_Mo_1 (zb_90 I) (zs_90 I) rfl nk_0 rfl ?_
  have I1 := up_90_0 (x := 0) I (by omega)
  refine ov_blk (ls2 := [(0, ov_r 90), (1, ov_i m), (2, ov_i b)]) (st2 := [ov_i 3, ov_i 0, ov_i m]) (pc2 := 8) b_311_5_3 rfl rfl ?_
  refine ov_cS (as := [ov_i m, ov_i 0, ov_i 3]) (st := []) (d2 := d - 1) d_311_8 lk_Mo_299 rfl (Nat.le_of_ble_eq_true rfl) (by omega) (c_Mo_within (d - 1) (by omega) U I1 m 0 3 (by omega) (by omega) (by omega)) ?_
  rintro _ _ _ ⟨v3, rfl, rfl, rfl, f2⟩
  show ov_R u d ov_m311 11 [(0, ov_r 90), (1, ov_i m), (2, ov_i b)] [ov_i v3] z (ov_up h 90 0 0) (P_Mo_mark_90_t F z h m b)
  have f4 : (v3 = 0 ∨ v3 = 1) ∧ (v3 = 1 → (0 : Int) ≤ m ∧ m ≤ (3 : Int)) ∧ (v3 = 0 → m < (0 : Int) ∨ (3 : Int) < m) := f2
  clear f2
  refine ov_ifeq (tgt := 27) d_311_11 (by decide) (by omega) (fun c5 => ?_) (fun c5 => ?_)
  · skip
    have f4_ : v3 = 0 := by omega
    have f6 : m < (0 : Int) ∨ (3 : Int) < m := f4.2.2 (by omega)
    clear f4
    refine ov_blk (ls2 := [(0, ov_r 90), (1, ov_i m), (2, ov_i b)]) (st2 := [ov_i 0]) (pc2 := 28) b_311_27_1 rfl rfl ?_
    exact ov_retz (st := []) d_311_28 rfl (by omega) ⟨_, rfl, I1, ⟨rfl, rfl, rfl, rfl, rfl, rfl, rfl, rfl, rfl, rfl, (by show (0 = 0 ∨ 0 = 1) ∧ (h 90 22) ≤ (h 90 22) ∧ (h 90 22) ≤ (h 90 22) + 1; omega)⟩, rfl, rfl, rfl, rfl, rfl, rfl, rfl, rfl, rfl, rfl, rfl, rfl, rfl, rfl, (Or.inl ⟨rfl, rfl⟩), (Or.inl ⟨rfl, (by omega), (show (ov_up h 90 0 0) 103 = h 103 from rfl), (show (ov_up h 90 0 0) 104 = h 104 from rfl), (show (h 90 20) = h 90 20 from rfl)⟩)⟩
  · skip
    have f4_ : v3 = 1 := by omega
    have f7 : (0 : Int) ≤ m ∧ m ≤ (3 : Int) := f4.2.1 (by omega)
    clear f4
    refine ov_blk (ls2 := [(0, ov_r 90), (1, ov_i m), (2, ov_i b)]) (st2 := [ov_i b]) (pc2 := 15) b_311_14_1 rfl rfl ?_
    refine ov_ifeq (tgt := 29) d_311_15 (by decide) (by omega) (fun c8 => ?_) (fun c8 => ?_)
    · skip
      refine ov_blk (ls2 := [(0, ov_r 90), (1, ov_i m), (2, ov_i b)]) (st2 := [ov_r 90]) (pc2 := 30) b_311_29_1 rfl rfl ?_
      refine ov_getf (v := ov_r 104) d_311_30 fl_Mo_105 (zb_90 I1) (zs_90 I1) (congrArg ov_r (rg_90_21 I1)) ?_
      refine ov_blk (ls2 := [(0, ov_r 90), (1, ov_i m), (2, ov_i b)]) (st2 := [ov_i 1, ov_i m, ov_r 104]) (pc2 := 35) b_311_33_2 rfl rfl ?_
      refine ov_zast d_311_35 (zb_104 I1) (zs_104 I1) (by omega) (by omega) ?_
      have I9 := ua_104 (k := m) (x := 1) I1 (by omega)
      refine ov_blk (ls2 := [(0, ov_r 90), (1, ov_i m), (2, ov_i b)]) (st2 := [ov_i b, ov_r 90]) (pc2 := 38) b_311_36_2 rfl rfl ?_
      refine ov_ifeq (tgt := 47) d_311_38 (by decide) (by omega) (fun c10 => ?_) (fun c10 => ?_)
      · skip
        refine ov_blk (ls2 := [(0, ov_r 90), (1, ov_i m), (2, ov_i b)]) (st2 := [ov_i b, ov_i 0, ov_r 90]) (pc2 := 49) b_311_47_2 rfl rfl ?_
        refine ov_ifeq (tgt := 56) d_311_49 (by decide) (by omega) (fun c11 => ?_) (fun c11 => ?_)
        · skip
          refine ov_blk (ls2 := [(0, ov_r 90), (1, ov_i m), (2, ov_i b)]) (st2 := [ov_i 120, ov_i (1 + m), ov_i 0, ov_r 90]) (pc2 := 61) b_311_56_4 rfl rfl ?_
          refine ov_cV (as := [ov_i 0, ov_i (1 + m), ov_i 120]) (st := []) (d2 := d - 1) d_311_61 lk_Mo_325 rfl (Nat.le_of_ble_eq_true rfl) (c := 1) (zb_90 I9) (zs_90 I9) ⟨by decide, rfl⟩ (by omega) (c_Mo_copies_90_t (d - 1) (by omega) U I9 0 (1 + m) 120 (by omega) (by omega) (by omega) (by omega) (by omega) (by omega)) ?_
          rintro _ z30 h31 ⟨rfl, I32, f12, e13, e14, e15, e16, e17, e18, e19, e20, e21, e22, e23, e24, e25, e26, e27, y28, y29⟩
          have E33 : h31 91 = h 91 := e13
          have E34 : h31 92 = h 92 := e14
          have E35 : h31 93 = h 93 := e15
          have E36 : h31 94 = h 94 := e16
          have E37 : h31 95 = h 95 := e17
          have E38 : h31 96 = h 96 := e18
          have E39 : h31 97 = h 97 := e19
          have E40 : h31 98 = h 98 := e20
          have E41 : h31 99 = h 99 := e21
          have E42 : h31 100 = h 100 := e22
          have E43 : h31 105 = h 105 := e24
          have E44 : h31 106 = h 106 := e25
          have E45 : h31 109 = h 109 := e26
          have E46 : h31 114 = h 114 := e27
          show ov_R u d ov_m311 64 [(0, ov_r 90), (1, ov_i m), (2, ov_i b)] [] z30 h31 (P_Mo_mark_90_t F z h m b)
          have f47 : (h31 90 2) = (h 90 2) ∧ (h31 90 7) = (h 90 7) ∧ (h31 90 8) = (h 90 8) ∧ (h31 90 13) = (h 90 13) ∧ (h31 90 20) = (h 90 20) ∧ (h31 90 22) = (h 90 22) ∧ (h31 90 25) = (h 90 25) ∧ (h31 90 26) = (h 90 26) ∧ (h31 90 28) = (h 90 28) ∧ (h31 90 29) = (h 90 29) ∧ (h31 90 30) = (h 90 30) ∧ (h31 90 34) = (h 90 34) := f12
          clear f12
          have y28_ : ∀ j : Int, j < 120 * (1 + m) ∨ 120 * (1 + m) + (120 : Int) ≤ j → (h31 103) j = (h 103) j := y28
          have y29_ : (h31 103) = cp_f (h 103) (0 : Int) (1 + m) (120 : Int) := y29
          have e104 : h31 104 = (ov_up (ov_up h 90 0 0) 104 m 1) 104 := e23
          refine ov_blk (ls2 := [(0, ov_r 90), (1, ov_i m), (2, ov_i b)]) (st2 := [ov_i b, ov_r 90]) (pc2 := 66) b_311_64_2 rfl rfl ?_
          refine ov_ifeq (tgt := 73) d_311_66 (by decide) (by omega) (fun c48 => ?_) (fun c48 => ?_)
          · skip
            refine ov_blk (ls2 := [(0, ov_r 90), (1, ov_i m), (2, ov_i b)]) (st2 := [ov_r 90, ov_r 90]) (pc2 := 74) b_311_73_1 rfl rfl ?_
            refine ov_getf (v := ov_i (h31 90 20)) d_311_74 fl_Mo_319 (zb_90 I32) (zs_90 I32) rfl ?_
            have g49 := rg_90_20 I32
            refine ov_putf (x := (h31 90 20)) d_311_77 fl_Mo_319 (zb_90 I32) (zs_90 I32) rfl nk_0 rfl ?_
            have I50 := up_90_20 (x := (h31 90 20)) I32 (by omega)
            refine ov_blk (ls2 := [(0, ov_r 90), (1, ov_i m), (2, ov_i b)]) (st2 := [ov_r 90, ov_r 90]) (pc2 := 82) b_311_80_2 rfl rfl ?_
            refine ov_getf (v := ov_i (h31 90 22)) d_311_82 fl_Mo_322 (zb_90 I50) (zs_90 I50) rfl ?_
            have g51 := rg_90_22 I32
            refine ov_blk (ls2 := [(0, ov_r 90), (1, ov_i m), (2, ov_i b)]) (st2 := [ov_i ((h31 90 22) + 1), ov_r 90]) (pc2 := 87) b_311_85_2 rfl rfl ?_
            refine ov_putf (x := ((h31 90 22) + 1)) d_311_87 fl_Mo_322 (zb_90 I50) (zs_90 I50) rfl nk_0 rfl ?_
            have I52 := up_90_22 (x := ((h31 90 22) + 1)) I50 (by omega)
            refine ov_blk (ls2 := [(0, ov_r 90), (1, ov_i m), (2, ov_i b)]) (st2 := [ov_i 1]) (pc2 := 91) b_311_90_1 rfl rfl ?_
            exact ov_retz (st := []) d_311_91 rfl (by omega) ⟨_, rfl, I52, (by show (h31 90 2) = (h 90 2) ∧ (h31 90 7) = (h 90 7) ∧ (h31 90 8) = (h 90 8) ∧ (h31 90 13) = (h 90 13) ∧ (h31 90 25) = (h 90 25) ∧ (h31 90 26) = (h 90 26) ∧ (h31 90 28) = (h 90 28) ∧ (h31 90 29) = (h 90 29) ∧ (h31 90 30) = (h 90 30) ∧ (h31 90 34) = (h 90 34) ∧ (1 = 0 ∨ 1 = 1) ∧ (h 90 22) ≤ ((h31 90 22) + 1) ∧ ((h31 90 22) + 1) ≤ (h 90 22) + 1; omega), E33, E34, E35, E36, E37, E38, E39, E40, E41, E42, E43, E44, E45, E46, (Or.inr (by show ((h31 90 22) + 1) = h 90 22 + 1; omega)), (Or.inr ⟨rfl, (by omega), (by show h31 104 = _; rw [e104, show (ov_up (ov_up h 90 0 0) 104 m 1) 104 = (ov_up h 104 m 1) 104 from rfl]; exact ov_up_row _ _ _ _), (Or.inl ⟨(by omega), y29_, (by show (h31 90 20) = _; omega)⟩)⟩)⟩
          · omega
        · omega
      · omega
    · skip
      refine ov_blk (ls2 := [(0, ov_r 90), (1, ov_i m), (2, ov_i b)]) (st2 := [ov_r 90]) (pc2 := 19) b_311_18_1 rfl rfl ?_
      refine ov_getf (v := ov_r 104) d_311_19 fl_Mo_105 (zb_90 I1) (zs_90 I1) (congrArg ov_r (rg_90_21 I1)) ?_
      refine ov_blk (ls2 := [(0, ov_r 90), (1, ov_i m), (2, ov_i b)]) (st2 := [ov_i m, ov_r 104]) (pc2 := 23) b_311_22_1 rfl rfl ?_
      refine ov_zald d_311_23 (zb_104 I1) (zs_104 I1) (by omega) ?_
      show ov_R u d ov_m311 24 [(0, ov_r 90), (1, ov_i m), (2, ov_i b)] [ov_i (h 104 m)] z (ov_up h 90 0 0) (P_Mo_mark_90_t F z h m b)
      have g53 := ra_104 I m
      refine ov_ifne (tgt := 29) d_311_24 (by decide) (by omega) (fun c54 => ?_) (fun c54 => ?_)
      · skip
        refine ov_blk (ls2 := [(0, ov_r 90), (1, ov_i m), (2, ov_i b)]) (st2 := [ov_r 90]) (pc2 := 30) b_311_29_1 rfl rfl ?_
        refine ov_getf (v := ov_r 104) d_311_30 fl_Mo_105 (zb_90 I1) (zs_90 I1) (congrArg ov_r (rg_90_21 I1)) ?_
        refine ov_blk (ls2 := [(0, ov_r 90), (1, ov_i m), (2, ov_i b)]) (st2 := [ov_i 1, ov_i m, ov_r 104]) (pc2 := 35) b_311_33_2 rfl rfl ?_
        refine ov_zast d_311_35 (zb_104 I1) (zs_104 I1) (by omega) (by omega) ?_
        have I55 := ua_104 (k := m) (x := 1) I1 (by omega)
        refine ov_blk (ls2 := [(0, ov_r 90), (1, ov_i m), (2, ov_i b)]) (st2 := [ov_i b, ov_r 90]) (pc2 := 38) b_311_36_2 rfl rfl ?_
        refine ov_ifeq (tgt := 47) d_311_38 (by decide) (by omega) (fun c56 => ?_) (fun c56 => ?_)
        · omega
        · skip
          refine ov_blk (ls2 := [(0, ov_r 90), (1, ov_i m), (2, ov_i b)]) (st2 := [ov_i (1 + m), ov_r 90]) (pc2 := 44) b_311_41_3 rfl rfl ?_
          refine ov_goto (tgt := 48) d_311_44 (by decide) ?_
          refine ov_blk (ls2 := [(0, ov_r 90), (1, ov_i m), (2, ov_i b)]) (st2 := [ov_i b, ov_i (1 + m), ov_r 90]) (pc2 := 49) b_311_48_1 rfl rfl ?_
          refine ov_ifeq (tgt := 56) d_311_49 (by decide) (by omega) (fun c57 => ?_) (fun c57 => ?_)
          · omega
          · skip
            refine ov_blk (ls2 := [(0, ov_r 90), (1, ov_i m), (2, ov_i b)]) (st2 := [ov_i 0, ov_i (1 + m), ov_r 90]) (pc2 := 53) b_311_52_1 rfl rfl ?_
            refine ov_goto (tgt := 59) d_311_53 (by decide) ?_
            refine ov_blk (ls2 := [(0, ov_r 90), (1, ov_i m), (2, ov_i b)]) (st2 := [ov_i 120, ov_i 0, ov_i (1 + m), ov_r 90]) (pc2 := 61) b_311_59_1 rfl rfl ?_
            refine ov_cV (as := [ov_i (1 + m), ov_i 0, ov_i 120]) (st := []) (d2 := d - 1) d_311_61 lk_Mo_325 rfl (Nat.le_of_ble_eq_true rfl) (c := 1) (zb_90 I55) (zs_90 I55) ⟨by decide, rfl⟩ (by omega) (c_Mo_copies_90_t (d - 1) (by omega) U I55 (1 + m) 0 120 (by omega) (by omega) (by omega) (by omega) (by omega) (by omega)) ?_
            rintro _ z76 h77 ⟨rfl, I78, f58, e59, e60, e61, e62, e63, e64, e65, e66, e67, e68, e69, e70, e71, e72, e73, y74, y75⟩
            have E79 : h77 91 = h 91 := e59
            have E80 : h77 92 = h 92 := e60
            have E81 : h77 93 = h 93 := e61
            have E82 : h77 94 = h 94 := e62
            have E83 : h77 95 = h 95 := e63
            have E84 : h77 96 = h 96 := e64
            have E85 : h77 97 = h 97 := e65
            have E86 : h77 98 = h 98 := e66
            have E87 : h77 99 = h 99 := e67
            have E88 : h77 100 = h 100 := e68
            have E89 : h77 105 = h 105 := e70
            have E90 : h77 106 = h 106 := e71
            have E91 : h77 109 = h 109 := e72
            have E92 : h77 114 = h 114 := e73
            show ov_R u d ov_m311 64 [(0, ov_r 90), (1, ov_i m), (2, ov_i b)] [] z76 h77 (P_Mo_mark_90_t F z h m b)
            have f93 : (h77 90 2) = (h 90 2) ∧ (h77 90 7) = (h 90 7) ∧ (h77 90 8) = (h 90 8) ∧ (h77 90 13) = (h 90 13) ∧ (h77 90 20) = (h 90 20) ∧ (h77 90 22) = (h 90 22) ∧ (h77 90 25) = (h 90 25) ∧ (h77 90 26) = (h 90 26) ∧ (h77 90 28) = (h 90 28) ∧ (h77 90 29) = (h 90 29) ∧ (h77 90 30) = (h 90 30) ∧ (h77 90 34) = (h 90 34) := f58
            clear f58
            have y74_ : ∀ j : Int, j < 120 * (0 : Int) ∨ 120 * (0 : Int) + (120 : Int) ≤ j → (h77 103) j = (h 103) j := y74
            have y75_ : (h77 103) = cp_f (h 103) (1 + m) (0 : Int) (120 : Int) := y75
            have e104 : h77 104 = (ov_up (ov_up h 90 0 0) 104 m 1) 104 := e69
            refine ov_blk (ls2 := [(0, ov_r 90), (1, ov_i m), (2, ov_i b)]) (st2 := [ov_i b, ov_r 90]) (pc2 := 66) b_311_64_2 rfl rfl ?_
            refine ov_ifeq (tgt := 73) d_311_66 (by decide) (by omega) (fun c94 => ?_) (fun c94 => ?_)
            · omega
            · skip
              refine ov_blk (ls2 := [(0, ov_r 90), (1, ov_i m), (2, ov_i b)]) (st2 := [ov_i 0, ov_r 90]) (pc2 := 70) b_311_69_1 rfl rfl ?_
              refine ov_goto (tgt := 77) d_311_70 (by decide) ?_
              refine ov_putf (x := 0) d_311_77 fl_Mo_319 (zb_90 I78) (zs_90 I78) rfl nk_0 rfl ?_
              have I95 := up_90_20 (x := 0) I78 (by omega)
              refine ov_blk (ls2 := [(0, ov_r 90), (1, ov_i m), (2, ov_i b)]) (st2 := [ov_r 90, ov_r 90]) (pc2 := 82) b_311_80_2 rfl rfl ?_
              refine ov_getf (v := ov_i (h77 90 22)) d_311_82 fl_Mo_322 (zb_90 I95) (zs_90 I95) rfl ?_
              have g96 := rg_90_22 I78
              refine ov_blk (ls2 := [(0, ov_r 90), (1, ov_i m), (2, ov_i b)]) (st2 := [ov_i ((h77 90 22) + 1), ov_r 90]) (pc2 := 87) b_311_85_2 rfl rfl ?_
              refine ov_putf (x := ((h77 90 22) + 1)) d_311_87 fl_Mo_322 (zb_90 I95) (zs_90 I95) rfl nk_0 rfl ?_
              have I97 := up_90_22 (x := ((h77 90 22) + 1)) I95 (by omega)
              refine ov_blk (ls2 := [(0, ov_r 90), (1, ov_i m), (2, ov_i b)]) (st2 := [ov_i 1]) (pc2 := 91) b_311_90_1 rfl rfl ?_
              exact ov_retz (st := []) d_311_91 rfl (by omega) ⟨_, rfl, I97, (by show (h77 90 2) = (h 90 2) ∧ (h77 90 7) = (h 90 7) ∧ (h77 90 8) = (h 90 8) ∧ (h77 90 13) = (h 90 13) ∧ (h77 90 25) = (h 90 25) ∧ (h77 90 26) = (h 90 26) ∧ (h77 90 28) = (h 90 28) ∧ (h77 90 29) = (h 90 29) ∧ (h77 90 30) = (h 90 30) ∧ (h77 90 34) = (h 90 34) ∧ (1 = 0 ∨ 1 = 1) ∧ (h 90 22) ≤ ((h77 90 22) + 1) ∧ ((h77 90 22) + 1) ≤ (h 90 22) + 1; omega), E79, E80, E81, E82, E83, E84, E85, E86, E87, E88, E89, E90, E91, E92, (Or.inr (by show ((h77 90 22) + 1) = h 90 22 + 1; omega)), (Or.inr ⟨rfl, (by omega), (by show h77 104 = _; rw [e104, show (ov_up (ov_up h 90 0 0) 104 m 1) 104 = (ov_up h 104 m 1) 104 from rfl]; exact ov_up_row _ _ _ _), (Or.inr ⟨(by omega), y75_, (by show 0 = _; omega)⟩)⟩)⟩
      · skip
        refine ov_blk (ls2 := [(0, ov_r 90), (1, ov_i m), (2, ov_i b)]) (st2 := [ov_i 0]) (pc2 := 28) b_311_27_1 rfl rfl ?_
        exact ov_retz (st := []) d_311_28 rfl (by omega) ⟨_, rfl, I1, ⟨rfl, rfl, rfl, rfl, rfl, rfl, rfl, rfl, rfl, rfl, (by show (0 = 0 ∨ 0 = 1) ∧ (h 90 22) ≤ (h 90 22) ∧ (h 90 22) ≤ (h 90 22) + 1; omega)⟩, rfl, rfl, rfl, rfl, rfl, rfl, rfl, rfl, rfl, rfl, rfl, rfl, rfl, rfl, (Or.inl ⟨rfl, rfl⟩), (Or.inl ⟨rfl, (by omega), (show (ov_up h 90 0 0) 103 = h 103 from rfl), (show (ov_up h 90 0 0) 104 = h 104 from rfl), (show (h 90 20) = h 90 20 from rfl)⟩)⟩
/-- nothing done, in the reference -/
def st_b0 (h : ov_H) : Prop := (∀ j : Int, 0 ≤ j → j < 4 → h 104 j = 0) ∧ (∀ j : Int, 0 ≤ j → j < 120 → h 103 j = 0) ∧ h 90 20 = 0
set_option maxHeartbeats 4000000 in
theorem c_Mo_begins_90_m {u : ov_U} {F : ov_H × ov_Z} {z : ov_Z} {h : ov_H} (d : Nat) (hd : 0 ≤ d) (U : ov_cap u) (I : ov_N F z h) (p0 : 0 ≤ ov_bd F ∧ ov_bd F ≤ 800000000) (p1 : 0 ≤ (h 90 22) ∧ (h 90 22) ≤ 2000000000) : ov_T u d ov_m204 [ov_r 90] z h (fun r0 z' h' => P_Mo_begins_90 F z h r0 z' h' ∧ st_b0 h') := by
  refine ov_T_wk (ov_T_and (c_Mo_begins_90 d hd U I p0 p1) (c_fMo_begins_90 d (by omega) U I (by omega))) ?_
  rintro r z' h' ⟨a1, r2, z2, h2, a2, -, H, R1, R2⟩
  refine ⟨a1, ?_⟩
  obtain ⟨-, N1, -⟩ := a1
  obtain ⟨-, N2, -, ⟨fu0, -⟩, mk, s0, -⟩ := a2
  refine ⟨fun j j0 j1 => ?_, fun j j0 j1 => ?_, ?_⟩
  · have g1 := ra_104 N1 j
    have g2 := ra_104 N2 j
    rw [ov_el_z (ov_sm_a R1 R2 (by decide) (zb_104 N1).2 (zs_104 N1) (zs_104 N2) (by decide) j0 (by omega)) (by omega) (by omega)]
    exact mk j j0 j1
  · have ga := g103 N1 j
    have gb := g103 N2 j
    rw [ov_el_i (ov_sm_a R1 R2 (by decide) (zb_103 N1).2 (zs_103 N1) (zs_103 N2) (by decide) j0 (by omega)) (by omega) (by omega)]
    exact s0 j j0 j1
  · have ga := rg_90_20 N1
    have gb := rg_90_20 N2
    have q9 : h' 90 20 = h2 90 20 := ov_fi (ov_sm_o (c := 1) R1 R2 (by decide) (zb_90 N1).2 (zs_90 N1) (zs_90 N2) 20 (by decide)) (by omega) (by omega)
    rw [q9]
    exact fu0

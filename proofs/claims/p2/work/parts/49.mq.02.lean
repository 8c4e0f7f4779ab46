set_option maxHeartbeats 4000000 in
theorem c_Mo_goesOn_90 {u : ov_U} {F : ov_H × ov_Z} (k : Nat) (HV : ∀ k' : Nat, k' < k → ∀ {z : ov_Z} {h : ov_H} (d : Nat) (hd : (10 + 2 * k' + 1) ≤ d) (U : ov_cap u) (I : ov_N F z h) (x : Int) (y : Int) (s : Int) (m : Int) (co : Int) (ws : Int) (g_x : ov_g x) (g_y : ov_g y) (g_s : ov_g s) (g_m : ov_g m) (g_ws : ov_g ws) (p0 : 0 ≤ x ∧ x ≤ 5 ∧ 0 ≤ y ∧ y ≤ 8) (p1 : x < (h 96 0) ∧ y < (h 96 1)) (p2 : x + y + (k' : Int) = 13) (p3 : 0 ≤ s ∧ s + 89 * (k' : Int) ≤ 3000000) (W : ov_WT (h 96)), ov_T u d ov_m304 [ov_r 90, ov_i x, ov_i y, ov_i s, ov_i m, ov_l co, ov_i ws] z h (P_Mo_goesOn_90 F z h x y s m co ws)) {z : ov_Z} {h : ov_H} (d : Nat) (hd : (10 + 2 * k + 1) ≤ d) (U : ov_cap u) (I : ov_N F z h) (x : Int) (y : Int) (s : Int) (m : Int) (co : Int) (ws : Int) (g_x : ov_g x) (g_y : ov_g y) (g_s : ov_g s) (g_m : ov_g m) (g_ws : ov_g ws) (p0 : 0 ≤ x ∧ x ≤ 5 ∧ 0 ≤ y ∧ y ≤ 8) (p1 : x < (h 96 0) ∧ y < (h 96 1)) (p2 : x + y + (k : Int) = 13) (p3 : 0 ≤ s ∧ s + 89 * (k : Int) ≤ 3000000) (W : ov_WT (h 96)) : ov_T u d ov_m304 [ov_r 90, ov_i x, ov_i y, ov_i s, ov_i m, ov_l co, ov_i ws] z h (P_Mo_goesOn_90 F z h x y s m co ws) := by
  refine ov_en rfl (Nat.le_of_ble_eq_true rfl) ?_
  show ov_R u d ov_m304 0 [(0, ov_r 90), (1, ov_i x), (2, ov_i y), (3, ov_i s), (4, ov_i m), (5, ov_l co), (7, ov_i ws)] [] z h (P_Mo_goesOn_90 F z h x y s m co ws)
  refine ov_blk (ls2 := [(0, ov_r 90), (1, ov_i x), (2, ov_i y), (3, ov_i s), (4, ov_i m), (5, ov_l co), (7, ov_i ws)]) (st2 := [ov_i y, ov_i x, ov_r 90]) (pc2 := 3) b_304_0_3 rfl rfl ?_
  refine ov_cV (as := [ov_i x, ov_i y]) (st := []) (d2 := d - 1) d_304_3 lk_Mo_335 rfl (Nat.le_of_ble_eq_true rfl) (c := 1) (zb_90 I) (zs_90 I) ⟨by decide, rfl⟩ (by omega) (c_Mo_isHome_90 (d - 1) (by omega) U I x y (by omega) (by omega) (by omega)) ?_
  rintro _ _ _ ⟨v2, rfl, rfl, rfl, f1⟩
  show ov_R u d ov_m304 6 [(0, ov_r 90), (1, ov_i x), (2, ov_i y), (3, ov_i s), (4, ov_i m), (5, ov_l co), (7, ov_i ws)] [ov_i v2] z h (P_Mo_goesOn_90 F z h x y s m co ws)
  have f3 : (v2 = 0 ∨ v2 = 1) ∧ (v2 = 1 → x = (h 96 0) - 1 ∧ y = (h 96 1) - 1) ∧ (v2 = 0 → ¬ (x = (h 96 0) - 1 ∧ y = (h 96 1) - 1)) := f1
  clear f1
  refine ov_blk (ls2 := [(0, ov_r 90), (1, ov_i x), (2, ov_i y), (3, ov_i s), (4, ov_i m), (5, ov_l co), (7, ov_i ws), (8, ov_i v2), (9, ov_l (ov_lor co (ov_lshl 1 ((6 * y) + x)))), (11, ov_i 0)]) (st2 := []) (pc2 := 24) b_304_6_13 rfl rfl ?_
  have L7 : ∀ (n4 : Nat) (x11 : Int) (z8 : ov_Z) (h9 : ov_H) (I10 : ov_N F z8 h9) (E11 : h9 92 = h 92) (E12 : h9 93 = h 93) (E13 : h9 94 = h 94) (E14 : h9 96 = h 96) (E15 : h9 97 = h 97) (E16 : h9 98 = h 98) (E17 : h9 99 = h 99) (E18 : h9 100 = h 100) (E19 : h9 103 = h 103) (E20 : h9 105 = h 105) (E21 : h9 106 = h 106) (E22 : h9 109 = h 109) (E23 : h9 114 = h 114) (q6 : 0 ≤ x11 ∧ x11 ≤ 3 ∧ (v2 = 0 → x11 ≤ 2) ∧ (h9 90 2) = (h 90 2) ∧ (h9 90 3) = (h 90 3) ∧ (h9 90 7) = (h 90 7) ∧ (h9 90 8) = (h 90 8) ∧ (h9 90 13) = (h 90 13) ∧ (h9 90 20) = (h 90 20) ∧ (h9 90 22) = (h 90 22) ∧ (h9 90 25) = (h 90 25) ∧ (h9 90 26) = (h 90 26) ∧ (h9 90 27) = (h 90 27) ∧ (h9 90 28) = (h 90 28) ∧ (h9 90 29) = (h 90 29) ∧ (h9 90 30) = (h 90 30) ∧ (h9 90 34) = (h 90 34) ∧ (h9 90 35) = (h 90 35) ∧ (h9 90 37) = (h 90 37)), 3 - x11 < (n4 : Int) → ov_R u d ov_m304 24 [(0, ov_r 90), (1, ov_i x), (2, ov_i y), (3, ov_i s), (4, ov_i m), (5, ov_l co), (7, ov_i ws), (8, ov_i v2), (9, ov_l (ov_lor co (ov_lshl 1 ((6 * y) + x)))), (11, ov_i x11)] [] z8 h9 (P_Mo_goesOn_90 F z h x y s m co ws) := by
    intro n4
    induction n4 with
    | zero =>
      intro x11 z8 h9 I10 E11 E12 E13 E14 E15 E16 E17 E18 E19 E20 E21 E22 E23 q6 hn24
      exact absurd hn24 (by omega)
    | succ n4 ih5 =>
      intro x11 z8 h9 I10 E11 E12 E13 E14 E15 E16 E17 E18 E19 E20 E21 E22 E23 q6 hn24
      refine ov_blk (ls2 := [(0, ov_r 90), (1, ov_i x), (2, ov_i y), (3, ov_i s), (4, ov_i m), (5, ov_l co), (7, ov_i ws), (8, ov_i v2), (9, ov_l (ov_lor co (ov_lshl 1 ((6 * y) + x)))), (11, ov_i x11)]) (st2 := [ov_i 2, ov_i x11]) (pc2 := 27) b_304_24_2 rfl rfl ?_
      refine ov_iclt (tgt := 41) d_304_27 (by decide) (by omega) (by omega) (fun c25 => ?_) (fun c25 => ?_)
      · skip
        refine ov_blk (ls2 := [(0, ov_r 90), (1, ov_i x), (2, ov_i y), (3, ov_i s), (4, ov_i m), (5, ov_l co), (7, ov_i ws), (8, ov_i v2), (9, ov_l (ov_lor co (ov_lshl 1 ((6 * y) + x)))), (11, ov_i x11)]) (st2 := [ov_i v2]) (pc2 := 43) b_304_41_1 rfl rfl ?_
        refine ov_ifeq (tgt := 55) d_304_43 (by decide) (by omega) (fun c26 => ?_) (fun c26 => ?_)
        · skip
          refine ov_blk (ls2 := [(0, ov_r 90), (1, ov_i x), (2, ov_i y), (3, ov_i s), (4, ov_i m), (5, ov_l co), (7, ov_i ws), (8, ov_i v2), (9, ov_l (ov_lor co (ov_lshl 1 ((6 * y) + x)))), (11, ov_i x11)]) (st2 := [ov_i x11, ov_i y, ov_i x, ov_r 90]) (pc2 := 60) b_304_55_4 rfl rfl ?_
          refine ov_cV (as := [ov_i x, ov_i y, ov_i x11]) (st := []) (d2 := d - 1) d_304_60 lk_Mo_309 rfl (Nat.le_of_ble_eq_true rfl) (c := 1) (zb_90 I10) (zs_90 I10) ⟨by decide, rfl⟩ (by omega) (c_Mo_canGo_90 (d - 1) (by omega) U I10 x y x11 (by omega) (by omega) (by omega) (by omega) (by omega)) ?_
          rintro _ _ _ ⟨v28, rfl, rfl, rfl, f27⟩
          show ov_R u d ov_m304 63 [(0, ov_r 90), (1, ov_i x), (2, ov_i y), (3, ov_i s), (4, ov_i m), (5, ov_l co), (7, ov_i ws), (8, ov_i v2), (9, ov_l (ov_lor co (ov_lshl 1 ((6 * y) + x)))), (11, ov_i x11)] [ov_i v28] z8 h9 (P_Mo_goesOn_90 F z h x y s m co ws)
          rw [show h9 96 = h 96 from E14] at f27
          have f29 : (v28 = 0 ∨ v28 = 1) ∧ v28 = ov_cgi (h 96) x y x11 ∧ (v28 = 1 → ((x11 = 0 → x < (h 96 0) - 1) ∧ (¬ x11 = 0 → y < (h 96 1) - 1)) ∧ (((h 96 (10 + 4 * (6 * y + x))) = 1 ∨ (h 96 (10 + 4 * (6 * y + x))) = 2) → (x11 = 0 → 0 < (h 96 (10 + 4 * (6 * y + x) + 3))) ∧ (¬ x11 = 0 → (h 96 (10 + 4 * (6 * y + x) + 3)) < (h 96 (10 + 4 * (6 * y + x) + 1))))) := f27
          clear f27
          refine ov_ifeq (tgt := 158) d_304_63 (by decide) (by omega) (fun c30 => ?_) (fun c30 => ?_)
          · skip
            refine ov_blk (ls2 := [(0, ov_r 90), (1, ov_i x), (2, ov_i y), (3, ov_i s), (4, ov_i m), (5, ov_l co), (7, ov_i ws), (8, ov_i v2), (9, ov_l (ov_lor co (ov_lshl 1 ((6 * y) + x)))), (11, ov_i (x11 + 1))]) (st2 := []) (pc2 := 161) b_304_158_1 rfl rfl ?_
            refine ov_goto (tgt := 24) d_304_161 (by decide) ?_
            exact ih5 (x11 + 1) _ _ I10 E11 E12 E13 E14 E15 E16 E17 E18 E19 E20 E21 E22 E23 (by show 0 ≤ (x11 + 1) ∧ (x11 + 1) ≤ 3 ∧ (v2 = 0 → (x11 + 1) ≤ 2) ∧ (h9 90 2) = (h 90 2) ∧ (h9 90 3) = (h 90 3) ∧ (h9 90 7) = (h 90 7) ∧ (h9 90 8) = (h 90 8) ∧ (h9 90 13) = (h 90 13) ∧ (h9 90 20) = (h 90 20) ∧ (h9 90 22) = (h 90 22) ∧ (h9 90 25) = (h 90 25) ∧ (h9 90 26) = (h 90 26) ∧ (h9 90 27) = (h 90 27) ∧ (h9 90 28) = (h 90 28) ∧ (h9 90 29) = (h 90 29) ∧ (h9 90 30) = (h 90 30) ∧ (h9 90 34) = (h 90 34) ∧ (h9 90 35) = (h 90 35) ∧ (h9 90 37) = (h 90 37); omega) (by omega)
          · skip
            refine ov_blk (ls2 := [(0, ov_r 90), (1, ov_i x), (2, ov_i y), (3, ov_i s), (4, ov_i m), (5, ov_l co), (7, ov_i ws), (8, ov_i v2), (9, ov_l (ov_lor co (ov_lshl 1 ((6 * y) + x)))), (11, ov_i x11)]) (st2 := [ov_i v2]) (pc2 := 68) b_304_66_1 rfl rfl ?_
            refine ov_ifeq (tgt := 77) d_304_68 (by decide) (by omega) (fun c31 => ?_) (fun c31 => ?_)
            · skip
              refine ov_blk (ls2 := [(0, ov_r 90), (1, ov_i x), (2, ov_i y), (3, ov_i s), (4, ov_i m), (5, ov_l co), (7, ov_i ws), (8, ov_i v2), (9, ov_l (ov_lor co (ov_lshl 1 ((6 * y) + x)))), (11, ov_i x11)]) (st2 := [ov_i s, ov_i x11, ov_i y, ov_i x, ov_r 90, ov_i s]) (pc2 := 84) b_304_77_6 rfl rfl ?_
              refine ov_cV (as := [ov_i x, ov_i y, ov_i x11, ov_i s]) (st := [ov_i s]) (d2 := d - 1) d_304_84 lk_Mo_315 rfl (Nat.le_of_ble_eq_true rfl) (c := 1) (zb_90 I10) (zs_90 I10) ⟨by decide, rfl⟩ (by omega) (c_Mo_waitFor_90 (d - 1) (by omega) U I10 x y x11 s (by omega) (by omega) (by omega) (by omega) (by omega) (by omega) (by omega) (by omega) (by rw [show h9 96 = h 96 from E14]; exact W)) ?_
              rintro _ _ _ ⟨v33, rfl, rfl, rfl, f32⟩
              show ov_R u d ov_m304 87 [(0, ov_r 90), (1, ov_i x), (2, ov_i y), (3, ov_i s), (4, ov_i m), (5, ov_l co), (7, ov_i ws), (8, ov_i v2), (9, ov_l (ov_lor co (ov_lshl 1 ((6 * y) + x)))), (11, ov_i x11)] [ov_i v33, ov_i s] z8 h9 (P_Mo_goesOn_90 F z h x y s m co ws)
              rw [show h9 96 = h 96 from E14] at f32
              have f34 : 0 ≤ v33 ∧ v33 ≤ 59 ∧ v33 = ov_wm (h 96) (6 * y + x) x11 s := f32
              clear f32
              refine ov_blk (ls2 := [(0, ov_r 90), (1, ov_i x), (2, ov_i y), (3, ov_i s), (4, ov_i m), (5, ov_l co), (7, ov_i ws), (8, ov_i v2), (9, ov_l (ov_lor co (ov_lshl 1 ((6 * y) + x)))), (11, ov_i x11), (12, ov_i (s + v33))]) (st2 := [ov_i (s + v33), ov_i s, ov_i y, ov_i x, ov_r 90, ov_i m]) (pc2 := 98) b_304_87_8 rfl rfl ?_
              refine ov_cV (as := [ov_i x, ov_i y, ov_i s, ov_i (s + v33)]) (st := [ov_i m]) (d2 := d - 1) d_304_98 lk_Mo_450 rfl (Nat.le_of_ble_eq_true rfl) (c := 1) (zb_90 I10) (zs_90 I10) ⟨by decide, rfl⟩ (by omega) (c_Mo_wasBetween_90 (d - 1) (by omega) U I10 x y s (s + v33) (by omega) (by omega) (by omega) (by omega)) ?_
              rintro _ _ _ ⟨v36, rfl, rfl, rfl, f35⟩
              show ov_R u d ov_m304 101 [(0, ov_r 90), (1, ov_i x), (2, ov_i y), (3, ov_i s), (4, ov_i m), (5, ov_l co), (7, ov_i ws), (8, ov_i v2), (9, ov_l (ov_lor co (ov_lshl 1 ((6 * y) + x)))), (11, ov_i x11), (12, ov_i (s + v33))] [ov_i v36, ov_i m] z8 h9 (P_Mo_goesOn_90 F z h x y s m co ws)
              have f37 : -2147483648 ≤ v36 ∧ v36 ≤ 2147483647 := f35
              clear f35
              refine ov_blk (ls2 := [(0, ov_r 90), (1, ov_i x), (2, ov_i y), (3, ov_i s), (4, ov_i m), (5, ov_l co), (7, ov_i ws), (8, ov_i v2), (9, ov_l (ov_lor co (ov_lshl 1 ((6 * y) + x)))), (11, ov_i x11), (12, ov_i (s + v33)), (13, ov_i (ov_or m v36))]) (st2 := [ov_i v2]) (pc2 := 106) b_304_101_3 rfl rfl ?_
              have g38 := ov_org m v36
              refine ov_ifeq (tgt := 122) d_304_106 (by decide) (by omega) (fun c39 => ?_) (fun c39 => ?_)
              · skip
                refine ov_blk (ls2 := [(0, ov_r 90), (1, ov_i x), (2, ov_i y), (3, ov_i s), (4, ov_i m), (5, ov_l co), (7, ov_i ws), (8, ov_i v2), (9, ov_l (ov_lor co (ov_lshl 1 ((6 * y) + x)))), (11, ov_i x11), (12, ov_i (s + v33)), (13, ov_i (ov_or m v36))]) (st2 := [ov_r 90, ov_i (s + v33), ov_i (y + x11), ov_i ((x + 1) - x11), ov_r 90]) (pc2 := 136) b_304_122_11 rfl rfl ?_
                refine ov_getf (v := ov_r 96) d_304_136 fl_Mo_81 (zb_90 I10) (zs_90 I10) (congrArg ov_r (rg_90_10 I10)) ?_
                refine ov_blk (ls2 := [(0, ov_r 90), (1, ov_i x), (2, ov_i y), (3, ov_i s), (4, ov_i m), (5, ov_l co), (7, ov_i ws), (8, ov_i v2), (9, ov_l (ov_lor co (ov_lshl 1 ((6 * y) + x)))), (11, ov_i x11), (12, ov_i (s + v33)), (13, ov_i (ov_or m v36))]) (st2 := [ov_i 2, ov_r 96, ov_i (s + v33), ov_i (y + x11), ov_i ((x + 1) - x11), ov_r 90]) (pc2 := 140) b_304_139_1 rfl rfl ?_
                refine ov_iald d_304_140 (zb_96 I10) (zs_96 I10) (by omega) ?_
                rw [show h9 96 = h 96 from E14]
                have g40 := t96_2 I
                refine ov_blk (ls2 := [(0, ov_r 90), (1, ov_i x), (2, ov_i y), (3, ov_i s), (4, ov_i m), (5, ov_l co), (7, ov_i ws), (8, ov_i v2), (9, ov_l (ov_lor co (ov_lshl 1 ((6 * y) + x)))), (11, ov_i x11), (12, ov_i (s + v33)), (13, ov_i (ov_or m v36))]) (st2 := [ov_i (ov_or ws (ov_shl x11 (x + y))), ov_l (ov_lor co (ov_lshl 1 ((6 * y) + x))), ov_i (ov_or m v36), ov_i ((s + v33) + (h 96 2)), ov_i (y + x11), ov_i ((x + 1) - x11), ov_r 90]) (pc2 := 155) b_304_141_10 rfl rfl ?_
                have g41 := ov_shlg x11 (x + y)
                have g42 := ov_org ws (ov_shl x11 (x + y))
                refine ov_cV (as := [ov_i ((x + 1) - x11), ov_i (y + x11), ov_i ((s + v33) + (h 96 2)), ov_i (ov_or m v36), ov_l (ov_lor co (ov_lshl 1 ((6 * y) + x))), ov_i (ov_or ws (ov_shl x11 (x + y)))]) (st := []) (d2 := d - 1) d_304_155 lk_Mo_457 rfl (Nat.le_of_ble_eq_true rfl) (c := 1) (zb_90 I10) (zs_90 I10) ⟨by decide, rfl⟩ (by omega) (HV (Int.toNat (13 - (((x + 1) - x11)) - ((y + x11)))) (by omega) (d - 1) (by omega) U I10 ((x + 1) - x11) (y + x11) ((s + v33) + (h 96 2)) (ov_or m v36) (ov_lor co (ov_lshl 1 ((6 * y) + x))) (ov_or ws (ov_shl x11 (x + y))) (by omega) (by omega) (by omega) (by omega) (by omega) (by omega) (by omega) (by omega) (by omega) (by rw [show h9 96 = h 96 from E14]; exact W)) ?_
                rintro _ z57 h58 ⟨rfl, I59, f43, e44, e45, e46, e47, e48, e49, e50, e51, e52, e53, e54, e55, e56⟩
                have E60 : h58 92 = h 92 := Eq.trans e44 E11
                have E61 : h58 93 = h 93 := Eq.trans e45 E12
                have E62 : h58 94 = h 94 := Eq.trans e46 E13
                have E63 : h58 96 = h 96 := Eq.trans e47 E14
                have E64 : h58 97 = h 97 := Eq.trans e48 E15
                have E65 : h58 98 = h 98 := Eq.trans e49 E16
                have E66 : h58 99 = h 99 := Eq.trans e50 E17
                have E67 : h58 100 = h 100 := Eq.trans e51 E18
                have E68 : h58 103 = h 103 := Eq.trans e52 E19
                have E69 : h58 105 = h 105 := Eq.trans e53 E20
                have E70 : h58 106 = h 106 := Eq.trans e54 E21
                have E71 : h58 109 = h 109 := Eq.trans e55 E22
                have E72 : h58 114 = h 114 := Eq.trans e56 E23
                show ov_R u d ov_m304 158 [(0, ov_r 90), (1, ov_i x), (2, ov_i y), (3, ov_i s), (4, ov_i m), (5, ov_l co), (7, ov_i ws), (8, ov_i v2), (9, ov_l (ov_lor co (ov_lshl 1 ((6 * y) + x)))), (11, ov_i x11), (12, ov_i (s + v33)), (13, ov_i (ov_or m v36))] [] z57 h58 (P_Mo_goesOn_90 F z h x y s m co ws)
                have f73 : (h58 90 2) = (h9 90 2) ∧ (h58 90 3) = (h9 90 3) ∧ (h58 90 7) = (h9 90 7) ∧ (h58 90 8) = (h9 90 8) ∧ (h58 90 13) = (h9 90 13) ∧ (h58 90 20) = (h9 90 20) ∧ (h58 90 22) = (h9 90 22) ∧ (h58 90 25) = (h9 90 25) ∧ (h58 90 26) = (h9 90 26) ∧ (h58 90 27) = (h9 90 27) ∧ (h58 90 28) = (h9 90 28) ∧ (h58 90 29) = (h9 90 29) ∧ (h58 90 30) = (h9 90 30) ∧ (h58 90 34) = (h9 90 34) ∧ (h58 90 35) = (h9 90 35) ∧ (h58 90 37) = (h9 90 37) := f43
                clear f43
                refine ov_blk (ls2 := [(0, ov_r 90), (1, ov_i x), (2, ov_i y), (3, ov_i s), (4, ov_i m), (5, ov_l co), (7, ov_i ws), (8, ov_i v2), (9, ov_l (ov_lor co (ov_lshl 1 ((6 * y) + x)))), (11, ov_i (x11 + 1)), (12, ov_i (s + v33)), (13, ov_i (ov_or m v36))]) (st2 := []) (pc2 := 161) b_304_158_1 rfl rfl ?_
                refine ov_goto (tgt := 24) d_304_161 (by decide) ?_
                refine ov_sub (ls2 := [(0, ov_r 90), (1, ov_i x), (2, ov_i y), (3, ov_i s), (4, ov_i m), (5, ov_l co), (7, ov_i ws), (8, ov_i v2), (9, ov_l (ov_lor co (ov_lshl 1 ((6 * y) + x)))), (11, ov_i (x11 + 1))]) (List.Sublist.subset (by repeat (first | exact List.Sublist.refl _ | apply List.Sublist.cons_cons | apply List.Sublist.cons))) ?_
                exact ih5 (x11 + 1) _ _ I59 E60 E61 E62 E63 E64 E65 E66 E67 E68 E69 E70 E71 E72 (by show 0 ≤ (x11 + 1) ∧ (x11 + 1) ≤ 3 ∧ (v2 = 0 → (x11 + 1) ≤ 2) ∧ (h58 90 2) = (h 90 2) ∧ (h58 90 3) = (h 90 3) ∧ (h58 90 7) = (h 90 7) ∧ (h58 90 8) = (h 90 8) ∧ (h58 90 13) = (h 90 13) ∧ (h58 90 20) = (h 90 20) ∧ (h58 90 22) = (h 90 22) ∧ (h58 90 25) = (h 90 25) ∧ (h58 90 26) = (h 90 26) ∧ (h58 90 27) = (h 90 27) ∧ (h58 90 28) = (h 90 28) ∧ (h58 90 29) = (h 90 29) ∧ (h58 90 30) = (h 90 30) ∧ (h58 90 34) = (h 90 34) ∧ (h58 90 35) = (h 90 35) ∧ (h58 90 37) = (h 90 37); omega) (by omega)
              · skip
                refine ov_blk (ls2 := [(0, ov_r 90), (1, ov_i x), (2, ov_i y), (3, ov_i s), (4, ov_i m), (5, ov_l co), (7, ov_i ws), (8, ov_i v2), (9, ov_l (ov_lor co (ov_lshl 1 ((6 * y) + x)))), (11, ov_i x11), (12, ov_i (s + v33)), (13, ov_i (ov_or m v36))]) (st2 := [ov_i ws, ov_l (ov_lor co (ov_lshl 1 ((6 * y) + x))), ov_i (ov_or m v36), ov_r 90]) (pc2 := 116) b_304_109_4 rfl rfl ?_
                refine ov_cV (as := [ov_i (ov_or m v36), ov_l (ov_lor co (ov_lshl 1 ((6 * y) + x))), ov_i ws]) (st := []) (d2 := d - 1) d_304_116 lk_Mo_453 rfl (Nat.le_of_ble_eq_true rfl) (c := 1) (zb_90 I10) (zs_90 I10) ⟨by decide, rfl⟩ (by omega) (c_Mo_fits0_90 (d - 1) (by omega) U I10 (ov_or m v36) (ov_lor co (ov_lshl 1 ((6 * y) + x))) ws (by omega) (by omega)) ?_
                rintro _ z88 h89 ⟨rfl, I90, f74, e75, e76, e77, e78, e79, e80, e81, e82, e83, e84, e85, e86, e87⟩
                have E91 : h89 92 = h 92 := Eq.trans e75 E11
                have E92 : h89 93 = h 93 := Eq.trans e76 E12
                have E93 : h89 94 = h 94 := Eq.trans e77 E13
                have E94 : h89 96 = h 96 := Eq.trans e78 E14
                have E95 : h89 97 = h 97 := Eq.trans e79 E15
                have E96 : h89 98 = h 98 := Eq.trans e80 E16
                have E97 : h89 99 = h 99 := Eq.trans e81 E17
                have E98 : h89 100 = h 100 := Eq.trans e82 E18
                have E99 : h89 103 = h 103 := Eq.trans e83 E19
                have E100 : h89 105 = h 105 := Eq.trans e84 E20
                have E101 : h89 106 = h 106 := Eq.trans e85 E21
                have E102 : h89 109 = h 109 := Eq.trans e86 E22
                have E103 : h89 114 = h 114 := Eq.trans e87 E23
                show ov_R u d ov_m304 119 [(0, ov_r 90), (1, ov_i x), (2, ov_i y), (3, ov_i s), (4, ov_i m), (5, ov_l co), (7, ov_i ws), (8, ov_i v2), (9, ov_l (ov_lor co (ov_lshl 1 ((6 * y) + x)))), (11, ov_i x11), (12, ov_i (s + v33)), (13, ov_i (ov_or m v36))] [] z88 h89 (P_Mo_goesOn_90 F z h x y s m co ws)
                have f104 : (h89 90 2) = (h9 90 2) ∧ (h89 90 3) = (h9 90 3) ∧ (h89 90 7) = (h9 90 7) ∧ (h89 90 8) = (h9 90 8) ∧ (h89 90 13) = (h9 90 13) ∧ (h89 90 20) = (h9 90 20) ∧ (h89 90 22) = (h9 90 22) ∧ (h89 90 25) = (h9 90 25) ∧ (h89 90 26) = (h9 90 26) ∧ (h89 90 27) = (h9 90 27) ∧ (h89 90 28) = (h9 90 28) ∧ (h89 90 29) = (h9 90 29) ∧ (h89 90 30) = (h9 90 30) ∧ (h89 90 34) = (h9 90 34) ∧ (h89 90 35) = (h9 90 35) ∧ (h89 90 37) = (h9 90 37) := f74
                clear f74
                refine ov_goto (tgt := 158) d_304_119 (by decide) ?_
                refine ov_blk (ls2 := [(0, ov_r 90), (1, ov_i x), (2, ov_i y), (3, ov_i s), (4, ov_i m), (5, ov_l co), (7, ov_i ws), (8, ov_i v2), (9, ov_l (ov_lor co (ov_lshl 1 ((6 * y) + x)))), (11, ov_i (x11 + 1)), (12, ov_i (s + v33)), (13, ov_i (ov_or m v36))]) (st2 := []) (pc2 := 161) b_304_158_1 rfl rfl ?_
                refine ov_goto (tgt := 24) d_304_161 (by decide) ?_
                refine ov_sub (ls2 := [(0, ov_r 90), (1, ov_i x), (2, ov_i y), (3, ov_i s), (4, ov_i m), (5, ov_l co), (7, ov_i ws), (8, ov_i v2), (9, ov_l (ov_lor co (ov_lshl 1 ((6 * y) + x)))), (11, ov_i (x11 + 1))]) (List.Sublist.subset (by repeat (first | exact List.Sublist.refl _ | apply List.Sublist.cons_cons | apply List.Sublist.cons))) ?_
                exact ih5 (x11 + 1) _ _ I90 E91 E92 E93 E94 E95 E96 E97 E98 E99 E100 E101 E102 E103 (by show 0 ≤ (x11 + 1) ∧ (x11 + 1) ≤ 3 ∧ (v2 = 0 → (x11 + 1) ≤ 2) ∧ (h89 90 2) = (h 90 2) ∧ (h89 90 3) = (h 90 3) ∧ (h89 90 7) = (h 90 7) ∧ (h89 90 8) = (h 90 8) ∧ (h89 90 13) = (h 90 13) ∧ (h89 90 20) = (h 90 20) ∧ (h89 90 22) = (h 90 22) ∧ (h89 90 25) = (h 90 25) ∧ (h89 90 26) = (h 90 26) ∧ (h89 90 27) = (h 90 27) ∧ (h89 90 28) = (h 90 28) ∧ (h89 90 29) = (h 90 29) ∧ (h89 90 30) = (h 90 30) ∧ (h89 90 34) = (h 90 34) ∧ (h89 90 35) = (h 90 35) ∧ (h89 90 37) = (h 90 37); omega) (by omega)
            · skip
              refine ov_ldcw (n := 2000000000) d_304_71 kc_Mo_338 ?_
              refine ov_goto (tgt := 88) d_304_74 (by decide) ?_
              refine ov_blk (ls2 := [(0, ov_r 90), (1, ov_i x), (2, ov_i y), (3, ov_i s), (4, ov_i m), (5, ov_l co), (7, ov_i ws), (8, ov_i v2), (9, ov_l (ov_lor co (ov_lshl 1 ((6 * y) + x)))), (11, ov_i x11), (12, ov_i 2000000000)]) (st2 := [ov_i 2000000000, ov_i s, ov_i y, ov_i x, ov_r 90, ov_i m]) (pc2 := 98) b_304_88_7 rfl rfl ?_
              refine ov_cV (as := [ov_i x, ov_i y, ov_i s, ov_i 2000000000]) (st := [ov_i m]) (d2 := d - 1) d_304_98 lk_Mo_450 rfl (Nat.le_of_ble_eq_true rfl) (c := 1) (zb_90 I10) (zs_90 I10) ⟨by decide, rfl⟩ (by omega) (c_Mo_wasBetween_90 (d - 1) (by omega) U I10 x y s 2000000000 (by omega) (by omega) (by omega) (by omega)) ?_
              rintro _ _ _ ⟨v106, rfl, rfl, rfl, f105⟩
              show ov_R u d ov_m304 101 [(0, ov_r 90), (1, ov_i x), (2, ov_i y), (3, ov_i s), (4, ov_i m), (5, ov_l co), (7, ov_i ws), (8, ov_i v2), (9, ov_l (ov_lor co (ov_lshl 1 ((6 * y) + x)))), (11, ov_i x11), (12, ov_i 2000000000)] [ov_i v106, ov_i m] z8 h9 (P_Mo_goesOn_90 F z h x y s m co ws)
              have f107 : -2147483648 ≤ v106 ∧ v106 ≤ 2147483647 := f105
              clear f105
              refine ov_blk (ls2 := [(0, ov_r 90), (1, ov_i x), (2, ov_i y), (3, ov_i s), (4, ov_i m), (5, ov_l co), (7, ov_i ws), (8, ov_i v2), (9, ov_l (ov_lor co (ov_lshl 1 ((6 * y) + x)))), (11, ov_i x11), (12, ov_i 2000000000), (13, ov_i (ov_or m v106))]) (st2 := [ov_i v2]) (pc2 := 106) b_304_101_3 rfl rfl ?_
              have g108 := ov_org m v106
              refine ov_ifeq (tgt := 122) d_304_106 (by decide) (by omega) (fun c109 => ?_) (fun c109 => ?_)
              · skip
                refine ov_blk (ls2 := [(0, ov_r 90), (1, ov_i x), (2, ov_i y), (3, ov_i s), (4, ov_i m), (5, ov_l co), (7, ov_i ws), (8, ov_i v2), (9, ov_l (ov_lor co (ov_lshl 1 ((6 * y) + x)))), (11, ov_i x11), (12, ov_i 2000000000), (13, ov_i (ov_or m v106))]) (st2 := [ov_r 90, ov_i 2000000000, ov_i (y + x11), ov_i ((x + 1) - x11), ov_r 90]) (pc2 := 136) b_304_122_11 rfl rfl ?_
                refine ov_getf (v := ov_r 96) d_304_136 fl_Mo_81 (zb_90 I10) (zs_90 I10) (congrArg ov_r (rg_90_10 I10)) ?_
                refine ov_blk (ls2 := [(0, ov_r 90), (1, ov_i x), (2, ov_i y), (3, ov_i s), (4, ov_i m), (5, ov_l co), (7, ov_i ws), (8, ov_i v2), (9, ov_l (ov_lor co (ov_lshl 1 ((6 * y) + x)))), (11, ov_i x11), (12, ov_i 2000000000), (13, ov_i (ov_or m v106))]) (st2 := [ov_i 2, ov_r 96, ov_i 2000000000, ov_i (y + x11), ov_i ((x + 1) - x11), ov_r 90]) (pc2 := 140) b_304_139_1 rfl rfl ?_
                refine ov_iald d_304_140 (zb_96 I10) (zs_96 I10) (by omega) ?_
                rw [show h9 96 = h 96 from E14]
                have g110 := t96_2 I
                refine ov_blk (ls2 := [(0, ov_r 90), (1, ov_i x), (2, ov_i y), (3, ov_i s), (4, ov_i m), (5, ov_l co), (7, ov_i ws), (8, ov_i v2), (9, ov_l (ov_lor co (ov_lshl 1 ((6 * y) + x)))), (11, ov_i x11), (12, ov_i 2000000000), (13, ov_i (ov_or m v106))]) (st2 := [ov_i (ov_or ws (ov_shl x11 (x + y))), ov_l (ov_lor co (ov_lshl 1 ((6 * y) + x))), ov_i (ov_or m v106), ov_i (2000000000 + (h 96 2)), ov_i (y + x11), ov_i ((x + 1) - x11), ov_r 90]) (pc2 := 155) b_304_141_10 rfl rfl ?_
                have g111 := ov_shlg x11 (x + y)
                have g112 := ov_org ws (ov_shl x11 (x + y))
                refine ov_cV (as := [ov_i ((x + 1) - x11), ov_i (y + x11), ov_i (2000000000 + (h 96 2)), ov_i (ov_or m v106), ov_l (ov_lor co (ov_lshl 1 ((6 * y) + x))), ov_i (ov_or ws (ov_shl x11 (x + y)))]) (st := []) (d2 := d - 1) d_304_155 lk_Mo_457 rfl (Nat.le_of_ble_eq_true rfl) (c := 1) (zb_90 I10) (zs_90 I10) ⟨by decide, rfl⟩ (by omega) (HV (Int.toNat (13 - (((x + 1) - x11)) - ((y + x11)))) (by omega) (d - 1) (by omega) U I10 ((x + 1) - x11) (y + x11) (2000000000 + (h 96 2)) (ov_or m v106) (ov_lor co (ov_lshl 1 ((6 * y) + x))) (ov_or ws (ov_shl x11 (x + y))) (by omega) (by omega) (by omega) (by omega) (by omega) (by omega) (by omega) (by omega) (by omega) (by rw [show h9 96 = h 96 from E14]; exact W)) ?_
                rintro _ z127 h128 ⟨rfl, I129, f113, e114, e115, e116, e117, e118, e119, e120, e121, e122, e123, e124, e125, e126⟩
                have E130 : h128 92 = h 92 := Eq.trans e114 E11
                have E131 : h128 93 = h 93 := Eq.trans e115 E12
                have E132 : h128 94 = h 94 := Eq.trans e116 E13
                have E133 : h128 96 = h 96 := Eq.trans e117 E14
                have E134 : h128 97 = h 97 := Eq.trans e118 E15
                have E135 : h128 98 = h 98 := Eq.trans e119 E16
                have E136 : h128 99 = h 99 := Eq.trans e120 E17
                have E137 : h128 100 = h 100 := Eq.trans e121 E18
                have E138 : h128 103 = h 103 := Eq.trans e122 E19
                have E139 : h128 105 = h 105 := Eq.trans e123 E20
                have E140 : h128 106 = h 106 := Eq.trans e124 E21
                have E141 : h128 109 = h 109 := Eq.trans e125 E22
                have E142 : h128 114 = h 114 := Eq.trans e126 E23
                show ov_R u d ov_m304 158 [(0, ov_r 90), (1, ov_i x), (2, ov_i y), (3, ov_i s), (4, ov_i m), (5, ov_l co), (7, ov_i ws), (8, ov_i v2), (9, ov_l (ov_lor co (ov_lshl 1 ((6 * y) + x)))), (11, ov_i x11), (12, ov_i 2000000000), (13, ov_i (ov_or m v106))] [] z127 h128 (P_Mo_goesOn_90 F z h x y s m co ws)
                have f143 : (h128 90 2) = (h9 90 2) ∧ (h128 90 3) = (h9 90 3) ∧ (h128 90 7) = (h9 90 7) ∧ (h128 90 8) = (h9 90 8) ∧ (h128 90 13) = (h9 90 13) ∧ (h128 90 20) = (h9 90 20) ∧ (h128 90 22) = (h9 90 22) ∧ (h128 90 25) = (h9 90 25) ∧ (h128 90 26) = (h9 90 26) ∧ (h128 90 27) = (h9 90 27) ∧ (h128 90 28) = (h9 90 28) ∧ (h128 90 29) = (h9 90 29) ∧ (h128 90 30) = (h9 90 30) ∧ (h128 90 34) = (h9 90 34) ∧ (h128 90 35) = (h9 90 35) ∧ (h128 90 37) = (h9 90 37) := f113
                clear f113
                refine ov_blk (ls2 := [(0, ov_r 90), (1, ov_i x), (2, ov_i y), (3, ov_i s), (4, ov_i m), (5, ov_l co), (7, ov_i ws), (8, ov_i v2), (9, ov_l (ov_lor co (ov_lshl 1 ((6 * y) + x)))), (11, ov_i (x11 + 1)), (12, ov_i 2000000000), (13, ov_i (ov_or m v106))]) (st2 := []) (pc2 := 161) b_304_158_1 rfl rfl ?_
                refine ov_goto (tgt := 24) d_304_161 (by decide) ?_
                refine ov_sub (ls2 := [(0, ov_r 90), (1, ov_i x), (2, ov_i y), (3, ov_i s), (4, ov_i m), (5, ov_l co), (7, ov_i ws), (8, ov_i v2), (9, ov_l (ov_lor co (ov_lshl 1 ((6 * y) + x)))), (11, ov_i (x11 + 1))]) (List.Sublist.subset (by repeat (first | exact List.Sublist.refl _ | apply List.Sublist.cons_cons | apply List.Sublist.cons))) ?_
                exact ih5 (x11 + 1) _ _ I129 E130 E131 E132 E133 E134 E135 E136 E137 E138 E139 E140 E141 E142 (by show 0 ≤ (x11 + 1) ∧ (x11 + 1) ≤ 3 ∧ (v2 = 0 → (x11 + 1) ≤ 2) ∧ (h128 90 2) = (h 90 2) ∧ (h128 90 3) = (h 90 3) ∧ (h128 90 7) = (h 90 7) ∧ (h128 90 8) = (h 90 8) ∧ (h128 90 13) = (h 90 13) ∧ (h128 90 20) = (h 90 20) ∧ (h128 90 22) = (h 90 22) ∧ (h128 90 25) = (h 90 25) ∧ (h128 90 26) = (h 90 26) ∧ (h128 90 27) = (h 90 27) ∧ (h128 90 28) = (h 90 28) ∧ (h128 90 29) = (h 90 29) ∧ (h128 90 30) = (h 90 30) ∧ (h128 90 34) = (h 90 34) ∧ (h128 90 35) = (h 90 35) ∧ (h128 90 37) = (h 90 37); omega) (by omega)
              · skip
                refine ov_blk (ls2 := [(0, ov_r 90), (1, ov_i x), (2, ov_i y), (3, ov_i s), (4, ov_i m), (5, ov_l co), (7, ov_i ws), (8, ov_i v2), (9, ov_l (ov_lor co (ov_lshl 1 ((6 * y) + x)))), (11, ov_i x11), (12, ov_i 2000000000), (13, ov_i (ov_or m v106))]) (st2 := [ov_i ws, ov_l (ov_lor co (ov_lshl 1 ((6 * y) + x))), ov_i (ov_or m v106), ov_r 90]) (pc2 := 116) b_304_109_4 rfl rfl ?_
                refine ov_cV (as := [ov_i (ov_or m v106), ov_l (ov_lor co (ov_lshl 1 ((6 * y) + x))), ov_i ws]) (st := []) (d2 := d - 1) d_304_116 lk_Mo_453 rfl (Nat.le_of_ble_eq_true rfl) (c := 1) (zb_90 I10) (zs_90 I10) ⟨by decide, rfl⟩ (by omega) (c_Mo_fits0_90 (d - 1) (by omega) U I10 (ov_or m v106) (ov_lor co (ov_lshl 1 ((6 * y) + x))) ws (by omega) (by omega)) ?_
                rintro _ z158 h159 ⟨rfl, I160, f144, e145, e146, e147, e148, e149, e150, e151, e152, e153, e154, e155, e156, e157⟩
                have E161 : h159 92 = h 92 := Eq.trans e145 E11
                have E162 : h159 93 = h 93 := Eq.trans e146 E12
                have E163 : h159 94 = h 94 := Eq.trans e147 E13
                have E164 : h159 96 = h 96 := Eq.trans e148 E14
                have E165 : h159 97 = h 97 := Eq.trans e149 E15
                have E166 : h159 98 = h 98 := Eq.trans e150 E16
                have E167 : h159 99 = h 99 := Eq.trans e151 E17
                have E168 : h159 100 = h 100 := Eq.trans e152 E18
                have E169 : h159 103 = h 103 := Eq.trans e153 E19
                have E170 : h159 105 = h 105 := Eq.trans e154 E20
                have E171 : h159 106 = h 106 := Eq.trans e155 E21
                have E172 : h159 109 = h 109 := Eq.trans e156 E22
                have E173 : h159 114 = h 114 := Eq.trans e157 E23
                show ov_R u d ov_m304 119 [(0, ov_r 90), (1, ov_i x), (2, ov_i y), (3, ov_i s), (4, ov_i m), (5, ov_l co), (7, ov_i ws), (8, ov_i v2), (9, ov_l (ov_lor co (ov_lshl 1 ((6 * y) + x)))), (11, ov_i x11), (12, ov_i 2000000000), (13, ov_i (ov_or m v106))] [] z158 h159 (P_Mo_goesOn_90 F z h x y s m co ws)
                have f174 : (h159 90 2) = (h9 90 2) ∧ (h159 90 3) = (h9 90 3) ∧ (h159 90 7) = (h9 90 7) ∧ (h159 90 8) = (h9 90 8) ∧ (h159 90 13) = (h9 90 13) ∧ (h159 90 20) = (h9 90 20) ∧ (h159 90 22) = (h9 90 22) ∧ (h159 90 25) = (h9 90 25) ∧ (h159 90 26) = (h9 90 26) ∧ (h159 90 27) = (h9 90 27) ∧ (h159 90 28) = (h9 90 28) ∧ (h159 90 29) = (h9 90 29) ∧ (h159 90 30) = (h9 90 30) ∧ (h159 90 34) = (h9 90 34) ∧ (h159 90 35) = (h9 90 35) ∧ (h159 90 37) = (h9 90 37) := f144
                clear f144
                refine ov_goto (tgt := 158) d_304_119 (by decide) ?_
                refine ov_blk (ls2 := [(0, ov_r 90), (1, ov_i x), (2, ov_i y), (3, ov_i s), (4, ov_i m), (5, ov_l co), (7, ov_i ws), (8, ov_i v2), (9, ov_l (ov_lor co (ov_lshl 1 ((6 * y) + x)))), (11, ov_i (x11 + 1)), (12, ov_i 2000000000), (13, ov_i (ov_or m v106))]) (st2 := []) (pc2 := 161) b_304_158_1 rfl rfl ?_
                refine ov_goto (tgt := 24) d_304_161 (by decide) ?_
                refine ov_sub (ls2 := [(0, ov_r 90), (1, ov_i x), (2, ov_i y), (3, ov_i s), (4, ov_i m), (5, ov_l co), (7, ov_i ws), (8, ov_i v2), (9, ov_l (ov_lor co (ov_lshl 1 ((6 * y) + x)))), (11, ov_i (x11 + 1))]) (List.Sublist.subset (by repeat (first | exact List.Sublist.refl _ | apply List.Sublist.cons_cons | apply List.Sublist.cons))) ?_
                exact ih5 (x11 + 1) _ _ I160 E161 E162 E163 E164 E165 E166 E167 E168 E169 E170 E171 E172 E173 (by show 0 ≤ (x11 + 1) ∧ (x11 + 1) ≤ 3 ∧ (v2 = 0 → (x11 + 1) ≤ 2) ∧ (h159 90 2) = (h 90 2) ∧ (h159 90 3) = (h 90 3) ∧ (h159 90 7) = (h 90 7) ∧ (h159 90 8) = (h 90 8) ∧ (h159 90 13) = (h 90 13) ∧ (h159 90 20) = (h 90 20) ∧ (h159 90 22) = (h 90 22) ∧ (h159 90 25) = (h 90 25) ∧ (h159 90 26) = (h 90 26) ∧ (h159 90 27) = (h 90 27) ∧ (h159 90 28) = (h 90 28) ∧ (h159 90 29) = (h 90 29) ∧ (h159 90 30) = (h 90 30) ∧ (h159 90 34) = (h 90 34) ∧ (h159 90 35) = (h 90 35) ∧ (h159 90 37) = (h 90 37); omega) (by omega)
        · skip
          refine ov_blk (ls2 := [(0, ov_r 90), (1, ov_i x), (2, ov_i y), (3, ov_i s), (4, ov_i m), (5, ov_l co), (7, ov_i ws), (8, ov_i v2), (9, ov_l (ov_lor co (ov_lshl 1 ((6 * y) + x)))), (11, ov_i x11)]) (st2 := [ov_i 2, ov_i x11]) (pc2 := 49) b_304_46_2 rfl rfl ?_
          refine ov_icne (tgt := 158) d_304_49 (by decide) (by omega) (by omega) (fun c175 => ?_) (fun c175 => ?_)
          · skip
            refine ov_blk (ls2 := [(0, ov_r 90), (1, ov_i x), (2, ov_i y), (3, ov_i s), (4, ov_i m), (5, ov_l co), (7, ov_i ws), (8, ov_i v2), (9, ov_l (ov_lor co (ov_lshl 1 ((6 * y) + x)))), (11, ov_i (x11 + 1))]) (st2 := []) (pc2 := 161) b_304_158_1 rfl rfl ?_
            refine ov_goto (tgt := 24) d_304_161 (by decide) ?_
            exact ih5 (x11 + 1) _ _ I10 E11 E12 E13 E14 E15 E16 E17 E18 E19 E20 E21 E22 E23 (by show 0 ≤ (x11 + 1) ∧ (x11 + 1) ≤ 3 ∧ (v2 = 0 → (x11 + 1) ≤ 2) ∧ (h9 90 2) = (h 90 2) ∧ (h9 90 3) = (h 90 3) ∧ (h9 90 7) = (h 90 7) ∧ (h9 90 8) = (h 90 8) ∧ (h9 90 13) = (h 90 13) ∧ (h9 90 20) = (h 90 20) ∧ (h9 90 22) = (h 90 22) ∧ (h9 90 25) = (h 90 25) ∧ (h9 90 26) = (h 90 26) ∧ (h9 90 27) = (h 90 27) ∧ (h9 90 28) = (h 90 28) ∧ (h9 90 29) = (h 90 29) ∧ (h9 90 30) = (h 90 30) ∧ (h9 90 34) = (h 90 34) ∧ (h9 90 35) = (h 90 35) ∧ (h9 90 37) = (h 90 37); omega) (by omega)
          · skip
            refine ov_goto (tgt := 66) d_304_52 (by decide) ?_
            refine ov_blk (ls2 := [(0, ov_r 90), (1, ov_i x), (2, ov_i y), (3, ov_i s), (4, ov_i m), (5, ov_l co), (7, ov_i ws), (8, ov_i v2), (9, ov_l (ov_lor co (ov_lshl 1 ((6 * y) + x)))), (11, ov_i x11)]) (st2 := [ov_i v2]) (pc2 := 68) b_304_66_1 rfl rfl ?_
            refine ov_ifeq (tgt := 77) d_304_68 (by decide) (by omega) (fun c176 => ?_) (fun c176 => ?_)
            · skip
              refine ov_blk (ls2 := [(0, ov_r 90), (1, ov_i x), (2, ov_i y), (3, ov_i s), (4, ov_i m), (5, ov_l co), (7, ov_i ws), (8, ov_i v2), (9, ov_l (ov_lor co (ov_lshl 1 ((6 * y) + x)))), (11, ov_i x11)]) (st2 := [ov_i s, ov_i x11, ov_i y, ov_i x, ov_r 90, ov_i s]) (pc2 := 84) b_304_77_6 rfl rfl ?_
              refine ov_cV (as := [ov_i x, ov_i y, ov_i x11, ov_i s]) (st := [ov_i s]) (d2 := d - 1) d_304_84 lk_Mo_315 rfl (Nat.le_of_ble_eq_true rfl) (c := 1) (zb_90 I10) (zs_90 I10) ⟨by decide, rfl⟩ (by omega) (c_Mo_waitFor_90 (d - 1) (by omega) U I10 x y x11 s (by omega) (by omega) (by omega) (by omega) (by omega) (by omega) (by omega) (by omega) (by rw [show h9 96 = h 96 from E14]; exact W)) ?_
              rintro _ _ _ ⟨v178, rfl, rfl, rfl, f177⟩
              show ov_R u d ov_m304 87 [(0, ov_r 90), (1, ov_i x), (2, ov_i y), (3, ov_i s), (4, ov_i m), (5, ov_l co), (7, ov_i ws), (8, ov_i v2), (9, ov_l (ov_lor co (ov_lshl 1 ((6 * y) + x)))), (11, ov_i x11)] [ov_i v178, ov_i s] z8 h9 (P_Mo_goesOn_90 F z h x y s m co ws)
              rw [show h9 96 = h 96 from E14] at f177
              have f179 : 0 ≤ v178 ∧ v178 ≤ 59 ∧ v178 = ov_wm (h 96) (6 * y + x) x11 s := f177
              clear f177
              refine ov_blk (ls2 := [(0, ov_r 90), (1, ov_i x), (2, ov_i y), (3, ov_i s), (4, ov_i m), (5, ov_l co), (7, ov_i ws), (8, ov_i v2), (9, ov_l (ov_lor co (ov_lshl 1 ((6 * y) + x)))), (11, ov_i x11), (12, ov_i (s + v178))]) (st2 := [ov_i (s + v178), ov_i s, ov_i y, ov_i x, ov_r 90, ov_i m]) (pc2 := 98) b_304_87_8 rfl rfl ?_
              refine ov_cV (as := [ov_i x, ov_i y, ov_i s, ov_i (s + v178)]) (st := [ov_i m]) (d2 := d - 1) d_304_98 lk_Mo_450 rfl (Nat.le_of_ble_eq_true rfl) (c := 1) (zb_90 I10) (zs_90 I10) ⟨by decide, rfl⟩ (by omega) (c_Mo_wasBetween_90 (d - 1) (by omega) U I10 x y s (s + v178) (by omega) (by omega) (by omega) (by omega)) ?_
              rintro _ _ _ ⟨v181, rfl, rfl, rfl, f180⟩
              show ov_R u d ov_m304 101 [(0, ov_r 90), (1, ov_i x), (2, ov_i y), (3, ov_i s), (4, ov_i m), (5, ov_l co), (7, ov_i ws), (8, ov_i v2), (9, ov_l (ov_lor co (ov_lshl 1 ((6 * y) + x)))), (11, ov_i x11), (12, ov_i (s + v178))] [ov_i v181, ov_i m] z8 h9 (P_Mo_goesOn_90 F z h x y s m co ws)
              have f182 : -2147483648 ≤ v181 ∧ v181 ≤ 2147483647 := f180
              clear f180
              refine ov_blk (ls2 := [(0, ov_r 90), (1, ov_i x), (2, ov_i y), (3, ov_i s), (4, ov_i m), (5, ov_l co), (7, ov_i ws), (8, ov_i v2), (9, ov_l (ov_lor co (ov_lshl 1 ((6 * y) + x)))), (11, ov_i x11), (12, ov_i (s + v178)), (13, ov_i (ov_or m v181))]) (st2 := [ov_i v2]) (pc2 := 106) b_304_101_3 rfl rfl ?_
              have g183 := ov_org m v181
              refine ov_ifeq (tgt := 122) d_304_106 (by decide) (by omega) (fun c184 => ?_) (fun c184 => ?_)
              · skip
                refine ov_blk (ls2 := [(0, ov_r 90), (1, ov_i x), (2, ov_i y), (3, ov_i s), (4, ov_i m), (5, ov_l co), (7, ov_i ws), (8, ov_i v2), (9, ov_l (ov_lor co (ov_lshl 1 ((6 * y) + x)))), (11, ov_i x11), (12, ov_i (s + v178)), (13, ov_i (ov_or m v181))]) (st2 := [ov_r 90, ov_i (s + v178), ov_i (y + x11), ov_i ((x + 1) - x11), ov_r 90]) (pc2 := 136) b_304_122_11 rfl rfl ?_
                refine ov_getf (v := ov_r 96) d_304_136 fl_Mo_81 (zb_90 I10) (zs_90 I10) (congrArg ov_r (rg_90_10 I10)) ?_
                refine ov_blk (ls2 := [(0, ov_r 90), (1, ov_i x), (2, ov_i y), (3, ov_i s), (4, ov_i m), (5, ov_l co), (7, ov_i ws), (8, ov_i v2), (9, ov_l (ov_lor co (ov_lshl 1 ((6 * y) + x)))), (11, ov_i x11), (12, ov_i (s + v178)), (13, ov_i (ov_or m v181))]) (st2 := [ov_i 2, ov_r 96, ov_i (s + v178), ov_i (y + x11), ov_i ((x + 1) - x11), ov_r 90]) (pc2 := 140) b_304_139_1 rfl rfl ?_
                refine ov_iald d_304_140 (zb_96 I10) (zs_96 I10) (by omega) ?_
                rw [show h9 96 = h 96 from E14]
                have g185 := t96_2 I
                refine ov_blk (ls2 := [(0, ov_r 90), (1, ov_i x), (2, ov_i y), (3, ov_i s), (4, ov_i m), (5, ov_l co), (7, ov_i ws), (8, ov_i v2), (9, ov_l (ov_lor co (ov_lshl 1 ((6 * y) + x)))), (11, ov_i x11), (12, ov_i (s + v178)), (13, ov_i (ov_or m v181))]) (st2 := [ov_i (ov_or ws (ov_shl x11 (x + y))), ov_l (ov_lor co (ov_lshl 1 ((6 * y) + x))), ov_i (ov_or m v181), ov_i ((s + v178) + (h 96 2)), ov_i (y + x11), ov_i ((x + 1) - x11), ov_r 90]) (pc2 := 155) b_304_141_10 rfl rfl ?_
                have g186 := ov_shlg x11 (x + y)
                have g187 := ov_org ws (ov_shl x11 (x + y))
                refine ov_cV (as := [ov_i ((x + 1) - x11), ov_i (y + x11), ov_i ((s + v178) + (h 96 2)), ov_i (ov_or m v181), ov_l (ov_lor co (ov_lshl 1 ((6 * y) + x))), ov_i (ov_or ws (ov_shl x11 (x + y)))]) (st := []) (d2 := d - 1) d_304_155 lk_Mo_457 rfl (Nat.le_of_ble_eq_true rfl) (c := 1) (zb_90 I10) (zs_90 I10) ⟨by decide, rfl⟩ (by omega) (HV (Int.toNat (13 - (((x + 1) - x11)) - ((y + x11)))) (by omega) (d - 1) (by omega) U I10 ((x + 1) - x11) (y + x11) ((s + v178) + (h 96 2)) (ov_or m v181) (ov_lor co (ov_lshl 1 ((6 * y) + x))) (ov_or ws (ov_shl x11 (x + y))) (by omega) (by omega) (by omega) (by omega) (by omega) (by omega) (by omega) (by omega) (by omega) (by rw [show h9 96 = h 96 from E14]; exact W)) ?_
                rintro _ z202 h203 ⟨rfl, I204, f188, e189, e190, e191, e192, e193, e194, e195, e196, e197, e198, e199, e200, e201⟩
                have E205 : h203 92 = h 92 := Eq.trans e189 E11
                have E206 : h203 93 = h 93 := Eq.trans e190 E12
                have E207 : h203 94 = h 94 := Eq.trans e191 E13
                have E208 : h203 96 = h 96 := Eq.trans e192 E14
                have E209 : h203 97 = h 97 := Eq.trans e193 E15
                have E210 : h203 98 = h 98 := Eq.trans e194 E16
                have E211 : h203 99 = h 99 := Eq.trans e195 E17
                have E212 : h203 100 = h 100 := Eq.trans e196 E18
                have E213 : h203 103 = h 103 := Eq.trans e197 E19
                have E214 : h203 105 = h 105 := Eq.trans e198 E20
                have E215 : h203 106 = h 106 := Eq.trans e199 E21
                have E216 : h203 109 = h 109 := Eq.trans e200 E22
                have E217 : h203 114 = h 114 := Eq.trans e201 E23
                show ov_R u d ov_m304 158 [(0, ov_r 90), (1, ov_i x), (2, ov_i y), (3, ov_i s), (4, ov_i m), (5, ov_l co), (7, ov_i ws), (8, ov_i v2), (9, ov_l (ov_lor co (ov_lshl 1 ((6 * y) + x)))), (11, ov_i x11), (12, ov_i (s + v178)), (13, ov_i (ov_or m v181))] [] z202 h203 (P_Mo_goesOn_90 F z h x y s m co ws)
                have f218 : (h203 90 2) = (h9 90 2) ∧ (h203 90 3) = (h9 90 3) ∧ (h203 90 7) = (h9 90 7) ∧ (h203 90 8) = (h9 90 8) ∧ (h203 90 13) = (h9 90 13) ∧ (h203 90 20) = (h9 90 20) ∧ (h203 90 22) = (h9 90 22) ∧ (h203 90 25) = (h9 90 25) ∧ (h203 90 26) = (h9 90 26) ∧ (h203 90 27) = (h9 90 27) ∧ (h203 90 28) = (h9 90 28) ∧ (h203 90 29) = (h9 90 29) ∧ (h203 90 30) = (h9 90 30) ∧ (h203 90 34) = (h9 90 34) ∧ (h203 90 35) = (h9 90 35) ∧ (h203 90 37) = (h9 90 37) := f188
                clear f188
                refine ov_blk (ls2 := [(0, ov_r 90), (1, ov_i x), (2, ov_i y), (3, ov_i s), (4, ov_i m), (5, ov_l co), (7, ov_i ws), (8, ov_i v2), (9, ov_l (ov_lor co (ov_lshl 1 ((6 * y) + x)))), (11, ov_i (x11 + 1)), (12, ov_i (s + v178)), (13, ov_i (ov_or m v181))]) (st2 := []) (pc2 := 161) b_304_158_1 rfl rfl ?_
                refine ov_goto (tgt := 24) d_304_161 (by decide) ?_
                refine ov_sub (ls2 := [(0, ov_r 90), (1, ov_i x), (2, ov_i y), (3, ov_i s), (4, ov_i m), (5, ov_l co), (7, ov_i ws), (8, ov_i v2), (9, ov_l (ov_lor co (ov_lshl 1 ((6 * y) + x)))), (11, ov_i (x11 + 1))]) (List.Sublist.subset (by repeat (first | exact List.Sublist.refl _ | apply List.Sublist.cons_cons | apply List.Sublist.cons))) ?_
                exact ih5 (x11 + 1) _ _ I204 E205 E206 E207 E208 E209 E210 E211 E212 E213 E214 E215 E216 E217 (by show 0 ≤ (x11 + 1) ∧ (x11 + 1) ≤ 3 ∧ (v2 = 0 → (x11 + 1) ≤ 2) ∧ (h203 90 2) = (h 90 2) ∧ (h203 90 3) = (h 90 3) ∧ (h203 90 7) = (h 90 7) ∧ (h203 90 8) = (h 90 8) ∧ (h203 90 13) = (h 90 13) ∧ (h203 90 20) = (h 90 20) ∧ (h203 90 22) = (h 90 22) ∧ (h203 90 25) = (h 90 25) ∧ (h203 90 26) = (h 90 26) ∧ (h203 90 27) = (h 90 27) ∧ (h203 90 28) = (h 90 28) ∧ (h203 90 29) = (h 90 29) ∧ (h203 90 30) = (h 90 30) ∧ (h203 90 34) = (h 90 34) ∧ (h203 90 35) = (h 90 35) ∧ (h203 90 37) = (h 90 37); omega) (by omega)
              · skip
                refine ov_blk (ls2 := [(0, ov_r 90), (1, ov_i x), (2, ov_i y), (3, ov_i s), (4, ov_i m), (5, ov_l co), (7, ov_i ws), (8, ov_i v2), (9, ov_l (ov_lor co (ov_lshl 1 ((6 * y) + x)))), (11, ov_i x11), (12, ov_i (s + v178)), (13, ov_i (ov_or m v181))]) (st2 := [ov_i ws, ov_l (ov_lor co (ov_lshl 1 ((6 * y) + x))), ov_i (ov_or m v181), ov_r 90]) (pc2 := 116) b_304_109_4 rfl rfl ?_
                refine ov_cV (as := [ov_i (ov_or m v181), ov_l (ov_lor co (ov_lshl 1 ((6 * y) + x))), ov_i ws]) (st := []) (d2 := d - 1) d_304_116 lk_Mo_453 rfl (Nat.le_of_ble_eq_true rfl) (c := 1) (zb_90 I10) (zs_90 I10) ⟨by decide, rfl⟩ (by omega) (c_Mo_fits0_90 (d - 1) (by omega) U I10 (ov_or m v181) (ov_lor co (ov_lshl 1 ((6 * y) + x))) ws (by omega) (by omega)) ?_
                rintro _ z233 h234 ⟨rfl, I235, f219, e220, e221, e222, e223, e224, e225, e226, e227, e228, e229, e230, e231, e232⟩
                have E236 : h234 92 = h 92 := Eq.trans e220 E11
                have E237 : h234 93 = h 93 := Eq.trans e221 E12
                have E238 : h234 94 = h 94 := Eq.trans e222 E13
                have E239 : h234 96 = h 96 := Eq.trans e223 E14
                have E240 : h234 97 = h 97 := Eq.trans e224 E15
                have E241 : h234 98 = h 98 := Eq.trans e225 E16
                have E242 : h234 99 = h 99 := Eq.trans e226 E17
                have E243 : h234 100 = h 100 := Eq.trans e227 E18
                have E244 : h234 103 = h 103 := Eq.trans e228 E19
                have E245 : h234 105 = h 105 := Eq.trans e229 E20
                have E246 : h234 106 = h 106 := Eq.trans e230 E21
                have E247 : h234 109 = h 109 := Eq.trans e231 E22
                have E248 : h234 114 = h 114 := Eq.trans e232 E23
                show ov_R u d ov_m304 119 [(0, ov_r 90), (1, ov_i x), (2, ov_i y), (3, ov_i s), (4, ov_i m), (5, ov_l co), (7, ov_i ws), (8, ov_i v2), (9, ov_l (ov_lor co (ov_lshl 1 ((6 * y) + x)))), (11, ov_i x11), (12, ov_i (s + v178)), (13, ov_i (ov_or m v181))] [] z233 h234 (P_Mo_goesOn_90 F z h x y s m co ws)
                have f249 : (h234 90 2) = (h9 90 2) ∧ (h234 90 3) = (h9 90 3) ∧ (h234 90 7) = (h9 90 7) ∧ (h234 90 8) = (h9 90 8) ∧ (h234 90 13) = (h9 90 13) ∧ (h234 90 20) = (h9 90 20) ∧ (h234 90 22) = (h9 90 22) ∧ (h234 90 25) = (h9 90 25) ∧ (h234 90 26) = (h9 90 26) ∧ (h234 90 27) = (h9 90 27) ∧ (h234 90 28) = (h9 90 28) ∧ (h234 90 29) = (h9 90 29) ∧ (h234 90 30) = (h9 90 30) ∧ (h234 90 34) = (h9 90 34) ∧ (h234 90 35) = (h9 90 35) ∧ (h234 90 37) = (h9 90 37) := f219
                clear f219
                refine ov_goto (tgt := 158) d_304_119 (by decide) ?_
                refine ov_blk (ls2 := [(0, ov_r 90), (1, ov_i x), (2, ov_i y), (3, ov_i s), (4, ov_i m), (5, ov_l co), (7, ov_i ws), (8, ov_i v2), (9, ov_l (ov_lor co (ov_lshl 1 ((6 * y) + x)))), (11, ov_i (x11 + 1)), (12, ov_i (s + v178)), (13, ov_i (ov_or m v181))]) (st2 := []) (pc2 := 161) b_304_158_1 rfl rfl ?_
                refine ov_goto (tgt := 24) d_304_161 (by decide) ?_
                refine ov_sub (ls2 := [(0, ov_r 90), (1, ov_i x), (2, ov_i y), (3, ov_i s), (4, ov_i m), (5, ov_l co), (7, ov_i ws), (8, ov_i v2), (9, ov_l (ov_lor co (ov_lshl 1 ((6 * y) + x)))), (11, ov_i (x11 + 1))]) (List.Sublist.subset (by repeat (first | exact List.Sublist.refl _ | apply List.Sublist.cons_cons | apply List.Sublist.cons))) ?_
                exact ih5 (x11 + 1) _ _ I235 E236 E237 E238 E239 E240 E241 E242 E243 E244 E245 E246 E247 E248 (by show 0 ≤ (x11 + 1) ∧ (x11 + 1) ≤ 3 ∧ (v2 = 0 → (x11 + 1) ≤ 2) ∧ (h234 90 2) = (h 90 2) ∧ (h234 90 3) = (h 90 3) ∧ (h234 90 7) = (h 90 7) ∧ (h234 90 8) = (h 90 8) ∧ (h234 90 13) = (h 90 13) ∧ (h234 90 20) = (h 90 20) ∧ (h234 90 22) = (h 90 22) ∧ (h234 90 25) = (h 90 25) ∧ (h234 90 26) = (h 90 26) ∧ (h234 90 27) = (h 90 27) ∧ (h234 90 28) = (h 90 28) ∧ (h234 90 29) = (h 90 29) ∧ (h234 90 30) = (h 90 30) ∧ (h234 90 34) = (h 90 34) ∧ (h234 90 35) = (h 90 35) ∧ (h234 90 37) = (h 90 37); omega) (by omega)
            · skip
              refine ov_ldcw (n := 2000000000) d_304_71 kc_Mo_338 ?_
              refine ov_goto (tgt := 88) d_304_74 (by decide) ?_
              refine ov_blk (ls2 := [(0, ov_r 90), (1, ov_i x), (2, ov_i y), (3, ov_i s), (4, ov_i m), (5, ov_l co), (7, ov_i ws), (8, ov_i v2), (9, ov_l (ov_lor co (ov_lshl 1 ((6 * y) + x)))), (11, ov_i x11), (12, ov_i 2000000000)]) (st2 := [ov_i 2000000000, ov_i s, ov_i y, ov_i x, ov_r 90, ov_i m]) (pc2 := 98) b_304_88_7 rfl rfl ?_
              refine ov_cV (as := [ov_i x, ov_i y, ov_i s, ov_i 2000000000]) (st := [ov_i m]) (d2 := d - 1) d_304_98 lk_Mo_450 rfl (Nat.le_of_ble_eq_true rfl) (c := 1) (zb_90 I10) (zs_90 I10) ⟨by decide, rfl⟩ (by omega) (c_Mo_wasBetween_90 (d - 1) (by omega) U I10 x y s 2000000000 (by omega) (by omega) (by omega) (by omega)) ?_
              rintro _ _ _ ⟨v251, rfl, rfl, rfl, f250⟩
              show ov_R u d ov_m304 101 [(0, ov_r 90), (1, ov_i x), (2, ov_i y), (3, ov_i s), (4, ov_i m), (5, ov_l co), (7, ov_i ws), (8, ov_i v2), (9, ov_l (ov_lor co (ov_lshl 1 ((6 * y) + x)))), (11, ov_i x11), (12, ov_i 2000000000)] [ov_i v251, ov_i m] z8 h9 (P_Mo_goesOn_90 F z h x y s m co ws)
              have f252 : -2147483648 ≤ v251 ∧ v251 ≤ 2147483647 := f250
              clear f250
              refine ov_blk (ls2 := [(0, ov_r 90), (1, ov_i x), (2, ov_i y), (3, ov_i s), (4, ov_i m), (5, ov_l co), (7, ov_i ws), (8, ov_i v2), (9, ov_l (ov_lor co (ov_lshl 1 ((6 * y) + x)))), (11, ov_i x11), (12, ov_i 2000000000), (13, ov_i (ov_or m v251))]) (st2 := [ov_i v2]) (pc2 := 106) b_304_101_3 rfl rfl ?_
              have g253 := ov_org m v251
              refine ov_ifeq (tgt := 122) d_304_106 (by decide) (by omega) (fun c254 => ?_) (fun c254 => ?_)
              · skip
                refine ov_blk (ls2 := [(0, ov_r 90), (1, ov_i x), (2, ov_i y), (3, ov_i s), (4, ov_i m), (5, ov_l co), (7, ov_i ws), (8, ov_i v2), (9, ov_l (ov_lor co (ov_lshl 1 ((6 * y) + x)))), (11, ov_i x11), (12, ov_i 2000000000), (13, ov_i (ov_or m v251))]) (st2 := [ov_r 90, ov_i 2000000000, ov_i (y + x11), ov_i ((x + 1) - x11), ov_r 90]) (pc2 := 136) b_304_122_11 rfl rfl ?_
                refine ov_getf (v := ov_r 96) d_304_136 fl_Mo_81 (zb_90 I10) (zs_90 I10) (congrArg ov_r (rg_90_10 I10)) ?_
                refine ov_blk (ls2 := [(0, ov_r 90), (1, ov_i x), (2, ov_i y), (3, ov_i s), (4, ov_i m), (5, ov_l co), (7, ov_i ws), (8, ov_i v2), (9, ov_l (ov_lor co (ov_lshl 1 ((6 * y) + x)))), (11, ov_i x11), (12, ov_i 2000000000), (13, ov_i (ov_or m v251))]) (st2 := [ov_i 2, ov_r 96, ov_i 2000000000, ov_i (y + x11), ov_i ((x + 1) - x11), ov_r 90]) (pc2 := 140) b_304_139_1 rfl rfl ?_
                refine ov_iald d_304_140 (zb_96 I10) (zs_96 I10) (by omega) ?_
                rw [show h9 96 = h 96 from E14]
                have g255 := t96_2 I
                refine ov_blk (ls2 := [(0, ov_r 90), (1, ov_i x), (2, ov_i y), (3, ov_i s), (4, ov_i m), (5, ov_l co), (7, ov_i ws), (8, ov_i v2), (9, ov_l (ov_lor co (ov_lshl 1 ((6 * y) + x)))), (11, ov_i x11), (12, ov_i 2000000000), (13, ov_i (ov_or m v251))]) (st2 := [ov_i (ov_or ws (ov_shl x11 (x + y))), ov_l (ov_lor co (ov_lshl 1 ((6 * y) + x))), ov_i (ov_or m v251), ov_i (2000000000 + (h 96 2)), ov_i (y + x11), ov_i ((x + 1) - x11), ov_r 90]) (pc2 := 155) b_304_141_10 rfl rfl ?_
                have g256 := ov_shlg x11 (x + y)
                have g257 := ov_org ws (ov_shl x11 (x + y))
                refine ov_cV (as := [ov_i ((x + 1) - x11), ov_i (y + x11), ov_i (2000000000 + (h 96 2)), ov_i (ov_or m v251), ov_l (ov_lor co (ov_lshl 1 ((6 * y) + x))), ov_i (ov_or ws (ov_shl x11 (x + y)))]) (st := []) (d2 := d - 1) d_304_155 lk_Mo_457 rfl (Nat.le_of_ble_eq_true rfl) (c := 1) (zb_90 I10) (zs_90 I10) ⟨by decide, rfl⟩ (by omega) (HV (Int.toNat (13 - (((x + 1) - x11)) - ((y + x11)))) (by omega) (d - 1) (by omega) U I10 ((x + 1) - x11) (y + x11) (2000000000 + (h 96 2)) (ov_or m v251) (ov_lor co (ov_lshl 1 ((6 * y) + x))) (ov_or ws (ov_shl x11 (x + y))) (by omega) (by omega) (by omega) (by omega) (by omega) (by omega) (by omega) (by omega) (by omega) (by rw [show h9 96 = h 96 from E14]; exact W)) ?_
                rintro _ z272 h273 ⟨rfl, I274, f258, e259, e260, e261, e262, e263, e264, e265, e266, e267, e268, e269, e270, e271⟩
                have E275 : h273 92 = h 92 := Eq.trans e259 E11
                have E276 : h273 93 = h 93 := Eq.trans e260 E12
                have E277 : h273 94 = h 94 := Eq.trans e261 E13
                have E278 : h273 96 = h 96 := Eq.trans e262 E14
                have E279 : h273 97 = h 97 := Eq.trans e263 E15
                have E280 : h273 98 = h 98 := Eq.trans e264 E16
                have E281 : h273 99 = h 99 := Eq.trans e265 E17
                have E282 : h273 100 = h 100 := Eq.trans e266 E18
                have E283 : h273 103 = h 103 := Eq.trans e267 E19
                have E284 : h273 105 = h 105 := Eq.trans e268 E20
                have E285 : h273 106 = h 106 := Eq.trans e269 E21
                have E286 : h273 109 = h 109 := Eq.trans e270 E22
                have E287 : h273 114 = h 114 := Eq.trans e271 E23
                show ov_R u d ov_m304 158 [(0, ov_r 90), (1, ov_i x), (2, ov_i y), (3, ov_i s), (4, ov_i m), (5, ov_l co), (7, ov_i ws), (8, ov_i v2), (9, ov_l (ov_lor co (ov_lshl 1 ((6 * y) + x)))), (11, ov_i x11), (12, ov_i 2000000000), (13, ov_i (ov_or m v251))] [] z272 h273 (P_Mo_goesOn_90 F z h x y s m co ws)
                have f288 : (h273 90 2) = (h9 90 2) ∧ (h273 90 3) = (h9 90 3) ∧ (h273 90 7) = (h9 90 7) ∧ (h273 90 8) = (h9 90 8) ∧ (h273 90 13) = (h9 90 13) ∧ (h273 90 20) = (h9 90 20) ∧ (h273 90 22) = (h9 90 22) ∧ (h273 90 25) = (h9 90 25) ∧ (h273 90 26) = (h9 90 26) ∧ (h273 90 27) = (h9 90 27) ∧ (h273 90 28) = (h9 90 28) ∧ (h273 90 29) = (h9 90 29) ∧ (h273 90 30) = (h9 90 30) ∧ (h273 90 34) = (h9 90 34) ∧ (h273 90 35) = (h9 90 35) ∧ (h273 90 37) = (h9 90 37) := f258
                clear f258
                refine ov_blk (ls2 := [(0, ov_r 90), (1, ov_i x), (2, ov_i y), (3, ov_i s), (4, ov_i m), (5, ov_l co), (7, ov_i ws), (8, ov_i v2), (9, ov_l (ov_lor co (ov_lshl 1 ((6 * y) + x)))), (11, ov_i (x11 + 1)), (12, ov_i 2000000000), (13, ov_i (ov_or m v251))]) (st2 := []) (pc2 := 161) b_304_158_1 rfl rfl ?_
                refine ov_goto (tgt := 24) d_304_161 (by decide) ?_
                refine ov_sub (ls2 := [(0, ov_r 90), (1, ov_i x), (2, ov_i y), (3, ov_i s), (4, ov_i m), (5, ov_l co), (7, ov_i ws), (8, ov_i v2), (9, ov_l (ov_lor co (ov_lshl 1 ((6 * y) + x)))), (11, ov_i (x11 + 1))]) (List.Sublist.subset (by repeat (first | exact List.Sublist.refl _ | apply List.Sublist.cons_cons | apply List.Sublist.cons))) ?_
                exact ih5 (x11 + 1) _ _ I274 E275 E276 E277 E278 E279 E280 E281 E282 E283 E284 E285 E286 E287 (by show 0 ≤ (x11 + 1) ∧ (x11 + 1) ≤ 3 ∧ (v2 = 0 → (x11 + 1) ≤ 2) ∧ (h273 90 2) = (h 90 2) ∧ (h273 90 3) = (h 90 3) ∧ (h273 90 7) = (h 90 7) ∧ (h273 90 8) = (h 90 8) ∧ (h273 90 13) = (h 90 13) ∧ (h273 90 20) = (h 90 20) ∧ (h273 90 22) = (h 90 22) ∧ (h273 90 25) = (h 90 25) ∧ (h273 90 26) = (h 90 26) ∧ (h273 90 27) = (h 90 27) ∧ (h273 90 28) = (h 90 28) ∧ (h273 90 29) = (h 90 29) ∧ (h273 90 30) = (h 90 30) ∧ (h273 90 34) = (h 90 34) ∧ (h273 90 35) = (h 90 35) ∧ (h273 90 37) = (h 90 37); omega) (by omega)
              · skip
                refine ov_blk (ls2 := [(0, ov_r 90), (1, ov_i x), (2, ov_i y), (3, ov_i s), (4, ov_i m), (5, ov_l co), (7, ov_i ws), (8, ov_i v2), (9, ov_l (ov_lor co (ov_lshl 1 ((6 * y) + x)))), (11, ov_i x11), (12, ov_i 2000000000), (13, ov_i (ov_or m v251))]) (st2 := [ov_i ws, ov_l (ov_lor co (ov_lshl 1 ((6 * y) + x))), ov_i (ov_or m v251), ov_r 90]) (pc2 := 116) b_304_109_4 rfl rfl ?_
                refine ov_cV (as := [ov_i (ov_or m v251), ov_l (ov_lor co (ov_lshl 1 ((6 * y) + x))), ov_i ws]) (st := []) (d2 := d - 1) d_304_116 lk_Mo_453 rfl (Nat.le_of_ble_eq_true rfl) (c := 1) (zb_90 I10) (zs_90 I10) ⟨by decide, rfl⟩ (by omega) (c_Mo_fits0_90 (d - 1) (by omega) U I10 (ov_or m v251) (ov_lor co (ov_lshl 1 ((6 * y) + x))) ws (by omega) (by omega)) ?_
                rintro _ z303 h304 ⟨rfl, I305, f289, e290, e291, e292, e293, e294, e295, e296, e297, e298, e299, e300, e301, e302⟩
                have E306 : h304 92 = h 92 := Eq.trans e290 E11
                have E307 : h304 93 = h 93 := Eq.trans e291 E12
                have E308 : h304 94 = h 94 := Eq.trans e292 E13
                have E309 : h304 96 = h 96 := Eq.trans e293 E14
                have E310 : h304 97 = h 97 := Eq.trans e294 E15
                have E311 : h304 98 = h 98 := Eq.trans e295 E16
                have E312 : h304 99 = h 99 := Eq.trans e296 E17
                have E313 : h304 100 = h 100 := Eq.trans e297 E18
                have E314 : h304 103 = h 103 := Eq.trans e298 E19
                have E315 : h304 105 = h 105 := Eq.trans e299 E20
                have E316 : h304 106 = h 106 := Eq.trans e300 E21
                have E317 : h304 109 = h 109 := Eq.trans e301 E22
                have E318 : h304 114 = h 114 := Eq.trans e302 E23
                show ov_R u d ov_m304 119 [(0, ov_r 90), (1, ov_i x), (2, ov_i y), (3, ov_i s), (4, ov_i m), (5, ov_l co), (7, ov_i ws), (8, ov_i v2), (9, ov_l (ov_lor co (ov_lshl 1 ((6 * y) + x)))), (11, ov_i x11), (12, ov_i 2000000000), (13, ov_i (ov_or m v251))] [] z303 h304 (P_Mo_goesOn_90 F z h x y s m co ws)
                have f319 : (h304 90 2) = (h9 90 2) ∧ (h304 90 3) = (h9 90 3) ∧ (h304 90 7) = (h9 90 7) ∧ (h304 90 8) = (h9 90 8) ∧ (h304 90 13) = (h9 90 13) ∧ (h304 90 20) = (h9 90 20) ∧ (h304 90 22) = (h9 90 22) ∧ (h304 90 25) = (h9 90 25) ∧ (h304 90 26) = (h9 90 26) ∧ (h304 90 27) = (h9 90 27) ∧ (h304 90 28) = (h9 90 28) ∧ (h304 90 29) = (h9 90 29) ∧ (h304 90 30) = (h9 90 30) ∧ (h304 90 34) = (h9 90 34) ∧ (h304 90 35) = (h9 90 35) ∧ (h304 90 37) = (h9 90 37) := f289
                clear f289
                refine ov_goto (tgt := 158) d_304_119 (by decide) ?_
                refine ov_blk (ls2 := [(0, ov_r 90), (1, ov_i x), (2, ov_i y), (3, ov_i s), (4, ov_i m), (5, ov_l co), (7, ov_i ws), (8, ov_i v2), (9, ov_l (ov_lor co (ov_lshl 1 ((6 * y) + x)))), (11, ov_i (x11 + 1)), (12, ov_i 2000000000), (13, ov_i (ov_or m v251))]) (st2 := []) (pc2 := 161) b_304_158_1 rfl rfl ?_
                refine ov_goto (tgt := 24) d_304_161 (by decide) ?_
                refine ov_sub (ls2 := [(0, ov_r 90), (1, ov_i x), (2, ov_i y), (3, ov_i s), (4, ov_i m), (5, ov_l co), (7, ov_i ws), (8, ov_i v2), (9, ov_l (ov_lor co (ov_lshl 1 ((6 * y) + x)))), (11, ov_i (x11 + 1))]) (List.Sublist.subset (by repeat (first | exact List.Sublist.refl _ | apply List.Sublist.cons_cons | apply List.Sublist.cons))) ?_
                exact ih5 (x11 + 1) _ _ I305 E306 E307 E308 E309 E310 E311 E312 E313 E314 E315 E316 E317 E318 (by show 0 ≤ (x11 + 1) ∧ (x11 + 1) ≤ 3 ∧ (v2 = 0 → (x11 + 1) ≤ 2) ∧ (h304 90 2) = (h 90 2) ∧ (h304 90 3) = (h 90 3) ∧ (h304 90 7) = (h 90 7) ∧ (h304 90 8) = (h 90 8) ∧ (h304 90 13) = (h 90 13) ∧ (h304 90 20) = (h 90 20) ∧ (h304 90 22) = (h 90 22) ∧ (h304 90 25) = (h 90 25) ∧ (h304 90 26) = (h 90 26) ∧ (h304 90 27) = (h 90 27) ∧ (h304 90 28) = (h 90 28) ∧ (h304 90 29) = (h 90 29) ∧ (h304 90 30) = (h 90 30) ∧ (h304 90 34) = (h 90 34) ∧ (h304 90 35) = (h 90 35) ∧ (h304 90 37) = (h 90 37); omega) (by omega)
      · skip
        refine ov_blk (ls2 := [(0, ov_r 90), (1, ov_i x), (2, ov_i y), (3, ov_i s), (4, ov_i m), (5, ov_l co), (7, ov_i ws), (8, ov_i v2), (9, ov_l (ov_lor co (ov_lshl 1 ((6 * y) + x)))), (11, ov_i x11)]) (st2 := [ov_i v2]) (pc2 := 32) b_304_30_1 rfl rfl ?_
        refine ov_ifeq (tgt := 164) d_304_32 (by decide) (by omega) (fun c320 => ?_) (fun c320 => ?_)
        · skip
          exact ov_retv (st := []) d_304_164 rfl ⟨rfl, I10, (by show (h9 90 2) = (h 90 2) ∧ (h9 90 3) = (h 90 3) ∧ (h9 90 7) = (h 90 7) ∧ (h9 90 8) = (h 90 8) ∧ (h9 90 13) = (h 90 13) ∧ (h9 90 20) = (h 90 20) ∧ (h9 90 22) = (h 90 22) ∧ (h9 90 25) = (h 90 25) ∧ (h9 90 26) = (h 90 26) ∧ (h9 90 27) = (h 90 27) ∧ (h9 90 28) = (h 90 28) ∧ (h9 90 29) = (h 90 29) ∧ (h9 90 30) = (h 90 30) ∧ (h9 90 34) = (h 90 34) ∧ (h9 90 35) = (h 90 35) ∧ (h9 90 37) = (h 90 37); omega), E11, E12, E13, E14, E15, E16, E17, E18, E19, E20, E21, E22, E23⟩
        · skip
          refine ov_blk (ls2 := [(0, ov_r 90), (1, ov_i x), (2, ov_i y), (3, ov_i s), (4, ov_i m), (5, ov_l co), (7, ov_i ws), (8, ov_i v2), (9, ov_l (ov_lor co (ov_lshl 1 ((6 * y) + x)))), (11, ov_i x11)]) (st2 := [ov_i 3, ov_i x11]) (pc2 := 38) b_304_35_2 rfl rfl ?_
          refine ov_icge (tgt := 164) d_304_38 (by decide) (by omega) (by omega) (fun c321 => ?_) (fun c321 => ?_)
          · skip
            exact ov_retv (st := []) d_304_164 rfl ⟨rfl, I10, (by show (h9 90 2) = (h 90 2) ∧ (h9 90 3) = (h 90 3) ∧ (h9 90 7) = (h 90 7) ∧ (h9 90 8) = (h 90 8) ∧ (h9 90 13) = (h 90 13) ∧ (h9 90 20) = (h 90 20) ∧ (h9 90 22) = (h 90 22) ∧ (h9 90 25) = (h 90 25) ∧ (h9 90 26) = (h 90 26) ∧ (h9 90 27) = (h 90 27) ∧ (h9 90 28) = (h 90 28) ∧ (h9 90 29) = (h 90 29) ∧ (h9 90 30) = (h 90 30) ∧ (h9 90 34) = (h 90 34) ∧ (h9 90 35) = (h 90 35) ∧ (h9 90 37) = (h 90 37); omega), E11, E12, E13, E14, E15, E16, E17, E18, E19, E20, E21, E22, E23⟩
          · skip
            refine ov_blk (ls2 := [(0, ov_r 90), (1, ov_i x), (2, ov_i y), (3, ov_i s), (4, ov_i m), (5, ov_l co), (7, ov_i ws), (8, ov_i v2), (9, ov_l (ov_lor co (ov_lshl 1 ((6 * y) + x)))), (11, ov_i x11)]) (st2 := [ov_i v2]) (pc2 := 43) b_304_41_1 rfl rfl ?_
            refine ov_ifeq (tgt := 55) d_304_43 (by decide) (by omega) (fun c322 => ?_) (fun c322 => ?_)
            · skip
              refine ov_blk (ls2 := [(0, ov_r 90), (1, ov_i x), (2, ov_i y), (3, ov_i s), (4, ov_i m), (5, ov_l co), (7, ov_i ws), (8, ov_i v2), (9, ov_l (ov_lor co (ov_lshl 1 ((6 * y) + x)))), (11, ov_i x11)]) (st2 := [ov_i x11, ov_i y, ov_i x, ov_r 90]) (pc2 := 60) b_304_55_4 rfl rfl ?_
              refine ov_cV (as := [ov_i x, ov_i y, ov_i x11]) (st := []) (d2 := d - 1) d_304_60 lk_Mo_309 rfl (Nat.le_of_ble_eq_true rfl) (c := 1) (zb_90 I10) (zs_90 I10) ⟨by decide, rfl⟩ (by omega) (c_Mo_canGo_90 (d - 1) (by omega) U I10 x y x11 (by omega) (by omega) (by omega) (by omega) (by omega)) ?_
              rintro _ _ _ ⟨v324, rfl, rfl, rfl, f323⟩
              show ov_R u d ov_m304 63 [(0, ov_r 90), (1, ov_i x), (2, ov_i y), (3, ov_i s), (4, ov_i m), (5, ov_l co), (7, ov_i ws), (8, ov_i v2), (9, ov_l (ov_lor co (ov_lshl 1 ((6 * y) + x)))), (11, ov_i x11)] [ov_i v324] z8 h9 (P_Mo_goesOn_90 F z h x y s m co ws)
              rw [show h9 96 = h 96 from E14] at f323
              have f325 : (v324 = 0 ∨ v324 = 1) ∧ v324 = ov_cgi (h 96) x y x11 ∧ (v324 = 1 → ((x11 = 0 → x < (h 96 0) - 1) ∧ (¬ x11 = 0 → y < (h 96 1) - 1)) ∧ (((h 96 (10 + 4 * (6 * y + x))) = 1 ∨ (h 96 (10 + 4 * (6 * y + x))) = 2) → (x11 = 0 → 0 < (h 96 (10 + 4 * (6 * y + x) + 3))) ∧ (¬ x11 = 0 → (h 96 (10 + 4 * (6 * y + x) + 3)) < (h 96 (10 + 4 * (6 * y + x) + 1))))) := f323
              clear f323
              refine ov_ifeq (tgt := 158) d_304_63 (by decide) (by omega) (fun c326 => ?_) (fun c326 => ?_)
              · skip
                refine ov_blk (ls2 := [(0, ov_r 90), (1, ov_i x), (2, ov_i y), (3, ov_i s), (4, ov_i m), (5, ov_l co), (7, ov_i ws), (8, ov_i v2), (9, ov_l (ov_lor co (ov_lshl 1 ((6 * y) + x)))), (11, ov_i (x11 + 1))]) (st2 := []) (pc2 := 161) b_304_158_1 rfl rfl ?_
                refine ov_goto (tgt := 24) d_304_161 (by decide) ?_
                exact ih5 (x11 + 1) _ _ I10 E11 E12 E13 E14 E15 E16 E17 E18 E19 E20 E21 E22 E23 (by show 0 ≤ (x11 + 1) ∧ (x11 + 1) ≤ 3 ∧ (v2 = 0 → (x11 + 1) ≤ 2) ∧ (h9 90 2) = (h 90 2) ∧ (h9 90 3) = (h 90 3) ∧ (h9 90 7) = (h 90 7) ∧ (h9 90 8) = (h 90 8) ∧ (h9 90 13) = (h 90 13) ∧ (h9 90 20) = (h 90 20) ∧ (h9 90 22) = (h 90 22) ∧ (h9 90 25) = (h 90 25) ∧ (h9 90 26) = (h 90 26) ∧ (h9 90 27) = (h 90 27) ∧ (h9 90 28) = (h 90 28) ∧ (h9 90 29) = (h 90 29) ∧ (h9 90 30) = (h 90 30) ∧ (h9 90 34) = (h 90 34) ∧ (h9 90 35) = (h 90 35) ∧ (h9 90 37) = (h 90 37); omega) (by omega)
              · skip
                refine ov_blk (ls2 := [(0, ov_r 90), (1, ov_i x), (2, ov_i y), (3, ov_i s), (4, ov_i m), (5, ov_l co), (7, ov_i ws), (8, ov_i v2), (9, ov_l (ov_lor co (ov_lshl 1 ((6 * y) + x)))), (11, ov_i x11)]) (st2 := [ov_i v2]) (pc2 := 68) b_304_66_1 rfl rfl ?_
                refine ov_ifeq (tgt := 77) d_304_68 (by decide) (by omega) (fun c327 => ?_) (fun c327 => ?_)
                · skip
                  refine ov_blk (ls2 := [(0, ov_r 90), (1, ov_i x), (2, ov_i y), (3, ov_i s), (4, ov_i m), (5, ov_l co), (7, ov_i ws), (8, ov_i v2), (9, ov_l (ov_lor co (ov_lshl 1 ((6 * y) + x)))), (11, ov_i x11)]) (st2 := [ov_i s, ov_i x11, ov_i y, ov_i x, ov_r 90, ov_i s]) (pc2 := 84) b_304_77_6 rfl rfl ?_
                  refine ov_cV (as := [ov_i x, ov_i y, ov_i x11, ov_i s]) (st := [ov_i s]) (d2 := d - 1) d_304_84 lk_Mo_315 rfl (Nat.le_of_ble_eq_true rfl) (c := 1) (zb_90 I10) (zs_90 I10) ⟨by decide, rfl⟩ (by omega) (c_Mo_waitFor_90 (d - 1) (by omega) U I10 x y x11 s (by omega) (by omega) (by omega) (by omega) (by omega) (by omega) (by omega) (by omega) (by rw [show h9 96 = h 96 from E14]; exact W)) ?_
                  rintro _ _ _ ⟨v329, rfl, rfl, rfl, f328⟩
                  show ov_R u d ov_m304 87 [(0, ov_r 90), (1, ov_i x), (2, ov_i y), (3, ov_i s), (4, ov_i m), (5, ov_l co), (7, ov_i ws), (8, ov_i v2), (9, ov_l (ov_lor co (ov_lshl 1 ((6 * y) + x)))), (11, ov_i x11)] [ov_i v329, ov_i s] z8 h9 (P_Mo_goesOn_90 F z h x y s m co ws)
                  rw [show h9 96 = h 96 from E14] at f328
                  have f330 : 0 ≤ v329 ∧ v329 ≤ 59 ∧ v329 = ov_wm (h 96) (6 * y + x) x11 s := f328
                  clear f328
                  refine ov_blk (ls2 := [(0, ov_r 90), (1, ov_i x), (2, ov_i y), (3, ov_i s), (4, ov_i m), (5, ov_l co), (7, ov_i ws), (8, ov_i v2), (9, ov_l (ov_lor co (ov_lshl 1 ((6 * y) + x)))), (11, ov_i x11), (12, ov_i (s + v329))]) (st2 := [ov_i (s + v329), ov_i s, ov_i y, ov_i x, ov_r 90, ov_i m]) (pc2 := 98) b_304_87_8 rfl rfl ?_
                  refine ov_cV (as := [ov_i x, ov_i y, ov_i s, ov_i (s + v329)]) (st := [ov_i m]) (d2 := d - 1) d_304_98 lk_Mo_450 rfl (Nat.le_of_ble_eq_true rfl) (c := 1) (zb_90 I10) (zs_90 I10) ⟨by decide, rfl⟩ (by omega) (c_Mo_wasBetween_90 (d - 1) (by omega) U I10 x y s (s + v329) (by omega) (by omega) (by omega) (by omega)) ?_
                  rintro _ _ _ ⟨v332, rfl, rfl, rfl, f331⟩
                  show ov_R u d ov_m304 101 [(0, ov_r 90), (1, ov_i x), (2, ov_i y), (3, ov_i s), (4, ov_i m), (5, ov_l co), (7, ov_i ws), (8, ov_i v2), (9, ov_l (ov_lor co (ov_lshl 1 ((6 * y) + x)))), (11, ov_i x11), (12, ov_i (s + v329))] [ov_i v332, ov_i m] z8 h9 (P_Mo_goesOn_90 F z h x y s m co ws)
                  have f333 : -2147483648 ≤ v332 ∧ v332 ≤ 2147483647 := f331
                  clear f331
                  refine ov_blk (ls2 := [(0, ov_r 90), (1, ov_i x), (2, ov_i y), (3, ov_i s), (4, ov_i m), (5, ov_l co), (7, ov_i ws), (8, ov_i v2), (9, ov_l (ov_lor co (ov_lshl 1 ((6 * y) + x)))), (11, ov_i x11), (12, ov_i (s + v329)), (13, ov_i (ov_or m v332))]) (st2 := [ov_i v2]) (pc2 := 106) b_304_101_3 rfl rfl ?_
                  have g334 := ov_org m v332
                  refine ov_ifeq (tgt := 122) d_304_106 (by decide) (by omega) (fun c335 => ?_) (fun c335 => ?_)
                  · skip
                    refine ov_blk (ls2 := [(0, ov_r 90), (1, ov_i x), (2, ov_i y), (3, ov_i s), (4, ov_i m), (5, ov_l co), (7, ov_i ws), (8, ov_i v2), (9, ov_l (ov_lor co (ov_lshl 1 ((6 * y) + x)))), (11, ov_i x11), (12, ov_i (s + v329)), (13, ov_i (ov_or m v332))]) (st2 := [ov_r 90, ov_i (s + v329), ov_i (y + x11), ov_i ((x + 1) - x11), ov_r 90]) (pc2 := 136) b_304_122_11 rfl rfl ?_
                    refine ov_getf (v := ov_r 96) d_304_136 fl_Mo_81 (zb_90 I10) (zs_90 I10) (congrArg ov_r (rg_90_10 I10)) ?_
                    refine ov_blk (ls2 := [(0, ov_r 90), (1, ov_i x), (2, ov_i y), (3, ov_i s), (4, ov_i m), (5, ov_l co), (7, ov_i ws), (8, ov_i v2), (9, ov_l (ov_lor co (ov_lshl 1 ((6 * y) + x)))), (11, ov_i x11), (12, ov_i (s + v329)), (13, ov_i (ov_or m v332))]) (st2 := [ov_i 2, ov_r 96, ov_i (s + v329), ov_i (y + x11), ov_i ((x + 1) - x11), ov_r 90]) (pc2 := 140) b_304_139_1 rfl rfl ?_
                    refine ov_iald d_304_140 (zb_96 I10) (zs_96 I10) (by omega) ?_
                    rw [show h9 96 = h 96 from E14]
                    have g336 := t96_2 I
                    refine ov_blk (ls2 := [(0, ov_r 90), (1, ov_i x), (2, ov_i y), (3, ov_i s), (4, ov_i m), (5, ov_l co), (7, ov_i ws), (8, ov_i v2), (9, ov_l (ov_lor co (ov_lshl 1 ((6 * y) + x)))), (11, ov_i x11), (12, ov_i (s + v329)), (13, ov_i (ov_or m v332))]) (st2 := [ov_i (ov_or ws (ov_shl x11 (x + y))), ov_l (ov_lor co (ov_lshl 1 ((6 * y) + x))), ov_i (ov_or m v332), ov_i ((s + v329) + (h 96 2)), ov_i (y + x11), ov_i ((x + 1) - x11), ov_r 90]) (pc2 := 155) b_304_141_10 rfl rfl ?_
                    have g337 := ov_shlg x11 (x + y)
                    have g338 := ov_org ws (ov_shl x11 (x + y))
                    refine ov_cV (as := [ov_i ((x + 1) - x11), ov_i (y + x11), ov_i ((s + v329) + (h 96 2)), ov_i (ov_or m v332), ov_l (ov_lor co (ov_lshl 1 ((6 * y) + x))), ov_i (ov_or ws (ov_shl x11 (x + y)))]) (st := []) (d2 := d - 1) d_304_155 lk_Mo_457 rfl (Nat.le_of_ble_eq_true rfl) (c := 1) (zb_90 I10) (zs_90 I10) ⟨by decide, rfl⟩ (by omega) (HV (Int.toNat (13 - (((x + 1) - x11)) - ((y + x11)))) (by omega) (d - 1) (by omega) U I10 ((x + 1) - x11) (y + x11) ((s + v329) + (h 96 2)) (ov_or m v332) (ov_lor co (ov_lshl 1 ((6 * y) + x))) (ov_or ws (ov_shl x11 (x + y))) (by omega) (by omega) (by omega) (by omega) (by omega) (by omega) (by omega) (by omega) (by omega) (by rw [show h9 96 = h 96 from E14]; exact W)) ?_
                    rintro _ z353 h354 ⟨rfl, I355, f339, e340, e341, e342, e343, e344, e345, e346, e347, e348, e349, e350, e351, e352⟩
                    have E356 : h354 92 = h 92 := Eq.trans e340 E11
                    have E357 : h354 93 = h 93 := Eq.trans e341 E12
                    have E358 : h354 94 = h 94 := Eq.trans e342 E13
                    have E359 : h354 96 = h 96 := Eq.trans e343 E14
                    have E360 : h354 97 = h 97 := Eq.trans e344 E15
                    have E361 : h354 98 = h 98 := Eq.trans e345 E16
                    have E362 : h354 99 = h 99 := Eq.trans e346 E17
                    have E363 : h354 100 = h 100 := Eq.trans e347 E18
                    have E364 : h354 103 = h 103 := Eq.trans e348 E19
                    have E365 : h354 105 = h 105 := Eq.trans e349 E20
                    have E366 : h354 106 = h 106 := Eq.trans e350 E21
                    have E367 : h354 109 = h 109 := Eq.trans e351 E22
                    have E368 : h354 114 = h 114 := Eq.trans e352 E23
                    show ov_R u d ov_m304 158 [(0, ov_r 90), (1, ov_i x), (2, ov_i y), (3, ov_i s), (4, ov_i m), (5, ov_l co), (7, ov_i ws), (8, ov_i v2), (9, ov_l (ov_lor co (ov_lshl 1 ((6 * y) + x)))), (11, ov_i x11), (12, ov_i (s + v329)), (13, ov_i (ov_or m v332))] [] z353 h354 (P_Mo_goesOn_90 F z h x y s m co ws)
                    have f369 : (h354 90 2) = (h9 90 2) ∧ (h354 90 3) = (h9 90 3) ∧ (h354 90 7) = (h9 90 7) ∧ (h354 90 8) = (h9 90 8) ∧ (h354 90 13) = (h9 90 13) ∧ (h354 90 20) = (h9 90 20) ∧ (h354 90 22) = (h9 90 22) ∧ (h354 90 25) = (h9 90 25) ∧ (h354 90 26) = (h9 90 26) ∧ (h354 90 27) = (h9 90 27) ∧ (h354 90 28) = (h9 90 28) ∧ (h354 90 29) = (h9 90 29) ∧ (h354 90 30) = (h9 90 30) ∧ (h354 90 34) = (h9 90 34) ∧ (h354 90 35) = (h9 90 35) ∧ (h354 90 37) = (h9 90 37) := f339
                    clear f339
                    refine ov_blk (ls2 := [(0, ov_r 90), (1, ov_i x), (2, ov_i y), (3, ov_i s), (4, ov_i m), (5, ov_l co), (7, ov_i ws), (8, ov_i v2), (9, ov_l (ov_lor co (ov_lshl 1 ((6 * y) + x)))), (11, ov_i (x11 + 1)), (12, ov_i (s + v329)), (13, ov_i (ov_or m v332))]) (st2 := []) (pc2 := 161) b_304_158_1 rfl rfl ?_
                    refine ov_goto (tgt := 24) d_304_161 (by decide) ?_
                    refine ov_sub (ls2 := [(0, ov_r 90), (1, ov_i x), (2, ov_i y), (3, ov_i s), (4, ov_i m), (5, ov_l co), (7, ov_i ws), (8, ov_i v2), (9, ov_l (ov_lor co (ov_lshl 1 ((6 * y) + x)))), (11, ov_i (x11 + 1))]) (List.Sublist.subset (by repeat (first | exact List.Sublist.refl _ | apply List.Sublist.cons_cons | apply List.Sublist.cons))) ?_
                    exact ih5 (x11 + 1) _ _ I355 E356 E357 E358 E359 E360 E361 E362 E363 E364 E365 E366 E367 E368 (by show 0 ≤ (x11 + 1) ∧ (x11 + 1) ≤ 3 ∧ (v2 = 0 → (x11 + 1) ≤ 2) ∧ (h354 90 2) = (h 90 2) ∧ (h354 90 3) = (h 90 3) ∧ (h354 90 7) = (h 90 7) ∧ (h354 90 8) = (h 90 8) ∧ (h354 90 13) = (h 90 13) ∧ (h354 90 20) = (h 90 20) ∧ (h354 90 22) = (h 90 22) ∧ (h354 90 25) = (h 90 25) ∧ (h354 90 26) = (h 90 26) ∧ (h354 90 27) = (h 90 27) ∧ (h354 90 28) = (h 90 28) ∧ (h354 90 29) = (h 90 29) ∧ (h354 90 30) = (h 90 30) ∧ (h354 90 34) = (h 90 34) ∧ (h354 90 35) = (h 90 35) ∧ (h354 90 37) = (h 90 37); omega) (by omega)
                  · skip
                    refine ov_blk (ls2 := [(0, ov_r 90), (1, ov_i x), (2, ov_i y), (3, ov_i s), (4, ov_i m), (5, ov_l co), (7, ov_i ws), (8, ov_i v2), (9, ov_l (ov_lor co (ov_lshl 1 ((6 * y) + x)))), (11, ov_i x11), (12, ov_i (s + v329)), (13, ov_i (ov_or m v332))]) (st2 := [ov_i ws, ov_l (ov_lor co (ov_lshl 1 ((6 * y) + x))), ov_i (ov_or m v332), ov_r 90]) (pc2 := 116) b_304_109_4 rfl rfl ?_
                    refine ov_cV (as := [ov_i (ov_or m v332), ov_l (ov_lor co (ov_lshl 1 ((6 * y) + x))), ov_i ws]) (st := []) (d2 := d - 1) d_304_116 lk_Mo_453 rfl (Nat.le_of_ble_eq_true rfl) (c := 1) (zb_90 I10) (zs_90 I10) ⟨by decide, rfl⟩ (by omega) (c_Mo_fits0_90 (d - 1) (by omega) U I10 (ov_or m v332) (ov_lor co (ov_lshl 1 ((6 * y) + x))) ws (by omega) (by omega)) ?_
                    rintro _ z384 h385 ⟨rfl, I386, f370, e371, e372, e373, e374, e375, e376, e377, e378, e379, e380, e381, e382, e383⟩
                    have E387 : h385 92 = h 92 := Eq.trans e371 E11
                    have E388 : h385 93 = h 93 := Eq.trans e372 E12
                    have E389 : h385 94 = h 94 := Eq.trans e373 E13
                    have E390 : h385 96 = h 96 := Eq.trans e374 E14
                    have E391 : h385 97 = h 97 := Eq.trans e375 E15
                    have E392 : h385 98 = h 98 := Eq.trans e376 E16
                    have E393 : h385 99 = h 99 := Eq.trans e377 E17
                    have E394 : h385 100 = h 100 := Eq.trans e378 E18
                    have E395 : h385 103 = h 103 := Eq.trans e379 E19
                    have E396 : h385 105 = h 105 := Eq.trans e380 E20
                    have E397 : h385 106 = h 106 := Eq.trans e381 E21
                    have E398 : h385 109 = h 109 := Eq.trans e382 E22
                    have E399 : h385 114 = h 114 := Eq.trans e383 E23
                    show ov_R u d ov_m304 119 [(0, ov_r 90), (1, ov_i x), (2, ov_i y), (3, ov_i s), (4, ov_i m), (5, ov_l co), (7, ov_i ws), (8, ov_i v2), (9, ov_l (ov_lor co (ov_lshl 1 ((6 * y) + x)))), (11, ov_i x11), (12, ov_i (s + v329)), (13, ov_i (ov_or m v332))] [] z384 h385 (P_Mo_goesOn_90 F z h x y s m co ws)
                    have f400 : (h385 90 2) = (h9 90 2) ∧ (h385 90 3) = (h9 90 3) ∧ (h385 90 7) = (h9 90 7) ∧ (h385 90 8) = (h9 90 8) ∧ (h385 90 13) = (h9 90 13) ∧ (h385 90 20) = (h9 90 20) ∧ (h385 90 22) = (h9 90 22) ∧ (h385 90 25) = (h9 90 25) ∧ (h385 90 26) = (h9 90 26) ∧ (h385 90 27) = (h9 90 27) ∧ (h385 90 28) = (h9 90 28) ∧ (h385 90 29) = (h9 90 29) ∧ (h385 90 30) = (h9 90 30) ∧ (h385 90 34) = (h9 90 34) ∧ (h385 90 35) = (h9 90 35) ∧ (h385 90 37) = (h9 90 37) := f370
                    clear f370
                    refine ov_goto (tgt := 158) d_304_119 (by decide) ?_
                    refine ov_blk (ls2 := [(0, ov_r 90), (1, ov_i x), (2, ov_i y), (3, ov_i s), (4, ov_i m), (5, ov_l co), (7, ov_i ws), (8, ov_i v2), (9, ov_l (ov_lor co (ov_lshl 1 ((6 * y) + x)))), (11, ov_i (x11 + 1)), (12, ov_i (s + v329)), (13, ov_i (ov_or m v332))]) (st2 := []) (pc2 := 161) b_304_158_1 rfl rfl ?_
                    refine ov_goto (tgt := 24) d_304_161 (by decide) ?_
                    refine ov_sub (ls2 := [(0, ov_r 90), (1, ov_i x), (2, ov_i y), (3, ov_i s), (4, ov_i m), (5, ov_l co), (7, ov_i ws), (8, ov_i v2), (9, ov_l (ov_lor co (ov_lshl 1 ((6 * y) + x)))), (11, ov_i (x11 + 1))]) (List.Sublist.subset (by repeat (first | exact List.Sublist.refl _ | apply List.Sublist.cons_cons | apply List.Sublist.cons))) ?_
                    exact ih5 (x11 + 1) _ _ I386 E387 E388 E389 E390 E391 E392 E393 E394 E395 E396 E397 E398 E399 (by show 0 ≤ (x11 + 1) ∧ (x11 + 1) ≤ 3 ∧ (v2 = 0 → (x11 + 1) ≤ 2) ∧ (h385 90 2) = (h 90 2) ∧ (h385 90 3) = (h 90 3) ∧ (h385 90 7) = (h 90 7) ∧ (h385 90 8) = (h 90 8) ∧ (h385 90 13) = (h 90 13) ∧ (h385 90 20) = (h 90 20) ∧ (h385 90 22) = (h 90 22) ∧ (h385 90 25) = (h 90 25) ∧ (h385 90 26) = (h 90 26) ∧ (h385 90 27) = (h 90 27) ∧ (h385 90 28) = (h 90 28) ∧ (h385 90 29) = (h 90 29) ∧ (h385 90 30) = (h 90 30) ∧ (h385 90 34) = (h 90 34) ∧ (h385 90 35) = (h 90 35) ∧ (h385 90 37) = (h 90 37); omega) (by omega)
                · skip
                  refine ov_ldcw (n := 2000000000) d_304_71 kc_Mo_338 ?_
                  refine ov_goto (tgt := 88) d_304_74 (by decide) ?_
                  refine ov_blk (ls2 := [(0, ov_r 90), (1, ov_i x), (2, ov_i y), (3, ov_i s), (4, ov_i m), (5, ov_l co), (7, ov_i ws), (8, ov_i v2), (9, ov_l (ov_lor co (ov_lshl 1 ((6 * y) + x)))), (11, ov_i x11), (12, ov_i 2000000000)]) (st2 := [ov_i 2000000000, ov_i s, ov_i y, ov_i x, ov_r 90, ov_i m]) (pc2 := 98) b_304_88_7 rfl rfl ?_
                  refine ov_cV (as := [ov_i x, ov_i y, ov_i s, ov_i 2000000000]) (st := [ov_i m]) (d2 := d - 1) d_304_98 lk_Mo_450 rfl (Nat.le_of_ble_eq_true rfl) (c := 1) (zb_90 I10) (zs_90 I10) ⟨by decide, rfl⟩ (by omega) (c_Mo_wasBetween_90 (d - 1) (by omega) U I10 x y s 2000000000 (by omega) (by omega) (by omega) (by omega)) ?_
                  rintro _ _ _ ⟨v402, rfl, rfl, rfl, f401⟩
                  show ov_R u d ov_m304 101 [(0, ov_r 90), (1, ov_i x), (2, ov_i y), (3, ov_i s), (4, ov_i m), (5, ov_l co), (7, ov_i ws), (8, ov_i v2), (9, ov_l (ov_lor co (ov_lshl 1 ((6 * y) + x)))), (11, ov_i x11), (12, ov_i 2000000000)] [ov_i v402, ov_i m] z8 h9 (P_Mo_goesOn_90 F z h x y s m co ws)
                  have f403 : -2147483648 ≤ v402 ∧ v402 ≤ 2147483647 := f401
                  clear f401
                  refine ov_blk (ls2 := [(0, ov_r 90), (1, ov_i x), (2, ov_i y), (3, ov_i s), (4, ov_i m), (5, ov_l co), (7, ov_i ws), (8, ov_i v2), (9, ov_l (ov_lor co (ov_lshl 1 ((6 * y) + x)))), (11, ov_i x11), (12, ov_i 2000000000), (13, ov_i (ov_or m v402))]) (st2 := [ov_i v2]) (pc2 := 106) b_304_101_3 rfl rfl ?_
                  have g404 := ov_org m v402
                  refine ov_ifeq (tgt := 122) d_304_106 (by decide) (by omega) (fun c405 => ?_) (fun c405 => ?_)
                  · skip
                    refine ov_blk (ls2 := [(0, ov_r 90), (1, ov_i x), (2, ov_i y), (3, ov_i s), (4, ov_i m), (5, ov_l co), (7, ov_i ws), (8, ov_i v2), (9, ov_l (ov_lor co (ov_lshl 1 ((6 * y) + x)))), (11, ov_i x11), (12, ov_i 2000000000), (13, ov_i (ov_or m v402))]) (st2 := [ov_r 90, ov_i 2000000000, ov_i (y + x11), ov_i ((x + 1) - x11), ov_r 90]) (pc2 := 136) b_304_122_11 rfl rfl ?_
                    refine ov_getf (v := ov_r 96) d_304_136 fl_Mo_81 (zb_90 I10) (zs_90 I10) (congrArg ov_r (rg_90_10 I10)) ?_
                    refine ov_blk (ls2 := [(0, ov_r 90), (1, ov_i x), (2, ov_i y), (3, ov_i s), (4, ov_i m), (5, ov_l co), (7, ov_i ws), (8, ov_i v2), (9, ov_l (ov_lor co (ov_lshl 1 ((6 * y) + x)))), (11, ov_i x11), (12, ov_i 2000000000), (13, ov_i (ov_or m v402))]) (st2 := [ov_i 2, ov_r 96, ov_i 2000000000, ov_i (y + x11), ov_i ((x + 1) - x11), ov_r 90]) (pc2 := 140) b_304_139_1 rfl rfl ?_
                    refine ov_iald d_304_140 (zb_96 I10) (zs_96 I10) (by omega) ?_
                    rw [show h9 96 = h 96 from E14]
                    have g406 := t96_2 I
                    refine ov_blk (ls2 := [(0, ov_r 90), (1, ov_i x), (2, ov_i y), (3, ov_i s), (4, ov_i m), (5, ov_l co), (7, ov_i ws), (8, ov_i v2), (9, ov_l (ov_lor co (ov_lshl 1 ((6 * y) + x)))), (11, ov_i x11), (12, ov_i 2000000000), (13, ov_i (ov_or m v402))]) (st2 := [ov_i (ov_or ws (ov_shl x11 (x + y))), ov_l (ov_lor co (ov_lshl 1 ((6 * y) + x))), ov_i (ov_or m v402), ov_i (2000000000 + (h 96 2)), ov_i (y + x11), ov_i ((x + 1) - x11), ov_r 90]) (pc2 := 155) b_304_141_10 rfl rfl ?_
                    have g407 := ov_shlg x11 (x + y)
                    have g408 := ov_org ws (ov_shl x11 (x + y))
                    refine ov_cV (as := [ov_i ((x + 1) - x11), ov_i (y + x11), ov_i (2000000000 + (h 96 2)), ov_i (ov_or m v402), ov_l (ov_lor co (ov_lshl 1 ((6 * y) + x))), ov_i (ov_or ws (ov_shl x11 (x + y)))]) (st := []) (d2 := d - 1) d_304_155 lk_Mo_457 rfl (Nat.le_of_ble_eq_true rfl) (c := 1) (zb_90 I10) (zs_90 I10) ⟨by decide, rfl⟩ (by omega) (HV (Int.toNat (13 - (((x + 1) - x11)) - ((y + x11)))) (by omega) (d - 1) (by omega) U I10 ((x + 1) - x11) (y + x11) (2000000000 + (h 96 2)) (ov_or m v402) (ov_lor co (ov_lshl 1 ((6 * y) + x))) (ov_or ws (ov_shl x11 (x + y))) (by omega) (by omega) (by omega) (by omega) (by omega) (by omega) (by omega) (by omega) (by omega) (by rw [show h9 96 = h 96 from E14]; exact W)) ?_
                    rintro _ z423 h424 ⟨rfl, I425, f409, e410, e411, e412, e413, e414, e415, e416, e417, e418, e419, e420, e421, e422⟩
                    have E426 : h424 92 = h 92 := Eq.trans e410 E11
                    have E427 : h424 93 = h 93 := Eq.trans e411 E12
                    have E428 : h424 94 = h 94 := Eq.trans e412 E13
                    have E429 : h424 96 = h 96 := Eq.trans e413 E14
                    have E430 : h424 97 = h 97 := Eq.trans e414 E15
                    have E431 : h424 98 = h 98 := Eq.trans e415 E16
                    have E432 : h424 99 = h 99 := Eq.trans e416 E17
                    have E433 : h424 100 = h 100 := Eq.trans e417 E18
                    have E434 : h424 103 = h 103 := Eq.trans e418 E19
                    have E435 : h424 105 = h 105 := Eq.trans e419 E20
                    have E436 : h424 106 = h 106 := Eq.trans e420 E21
                    have E437 : h424 109 = h 109 := Eq.trans e421 E22
                    have E438 : h424 114 = h 114 := Eq.trans e422 E23
                    show ov_R u d ov_m304 158 [(0, ov_r 90), (1, ov_i x), (2, ov_i y), (3, ov_i s), (4, ov_i m), (5, ov_l co), (7, ov_i ws), (8, ov_i v2), (9, ov_l (ov_lor co (ov_lshl 1 ((6 * y) + x)))), (11, ov_i x11), (12, ov_i 2000000000), (13, ov_i (ov_or m v402))] [] z423 h424 (P_Mo_goesOn_90 F z h x y s m co ws)
                    have f439 : (h424 90 2) = (h9 90 2) ∧ (h424 90 3) = (h9 90 3) ∧ (h424 90 7) = (h9 90 7) ∧ (h424 90 8) = (h9 90 8) ∧ (h424 90 13) = (h9 90 13) ∧ (h424 90 20) = (h9 90 20) ∧ (h424 90 22) = (h9 90 22) ∧ (h424 90 25) = (h9 90 25) ∧ (h424 90 26) = (h9 90 26) ∧ (h424 90 27) = (h9 90 27) ∧ (h424 90 28) = (h9 90 28) ∧ (h424 90 29) = (h9 90 29) ∧ (h424 90 30) = (h9 90 30) ∧ (h424 90 34) = (h9 90 34) ∧ (h424 90 35) = (h9 90 35) ∧ (h424 90 37) = (h9 90 37) := f409
                    clear f409
                    refine ov_blk (ls2 := [(0, ov_r 90), (1, ov_i x), (2, ov_i y), (3, ov_i s), (4, ov_i m), (5, ov_l co), (7, ov_i ws), (8, ov_i v2), (9, ov_l (ov_lor co (ov_lshl 1 ((6 * y) + x)))), (11, ov_i (x11 + 1)), (12, ov_i 2000000000), (13, ov_i (ov_or m v402))]) (st2 := []) (pc2 := 161) b_304_158_1 rfl rfl ?_
                    refine ov_goto (tgt := 24) d_304_161 (by decide) ?_
                    refine ov_sub (ls2 := [(0, ov_r 90), (1, ov_i x), (2, ov_i y), (3, ov_i s), (4, ov_i m), (5, ov_l co), (7, ov_i ws), (8, ov_i v2), (9, ov_l (ov_lor co (ov_lshl 1 ((6 * y) + x)))), (11, ov_i (x11 + 1))]) (List.Sublist.subset (by repeat (first | exact List.Sublist.refl _ | apply List.Sublist.cons_cons | apply List.Sublist.cons))) ?_
                    exact ih5 (x11 + 1) _ _ I425 E426 E427 E428 E429 E430 E431 E432 E433 E434 E435 E436 E437 E438 (by show 0 ≤ (x11 + 1) ∧ (x11 + 1) ≤ 3 ∧ (v2 = 0 → (x11 + 1) ≤ 2) ∧ (h424 90 2) = (h 90 2) ∧ (h424 90 3) = (h 90 3) ∧ (h424 90 7) = (h 90 7) ∧ (h424 90 8) = (h 90 8) ∧ (h424 90 13) = (h 90 13) ∧ (h424 90 20) = (h 90 20) ∧ (h424 90 22) = (h 90 22) ∧ (h424 90 25) = (h 90 25) ∧ (h424 90 26) = (h 90 26) ∧ (h424 90 27) = (h 90 27) ∧ (h424 90 28) = (h 90 28) ∧ (h424 90 29) = (h 90 29) ∧ (h424 90 30) = (h 90 30) ∧ (h424 90 34) = (h 90 34) ∧ (h424 90 35) = (h 90 35) ∧ (h424 90 37) = (h 90 37); omega) (by omega)
                  · skip
                    refine ov_blk (ls2 := [(0, ov_r 90), (1, ov_i x), (2, ov_i y), (3, ov_i s), (4, ov_i m), (5, ov_l co), (7, ov_i ws), (8, ov_i v2), (9, ov_l (ov_lor co (ov_lshl 1 ((6 * y) + x)))), (11, ov_i x11), (12, ov_i 2000000000), (13, ov_i (ov_or m v402))]) (st2 := [ov_i ws, ov_l (ov_lor co (ov_lshl 1 ((6 * y) + x))), ov_i (ov_or m v402), ov_r 90]) (pc2 := 116) b_304_109_4 rfl rfl ?_
                    refine ov_cV (as := [ov_i (ov_or m v402), ov_l (ov_lor co (ov_lshl 1 ((6 * y) + x))), ov_i ws]) (st := []) (d2 := d - 1) d_304_116 lk_Mo_453 rfl (Nat.le_of_ble_eq_true rfl) (c := 1) (zb_90 I10) (zs_90 I10) ⟨by decide, rfl⟩ (by omega) (c_Mo_fits0_90 (d - 1) (by omega) U I10 (ov_or m v402) (ov_lor co (ov_lshl 1 ((6 * y) + x))) ws (by omega) (by omega)) ?_
                    rintro _ z454 h455 ⟨rfl, I456, f440, e441, e442, e443, e444, e445, e446, e447, e448, e449, e450, e451, e452, e453⟩
                    have E457 : h455 92 = h 92 := Eq.trans e441 E11
                    have E458 : h455 93 = h 93 := Eq.trans e442 E12
                    have E459 : h455 94 = h 94 := Eq.trans e443 E13
                    have E460 : h455 96 = h 96 := Eq.trans e444 E14
                    have E461 : h455 97 = h 97 := Eq.trans e445 E15
                    have E462 : h455 98 = h 98 := Eq.trans e446 E16
                    have E463 : h455 99 = h 99 := Eq.trans e447 E17
                    have E464 : h455 100 = h 100 := Eq.trans e448 E18
                    have E465 : h455 103 = h 103 := Eq.trans e449 E19
                    have E466 : h455 105 = h 105 := Eq.trans e450 E20
                    have E467 : h455 106 = h 106 := Eq.trans e451 E21
                    have E468 : h455 109 = h 109 := Eq.trans e452 E22
                    have E469 : h455 114 = h 114 := Eq.trans e453 E23
                    show ov_R u d ov_m304 119 [(0, ov_r 90), (1, ov_i x), (2, ov_i y), (3, ov_i s), (4, ov_i m), (5, ov_l co), (7, ov_i ws), (8, ov_i v2), (9, ov_l (ov_lor co (ov_lshl 1 ((6 * y) + x)))), (11, ov_i x11), (12, ov_i 2000000000), (13, ov_i (ov_or m v402))] [] z454 h455 (P_Mo_goesOn_90 F z h x y s m co ws)
                    have f470 : (h455 90 2) = (h9 90 2) ∧ (h455 90 3) = (h9 90 3) ∧ (h455 90 7) = (h9 90 7) ∧ (h455 90 8) = (h9 90 8) ∧ (h455 90 13) = (h9 90 13) ∧ (h455 90 20) = (h9 90 20) ∧ (h455 90 22) = (h9 90 22) ∧ (h455 90 25) = (h9 90 25) ∧ (h455 90 26) = (h9 90 26) ∧ (h455 90 27) = (h9 90 27) ∧ (h455 90 28) = (h9 90 28) ∧ (h455 90 29) = (h9 90 29) ∧ (h455 90 30) = (h9 90 30) ∧ (h455 90 34) = (h9 90 34) ∧ (h455 90 35) = (h9 90 35) ∧ (h455 90 37) = (h9 90 37) := f440
                    clear f440
                    refine ov_goto (tgt := 158) d_304_119 (by decide) ?_
                    refine ov_blk (ls2 := [(0, ov_r 90), (1, ov_i x), (2, ov_i y), (3, ov_i s), (4, ov_i m), (5, ov_l co), (7, ov_i ws), (8, ov_i v2), (9, ov_l (ov_lor co (ov_lshl 1 ((6 * y) + x)))), (11, ov_i (x11 + 1)), (12, ov_i 2000000000), (13, ov_i (ov_or m v402))]) (st2 := []) (pc2 := 161) b_304_158_1 rfl rfl ?_
                    refine ov_goto (tgt := 24) d_304_161 (by decide) ?_
                    refine ov_sub (ls2 := [(0, ov_r 90), (1, ov_i x), (2, ov_i y), (3, ov_i s), (4, ov_i m), (5, ov_l co), (7, ov_i ws), (8, ov_i v2), (9, ov_l (ov_lor co (ov_lshl 1 ((6 * y) + x)))), (11, ov_i (x11 + 1))]) (List.Sublist.subset (by repeat (first | exact List.Sublist.refl _ | apply List.Sublist.cons_cons | apply List.Sublist.cons))) ?_
                    exact ih5 (x11 + 1) _ _ I456 E457 E458 E459 E460 E461 E462 E463 E464 E465 E466 E467 E468 E469 (by show 0 ≤ (x11 + 1) ∧ (x11 + 1) ≤ 3 ∧ (v2 = 0 → (x11 + 1) ≤ 2) ∧ (h455 90 2) = (h 90 2) ∧ (h455 90 3) = (h 90 3) ∧ (h455 90 7) = (h 90 7) ∧ (h455 90 8) = (h 90 8) ∧ (h455 90 13) = (h 90 13) ∧ (h455 90 20) = (h 90 20) ∧ (h455 90 22) = (h 90 22) ∧ (h455 90 25) = (h 90 25) ∧ (h455 90 26) = (h 90 26) ∧ (h455 90 27) = (h 90 27) ∧ (h455 90 28) = (h 90 28) ∧ (h455 90 29) = (h 90 29) ∧ (h455 90 30) = (h 90 30) ∧ (h455 90 34) = (h 90 34) ∧ (h455 90 35) = (h 90 35) ∧ (h455 90 37) = (h 90 37); omega) (by omega)
            · skip
              refine ov_blk (ls2 := [(0, ov_r 90), (1, ov_i x), (2, ov_i y), (3, ov_i s), (4, ov_i m), (5, ov_l co), (7, ov_i ws), (8, ov_i v2), (9, ov_l (ov_lor co (ov_lshl 1 ((6 * y) + x)))), (11, ov_i x11)]) (st2 := [ov_i 2, ov_i x11]) (pc2 := 49) b_304_46_2 rfl rfl ?_
              refine ov_icne (tgt := 158) d_304_49 (by decide) (by omega) (by omega) (fun c471 => ?_) (fun c471 => ?_)
              · skip
                refine ov_blk (ls2 := [(0, ov_r 90), (1, ov_i x), (2, ov_i y), (3, ov_i s), (4, ov_i m), (5, ov_l co), (7, ov_i ws), (8, ov_i v2), (9, ov_l (ov_lor co (ov_lshl 1 ((6 * y) + x)))), (11, ov_i (x11 + 1))]) (st2 := []) (pc2 := 161) b_304_158_1 rfl rfl ?_
                refine ov_goto (tgt := 24) d_304_161 (by decide) ?_
                exact ih5 (x11 + 1) _ _ I10 E11 E12 E13 E14 E15 E16 E17 E18 E19 E20 E21 E22 E23 (by show 0 ≤ (x11 + 1) ∧ (x11 + 1) ≤ 3 ∧ (v2 = 0 → (x11 + 1) ≤ 2) ∧ (h9 90 2) = (h 90 2) ∧ (h9 90 3) = (h 90 3) ∧ (h9 90 7) = (h 90 7) ∧ (h9 90 8) = (h 90 8) ∧ (h9 90 13) = (h 90 13) ∧ (h9 90 20) = (h 90 20) ∧ (h9 90 22) = (h 90 22) ∧ (h9 90 25) = (h 90 25) ∧ (h9 90 26) = (h 90 26) ∧ (h9 90 27) = (h 90 27) ∧ (h9 90 28) = (h 90 28) ∧ (h9 90 29) = (h 90 29) ∧ (h9 90 30) = (h 90 30) ∧ (h9 90 34) = (h 90 34) ∧ (h9 90 35) = (h 90 35) ∧ (h9 90 37) = (h 90 37); omega) (by omega)
              · skip
                refine ov_goto (tgt := 66) d_304_52 (by decide) ?_
                refine ov_blk (ls2 := [(0, ov_r 90), (1, ov_i x), (2, ov_i y), (3, ov_i s), (4, ov_i m), (5, ov_l co), (7, ov_i ws), (8, ov_i v2), (9, ov_l (ov_lor co (ov_lshl 1 ((6 * y) + x)))), (11, ov_i x11)]) (st2 := [ov_i v2]) (pc2 := 68) b_304_66_1 rfl rfl ?_
                refine ov_ifeq (tgt := 77) d_304_68 (by decide) (by omega) (fun c472 => ?_) (fun c472 => ?_)
                · skip
                  refine ov_blk (ls2 := [(0, ov_r 90), (1, ov_i x), (2, ov_i y), (3, ov_i s), (4, ov_i m), (5, ov_l co), (7, ov_i ws), (8, ov_i v2), (9, ov_l (ov_lor co (ov_lshl 1 ((6 * y) + x)))), (11, ov_i x11)]) (st2 := [ov_i s, ov_i x11, ov_i y, ov_i x, ov_r 90, ov_i s]) (pc2 := 84) b_304_77_6 rfl rfl ?_
                  refine ov_cV (as := [ov_i x, ov_i y, ov_i x11, ov_i s]) (st := [ov_i s]) (d2 := d - 1) d_304_84 lk_Mo_315 rfl (Nat.le_of_ble_eq_true rfl) (c := 1) (zb_90 I10) (zs_90 I10) ⟨by decide, rfl⟩ (by omega) (c_Mo_waitFor_90 (d - 1) (by omega) U I10 x y x11 s (by omega) (by omega) (by omega) (by omega) (by omega) (by omega) (by omega) (by omega) (by rw [show h9 96 = h 96 from E14]; exact W)) ?_
                  rintro _ _ _ ⟨v474, rfl, rfl, rfl, f473⟩
                  show ov_R u d ov_m304 87 [(0, ov_r 90), (1, ov_i x), (2, ov_i y), (3, ov_i s), (4, ov_i m), (5, ov_l co), (7, ov_i ws), (8, ov_i v2), (9, ov_l (ov_lor co (ov_lshl 1 ((6 * y) + x)))), (11, ov_i x11)] [ov_i v474, ov_i s] z8 h9 (P_Mo_goesOn_90 F z h x y s m co ws)
                  rw [show h9 96 = h 96 from E14] at f473
                  have f475 : 0 ≤ v474 ∧ v474 ≤ 59 ∧ v474 = ov_wm (h 96) (6 * y + x) x11 s := f473
                  clear f473
                  refine ov_blk (ls2 := [(0, ov_r 90), (1, ov_i x), (2, ov_i y), (3, ov_i s), (4, ov_i m), (5, ov_l co), (7, ov_i ws), (8, ov_i v2), (9, ov_l (ov_lor co (ov_lshl 1 ((6 * y) + x)))), (11, ov_i x11), (12, ov_i (s + v474))]) (st2 := [ov_i (s + v474), ov_i s, ov_i y, ov_i x, ov_r 90, ov_i m]) (pc2 := 98) b_304_87_8 rfl rfl ?_
                  refine ov_cV (as := [ov_i x, ov_i y, ov_i s, ov_i (s + v474)]) (st := [ov_i m]) (d2 := d - 1) d_304_98 lk_Mo_450 rfl (Nat.le_of_ble_eq_true rfl) (c := 1) (zb_90 I10) (zs_90 I10) ⟨by decide, rfl⟩ (by omega) (c_Mo_wasBetween_90 (d - 1) (by omega) U I10 x y s (s + v474) (by omega) (by omega) (by omega) (by omega)) ?_
                  rintro _ _ _ ⟨v477, rfl, rfl, rfl, f476⟩
                  show ov_R u d ov_m304 101 [(0, ov_r 90), (1, ov_i x), (2, ov_i y), (3, ov_i s), (4, ov_i m), (5, ov_l co), (7, ov_i ws), (8, ov_i v2), (9, ov_l (ov_lor co (ov_lshl 1 ((6 * y) + x)))), (11, ov_i x11), (12, ov_i (s + v474))] [ov_i v477, ov_i m] z8 h9 (P_Mo_goesOn_90 F z h x y s m co ws)
                  have f478 : -2147483648 ≤ v477 ∧ v477 ≤ 2147483647 := f476
                  clear f476
                  refine ov_blk (ls2 := [(0, ov_r 90), (1, ov_i x), (2, ov_i y), (3, ov_i s), (4, ov_i m), (5, ov_l co), (7, ov_i ws), (8, ov_i v2), (9, ov_l (ov_lor co (ov_lshl 1 ((6 * y) + x)))), (11, ov_i x11), (12, ov_i (s + v474)), (13, ov_i (ov_or m v477))]) (st2 := [ov_i v2]) (pc2 := 106) b_304_101_3 rfl rfl ?_
                  have g479 := ov_org m v477
                  refine ov_ifeq (tgt := 122) d_304_106 (by decide) (by omega) (fun c480 => ?_) (fun c480 => ?_)
                  · skip
                    refine ov_blk (ls2 := [(0, ov_r 90), (1, ov_i x), (2, ov_i y), (3, ov_i s), (4, ov_i m), (5, ov_l co), (7, ov_i ws), (8, ov_i v2), (9, ov_l (ov_lor co (ov_lshl 1 ((6 * y) + x)))), (11, ov_i x11), (12, ov_i (s + v474)), (13, ov_i (ov_or m v477))]) (st2 := [ov_r 90, ov_i (s + v474), ov_i (y + x11), ov_i ((x + 1) - x11), ov_r 90]) (pc2 := 136) b_304_122_11 rfl rfl ?_
                    refine ov_getf (v := ov_r 96) d_304_136 fl_Mo_81 (zb_90 I10) (zs_90 I10) (congrArg ov_r (rg_90_10 I10)) ?_
                    refine ov_blk (ls2 := [(0, ov_r 90), (1, ov_i x), (2, ov_i y), (3, ov_i s), (4, ov_i m), (5, ov_l co), (7, ov_i ws), (8, ov_i v2), (9, ov_l (ov_lor co (ov_lshl 1 ((6 * y) + x)))), (11, ov_i x11), (12, ov_i (s + v474)), (13, ov_i (ov_or m v477))]) (st2 := [ov_i 2, ov_r 96, ov_i (s + v474), ov_i (y + x11), ov_i ((x + 1) - x11), ov_r 90]) (pc2 := 140) b_304_139_1 rfl rfl ?_
                    refine ov_iald d_304_140 (zb_96 I10) (zs_96 I10) (by omega) ?_
                    rw [show h9 96 = h 96 from E14]
                    have g481 := t96_2 I
                    refine ov_blk (ls2 := [(0, ov_r 90), (1, ov_i x), (2, ov_i y), (3, ov_i s), (4, ov_i m), (5, ov_l co), (7, ov_i ws), (8, ov_i v2), (9, ov_l (ov_lor co (ov_lshl 1 ((6 * y) + x)))), (11, ov_i x11), (12, ov_i (s + v474)), (13, ov_i (ov_or m v477))]) (st2 := [ov_i (ov_or ws (ov_shl x11 (x + y))), ov_l (ov_lor co (ov_lshl 1 ((6 * y) + x))), ov_i (ov_or m v477), ov_i ((s + v474) + (h 96 2)), ov_i (y + x11), ov_i ((x + 1) - x11), ov_r 90]) (pc2 := 155) b_304_141_10 rfl rfl ?_
                    have g482 := ov_shlg x11 (x + y)
                    have g483 := ov_org ws (ov_shl x11 (x + y))
                    refine ov_cV (as := [ov_i ((x + 1) - x11), ov_i (y + x11), ov_i ((s + v474) + (h 96 2)), ov_i (ov_or m v477), ov_l (ov_lor co (ov_lshl 1 ((6 * y) + x))), ov_i (ov_or ws (ov_shl x11 (x + y)))]) (st := []) (d2 := d - 1) d_304_155 lk_Mo_457 rfl (Nat.le_of_ble_eq_true rfl) (c := 1) (zb_90 I10) (zs_90 I10) ⟨by decide, rfl⟩ (by omega) (HV (Int.toNat (13 - (((x + 1) - x11)) - ((y + x11)))) (by omega) (d - 1) (by omega) U I10 ((x + 1) - x11) (y + x11) ((s + v474) + (h 96 2)) (ov_or m v477) (ov_lor co (ov_lshl 1 ((6 * y) + x))) (ov_or ws (ov_shl x11 (x + y))) (by omega) (by omega) (by omega) (by omega) (by omega) (by omega) (by omega) (by omega) (by omega) (by rw [show h9 96 = h 96 from E14]; exact W)) ?_
                    rintro _ z498 h499 ⟨rfl, I500, f484, e485, e486, e487, e488, e489, e490, e491, e492, e493, e494, e495, e496, e497⟩
                    have E501 : h499 92 = h 92 := Eq.trans e485 E11
                    have E502 : h499 93 = h 93 := Eq.trans e486 E12
                    have E503 : h499 94 = h 94 := Eq.trans e487 E13
                    have E504 : h499 96 = h 96 := Eq.trans e488 E14
                    have E505 : h499 97 = h 97 := Eq.trans e489 E15
                    have E506 : h499 98 = h 98 := Eq.trans e490 E16
                    have E507 : h499 99 = h 99 := Eq.trans e491 E17
                    have E508 : h499 100 = h 100 := Eq.trans e492 E18
                    have E509 : h499 103 = h 103 := Eq.trans e493 E19
                    have E510 : h499 105 = h 105 := Eq.trans e494 E20
                    have E511 : h499 106 = h 106 := Eq.trans e495 E21
                    have E512 : h499 109 = h 109 := Eq.trans e496 E22
                    have E513 : h499 114 = h 114 := Eq.trans e497 E23
                    show ov_R u d ov_m304 158 [(0, ov_r 90), (1, ov_i x), (2, ov_i y), (3, ov_i s), (4, ov_i m), (5, ov_l co), (7, ov_i ws), (8, ov_i v2), (9, ov_l (ov_lor co (ov_lshl 1 ((6 * y) + x)))), (11, ov_i x11), (12, ov_i (s + v474)), (13, ov_i (ov_or m v477))] [] z498 h499 (P_Mo_goesOn_90 F z h x y s m co ws)
                    have f514 : (h499 90 2) = (h9 90 2) ∧ (h499 90 3) = (h9 90 3) ∧ (h499 90 7) = (h9 90 7) ∧ (h499 90 8) = (h9 90 8) ∧ (h499 90 13) = (h9 90 13) ∧ (h499 90 20) = (h9 90 20) ∧ (h499 90 22) = (h9 90 22) ∧ (h499 90 25) = (h9 90 25) ∧ (h499 90 26) = (h9 90 26) ∧ (h499 90 27) = (h9 90 27) ∧ (h499 90 28) = (h9 90 28) ∧ (h499 90 29) = (h9 90 29) ∧ (h499 90 30) = (h9 90 30) ∧ (h499 90 34) = (h9 90 34) ∧ (h499 90 35) = (h9 90 35) ∧ (h499 90 37) = (h9 90 37) := f484
                    clear f484
                    refine ov_blk (ls2 := [(0, ov_r 90), (1, ov_i x), (2, ov_i y), (3, ov_i s), (4, ov_i m), (5, ov_l co), (7, ov_i ws), (8, ov_i v2), (9, ov_l (ov_lor co (ov_lshl 1 ((6 * y) + x)))), (11, ov_i (x11 + 1)), (12, ov_i (s + v474)), (13, ov_i (ov_or m v477))]) (st2 := []) (pc2 := 161) b_304_158_1 rfl rfl ?_
                    refine ov_goto (tgt := 24) d_304_161 (by decide) ?_
                    refine ov_sub (ls2 := [(0, ov_r 90), (1, ov_i x), (2, ov_i y), (3, ov_i s), (4, ov_i m), (5, ov_l co), (7, ov_i ws), (8, ov_i v2), (9, ov_l (ov_lor co (ov_lshl 1 ((6 * y) + x)))), (11, ov_i (x11 + 1))]) (List.Sublist.subset (by repeat (first | exact List.Sublist.refl _ | apply List.Sublist.cons_cons | apply List.Sublist.cons))) ?_
                    exact ih5 (x11 + 1) _ _ I500 E501 E502 E503 E504 E505 E506 E507 E508 E509 E510 E511 E512 E513 (by show 0 ≤ (x11 + 1) ∧ (x11 + 1) ≤ 3 ∧ (v2 = 0 → (x11 + 1) ≤ 2) ∧ (h499 90 2) = (h 90 2) ∧ (h499 90 3) = (h 90 3) ∧ (h499 90 7) = (h 90 7) ∧ (h499 90 8) = (h 90 8) ∧ (h499 90 13) = (h 90 13) ∧ (h499 90 20) = (h 90 20) ∧ (h499 90 22) = (h 90 22) ∧ (h499 90 25) = (h 90 25) ∧ (h499 90 26) = (h 90 26) ∧ (h499 90 27) = (h 90 27) ∧ (h499 90 28) = (h 90 28) ∧ (h499 90 29) = (h 90 29) ∧ (h499 90 30) = (h 90 30) ∧ (h499 90 34) = (h 90 34) ∧ (h499 90 35) = (h 90 35) ∧ (h499 90 37) = (h 90 37); omega) (by omega)
                  · skip
                    refine ov_blk (ls2 := [(0, ov_r 90), (1, ov_i x), (2, ov_i y), (3, ov_i s), (4, ov_i m), (5, ov_l co), (7, ov_i ws), (8, ov_i v2), (9, ov_l (ov_lor co (ov_lshl 1 ((6 * y) + x)))), (11, ov_i x11), (12, ov_i (s + v474)), (13, ov_i (ov_or m v477))]) (st2 := [ov_i ws, ov_l (ov_lor co (ov_lshl 1 ((6 * y) + x))), ov_i (ov_or m v477), ov_r 90]) (pc2 := 116) b_304_109_4 rfl rfl ?_
                    refine ov_cV (as := [ov_i (ov_or m v477), ov_l (ov_lor co (ov_lshl 1 ((6 * y) + x))), ov_i ws]) (st := []) (d2 := d - 1) d_304_116 lk_Mo_453 rfl (Nat.le_of_ble_eq_true rfl) (c := 1) (zb_90 I10) (zs_90 I10) ⟨by decide, rfl⟩ (by omega) (c_Mo_fits0_90 (d - 1) (by omega) U I10 (ov_or m v477) (ov_lor co (ov_lshl 1 ((6 * y) + x))) ws (by omega) (by omega)) ?_
                    rintro _ z529 h530 ⟨rfl, I531, f515, e516, e517, e518, e519, e520, e521, e522, e523, e524, e525, e526, e527, e528⟩
                    have E532 : h530 92 = h 92 := Eq.trans e516 E11
                    have E533 : h530 93 = h 93 := Eq.trans e517 E12
                    have E534 : h530 94 = h 94 := Eq.trans e518 E13
                    have E535 : h530 96 = h 96 := Eq.trans e519 E14
                    have E536 : h530 97 = h 97 := Eq.trans e520 E15
                    have E537 : h530 98 = h 98 := Eq.trans e521 E16
                    have E538 : h530 99 = h 99 := Eq.trans e522 E17
                    have E539 : h530 100 = h 100 := Eq.trans e523 E18
                    have E540 : h530 103 = h 103 := Eq.trans e524 E19
                    have E541 : h530 105 = h 105 := Eq.trans e525 E20
                    have E542 : h530 106 = h 106 := Eq.trans e526 E21
                    have E543 : h530 109 = h 109 := Eq.trans e527 E22
                    have E544 : h530 114 = h 114 := Eq.trans e528 E23
                    show ov_R u d ov_m304 119 [(0, ov_r 90), (1, ov_i x), (2, ov_i y), (3, ov_i s), (4, ov_i m), (5, ov_l co), (7, ov_i ws), (8, ov_i v2), (9, ov_l (ov_lor co (ov_lshl 1 ((6 * y) + x)))), (11, ov_i x11), (12, ov_i (s + v474)), (13, ov_i (ov_or m v477))] [] z529 h530 (P_Mo_goesOn_90 F z h x y s m co ws)
                    have f545 : (h530 90 2) = (h9 90 2) ∧ (h530 90 3) = (h9 90 3) ∧ (h530 90 7) = (h9 90 7) ∧ (h530 90 8) = (h9 90 8) ∧ (h530 90 13) = (h9 90 13) ∧ (h530 90 20) = (h9 90 20) ∧ (h530 90 22) = (h9 90 22) ∧ (h530 90 25) = (h9 90 25) ∧ (h530 90 26) = (h9 90 26) ∧ (h530 90 27) = (h9 90 27) ∧ (h530 90 28) = (h9 90 28) ∧ (h530 90 29) = (h9 90 29) ∧ (h530 90 30) = (h9 90 30) ∧ (h530 90 34) = (h9 90 34) ∧ (h530 90 35) = (h9 90 35) ∧ (h530 90 37) = (h9 90 37) := f515
                    clear f515
                    refine ov_goto (tgt := 158) d_304_119 (by decide) ?_
                    refine ov_blk (ls2 := [(0, ov_r 90), (1, ov_i x), (2, ov_i y), (3, ov_i s), (4, ov_i m), (5, ov_l co), (7, ov_i ws), (8, ov_i v2), (9, ov_l (ov_lor co (ov_lshl 1 ((6 * y) + x)))), (11, ov_i (x11 + 1)), (12, ov_i (s + v474)), (13, ov_i (ov_or m v477))]) (st2 := []) (pc2 := 161) b_304_158_1 rfl rfl ?_
                    refine ov_goto (tgt := 24) d_304_161 (by decide) ?_
                    refine ov_sub (ls2 := [(0, ov_r 90), (1, ov_i x), (2, ov_i y), (3, ov_i s), (4, ov_i m), (5, ov_l co), (7, ov_i ws), (8, ov_i v2), (9, ov_l (ov_lor co (ov_lshl 1 ((6 * y) + x)))), (11, ov_i (x11 + 1))]) (List.Sublist.subset (by repeat (first | exact List.Sublist.refl _ | apply List.Sublist.cons_cons | apply List.Sublist.cons))) ?_
                    exact ih5 (x11 + 1) _ _ I531 E532 E533 E534 E535 E536 E537 E538 E539 E540 E541 E542 E543 E544 (by show 0 ≤ (x11 + 1) ∧ (x11 + 1) ≤ 3 ∧ (v2 = 0 → (x11 + 1) ≤ 2) ∧ (h530 90 2) = (h 90 2) ∧ (h530 90 3) = (h 90 3) ∧ (h530 90 7) = (h 90 7) ∧ (h530 90 8) = (h 90 8) ∧ (h530 90 13) = (h 90 13) ∧ (h530 90 20) = (h 90 20) ∧ (h530 90 22) = (h 90 22) ∧ (h530 90 25) = (h 90 25) ∧ (h530 90 26) = (h 90 26) ∧ (h530 90 27) = (h 90 27) ∧ (h530 90 28) = (h 90 28) ∧ (h530 90 29) = (h 90 29) ∧ (h530 90 30) = (h 90 30) ∧ (h530 90 34) = (h 90 34) ∧ (h530 90 35) = (h 90 35) ∧ (h530 90 37) = (h 90 37); omega) (by omega)
                · skip
                  refine ov_ldcw (n := 2000000000) d_304_71 kc_Mo_338 ?_
                  refine ov_goto (tgt := 88) d_304_74 (by decide) ?_
                  refine ov_blk (ls2 := [(0, ov_r 90), (1, ov_i x), (2, ov_i y), (3, ov_i s), (4, ov_i m), (5, ov_l co), (7, ov_i ws), (8, ov_i v2), (9, ov_l (ov_lor co (ov_lshl 1 ((6 * y) + x)))), (11, ov_i x11), (12, ov_i 2000000000)]) (st2 := [ov_i 2000000000, ov_i s, ov_i y, ov_i x, ov_r 90, ov_i m]) (pc2 := 98) b_304_88_7 rfl rfl ?_
                  refine ov_cV (as := [ov_i x, ov_i y, ov_i s, ov_i 2000000000]) (st := [ov_i m]) (d2 := d - 1) d_304_98 lk_Mo_450 rfl (Nat.le_of_ble_eq_true rfl) (c := 1) (zb_90 I10) (zs_90 I10) ⟨by decide, rfl⟩ (by omega) (c_Mo_wasBetween_90 (d - 1) (by omega) U I10 x y s 2000000000 (by omega) (by omega) (by omega) (by omega)) ?_
                  rintro _ _ _ ⟨v547, rfl, rfl, rfl, f546⟩
                  show ov_R u d ov_m304 101 [(0, ov_r 90), (1, ov_i x), (2, ov_i y), (3, ov_i s), (4, ov_i m), (5, ov_l co), (7, ov_i ws), (8, ov_i v2), (9, ov_l (ov_lor co (ov_lshl 1 ((6 * y) + x)))), (11, ov_i x11), (12, ov_i 2000000000)] [ov_i v547, ov_i m] z8 h9 (P_Mo_goesOn_90 F z h x y s m co ws)
                  have f548 : -2147483648 ≤ v547 ∧ v547 ≤ 2147483647 := f546
                  clear f546
                  refine ov_blk (ls2 := [(0, ov_r 90), (1, ov_i x), (2, ov_i y), (3, ov_i s), (4, ov_i m), (5, ov_l co), (7, ov_i ws), (8, ov_i v2), (9, ov_l (ov_lor co (ov_lshl 1 ((6 * y) + x)))), (11, ov_i x11), (12, ov_i 2000000000), (13, ov_i (ov_or m v547))]) (st2 := [ov_i v2]) (pc2 := 106) b_304_101_3 rfl rfl ?_
                  have g549 := ov_org m v547
                  refine ov_ifeq (tgt := 122) d_304_106 (by decide) (by omega) (fun c550 => ?_) (fun c550 => ?_)
                  · skip
                    refine ov_blk (ls2 := [(0, ov_r 90), (1, ov_i x), (2, ov_i y), (3, ov_i s), (4, ov_i m), (5, ov_l co), (7, ov_i ws), (8, ov_i v2), (9, ov_l (ov_lor co (ov_lshl 1 ((6 * y) + x)))), (11, ov_i x11), (12, ov_i 2000000000), (13, ov_i (ov_or m v547))]) (st2 := [ov_r 90, ov_i 2000000000, ov_i (y + x11), ov_i ((x + 1) - x11), ov_r 90]) (pc2 := 136) b_304_122_11 rfl rfl ?_
                    refine ov_getf (v := ov_r 96) d_304_136 fl_Mo_81 (zb_90 I10) (zs_90 I10) (congrArg ov_r (rg_90_10 I10)) ?_
                    refine ov_blk (ls2 := [(0, ov_r 90), (1, ov_i x), (2, ov_i y), (3, ov_i s), (4, ov_i m), (5, ov_l co), (7, ov_i ws), (8, ov_i v2), (9, ov_l (ov_lor co (ov_lshl 1 ((6 * y) + x)))), (11, ov_i x11), (12, ov_i 2000000000), (13, ov_i (ov_or m v547))]) (st2 := [ov_i 2, ov_r 96, ov_i 2000000000, ov_i (y + x11), ov_i ((x + 1) - x11), ov_r 90]) (pc2 := 140) b_304_139_1 rfl rfl ?_
                    refine ov_iald d_304_140 (zb_96 I10) (zs_96 I10) (by omega) ?_
                    rw [show h9 96 = h 96 from E14]
                    have g551 := t96_2 I
                    refine ov_blk (ls2 := [(0, ov_r 90), (1, ov_i x), (2, ov_i y), (3, ov_i s), (4, ov_i m), (5, ov_l co), (7, ov_i ws), (8, ov_i v2), (9, ov_l (ov_lor co (ov_lshl 1 ((6 * y) + x)))), (11, ov_i x11), (12, ov_i 2000000000), (13, ov_i (ov_or m v547))]) (st2 := [ov_i (ov_or ws (ov_shl x11 (x + y))), ov_l (ov_lor co (ov_lshl 1 ((6 * y) + x))), ov_i (ov_or m v547), ov_i (2000000000 + (h 96 2)), ov_i (y + x11), ov_i ((x + 1) - x11), ov_r 90]) (pc2 := 155) b_304_141_10 rfl rfl ?_
                    have g552 := ov_shlg x11 (x + y)
                    have g553 := ov_org ws (ov_shl x11 (x + y))
                    refine ov_cV (as := [ov_i ((x + 1) - x11), ov_i (y + x11), ov_i (2000000000 + (h 96 2)), ov_i (ov_or m v547), ov_l (ov_lor co (ov_lshl 1 ((6 * y) + x))), ov_i (ov_or ws (ov_shl x11 (x + y)))]) (st := []) (d2 := d - 1) d_304_155 lk_Mo_457 rfl (Nat.le_of_ble_eq_true rfl) (c := 1) (zb_90 I10) (zs_90 I10) ⟨by decide, rfl⟩ (by omega) (HV (Int.toNat (13 - (((x + 1) - x11)) - ((y + x11)))) (by omega) (d - 1) (by omega) U I10 ((x + 1) - x11) (y + x11) (2000000000 + (h 96 2)) (ov_or m v547) (ov_lor co (ov_lshl 1 ((6 * y) + x))) (ov_or ws (ov_shl x11 (x + y))) (by omega) (by omega) (by omega) (by omega) (by omega) (by omega) (by omega) (by omega) (by omega) (by rw [show h9 96 = h 96 from E14]; exact W)) ?_
                    rintro _ z568 h569 ⟨rfl, I570, f554, e555, e556, e557, e558, e559, e560, e561, e562, e563, e564, e565, e566, e567⟩
                    have E571 : h569 92 = h 92 := Eq.trans e555 E11
                    have E572 : h569 93 = h 93 := Eq.trans e556 E12
                    have E573 : h569 94 = h 94 := Eq.trans e557 E13
                    have E574 : h569 96 = h 96 := Eq.trans e558 E14
                    have E575 : h569 97 = h 97 := Eq.trans e559 E15
                    have E576 : h569 98 = h 98 := Eq.trans e560 E16
                    have E577 : h569 99 = h 99 := Eq.trans e561 E17
                    have E578 : h569 100 = h 100 := Eq.trans e562 E18
                    have E579 : h569 103 = h 103 := Eq.trans e563 E19
                    have E580 : h569 105 = h 105 := Eq.trans e564 E20
                    have E581 : h569 106 = h 106 := Eq.trans e565 E21
                    have E582 : h569 109 = h 109 := Eq.trans e566 E22
                    have E583 : h569 114 = h 114 := Eq.trans e567 E23
                    show ov_R u d ov_m304 158 [(0, ov_r 90), (1, ov_i x), (2, ov_i y), (3, ov_i s), (4, ov_i m), (5, ov_l co), (7, ov_i ws), (8, ov_i v2), (9, ov_l (ov_lor co (ov_lshl 1 ((6 * y) + x)))), (11, ov_i x11), (12, ov_i 2000000000), (13, ov_i (ov_or m v547))] [] z568 h569 (P_Mo_goesOn_90 F z h x y s m co ws)
                    have f584 : (h569 90 2) = (h9 90 2) ∧ (h569 90 3) = (h9 90 3) ∧ (h569 90 7) = (h9 90 7) ∧ (h569 90 8) = (h9 90 8) ∧ (h569 90 13) = (h9 90 13) ∧ (h569 90 20) = (h9 90 20) ∧ (h569 90 22) = (h9 90 22) ∧ (h569 90 25) = (h9 90 25) ∧ (h569 90 26) = (h9 90 26) ∧ (h569 90 27) = (h9 90 27) ∧ (h569 90 28) = (h9 90 28) ∧ (h569 90 29) = (h9 90 29) ∧ (h569 90 30) = (h9 90 30) ∧ (h569 90 34) = (h9 90 34) ∧ (h569 90 35) = (h9 90 35) ∧ (h569 90 37) = (h9 90 37) := f554
                    clear f554
                    refine ov_blk (ls2 := [(0, ov_r 90), (1, ov_i x), (2, ov_i y), (3, ov_i s), (4, ov_i m), (5, ov_l co), (7, ov_i ws), (8, ov_i v2), (9, ov_l (ov_lor co (ov_lshl 1 ((6 * y) + x)))), (11, ov_i (x11 + 1)), (12, ov_i 2000000000), (13, ov_i (ov_or m v547))]) (st2 := []) (pc2 := 161) b_304_158_1 rfl rfl ?_
                    refine ov_goto (tgt := 24) d_304_161 (by decide) ?_
                    refine ov_sub (ls2 := [(0, ov_r 90), (1, ov_i x), (2, ov_i y), (3, ov_i s), (4, ov_i m), (5, ov_l co), (7, ov_i ws), (8, ov_i v2), (9, ov_l (ov_lor co (ov_lshl 1 ((6 * y) + x)))), (11, ov_i (x11 + 1))]) (List.Sublist.subset (by repeat (first | exact List.Sublist.refl _ | apply List.Sublist.cons_cons | apply List.Sublist.cons))) ?_
                    exact ih5 (x11 + 1) _ _ I570 E571 E572 E573 E574 E575 E576 E577 E578 E579 E580 E581 E582 E583 (by show 0 ≤ (x11 + 1) ∧ (x11 + 1) ≤ 3 ∧ (v2 = 0 → (x11 + 1) ≤ 2) ∧ (h569 90 2) = (h 90 2) ∧ (h569 90 3) = (h 90 3) ∧ (h569 90 7) = (h 90 7) ∧ (h569 90 8) = (h 90 8) ∧ (h569 90 13) = (h 90 13) ∧ (h569 90 20) = (h 90 20) ∧ (h569 90 22) = (h 90 22) ∧ (h569 90 25) = (h 90 25) ∧ (h569 90 26) = (h 90 26) ∧ (h569 90 27) = (h 90 27) ∧ (h569 90 28) = (h 90 28) ∧ (h569 90 29) = (h 90 29) ∧ (h569 90 30) = (h 90 30) ∧ (h569 90 34) = (h 90 34) ∧ (h569 90 35) = (h 90 35) ∧ (h569 90 37) = (h 90 37); omega) (by omega)
                  · skip
                    refine ov_blk (ls2 := [(0, ov_r 90), (1, ov_i x), (2, ov_i y), (3, ov_i s), (4, ov_i m), (5, ov_l co), (7, ov_i ws), (8, ov_i v2), (9, ov_l (ov_lor co (ov_lshl 1 ((6 * y) + x)))), (11, ov_i x11), (12, ov_i 2000000000), (13, ov_i (ov_or m v547))]) (st2 := [ov_i ws, ov_l (ov_lor co (ov_lshl 1 ((6 * y) + x))), ov_i (ov_or m v547), ov_r 90]) (pc2 := 116) b_304_109_4 rfl rfl ?_
                    refine ov_cV (as := [ov_i (ov_or m v547), ov_l (ov_lor co (ov_lshl 1 ((6 * y) + x))), ov_i ws]) (st := []) (d2 := d - 1) d_304_116 lk_Mo_453 rfl (Nat.le_of_ble_eq_true rfl) (c := 1) (zb_90 I10) (zs_90 I10) ⟨by decide, rfl⟩ (by omega) (c_Mo_fits0_90 (d - 1) (by omega) U I10 (ov_or m v547) (ov_lor co (ov_lshl 1 ((6 * y) + x))) ws (by omega) (by omega)) ?_
                    rintro _ z599 h600 ⟨rfl, I601, f585, e586, e587, e588, e589, e590, e591, e592, e593, e594, e595, e596, e597, e598⟩
                    have E602 : h600 92 = h 92 := Eq.trans e586 E11
                    have E603 : h600 93 = h 93 := Eq.trans e587 E12
                    have E604 : h600 94 = h 94 := Eq.trans e588 E13
                    have E605 : h600 96 = h 96 := Eq.trans e589 E14
                    have E606 : h600 97 = h 97 := Eq.trans e590 E15
                    have E607 : h600 98 = h 98 := Eq.trans e591 E16
                    have E608 : h600 99 = h 99 := Eq.trans e592 E17
                    have E609 : h600 100 = h 100 := Eq.trans e593 E18
                    have E610 : h600 103 = h 103 := Eq.trans e594 E19
                    have E611 : h600 105 = h 105 := Eq.trans e595 E20
                    have E612 : h600 106 = h 106 := Eq.trans e596 E21
                    have E613 : h600 109 = h 109 := Eq.trans e597 E22
                    have E614 : h600 114 = h 114 := Eq.trans e598 E23
                    show ov_R u d ov_m304 119 [(0, ov_r 90), (1, ov_i x), (2, ov_i y), (3, ov_i s), (4, ov_i m), (5, ov_l co), (7, ov_i ws), (8, ov_i v2), (9, ov_l (ov_lor co (ov_lshl 1 ((6 * y) + x)))), (11, ov_i x11), (12, ov_i 2000000000), (13, ov_i (ov_or m v547))] [] z599 h600 (P_Mo_goesOn_90 F z h x y s m co ws)
                    have f615 : (h600 90 2) = (h9 90 2) ∧ (h600 90 3) = (h9 90 3) ∧ (h600 90 7) = (h9 90 7) ∧ (h600 90 8) = (h9 90 8) ∧ (h600 90 13) = (h9 90 13) ∧ (h600 90 20) = (h9 90 20) ∧ (h600 90 22) = (h9 90 22) ∧ (h600 90 25) = (h9 90 25) ∧ (h600 90 26) = (h9 90 26) ∧ (h600 90 27) = (h9 90 27) ∧ (h600 90 28) = (h9 90 28) ∧ (h600 90 29) = (h9 90 29) ∧ (h600 90 30) = (h9 90 30) ∧ (h600 90 34) = (h9 90 34) ∧ (h600 90 35) = (h9 90 35) ∧ (h600 90 37) = (h9 90 37) := f585
                    clear f585
                    refine ov_goto (tgt := 158) d_304_119 (by decide) ?_
                    refine ov_blk (ls2 := [(0, ov_r 90), (1, ov_i x), (2, ov_i y), (3, ov_i s), (4, ov_i m), (5, ov_l co), (7, ov_i ws), (8, ov_i v2), (9, ov_l (ov_lor co (ov_lshl 1 ((6 * y) + x)))), (11, ov_i (x11 + 1)), (12, ov_i 2000000000), (13, ov_i (ov_or m v547))]) (st2 := []) (pc2 := 161) b_304_158_1 rfl rfl ?_
                    refine ov_goto (tgt := 24) d_304_161 (by decide) ?_
                    refine ov_sub (ls2 := [(0, ov_r 90), (1, ov_i x), (2, ov_i y), (3, ov_i s), (4, ov_i m), (5, ov_l co), (7, ov_i ws), (8, ov_i v2), (9, ov_l (ov_lor co (ov_lshl 1 ((6 * y) + x)))), (11, ov_i (x11 + 1))]) (List.Sublist.subset (by repeat (first | exact List.Sublist.refl _ | apply List.Sublist.cons_cons | apply List.Sublist.cons))) ?_
                    exact ih5 (x11 + 1) _ _ I601 E602 E603 E604 E605 E606 E607 E608 E609 E610 E611 E612 E613 E614 (by show 0 ≤ (x11 + 1) ∧ (x11 + 1) ≤ 3 ∧ (v2 = 0 → (x11 + 1) ≤ 2) ∧ (h600 90 2) = (h 90 2) ∧ (h600 90 3) = (h 90 3) ∧ (h600 90 7) = (h 90 7) ∧ (h600 90 8) = (h 90 8) ∧ (h600 90 13) = (h 90 13) ∧ (h600 90 20) = (h 90 20) ∧ (h600 90 22) = (h 90 22) ∧ (h600 90 25) = (h 90 25) ∧ (h600 90 26) = (h 90 26) ∧ (h600 90 27) = (h 90 27) ∧ (h600 90 28) = (h 90 28) ∧ (h600 90 29) = (h 90 29) ∧ (h600 90 30) = (h 90 30) ∧ (h600 90 34) = (h 90 34) ∧ (h600 90 35) = (h 90 35) ∧ (h600 90 37) = (h 90 37); omega) (by omega)
  exact L7 4 0 _ _ I rfl rfl rfl rfl rfl rfl rfl rfl rfl rfl rfl rfl rfl (by show 0 ≤ 0 ∧ 0 ≤ 3 ∧ (v2 = 0 → 0 ≤ 2) ∧ (h 90 2) = (h 90 2) ∧ (h 90 3) = (h 90 3) ∧ (h 90 7) = (h 90 7) ∧ (h 90 8) = (h 90 8) ∧ (h 90 13) = (h 90 13) ∧ (h 90 20) = (h 90 20) ∧ (h 90 22) = (h 90 22) ∧ (h 90 25) = (h 90 25) ∧ (h 90 26) = (h 90 26) ∧ (h 90 27) = (h 90 27) ∧ (h 90 28) = (h 90 28) ∧ (h 90 29) = (h 90 29) ∧ (h 90 30) = (h 90 30) ∧ (h 90 34) = (h 90 34) ∧ (h 90 35) = (h 90 35) ∧ (h 90 37) = (h 90 37); omega) (by omega)
theorem c_Mo_goesOn_90_all {u : ov_U} {F : ov_H × ov_Z} (k : Nat) : ∀ {z : ov_Z} {h : ov_H} (d : Nat) (hd : (10 + 2 * k + 1) ≤ d) (U : ov_cap u) (I : ov_N F z h) (x : Int) (y : Int) (s : Int) (m : Int) (co : Int) (ws : Int) (g_x : ov_g x) (g_y : ov_g y) (g_s : ov_g s) (g_m : ov_g m) (g_ws : ov_g ws) (p0 : 0 ≤ x ∧ x ≤ 5 ∧ 0 ≤ y ∧ y ≤ 8) (p1 : x < (h 96 0) ∧ y < (h 96 1)) (p2 : x + y + (k : Int) = 13) (p3 : 0 ≤ s ∧ s + 89 * (k : Int) ≤ 3000000) (W : ov_WT (h 96)), ov_T u d ov_m304 [ov_r 90, ov_i x, ov_i y, ov_i s, ov_i m, ov_l co, ov_i ws] z h (P_Mo_goesOn_90 F z h x y s m co ws) := by
  induction k using Nat.strongRecOn with
  | ind k ih => exact fun {z} {h} => @c_Mo_goesOn_90 u F k (fun k' hk => @ih k' hk) z h
abbrev P_Mo_fits_90 (F : ov_H × ov_Z) (z : ov_Z) (h : ov_H) (m : Int) : Option ov_V → ov_Z → ov_H → Prop := fun r0 z' h' => ∃ r : Int, r0 = some (ov_l r) ∧ ov_N F z' h' ∧ ((h' 90 2) = (h 90 2) ∧ (h' 90 3) = (h 90 3) ∧ (h' 90 7) = (h 90 7) ∧ (h' 90 8) = (h 90 8) ∧ (h' 90 13) = (h 90 13) ∧ (h' 90 20) = (h 90 20) ∧ (h' 90 22) = (h 90 22) ∧ (h' 90 25) = (h 90 25) ∧ (h' 90 26) = (h 90 26) ∧ (h' 90 27) = (h 90 27) ∧ (h' 90 28) = (h 90 28) ∧ (h' 90 29) = (h 90 29) ∧ (h' 90 30) = (h 90 30) ∧ (h' 90 34) = (h 90 34) ∧ (h' 90 35) = (h 90 35) ∧ (h' 90 37) = (h 90 37)) ∧ h' 92 = h 92 ∧ h' 93 = h 93 ∧ h' 94 = h 94 ∧ h' 96 = h 96 ∧ h' 97 = h 97 ∧ h' 98 = h 98 ∧ h' 99 = h 99 ∧ h' 100 = h 100 ∧ h' 103 = h 103 ∧ h' 105 = h 105 ∧ h' 106 = h 106 ∧ h' 109 = h 109 ∧ h' 114 = h 114
set_option maxHeartbeats 4000000 in
theorem c_Mo_fits_90 {u : ov_U} {F : ov_H × ov_Z} {z : ov_Z} {h : ov_H} (d : Nat) (hd : 60 ≤ d) (U : ov_cap u) (I : ov_N F z h) (m : Int) (g_m : ov_g m) (W : ov_WT (h 96)) : ov_T u d ov_m303 [ov_r 90, ov_i m] z h (P_Mo_fits_90 F z h m) := by
  refine ov_en rfl (Nat.le_of_ble_eq_true rfl) ?_
  show ov_R u d ov_m303 0 [(0, ov_r 90), (1, ov_i m)] [] z h (P_Mo_fits_90 F z h m)
  refine ov_blk (ls2 := [(0, ov_r 90), (1, ov_i m)]) (st2 := [ov_i 0, ov_r 90]) (pc2 := 2) b_303_0_2 rfl rfl ?_
  refine ov_putf (x := 0) d_303_2 fl_Mo_1 (zb_90 I) (zs_90 I) rfl nk_0 rfl ?_
  have I1 := up_90_0 (x := 0) I (by omega)
  refine ov_blk (ls2 := [(0, ov_r 90), (1, ov_i m)]) (st2 := [ov_i 3, ov_i 0, ov_i m]) (pc2 := 8) b_303_5_3 rfl rfl ?_
  refine ov_cS (as := [ov_i m, ov_i 0, ov_i 3]) (st := []) (d2 := d - 1) d_303_8 lk_Mo_299 rfl (Nat.le_of_ble_eq_true rfl) (by omega) (c_Mo_within (d - 1) (by omega) U I1 m 0 3 (by omega) (by omega) (by omega)) ?_
  rintro _ _ _ ⟨v3, rfl, rfl, rfl, f2⟩
  show ov_R u d ov_m303 11 [(0, ov_r 90), (1, ov_i m)] [ov_i v3] z (ov_up h 90 0 0) (P_Mo_fits_90 F z h m)
  have f4 : (v3 = 0 ∨ v3 = 1) ∧ (v3 = 1 → (0 : Int) ≤ m ∧ m ≤ (3 : Int)) ∧ (v3 = 0 → m < (0 : Int) ∨ (3 : Int) < m) := f2
  clear f2
  refine ov_ifne (tgt := 18) d_303_11 (by decide) (by omega) (fun c5 => ?_) (fun c5 => ?_)
  · skip
    refine ov_blk (ls2 := [(0, ov_r 90), (1, ov_i m)]) (st2 := [ov_l 0, ov_r 90]) (pc2 := 20) b_303_18_2 rfl rfl ?_
    refine ov_putf (x := 0) d_303_20 fl_Mo_461 (zb_90 I1) (zs_90 I1) rfl nk_1 rfl ?_
    have I6 := up_90_43 (x := 0) I1
    refine ov_blk (ls2 := [(0, ov_r 90), (1, ov_i m)]) (st2 := [ov_i 0, ov_l 0, ov_i 0, ov_i 0, ov_i 0, ov_i 0, ov_r 90]) (pc2 := 30) b_303_23_7 rfl rfl ?_
    refine ov_cV (as := [ov_i 0, ov_i 0, ov_i 0, ov_i 0, ov_l 0, ov_i 0]) (st := []) (d2 := d - 1) d_303_30 lk_Mo_457 rfl (Nat.le_of_ble_eq_true rfl) (c := 1) (zb_90 I6) (zs_90 I6) ⟨by decide, rfl⟩ (by omega) (c_Mo_goesOn_90_all (Int.toNat (13 - (0) - (0))) (d - 1) (by omega) U I6 0 0 0 0 0 0 (by omega) (by omega) (by omega) (by omega) (by omega) (by omega) (by omega) (by omega) (by omega) W) ?_
    rintro _ z21 h22 ⟨rfl, I23, f7, e8, e9, e10, e11, e12, e13, e14, e15, e16, e17, e18, e19, e20⟩
    have E24 : h22 92 = h 92 := e8
    have E25 : h22 93 = h 93 := e9
    have E26 : h22 94 = h 94 := e10
    have E27 : h22 96 = h 96 := e11
    have E28 : h22 97 = h 97 := e12
    have E29 : h22 98 = h 98 := e13
    have E30 : h22 99 = h 99 := e14
    have E31 : h22 100 = h 100 := e15
    have E32 : h22 103 = h 103 := e16
    have E33 : h22 105 = h 105 := e17
    have E34 : h22 106 = h 106 := e18
    have E35 : h22 109 = h 109 := e19
    have E36 : h22 114 = h 114 := e20
    show ov_R u d ov_m303 33 [(0, ov_r 90), (1, ov_i m)] [] z21 h22 (P_Mo_fits_90 F z h m)
    have f37 : (h22 90 2) = (h 90 2) ∧ (h22 90 3) = (h 90 3) ∧ (h22 90 7) = (h 90 7) ∧ (h22 90 8) = (h 90 8) ∧ (h22 90 13) = (h 90 13) ∧ (h22 90 20) = (h 90 20) ∧ (h22 90 22) = (h 90 22) ∧ (h22 90 25) = (h 90 25) ∧ (h22 90 26) = (h 90 26) ∧ (h22 90 27) = (h 90 27) ∧ (h22 90 28) = (h 90 28) ∧ (h22 90 29) = (h 90 29) ∧ (h22 90 30) = (h 90 30) ∧ (h22 90 34) = (h 90 34) ∧ (h22 90 35) = (h 90 35) ∧ (h22 90 37) = (h 90 37) := f7
    clear f7
    refine ov_blk (ls2 := [(0, ov_r 90), (1, ov_i m)]) (st2 := [ov_i m]) (pc2 := 34) b_303_33_1 rfl rfl ?_
    refine ov_ifeq (tgt := 46) d_303_34 (by decide) (by omega) (fun c38 => ?_) (fun c38 => ?_)
    · skip
      refine ov_blk (ls2 := [(0, ov_r 90), (1, ov_i m)]) (st2 := [ov_i m]) (pc2 := 47) b_303_46_1 rfl rfl ?_
      refine ov_ifne (tgt := 57) d_303_47 (by decide) (by omega) (fun c39 => ?_) (fun c39 => ?_)
      · skip
        refine ov_ldc2 (n := (-1)) d_303_57 kc_Mo_433 ?_
        exact ov_retl (st := []) d_303_60 rfl ⟨_, rfl, I23, (by show (h22 90 2) = (h 90 2) ∧ (h22 90 3) = (h 90 3) ∧ (h22 90 7) = (h 90 7) ∧ (h22 90 8) = (h 90 8) ∧ (h22 90 13) = (h 90 13) ∧ (h22 90 20) = (h 90 20) ∧ (h22 90 22) = (h 90 22) ∧ (h22 90 25) = (h 90 25) ∧ (h22 90 26) = (h 90 26) ∧ (h22 90 27) = (h 90 27) ∧ (h22 90 28) = (h 90 28) ∧ (h22 90 29) = (h 90 29) ∧ (h22 90 30) = (h 90 30) ∧ (h22 90 34) = (h 90 34) ∧ (h22 90 35) = (h 90 35) ∧ (h22 90 37) = (h 90 37); omega), E24, E25, E26, E27, E28, E29, E30, E31, E32, E33, E34, E35, E36⟩
      · skip
        refine ov_blk (ls2 := [(0, ov_r 90), (1, ov_i m)]) (st2 := [ov_r 90]) (pc2 := 51) b_303_50_1 rfl rfl ?_
        refine ov_getf (v := ov_l (h22 90 43)) d_303_51 fl_Mo_461 (zb_90 I23) (zs_90 I23) rfl ?_
        refine ov_goto (tgt := 60) d_303_54 (by decide) ?_
        exact ov_retl (st := []) d_303_60 rfl ⟨_, rfl, I23, (by show (h22 90 2) = (h 90 2) ∧ (h22 90 3) = (h 90 3) ∧ (h22 90 7) = (h 90 7) ∧ (h22 90 8) = (h 90 8) ∧ (h22 90 13) = (h 90 13) ∧ (h22 90 20) = (h 90 20) ∧ (h22 90 22) = (h 90 22) ∧ (h22 90 25) = (h 90 25) ∧ (h22 90 26) = (h 90 26) ∧ (h22 90 27) = (h 90 27) ∧ (h22 90 28) = (h 90 28) ∧ (h22 90 29) = (h 90 29) ∧ (h22 90 30) = (h 90 30) ∧ (h22 90 34) = (h 90 34) ∧ (h22 90 35) = (h 90 35) ∧ (h22 90 37) = (h 90 37); omega), E24, E25, E26, E27, E28, E29, E30, E31, E32, E33, E34, E35, E36⟩
    · skip
      refine ov_blk (ls2 := [(0, ov_r 90), (1, ov_i m)]) (st2 := [ov_r 90]) (pc2 := 38) b_303_37_1 rfl rfl ?_
      refine ov_getf (v := ov_l (h22 90 43)) d_303_38 fl_Mo_461 (zb_90 I23) (zs_90 I23) rfl ?_
      refine ov_blk (ls2 := [(0, ov_r 90), (1, ov_i m)]) (st2 := [ov_i (ov_lcmp (h22 90 43) 0)]) (pc2 := 43) b_303_41_2 rfl rfl ?_
      have g40 := ov_lcg (h22 90 43) 0
      refine ov_ifne (tgt := 61) d_303_43 (by decide) (by omega) (fun c41 => ?_) (fun c41 => ?_)
      · skip
        refine ov_blk (ls2 := [(0, ov_r 90), (1, ov_i m)]) (st2 := [ov_i 1, ov_i m]) (pc2 := 63) b_303_61_2 rfl rfl ?_
        refine ov_icne (tgt := 72) d_303_63 (by decide) (by omega) (by omega) (fun c42 => ?_) (fun c42 => ?_)
        · skip
          refine ov_blk (ls2 := [(0, ov_r 90), (1, ov_i m), (2, ov_l 0), (4, ov_i 0)]) (st2 := []) (pc2 := 77) b_303_72_4 rfl rfl ?_
          have L46 : ∀ (n43 : Nat) (x2 : Int) (x4 : Int) (q45 : 0 ≤ x4 ∧ x4 ≤ 54), 54 - x4 < (n43 : Int) → ov_R u d ov_m303 77 [(0, ov_r 90), (1, ov_i m), (2, ov_l x2), (4, ov_i x4)] [] z21 h22 (P_Mo_fits_90 F z h m) := by
            intro n43
            induction n43 with
            | zero =>
              intro x2 x4 q45 hn47
              exact absurd hn47 (by omega)
            | succ n43 ih44 =>
              intro x2 x4 q45 hn47
              refine ov_blk (ls2 := [(0, ov_r 90), (1, ov_i m), (2, ov_l x2), (4, ov_i x4)]) (st2 := [ov_i 54, ov_i x4]) (pc2 := 81) b_303_77_2 rfl rfl ?_
              refine ov_icge (tgt := 176) d_303_81 (by decide) (by omega) (by omega) (fun c48 => ?_) (fun c48 => ?_)
              · skip
                refine ov_blk (ls2 := [(0, ov_r 90), (1, ov_i m), (2, ov_l x2), (4, ov_i x4)]) (st2 := [ov_l x2]) (pc2 := 177) b_303_176_1 rfl rfl ?_
                exact ov_retl (st := []) d_303_177 rfl ⟨_, rfl, I23, (by show (h22 90 2) = (h 90 2) ∧ (h22 90 3) = (h 90 3) ∧ (h22 90 7) = (h 90 7) ∧ (h22 90 8) = (h 90 8) ∧ (h22 90 13) = (h 90 13) ∧ (h22 90 20) = (h 90 20) ∧ (h22 90 22) = (h 90 22) ∧ (h22 90 25) = (h 90 25) ∧ (h22 90 26) = (h 90 26) ∧ (h22 90 27) = (h 90 27) ∧ (h22 90 28) = (h 90 28) ∧ (h22 90 29) = (h 90 29) ∧ (h22 90 30) = (h 90 30) ∧ (h22 90 34) = (h 90 34) ∧ (h22 90 35) = (h 90 35) ∧ (h22 90 37) = (h 90 37); omega), E24, E25, E26, E27, E28, E29, E30, E31, E32, E33, E34, E35, E36⟩
              · skip
                refine ov_blk (ls2 := [(0, ov_r 90), (1, ov_i m), (2, ov_l x2), (4, ov_i x4)]) (st2 := [ov_r 90]) (pc2 := 85) b_303_84_1 rfl rfl ?_
                refine ov_getf (v := ov_l (h22 90 45)) d_303_85 fl_Mo_468 (zb_90 I23) (zs_90 I23) rfl ?_
                refine ov_blk (ls2 := [(0, ov_r 90), (1, ov_i m), (2, ov_l x2), (4, ov_i x4)]) (st2 := [ov_i (ov_lcmp (ov_land (ov_lshr (h22 90 45) x4) 1) 1)]) (pc2 := 95) b_303_88_6 rfl rfl ?_
                have g49 := ov_lcg (ov_land (ov_lshr (h22 90 45) x4) 1) 1
                refine ov_ifne (tgt := 130) d_303_95 (by decide) (by omega) (fun c50 => ?_) (fun c50 => ?_)
                · skip
                  refine ov_blk (ls2 := [(0, ov_r 90), (1, ov_i m), (2, ov_l x2), (4, ov_i x4), (5, ov_i 0)]) (st2 := [ov_i 0, ov_l x2]) (pc2 := 136) b_303_130_4 rfl rfl ?_
                  refine ov_ifeq (tgt := 167) d_303_136 (by decide) (by omega) (fun c51 => ?_) (fun c51 => ?_)
                  · skip
                    refine ov_blk (ls2 := [(0, ov_r 90), (1, ov_i m), (2, ov_l (ov_lor x2 0)), (4, ov_i (x4 + 1)), (5, ov_i 0)]) (st2 := []) (pc2 := 173) b_303_167_4 rfl rfl ?_
                    refine ov_goto (tgt := 77) d_303_173 (by decide) ?_
                    refine ov_sub (ls2 := [(0, ov_r 90), (1, ov_i m), (2, ov_l (ov_lor x2 0)), (4, ov_i (x4 + 1))]) (List.Sublist.subset (by repeat (first | exact List.Sublist.refl _ | apply List.Sublist.cons_cons | apply List.Sublist.cons))) ?_
                    exact ih44 (ov_lor x2 0) (x4 + 1) (by show 0 ≤ (x4 + 1) ∧ (x4 + 1) ≤ 54; omega) (by omega)
                  · omega
                · skip
                  refine ov_blk (ls2 := [(0, ov_r 90), (1, ov_i m), (2, ov_l x2), (4, ov_i x4)]) (st2 := [ov_i 6, ov_i x4]) (pc2 := 102) b_303_98_2 rfl rfl ?_
                  refine ov_idiv d_303_102 (by omega) (by omega) (by omega) ?_
                  have g52 := ov_td (a := x4) (b := 6) (by omega)
                  refine ov_blk (ls2 := [(0, ov_r 90), (1, ov_i m), (2, ov_l x2), (4, ov_i x4)]) (st2 := [ov_i 8, ov_i (Int.tdiv x4 6)]) (pc2 := 105) b_303_103_1 rfl rfl ?_
                  refine ov_icge (tgt := 112) d_303_105 (by decide) (by omega) (by omega) (fun c53 => ?_) (fun c53 => ?_)
                  · skip
                    refine ov_blk (ls2 := [(0, ov_r 90), (1, ov_i m), (2, ov_l x2), (4, ov_i x4)]) (st2 := [ov_i 2, ov_i m, ov_i 0]) (pc2 := 115) b_303_112_3 rfl rfl ?_
                    refine ov_icne (tgt := 122) d_303_115 (by decide) (by omega) (by omega) (fun c54 => ?_) (fun c54 => ?_)
                    · skip
                      refine ov_blk (ls2 := [(0, ov_r 90), (1, ov_i m), (2, ov_l x2), (4, ov_i x4)]) (st2 := [ov_i 0, ov_i 0]) (pc2 := 123) b_303_122_1 rfl rfl ?_
                      refine ov_icne (tgt := 130) d_303_123 (by decide) (by omega) (by omega) (fun c55 => ?_) (fun c55 => ?_)
                      · omega
                      · skip
                        refine ov_blk (ls2 := [(0, ov_r 90), (1, ov_i m), (2, ov_l x2), (4, ov_i x4)]) (st2 := [ov_i 1]) (pc2 := 127) b_303_126_1 rfl rfl ?_
                        refine ov_goto (tgt := 131) d_303_127 (by decide) ?_
                        refine ov_blk (ls2 := [(0, ov_r 90), (1, ov_i m), (2, ov_l x2), (4, ov_i x4), (5, ov_i 1)]) (st2 := [ov_i 1, ov_l x2]) (pc2 := 136) b_303_131_3 rfl rfl ?_
                        refine ov_ifeq (tgt := 167) d_303_136 (by decide) (by omega) (fun c56 => ?_) (fun c56 => ?_)
                        · omega
                        · skip
                          refine ov_blk (ls2 := [(0, ov_r 90), (1, ov_i m), (2, ov_l x2), (4, ov_i x4), (5, ov_i 1)]) (st2 := [ov_i 2, ov_i m, ov_l 1, ov_l x2]) (pc2 := 142) b_303_139_3 rfl rfl ?_
                          refine ov_icne (tgt := 156) d_303_142 (by decide) (by omega) (by omega) (fun c57 => ?_) (fun c57 => ?_)
                          · skip
                            refine ov_blk (ls2 := [(0, ov_r 90), (1, ov_i m), (2, ov_l x2), (4, ov_i x4), (5, ov_i 1)]) (st2 := [ov_i 6, ov_i x4, ov_i 0, ov_l 1, ov_l x2]) (pc2 := 161) b_303_156_3 rfl rfl ?_
                            refine ov_irem d_303_161 (by omega) (by omega) (by omega) ?_
                            have g58 := ov_tm (a := x4) (b := 6) (by omega)
                            have g59 := ov_tmg (a := x4) (b := 6) (by omega) (by omega)
                            refine ov_blk (ls2 := [(0, ov_r 90), (1, ov_i m), (2, ov_l x2), (4, ov_i x4), (5, ov_i 1)]) (st2 := [ov_l (ov_lshl 1 (0 + (Int.tmod x4 6))), ov_l x2]) (pc2 := 164) b_303_162_2 rfl rfl ?_
                            refine ov_goto (tgt := 168) d_303_164 (by decide) ?_
                            refine ov_blk (ls2 := [(0, ov_r 90), (1, ov_i m), (2, ov_l (ov_lor x2 (ov_lshl 1 (0 + (Int.tmod x4 6))))), (4, ov_i (x4 + 1)), (5, ov_i 1)]) (st2 := []) (pc2 := 173) b_303_168_3 rfl rfl ?_
                            refine ov_goto (tgt := 77) d_303_173 (by decide) ?_
                            refine ov_sub (ls2 := [(0, ov_r 90), (1, ov_i m), (2, ov_l (ov_lor x2 (ov_lshl 1 (0 + (Int.tmod x4 6))))), (4, ov_i (x4 + 1))]) (List.Sublist.subset (by repeat (first | exact List.Sublist.refl _ | apply List.Sublist.cons_cons | apply List.Sublist.cons))) ?_
                            exact ih44 (ov_lor x2 (ov_lshl 1 (0 + (Int.tmod x4 6)))) (x4 + 1) (by show 0 ≤ (x4 + 1) ∧ (x4 + 1) ≤ 54; omega) (by omega)
                          · skip
                            refine ov_blk (ls2 := [(0, ov_r 90), (1, ov_i m), (2, ov_l x2), (4, ov_i x4), (5, ov_i 1)]) (st2 := [ov_i 6, ov_i x4, ov_i 8, ov_l 1, ov_l x2]) (pc2 := 151) b_303_145_3 rfl rfl ?_
                            refine ov_idiv d_303_151 (by omega) (by omega) (by omega) ?_
                            have g60 := ov_td (a := x4) (b := 6) (by omega)
                            refine ov_blk (ls2 := [(0, ov_r 90), (1, ov_i m), (2, ov_l x2), (4, ov_i x4), (5, ov_i 1)]) (st2 := [ov_i (8 * (Int.tdiv x4 6)), ov_l 1, ov_l x2]) (pc2 := 153) b_303_152_1 rfl rfl ?_
                            refine ov_goto (tgt := 157) d_303_153 (by decide) ?_
                            refine ov_blk (ls2 := [(0, ov_r 90), (1, ov_i m), (2, ov_l x2), (4, ov_i x4), (5, ov_i 1)]) (st2 := [ov_i 6, ov_i x4, ov_i (8 * (Int.tdiv x4 6)), ov_l 1, ov_l x2]) (pc2 := 161) b_303_157_2 rfl rfl ?_
                            refine ov_irem d_303_161 (by omega) (by omega) (by omega) ?_
                            have g61 := ov_tm (a := x4) (b := 6) (by omega)
                            have g62 := ov_tmg (a := x4) (b := 6) (by omega) (by omega)
                            refine ov_blk (ls2 := [(0, ov_r 90), (1, ov_i m), (2, ov_l x2), (4, ov_i x4), (5, ov_i 1)]) (st2 := [ov_l (ov_lshl 1 ((8 * (Int.tdiv x4 6)) + (Int.tmod x4 6))), ov_l x2]) (pc2 := 164) b_303_162_2 rfl rfl ?_
                            refine ov_goto (tgt := 168) d_303_164 (by decide) ?_
                            refine ov_blk (ls2 := [(0, ov_r 90), (1, ov_i m), (2, ov_l (ov_lor x2 (ov_lshl 1 ((8 * (Int.tdiv x4 6)) + (Int.tmod x4 6))))), (4, ov_i (x4 + 1)), (5, ov_i 1)]) (st2 := []) (pc2 := 173) b_303_168_3 rfl rfl ?_
                            refine ov_goto (tgt := 77) d_303_173 (by decide) ?_
                            refine ov_sub (ls2 := [(0, ov_r 90), (1, ov_i m), (2, ov_l (ov_lor x2 (ov_lshl 1 ((8 * (Int.tdiv x4 6)) + (Int.tmod x4 6))))), (4, ov_i (x4 + 1))]) (List.Sublist.subset (by repeat (first | exact List.Sublist.refl _ | apply List.Sublist.cons_cons | apply List.Sublist.cons))) ?_
                            exact ih44 (ov_lor x2 (ov_lshl 1 ((8 * (Int.tdiv x4 6)) + (Int.tmod x4 6)))) (x4 + 1) (by show 0 ≤ (x4 + 1) ∧ (x4 + 1) ≤ 54; omega) (by omega)
                    · skip
                      refine ov_blk (ls2 := [(0, ov_r 90), (1, ov_i m), (2, ov_l x2), (4, ov_i x4)]) (st2 := [ov_i 1, ov_i 0]) (pc2 := 119) b_303_118_1 rfl rfl ?_
                      refine ov_goto (tgt := 123) d_303_119 (by decide) ?_
                      refine ov_icne (tgt := 130) d_303_123 (by decide) (by omega) (by omega) (fun c63 => ?_) (fun c63 => ?_)
                      · skip
                        refine ov_blk (ls2 := [(0, ov_r 90), (1, ov_i m), (2, ov_l x2), (4, ov_i x4), (5, ov_i 0)]) (st2 := [ov_i 0, ov_l x2]) (pc2 := 136) b_303_130_4 rfl rfl ?_
                        refine ov_ifeq (tgt := 167) d_303_136 (by decide) (by omega) (fun c64 => ?_) (fun c64 => ?_)
                        · skip
                          refine ov_blk (ls2 := [(0, ov_r 90), (1, ov_i m), (2, ov_l (ov_lor x2 0)), (4, ov_i (x4 + 1)), (5, ov_i 0)]) (st2 := []) (pc2 := 173) b_303_167_4 rfl rfl ?_
                          refine ov_goto (tgt := 77) d_303_173 (by decide) ?_
                          refine ov_sub (ls2 := [(0, ov_r 90), (1, ov_i m), (2, ov_l (ov_lor x2 0)), (4, ov_i (x4 + 1))]) (List.Sublist.subset (by repeat (first | exact List.Sublist.refl _ | apply List.Sublist.cons_cons | apply List.Sublist.cons))) ?_
                          exact ih44 (ov_lor x2 0) (x4 + 1) (by show 0 ≤ (x4 + 1) ∧ (x4 + 1) ≤ 54; omega) (by omega)
                        · omega
                      · omega
                  · skip
                    refine ov_blk (ls2 := [(0, ov_r 90), (1, ov_i m), (2, ov_l x2), (4, ov_i x4)]) (st2 := [ov_i 1]) (pc2 := 109) b_303_108_1 rfl rfl ?_
                    refine ov_goto (tgt := 113) d_303_109 (by decide) ?_
                    refine ov_blk (ls2 := [(0, ov_r 90), (1, ov_i m), (2, ov_l x2), (4, ov_i x4)]) (st2 := [ov_i 2, ov_i m, ov_i 1]) (pc2 := 115) b_303_113_2 rfl rfl ?_
                    refine ov_icne (tgt := 122) d_303_115 (by decide) (by omega) (by omega) (fun c65 => ?_) (fun c65 => ?_)
                    · skip
                      refine ov_blk (ls2 := [(0, ov_r 90), (1, ov_i m), (2, ov_l x2), (4, ov_i x4)]) (st2 := [ov_i 0, ov_i 1]) (pc2 := 123) b_303_122_1 rfl rfl ?_
                      refine ov_icne (tgt := 130) d_303_123 (by decide) (by omega) (by omega) (fun c66 => ?_) (fun c66 => ?_)
                      · skip
                        refine ov_blk (ls2 := [(0, ov_r 90), (1, ov_i m), (2, ov_l x2), (4, ov_i x4), (5, ov_i 0)]) (st2 := [ov_i 0, ov_l x2]) (pc2 := 136) b_303_130_4 rfl rfl ?_
                        refine ov_ifeq (tgt := 167) d_303_136 (by decide) (by omega) (fun c67 => ?_) (fun c67 => ?_)
                        · skip
                          refine ov_blk (ls2 := [(0, ov_r 90), (1, ov_i m), (2, ov_l (ov_lor x2 0)), (4, ov_i (x4 + 1)), (5, ov_i 0)]) (st2 := []) (pc2 := 173) b_303_167_4 rfl rfl ?_
                          refine ov_goto (tgt := 77) d_303_173 (by decide) ?_
                          refine ov_sub (ls2 := [(0, ov_r 90), (1, ov_i m), (2, ov_l (ov_lor x2 0)), (4, ov_i (x4 + 1))]) (List.Sublist.subset (by repeat (first | exact List.Sublist.refl _ | apply List.Sublist.cons_cons | apply List.Sublist.cons))) ?_
                          exact ih44 (ov_lor x2 0) (x4 + 1) (by show 0 ≤ (x4 + 1) ∧ (x4 + 1) ≤ 54; omega) (by omega)
                        · omega
                      · omega
                    · skip
                      refine ov_blk (ls2 := [(0, ov_r 90), (1, ov_i m), (2, ov_l x2), (4, ov_i x4)]) (st2 := [ov_i 1, ov_i 1]) (pc2 := 119) b_303_118_1 rfl rfl ?_
                      refine ov_goto (tgt := 123) d_303_119 (by decide) ?_
                      refine ov_icne (tgt := 130) d_303_123 (by decide) (by omega) (by omega) (fun c68 => ?_) (fun c68 => ?_)
                      · omega
                      · skip
                        refine ov_blk (ls2 := [(0, ov_r 90), (1, ov_i m), (2, ov_l x2), (4, ov_i x4)]) (st2 := [ov_i 1]) (pc2 := 127) b_303_126_1 rfl rfl ?_
                        refine ov_goto (tgt := 131) d_303_127 (by decide) ?_
                        refine ov_blk (ls2 := [(0, ov_r 90), (1, ov_i m), (2, ov_l x2), (4, ov_i x4), (5, ov_i 1)]) (st2 := [ov_i 1, ov_l x2]) (pc2 := 136) b_303_131_3 rfl rfl ?_
                        refine ov_ifeq (tgt := 167) d_303_136 (by decide) (by omega) (fun c69 => ?_) (fun c69 => ?_)
                        · omega
                        · skip
                          refine ov_blk (ls2 := [(0, ov_r 90), (1, ov_i m), (2, ov_l x2), (4, ov_i x4), (5, ov_i 1)]) (st2 := [ov_i 2, ov_i m, ov_l 1, ov_l x2]) (pc2 := 142) b_303_139_3 rfl rfl ?_
                          refine ov_icne (tgt := 156) d_303_142 (by decide) (by omega) (by omega) (fun c70 => ?_) (fun c70 => ?_)
                          · skip
                            refine ov_blk (ls2 := [(0, ov_r 90), (1, ov_i m), (2, ov_l x2), (4, ov_i x4), (5, ov_i 1)]) (st2 := [ov_i 6, ov_i x4, ov_i 0, ov_l 1, ov_l x2]) (pc2 := 161) b_303_156_3 rfl rfl ?_
                            refine ov_irem d_303_161 (by omega) (by omega) (by omega) ?_
                            have g71 := ov_tm (a := x4) (b := 6) (by omega)
                            have g72 := ov_tmg (a := x4) (b := 6) (by omega) (by omega)
                            refine ov_blk (ls2 := [(0, ov_r 90), (1, ov_i m), (2, ov_l x2), (4, ov_i x4), (5, ov_i 1)]) (st2 := [ov_l (ov_lshl 1 (0 + (Int.tmod x4 6))), ov_l x2]) (pc2 := 164) b_303_162_2 rfl rfl ?_
                            refine ov_goto (tgt := 168) d_303_164 (by decide) ?_
                            refine ov_blk (ls2 := [(0, ov_r 90), (1, ov_i m), (2, ov_l (ov_lor x2 (ov_lshl 1 (0 + (Int.tmod x4 6))))), (4, ov_i (x4 + 1)), (5, ov_i 1)]) (st2 := []) (pc2 := 173) b_303_168_3 rfl rfl ?_
                            refine ov_goto (tgt := 77) d_303_173 (by decide) ?_
                            refine ov_sub (ls2 := [(0, ov_r 90), (1, ov_i m), (2, ov_l (ov_lor x2 (ov_lshl 1 (0 + (Int.tmod x4 6))))), (4, ov_i (x4 + 1))]) (List.Sublist.subset (by repeat (first | exact List.Sublist.refl _ | apply List.Sublist.cons_cons | apply List.Sublist.cons))) ?_
                            exact ih44 (ov_lor x2 (ov_lshl 1 (0 + (Int.tmod x4 6)))) (x4 + 1) (by show 0 ≤ (x4 + 1) ∧ (x4 + 1) ≤ 54; omega) (by omega)
                          · skip
                            refine ov_blk (ls2 := [(0, ov_r 90), (1, ov_i m), (2, ov_l x2), (4, ov_i x4), (5, ov_i 1)]) (st2 := [ov_i 6, ov_i x4, ov_i 8, ov_l 1, ov_l x2]) (pc2 := 151) b_303_145_3 rfl rfl ?_
                            refine ov_idiv d_303_151 (by omega) (by omega) (by omega) ?_
                            have g73 := ov_td (a := x4) (b := 6) (by omega)
                            refine ov_blk (ls2 := [(0, ov_r 90), (1, ov_i m), (2, ov_l x2), (4, ov_i x4), (5, ov_i 1)]) (st2 := [ov_i (8 * (Int.tdiv x4 6)), ov_l 1, ov_l x2]) (pc2 := 153) b_303_152_1 rfl rfl ?_
                            refine ov_goto (tgt := 157) d_303_153 (by decide) ?_
                            refine ov_blk (ls2 := [(0, ov_r 90), (1, ov_i m), (2, ov_l x2), (4, ov_i x4), (5, ov_i 1)]) (st2 := [ov_i 6, ov_i x4, ov_i (8 * (Int.tdiv x4 6)), ov_l 1, ov_l x2]) (pc2 := 161) b_303_157_2 rfl rfl ?_
                            refine ov_irem d_303_161 (by omega) (by omega) (by omega) ?_
                            have g74 := ov_tm (a := x4) (b := 6) (by omega)
                            have g75 := ov_tmg (a := x4) (b := 6) (by omega) (by omega)
                            refine ov_blk (ls2 := [(0, ov_r 90), (1, ov_i m), (2, ov_l x2), (4, ov_i x4), (5, ov_i 1)]) (st2 := [ov_l (ov_lshl 1 ((8 * (Int.tdiv x4 6)) + (Int.tmod x4 6))), ov_l x2]) (pc2 := 164) b_303_162_2 rfl rfl ?_
                            refine ov_goto (tgt := 168) d_303_164 (by decide) ?_
                            refine ov_blk (ls2 := [(0, ov_r 90), (1, ov_i m), (2, ov_l (ov_lor x2 (ov_lshl 1 ((8 * (Int.tdiv x4 6)) + (Int.tmod x4 6))))), (4, ov_i (x4 + 1)), (5, ov_i 1)]) (st2 := []) (pc2 := 173) b_303_168_3 rfl rfl ?_
                            refine ov_goto (tgt := 77) d_303_173 (by decide) ?_
                            refine ov_sub (ls2 := [(0, ov_r 90), (1, ov_i m), (2, ov_l (ov_lor x2 (ov_lshl 1 ((8 * (Int.tdiv x4 6)) + (Int.tmod x4 6))))), (4, ov_i (x4 + 1))]) (List.Sublist.subset (by repeat (first | exact List.Sublist.refl _ | apply List.Sublist.cons_cons | apply List.Sublist.cons))) ?_
                            exact ih44 (ov_lor x2 (ov_lshl 1 ((8 * (Int.tdiv x4 6)) + (Int.tmod x4 6)))) (x4 + 1) (by show 0 ≤ (x4 + 1) ∧ (x4 + 1) ≤ 54; omega) (by omega)
          exact L46 55 0 0 (by show 0 ≤ 0 ∧ 0 ≤ 54; omega) (by omega)
        · skip
          refine ov_blk (ls2 := [(0, ov_r 90), (1, ov_i m)]) (st2 := [ov_r 90]) (pc2 := 67) b_303_66_1 rfl rfl ?_
          refine ov_getf (v := ov_i (h22 90 44)) d_303_67 fl_Mo_465 (zb_90 I23) (zs_90 I23) rfl ?_
          have g76 := rg_90_44 I23
          refine ov_blk (ls2 := [(0, ov_r 90), (1, ov_i m)]) (st2 := [ov_l (ov_w (h22 90 44))]) (pc2 := 71) b_303_70_1 rfl rfl ?_
          have g77 := ov_wg (h22 90 44)
          have g78 := ov_wq (h22 90 44)
          exact ov_retl (st := []) d_303_71 rfl ⟨_, rfl, I23, (by show (h22 90 2) = (h 90 2) ∧ (h22 90 3) = (h 90 3) ∧ (h22 90 7) = (h 90 7) ∧ (h22 90 8) = (h 90 8) ∧ (h22 90 13) = (h 90 13) ∧ (h22 90 20) = (h 90 20) ∧ (h22 90 22) = (h 90 22) ∧ (h22 90 25) = (h 90 25) ∧ (h22 90 26) = (h 90 26) ∧ (h22 90 27) = (h 90 27) ∧ (h22 90 28) = (h 90 28) ∧ (h22 90 29) = (h 90 29) ∧ (h22 90 30) = (h 90 30) ∧ (h22 90 34) = (h 90 34) ∧ (h22 90 35) = (h 90 35) ∧ (h22 90 37) = (h 90 37); omega), E24, E25, E26, E27, E28, E29, E30, E31, E32, E33, E34, E35, E36⟩
      · skip
        refine ov_blk (ls2 := [(0, ov_r 90), (1, ov_i m)]) (st2 := [ov_i m]) (pc2 := 47) b_303_46_1 rfl rfl ?_
        refine ov_ifne (tgt := 57) d_303_47 (by decide) (by omega) (fun c79 => ?_) (fun c79 => ?_)
        · skip
          refine ov_ldc2 (n := (-1)) d_303_57 kc_Mo_433 ?_
          exact ov_retl (st := []) d_303_60 rfl ⟨_, rfl, I23, (by show (h22 90 2) = (h 90 2) ∧ (h22 90 3) = (h 90 3) ∧ (h22 90 7) = (h 90 7) ∧ (h22 90 8) = (h 90 8) ∧ (h22 90 13) = (h 90 13) ∧ (h22 90 20) = (h 90 20) ∧ (h22 90 22) = (h 90 22) ∧ (h22 90 25) = (h 90 25) ∧ (h22 90 26) = (h 90 26) ∧ (h22 90 27) = (h 90 27) ∧ (h22 90 28) = (h 90 28) ∧ (h22 90 29) = (h 90 29) ∧ (h22 90 30) = (h 90 30) ∧ (h22 90 34) = (h 90 34) ∧ (h22 90 35) = (h 90 35) ∧ (h22 90 37) = (h 90 37); omega), E24, E25, E26, E27, E28, E29, E30, E31, E32, E33, E34, E35, E36⟩
        · skip
          refine ov_blk (ls2 := [(0, ov_r 90), (1, ov_i m)]) (st2 := [ov_r 90]) (pc2 := 51) b_303_50_1 rfl rfl ?_
          refine ov_getf (v := ov_l (h22 90 43)) d_303_51 fl_Mo_461 (zb_90 I23) (zs_90 I23) rfl ?_
          refine ov_goto (tgt := 60) d_303_54 (by decide) ?_
          exact ov_retl (st := []) d_303_60 rfl ⟨_, rfl, I23, (by show (h22 90 2) = (h 90 2) ∧ (h22 90 3) = (h 90 3) ∧ (h22 90 7) = (h 90 7) ∧ (h22 90 8) = (h 90 8) ∧ (h22 90 13) = (h 90 13) ∧ (h22 90 20) = (h 90 20) ∧ (h22 90 22) = (h 90 22) ∧ (h22 90 25) = (h 90 25) ∧ (h22 90 26) = (h 90 26) ∧ (h22 90 27) = (h 90 27) ∧ (h22 90 28) = (h 90 28) ∧ (h22 90 29) = (h 90 29) ∧ (h22 90 30) = (h 90 30) ∧ (h22 90 34) = (h 90 34) ∧ (h22 90 35) = (h 90 35) ∧ (h22 90 37) = (h 90 37); omega), E24, E25, E26, E27, E28, E29, E30, E31, E32, E33, E34, E35, E36⟩
  · skip
    refine ov_ldc2 (n := (-1)) d_303_14 kc_Mo_433 ?_
    exact ov_retl (st := []) d_303_17 rfl ⟨_, rfl, I1, (by show (h 90 2) = (h 90 2) ∧ (h 90 3) = (h 90 3) ∧ (h 90 7) = (h 90 7) ∧ (h 90 8) = (h 90 8) ∧ (h 90 13) = (h 90 13) ∧ (h 90 20) = (h 90 20) ∧ (h 90 22) = (h 90 22) ∧ (h 90 25) = (h 90 25) ∧ (h 90 26) = (h 90 26) ∧ (h 90 27) = (h 90 27) ∧ (h 90 28) = (h 90 28) ∧ (h 90 29) = (h 90 29) ∧ (h 90 30) = (h 90 30) ∧ (h 90 34) = (h 90 34) ∧ (h 90 35) = (h 90 35) ∧ (h 90 37) = (h 90 37); omega), rfl, rfl, rfl, rfl, rfl, rfl, rfl, rfl, rfl, rfl, rfl, rfl, rfl⟩

abbrev P_Mo_night_90 (F : ov_H × ov_Z) (z : ov_Z) (h : ov_H) (go : Int) (wt : Int) (sf : Int) (sm : Int) : Option ov_V → ov_Z → ov_H → Prop := fun r0 z' h' => ∃ r : Int, r0 = some (ov_i r) ∧ ov_N F z' h' ∧ ((h' 90 2) = (h 90 2) ∧ (h' 90 7) = (h 90 7) ∧ (h' 90 8) = (h 90 8) ∧ (h' 90 13) = (h 90 13) ∧ (h' 90 20) = (h 90 20) ∧ (h' 90 22) = (h 90 22) ∧ (h' 90 25) = (h 90 25) ∧ (h' 90 26) = (h 90 26) ∧ (h' 90 28) = (h 90 28) ∧ (h' 90 29) = (h 90 29) ∧ (h' 90 30) = (h 90 30) ∧ (h' 90 34) = (h 90 34) ∧ 0 ≤ r ∧ r ≤ 1157) ∧ h' 92 = h 92 ∧ h' 93 = h 93 ∧ h' 94 = h 94 ∧ h' 95 = h 95 ∧ h' 96 = h 96 ∧ h' 97 = h 97 ∧ h' 98 = h 98 ∧ h' 99 = h 99 ∧ h' 100 = h 100 ∧ h' 103 = h 103 ∧ h' 109 = h 109 ∧ h' 114 = h 114 ∧ (ov_MI (h 96) (h 103) (h 97) (h 98) go wt sf sm (h' 105) (h' 106))
set_option maxHeartbeats 4000000 in
theorem c_Mo_night_90 {u : ov_U} {F : ov_H × ov_Z} (go : Int) (wt : Int) (sf : Int) (sm : Int) {z : ov_Z} {h : ov_H} (d : Nat) (hd : 90 ≤ d) (U : ov_cap u) (I : ov_N F z h) (p0 : wt = -1) (p1 : (h 90 26) = go) (p2 : (h 90 29) = wt) (p3 : (h 90 30) = sf) (p4 : (h 90 25) = sm) (p5 : 0 ≤ go ∧ go ≤ 3 + (h 96 8)) (W : ov_WT (h 96)) (CD : ov_CD (h 96) (h 97) (h 98)) (MI : ov_MI (h 96) (h 103) (h 97) (h 98) go wt sf sm (h 105) (h 106)) (GN : ov_go (h 96) (h 103) (h 97) (h 98) go wt sf 0 0 (0 % (h 96 9))) (SD : ∀ c : Int, 0 ≤ c → c ≤ 53 → ¬ ((h 96) (10 + 4 * c) = 2 ∧ ¬ (h 103) (4 + c) = 1) → (h 114) c = 0) : ov_T u d ov_m310 [ov_r 90] z h (P_Mo_night_90 F z h go wt sf sm) := by
  refine ov_en rfl (Nat.le_of_ble_eq_true rfl) ?_
  show ov_R u d ov_m310 0 [(0, ov_r 90)] [] z h (P_Mo_night_90 F z h go wt sf sm)
  have t0 := t96_0 I
  have t1 := t96_1 I
  have t2 := t96_2 I
  have t8 := t96_8 I
  have t9 := t96_9 I
  refine ov_blk (ls2 := [(0, ov_r 90), (1, ov_i 0), (2, ov_i 0), (3, ov_i 0)]) (st2 := []) (pc2 := 6) b_310_0_6 rfl rfl ?_
  have L4 : ∀ (n1 : Nat) (x1 : Int) (x2 : Int) (x3 : Int) (z5 : ov_Z) (h6 : ov_H) (I7 : ov_N F z5 h6) (E8 : h6 92 = h 92) (E9 : h6 93 = h 93) (E10 : h6 94 = h 94) (E11 : h6 95 = h 95) (E12 : h6 96 = h 96) (E13 : h6 97 = h 97) (E14 : h6 98 = h 98) (E15 : h6 99 = h 99) (E16 : h6 100 = h 100) (E17 : h6 103 = h 103) (E18 : h6 109 = h 109) (E19 : h6 114 = h 114) (xm : ov_MI (h 96) (h 103) (h 97) (h 98) go wt sf sm (h6 105) (h6 106)) (xg : ov_go (h 96) (h 103) (h 97) (h 98) go wt sf x1 x2 (x3 % (h 96 9))) (q3 : 0 ≤ x1 ∧ x1 < (h 96 0) ∧ 0 ≤ x2 ∧ x2 < (h 96 1) ∧ 0 ≤ x3 ∧ x3 ≤ 89 * (x1 + x2) ∧ (h6 90 2) = (h 90 2) ∧ (h6 90 7) = (h 90 7) ∧ (h6 90 8) = (h 90 8) ∧ (h6 90 13) = (h 90 13) ∧ (h6 90 20) = (h 90 20) ∧ (h6 90 22) = (h 90 22) ∧ (h6 90 25) = (h 90 25) ∧ (h6 90 26) = (h 90 26) ∧ (h6 90 28) = (h 90 28) ∧ (h6 90 29) = (h 90 29) ∧ (h6 90 30) = (h 90 30) ∧ (h6 90 34) = (h 90 34)), 14 - x1 - x2 < (n1 : Int) → ov_R u d ov_m310 6 [(0, ov_r 90), (1, ov_i x1), (2, ov_i x2), (3, ov_i x3)] [] z5 h6 (P_Mo_night_90 F z h go wt sf sm) := by
    intro n1
    induction n1 with
    | zero =>
      intro x1 x2 x3 z5 h6 I7 E8 E9 E10 E11 E12 E13 E14 E15 E16 E17 E18 E19 xm xg q3 hn20
      exact absurd hn20 (by omega)
    | succ n1 ih2 =>
      intro x1 x2 x3 z5 h6 I7 E8 E9 E10 E11 E12 E13 E14 E15 E16 E17 E18 E19 xm xg q3 hn20
      refine ov_blk (ls2 := [(0, ov_r 90), (1, ov_i x1), (2, ov_i x2), (3, ov_i x3)]) (st2 := [ov_i x2, ov_i x1, ov_r 90]) (pc2 := 9) b_310_6_3 rfl rfl ?_
      refine ov_cV (as := [ov_i x1, ov_i x2]) (st := []) (d2 := d - 1) d_310_9 lk_Mo_335 rfl (Nat.le_of_ble_eq_true rfl) (c := 1) (zb_90 I7) (zs_90 I7) ⟨by decide, rfl⟩ (by omega) (c_Mo_isHome_90 (d - 1) (by omega) U I7 x1 x2 (by omega) (by omega) (by omega)) ?_
      rintro _ _ _ ⟨v22, rfl, rfl, rfl, f21⟩
      show ov_R u d ov_m310 12 [(0, ov_r 90), (1, ov_i x1), (2, ov_i x2), (3, ov_i x3)] [ov_i v22] z5 h6 (P_Mo_night_90 F z h go wt sf sm)
      rw [show h6 96 = h 96 from E12] at f21
      have f23 : (v22 = 0 ∨ v22 = 1) ∧ (v22 = 1 → x1 = (h 96 0) - 1 ∧ x2 = (h 96 1) - 1) ∧ (v22 = 0 → ¬ (x1 = (h 96 0) - 1 ∧ x2 = (h 96 1) - 1)) := f21
      clear f21
      refine ov_ifne (tgt := 84) d_310_12 (by decide) (by omega) (fun c24 => ?_) (fun c24 => ?_)
      · skip
        have f23_ : v22 = 1 := by omega
        have f25 : x1 = (h 96 0) - 1 ∧ x2 = (h 96 1) - 1 := f23.2.1 (by omega)
        clear f23
        refine ov_blk (ls2 := [(0, ov_r 90), (1, ov_i x1), (2, ov_i x2), (3, ov_i x3)]) (st2 := [ov_i x3]) (pc2 := 85) b_310_84_1 rfl rfl ?_
        exact ov_reti (st := []) d_310_85 rfl ⟨_, rfl, I7, (by show (h6 90 2) = (h 90 2) ∧ (h6 90 7) = (h 90 7) ∧ (h6 90 8) = (h 90 8) ∧ (h6 90 13) = (h 90 13) ∧ (h6 90 20) = (h 90 20) ∧ (h6 90 22) = (h 90 22) ∧ (h6 90 25) = (h 90 25) ∧ (h6 90 26) = (h 90 26) ∧ (h6 90 28) = (h 90 28) ∧ (h6 90 29) = (h 90 29) ∧ (h6 90 30) = (h 90 30) ∧ (h6 90 34) = (h 90 34) ∧ 0 ≤ x3 ∧ x3 ≤ 1157; omega), E8, E9, E10, E11, E12, E13, E14, E15, E16, E17, E18, E19, xm⟩
      · skip
        have f23_ : v22 = 0 := by omega
        have f26 : ¬ (x1 = (h 96 0) - 1 ∧ x2 = (h 96 1) - 1) := f23.2.2 (by omega)
        clear f23
        refine ov_blk (ls2 := [(0, ov_r 90), (1, ov_i x1), (2, ov_i x2), (3, ov_i x3)]) (st2 := [ov_r 90, ov_i x3]) (pc2 := 17) b_310_15_2 rfl rfl ?_
        refine ov_getf (v := ov_r 114) d_310_17 fl_Mo_144 (zb_90 I7) (zs_90 I7) (congrArg ov_r (rg_90_47 I7)) ?_
        refine ov_blk (ls2 := [(0, ov_r 90), (1, ov_i x1), (2, ov_i x2), (3, ov_i x3)]) (st2 := [ov_i ((6 * x2) + x1), ov_r 114, ov_i x3]) (pc2 := 26) b_310_20_5 rfl rfl ?_
        refine ov_iald d_310_26 (zb_114 I7) (zs_114 I7) (by omega) ?_
        rw [show h6 114 = h 114 from E19]
        have g27 := ra_114 I ((6 * x2) + x1)
        refine ov_blk (ls2 := [(0, ov_r 90), (1, ov_i x1), (2, ov_i x2), (3, ov_i x3), (4, ov_i (x3 + (h 114 ((6 * x2) + x1))))]) (st2 := [ov_r 90, ov_i x3, ov_i x2, ov_i x1, ov_r 90]) (pc2 := 35) b_310_27_7 rfl rfl ?_
        refine ov_getf (v := ov_r 96) d_310_35 fl_Mo_81 (zb_90 I7) (zs_90 I7) (congrArg ov_r (rg_90_10 I7)) ?_
        refine ov_blk (ls2 := [(0, ov_r 90), (1, ov_i x1), (2, ov_i x2), (3, ov_i x3), (4, ov_i (x3 + (h 114 ((6 * x2) + x1))))]) (st2 := [ov_i 9, ov_r 96, ov_i x3, ov_i x2, ov_i x1, ov_r 90]) (pc2 := 40) b_310_38_1 rfl rfl ?_
        refine ov_iald d_310_40 (zb_96 I7) (zs_96 I7) (by omega) ?_
        rw [show h6 96 = h 96 from E12]
        have g28 := t96_9 I
        have gt1 := ov_tmv (x := x3) (y := (h 96 9)) (by omega) (by omega)
        have gt2 : Int.tmod x3 (h 96 9) = x3 % (h 96 9) := ov_tm (by omega)
        have go1 : ov_go (h 96) (h 103) (h 97) (h 98) go wt sf x1 x2 (Int.tmod x3 (h 96 9)) := by rw [gt2]; exact xg
        have w1 := ov_WT_at W (c := 6 * x2 + x1) (by omega)
        have gq : ov_gs (h 96) (h 97) (h 98) (ov_go (h 96) (h 103) (h 97) (h 98) go wt sf) go x1 x2 (Int.tmod x3 (h 96 9)) (x3 + (h 114 ((6 * x2) + x1))) := ov_ngs W (by omega) (by omega) (by omega) (by omega) gt2 (SD (6 * x2 + x1) (by omega) (by omega)) go1
        refine ov_irem d_310_41 (by omega) (by omega) (by omega) ?_
        have g29 := ov_tmg (a := x3) (b := (h 96 9)) (by omega) (by omega)
        refine ov_blk (ls2 := [(0, ov_r 90), (1, ov_i x1), (2, ov_i x2), (3, ov_i x3), (4, ov_i (x3 + (h 114 ((6 * x2) + x1))))]) (st2 := [ov_i (x3 + (h 114 ((6 * x2) + x1))), ov_i (Int.tmod x3 (h 96 9)), ov_i x2, ov_i x1, ov_r 90]) (pc2 := 44) b_310_42_1 rfl rfl ?_
        have cf30 : h6 96 (0) = h 96 (0) := congrFun E12 (0)
        have cf31 : h6 96 (1) = h 96 (1) := congrFun E12 (1)
        have cf32 : h6 96 (9) = h 96 (9) := congrFun E12 (9)
        have cf33 : h6 96 (8) = h 96 (8) := congrFun E12 (8)
        refine ov_cV (as := [ov_i x1, ov_i x2, ov_i (Int.tmod x3 (h 96 9)), ov_i (x3 + (h 114 ((6 * x2) + x1)))]) (st := []) (d2 := d - 1) d_310_44 lk_Mo_371 rfl (Nat.le_of_ble_eq_true rfl) (c := 1) (zb_90 I7) (zs_90 I7) ⟨by decide, rfl⟩ (by omega) (c_Mo_wayOf_90_all go wt sf sm (Int.toNat (13 - (x1) - (x2))) (d - 1) (by omega) U I7 x1 x2 (Int.tmod x3 (h 96 9)) (x3 + (h 114 ((6 * x2) + x1))) (by omega) (by omega) (by omega) (by omega) (by omega) (by show x1 < (h6 96 0) ∧ x2 < (h6 96 1); omega) (by omega) (by show 0 ≤ (Int.tmod x3 (h 96 9)) ∧ (Int.tmod x3 (h 96 9)) < (h6 96 9); omega) (by omega) (by show (h6 90 26) = go; omega) (by show (h6 90 29) = wt; omega) (by show (h6 90 30) = sf; omega) (by show (h6 90 25) = sm; omega) (by show 0 ≤ go ∧ go ≤ 3 + (h6 96 8); omega) (by rw [show h6 96 = h 96 from E12]; exact W) (by rw [show h6 96 = h 96 from E12, show h6 97 = h 97 from E13, show h6 98 = h 98 from E14]; exact CD) (by rw [show h6 96 = h 96 from E12, show h6 103 = h 103 from E17, show h6 97 = h 97 from E13, show h6 98 = h 98 from E14]; exact xm)) ?_
        rintro _ z50 h51 ⟨v35, rfl, I52, f34, e36, e37, e38, e39, e40, e41, e42, e43, e44, e45, e46, e47, y48, y49⟩
        have E53 : h51 92 = h 92 := Eq.trans e36 E8
        have E54 : h51 93 = h 93 := Eq.trans e37 E9
        have E55 : h51 94 = h 94 := Eq.trans e38 E10
        have E56 : h51 95 = h 95 := Eq.trans e39 E11
        have E57 : h51 96 = h 96 := Eq.trans e40 E12
        have E58 : h51 97 = h 97 := Eq.trans e41 E13
        have E59 : h51 98 = h 98 := Eq.trans e42 E14
        have E60 : h51 99 = h 99 := Eq.trans e43 E15
        have E61 : h51 100 = h 100 := Eq.trans e44 E16
        have E62 : h51 103 = h 103 := Eq.trans e45 E17
        have E63 : h51 109 = h 109 := Eq.trans e46 E18
        have E64 : h51 114 = h 114 := Eq.trans e47 E19
        show ov_R u d ov_m310 47 [(0, ov_r 90), (1, ov_i x1), (2, ov_i x2), (3, ov_i x3), (4, ov_i (x3 + (h 114 ((6 * x2) + x1))))] [ov_i v35] z50 h51 (P_Mo_night_90 F z h go wt sf sm)
        have f65 : (h51 90 2) = (h6 90 2) ∧ (h51 90 7) = (h6 90 7) ∧ (h51 90 8) = (h6 90 8) ∧ (h51 90 13) = (h6 90 13) ∧ (h51 90 20) = (h6 90 20) ∧ (h51 90 22) = (h6 90 22) ∧ (h51 90 25) = (h6 90 25) ∧ (h51 90 26) = (h6 90 26) ∧ (h51 90 28) = (h6 90 28) ∧ (h51 90 29) = (h6 90 29) ∧ (h51 90 30) = (h6 90 30) ∧ (h51 90 34) = (h6 90 34) ∧ -1 ≤ v35 ∧ v35 ≤ 1 := f34
        clear f34
        rw [show h6 103 = h 103 from E17] at y48
        rw [show h6 96 = h 96 from E12] at y48
        rw [show h6 97 = h 97 from E13] at y48
        rw [show h6 98 = h 98 from E14] at y48
        have y48_ : ov_MI (h 96) (h 103) (h 97) (h 98) go wt sf sm (h51 105) (h51 106) := y48
        rw [show h6 103 = h 103 from E17] at y49
        rw [show h6 96 = h 96 from E12] at y49
        rw [show h6 97 = h 97 from E13] at y49
        rw [show h6 98 = h 98 from E14] at y49
        have y49_ : ov_wf (h 96) (h 97) (h 98) (ov_go (h 96) (h 103) (h 97) (h 98) go wt sf) go x1 x2 (Int.tmod x3 (h 96 9)) (x3 + (h 114 ((6 * x2) + x1))) v35 := y49
        have r0 : 0 ≤ v35 := if c : 0 ≤ v35 then c else absurd gq (ov_wf_no y49_ (by omega))
        have cg := (ov_cgi_sp (h 96) x1 x2 v35).2 (y49_.1 r0)
        have gn := (ov_wf_gs y49_ r0).mpr gq
        refine ov_blk (ls2 := [(0, ov_r 90), (1, ov_i x1), (2, ov_i x2), (3, ov_i x3), (4, ov_i (x3 + (h 114 ((6 * x2) + x1)))), (5, ov_i v35)]) (st2 := [ov_i (x3 + (h 114 ((6 * x2) + x1))), ov_i v35, ov_i x2, ov_i x1, ov_r 90, ov_i x3]) (pc2 := 57) b_310_47_7 rfl rfl ?_
        have cf66 : h51 96 (10 + 4 * (6 * x2 + x1)) = h 96 (10 + 4 * (6 * x2 + x1)) := congrFun E57 (10 + 4 * (6 * x2 + x1))
        have cf67 : h51 96 (10 + 4 * (6 * x2 + x1) + 3) = h 96 (10 + 4 * (6 * x2 + x1) + 3) := congrFun E57 (10 + 4 * (6 * x2 + x1) + 3)
        have cf68 : h51 96 (10 + 4 * (6 * x2 + x1) + 1) = h 96 (10 + 4 * (6 * x2 + x1) + 1) := congrFun E57 (10 + 4 * (6 * x2 + x1) + 1)
        refine ov_cV (as := [ov_i x1, ov_i x2, ov_i v35, ov_i (x3 + (h 114 ((6 * x2) + x1)))]) (st := [ov_i x3]) (d2 := d - 1) d_310_57 lk_Mo_315 rfl (Nat.le_of_ble_eq_true rfl) (c := 1) (zb_90 I52) (zs_90 I52) ⟨by decide, rfl⟩ (by omega) (c_Mo_waitFor_90 (d - 1) (by omega) U I52 x1 x2 v35 (x3 + (h 114 ((6 * x2) + x1))) (by omega) (by omega) (by omega) (by omega) (by omega) (by omega) (by omega) (by show (((h51 96 (10 + 4 * (6 * x2 + x1))) = 1 ∨ (h51 96 (10 + 4 * (6 * x2 + x1))) = 2) → (v35 = 0 → 0 < (h51 96 (10 + 4 * (6 * x2 + x1) + 3))) ∧ (¬ v35 = 0 → (h51 96 (10 + 4 * (6 * x2 + x1) + 3)) < (h51 96 (10 + 4 * (6 * x2 + x1) + 1)))); omega) (by rw [show h51 96 = h 96 from E57]; exact W)) ?_
        rintro _ _ _ ⟨v70, rfl, rfl, rfl, f69⟩
        show ov_R u d ov_m310 60 [(0, ov_r 90), (1, ov_i x1), (2, ov_i x2), (3, ov_i x3), (4, ov_i (x3 + (h 114 ((6 * x2) + x1)))), (5, ov_i v35)] [ov_i v70, ov_i x3] z50 h51 (P_Mo_night_90 F z h go wt sf sm)
        rw [show h51 96 = h 96 from E57] at f69
        have f71 : 0 ≤ v70 ∧ v70 ≤ 59 ∧ v70 = ov_wm (h 96) (6 * x2 + x1) v35 (x3 + (h 114 ((6 * x2) + x1))) := f69
        clear f69
        refine ov_blk (ls2 := [(0, ov_r 90), (1, ov_i x1), (2, ov_i x2), (3, ov_i x3), (4, ov_i (x3 + (h 114 ((6 * x2) + x1)))), (5, ov_i v35)]) (st2 := [ov_r 90, ov_i v70, ov_i x3]) (pc2 := 61) b_310_60_1 rfl rfl ?_
        refine ov_getf (v := ov_r 96) d_310_61 fl_Mo_81 (zb_90 I52) (zs_90 I52) (congrArg ov_r (rg_90_10 I52)) ?_
        refine ov_blk (ls2 := [(0, ov_r 90), (1, ov_i x1), (2, ov_i x2), (3, ov_i x3), (4, ov_i (x3 + (h 114 ((6 * x2) + x1)))), (5, ov_i v35)]) (st2 := [ov_i 2, ov_r 96, ov_i v70, ov_i x3]) (pc2 := 65) b_310_64_1 rfl rfl ?_
        refine ov_iald d_310_65 (zb_96 I52) (zs_96 I52) (by omega) ?_
        rw [show h51 96 = h 96 from E57]
        have g72 := t96_2 I
        refine ov_blk (ls2 := [(0, ov_r 90), (1, ov_i (x1 + (1 - v35))), (2, ov_i (x2 + v35)), (3, ov_i (x3 + (v70 + (h 96 2)))), (4, ov_i (x3 + (h 114 ((6 * x2) + x1)))), (5, ov_i v35)]) (st2 := []) (pc2 := 81) b_310_66_13 rfl rfl ?_
        refine ov_goto (tgt := 6) d_310_81 (by decide) ?_
        refine ov_sub (ls2 := [(0, ov_r 90), (1, ov_i (x1 + (1 - v35))), (2, ov_i (x2 + v35)), (3, ov_i (x3 + (v70 + (h 96 2))))]) (List.Sublist.subset (by repeat (first | exact List.Sublist.refl _ | apply List.Sublist.cons_cons | apply List.Sublist.cons))) ?_
        have xe : v70 = ov_wm (h 96) (6 * x2 + x1) v35 (x3 + (h 114 ((6 * x2) + x1))) := by omega
        have xg2 : ov_go (h 96) (h 103) (h 97) (h 98) go wt sf (x1 + (1 - v35)) (x2 + v35) ((x3 + (v70 + (h 96 2))) % h 96 9) := by rw [show (x1 + (1 - v35)) = x1 + 1 - v35 by omega, xe, ov_nxb gt2]; exact gn
        exact ih2 (x1 + (1 - v35)) (x2 + v35) (x3 + (v70 + (h 96 2))) _ _ I52 E53 E54 E55 E56 E57 E58 E59 E60 E61 E62 E63 E64 y48_ xg2 (by show 0 ≤ (x1 + (1 - v35)) ∧ (x1 + (1 - v35)) < (h 96 0) ∧ 0 ≤ (x2 + v35) ∧ (x2 + v35) < (h 96 1) ∧ 0 ≤ (x3 + (v70 + (h 96 2))) ∧ (x3 + (v70 + (h 96 2))) ≤ 89 * ((x1 + (1 - v35)) + (x2 + v35)) ∧ (h51 90 2) = (h 90 2) ∧ (h51 90 7) = (h 90 7) ∧ (h51 90 8) = (h 90 8) ∧ (h51 90 13) = (h 90 13) ∧ (h51 90 20) = (h 90 20) ∧ (h51 90 22) = (h 90 22) ∧ (h51 90 25) = (h 90 25) ∧ (h51 90 26) = (h 90 26) ∧ (h51 90 28) = (h 90 28) ∧ (h51 90 29) = (h 90 29) ∧ (h51 90 30) = (h 90 30) ∧ (h51 90 34) = (h 90 34); omega) (by omega)
  exact L4 15 0 0 0 _ _ I rfl rfl rfl rfl rfl rfl rfl rfl rfl rfl rfl rfl MI GN (by show 0 ≤ 0 ∧ 0 < (h 96 0) ∧ 0 ≤ 0 ∧ 0 < (h 96 1) ∧ 0 ≤ 0 ∧ 0 ≤ 89 * (0 + 0) ∧ (h 90 2) = (h 90 2) ∧ (h 90 7) = (h 90 7) ∧ (h 90 8) = (h 90 8) ∧ (h 90 13) = (h 90 13) ∧ (h 90 20) = (h 90 20) ∧ (h 90 22) = (h 90 22) ∧ (h 90 25) = (h 90 25) ∧ (h 90 26) = (h 90 26) ∧ (h 90 28) = (h 90 28) ∧ (h 90 29) = (h 90 29) ∧ (h 90 30) = (h 90 30) ∧ (h 90 34) = (h 90 34); omega) (by omega)
abbrev P_Mo_nights_90 (F : ov_H × ov_Z) (z : ov_Z) (h : ov_H) (sd : Int) (m : Int) (ge : Int) (w : Int) : Option ov_V → ov_Z → ov_H → Prop := fun r0 z' h' => ∃ r : Int, r0 = some (ov_i r) ∧ ov_N F z' h' ∧ ((h' 90 2) = (h 90 2) ∧ (h' 90 7) = (h 90 7) ∧ (h' 90 8) = (h 90 8) ∧ (h' 90 13) = (h 90 13) ∧ (h' 90 20) = (h 90 20) ∧ (h' 90 22) = (h 90 22) ∧ (h' 90 34) = (h 90 34) ∧ (h 90 25) ≤ (h' 90 25) ∧ (h' 90 25) ≤ (h 90 25) + 1 ∧ -2147483648 ≤ r ∧ r ≤ 2147483647) ∧ h' 92 = h 92 ∧ h' 93 = h 93 ∧ h' 94 = h 94 ∧ h' 95 = h 95 ∧ h' 96 = h 96 ∧ h' 97 = h 97 ∧ h' 98 = h 98 ∧ h' 99 = h 99 ∧ h' 100 = h 100 ∧ h' 103 = h 103 ∧ h' 109 = h 109 ∧ (ov_PM (h 96) (h 103) (h 97) (h 98) (h' 105) (h' 106) (h' 90 22) (h' 90 25) (h' 90 26) (h' 90 28) (h' 90 29) (h' 90 30))
set_option maxHeartbeats 4000000 in
theorem c_Mo_nights_90 {u : ov_U} {F : ov_H × ov_Z} {z : ov_Z} {h : ov_H} (d : Nat) (hd : 110 ≤ d) (U : ov_cap u) (I : ov_N F z h) (sd : Int) (m : Int) (ge : Int) (w : Int) (g_sd : ov_g sd) (g_m : ov_g m) (g_ge : ov_g ge) (g_w : ov_g w) (p0 : 0 ≤ (h 90 25) ∧ (h 90 25) ≤ 1000000000) (W : ov_WT (h 96)) (CD : ov_CD (h 96) (h 97) (h 98)) (PM : ov_PM (h 96) (h 103) (h 97) (h 98) (h 105) (h 106) (h 90 22) (h 90 25) (h 90 26) (h 90 28) (h 90 29) (h 90 30)) : ov_T u d ov_m307 [ov_r 90, ov_i sd, ov_i m, ov_i ge, ov_i w] z h (P_Mo_nights_90 F z h sd m ge w) := by
  refine ov_en rfl (Nat.le_of_ble_eq_true rfl) ?_
  show ov_R u d ov_m307 0 [(0, ov_r 90), (1, ov_i sd), (2, ov_i m), (3, ov_i ge), (4, ov_i w)] [] z h (P_Mo_nights_90 F z h sd m ge w)
  have t0 := t96_0 I
  have t1 := t96_1 I
  have t8 := t96_8 I
  have t9 := t96_9 I
  refine ov_blk (ls2 := [(0, ov_r 90), (1, ov_i sd), (2, ov_i m), (3, ov_i ge), (4, ov_i w)]) (st2 := [ov_i 0, ov_r 90]) (pc2 := 2) b_307_0_2 rfl rfl ?_
  refine ov_putf (x := 0) d_307_2 fl_Mo_1 (zb_90 I) (zs_90 I) rfl nk_0 rfl ?_
  have I1 := up_90_0 (x := 0) I (by omega)
  refine ov_blk (ls2 := [(0, ov_r 90), (1, ov_i sd), (2, ov_i m), (3, ov_i ge), (4, ov_i w)]) (st2 := [ov_i 9999, ov_i 0, ov_i sd]) (pc2 := 10) b_307_5_3 rfl rfl ?_
  refine ov_cS (as := [ov_i sd, ov_i 0, ov_i 9999]) (st := []) (d2 := d - 1) d_307_10 lk_Mo_299 rfl (Nat.le_of_ble_eq_true rfl) (by omega) (c_Mo_within (d - 1) (by omega) U I1 sd 0 9999 (by omega) (by omega) (by omega)) ?_
  rintro _ _ _ ⟨v3, rfl, rfl, rfl, f2⟩
  show ov_R u d ov_m307 13 [(0, ov_r 90), (1, ov_i sd), (2, ov_i m), (3, ov_i ge), (4, ov_i w)] [ov_i v3] z (ov_up h 90 0 0) (P_Mo_nights_90 F z h sd m ge w)
  have f4 : (v3 = 0 ∨ v3 = 1) ∧ (v3 = 1 → (0 : Int) ≤ sd ∧ sd ≤ (9999 : Int)) ∧ (v3 = 0 → sd < (0 : Int) ∨ (9999 : Int) < sd) := f2
  clear f2
  refine ov_ifeq (tgt := 44) d_307_13 (by decide) (by omega) (fun c5 => ?_) (fun c5 => ?_)
  · skip
    have f4_ : v3 = 0 := by omega
    have f6 : sd < (0 : Int) ∨ (9999 : Int) < sd := f4.2.2 (by omega)
    clear f4
    refine ov_blk (ls2 := [(0, ov_r 90), (1, ov_i sd), (2, ov_i m), (3, ov_i ge), (4, ov_i w)]) (st2 := [ov_i (-1)]) (pc2 := 45) b_307_44_1 rfl rfl ?_
    exact ov_reti (st := []) d_307_45 rfl ⟨_, rfl, I1, ⟨rfl, rfl, rfl, rfl, rfl, rfl, rfl, (by show (h 90 25) ≤ (h 90 25) ∧ (h 90 25) ≤ (h 90 25) + 1 ∧ -2147483648 ≤ (-1) ∧ (-1) ≤ 2147483647; omega)⟩, rfl, rfl, rfl, rfl, rfl, rfl, rfl, rfl, rfl, rfl, rfl, PM⟩
  · skip
    have f4_ : v3 = 1 := by omega
    have f7 : (0 : Int) ≤ sd ∧ sd ≤ (9999 : Int) := f4.2.1 (by omega)
    clear f4
    refine ov_blk (ls2 := [(0, ov_r 90), (1, ov_i sd), (2, ov_i m), (3, ov_i ge), (4, ov_i w)]) (st2 := [ov_i 30, ov_i 1, ov_i m]) (pc2 := 20) b_307_16_3 rfl rfl ?_
    refine ov_cS (as := [ov_i m, ov_i 1, ov_i 30]) (st := []) (d2 := d - 1) d_307_20 lk_Mo_299 rfl (Nat.le_of_ble_eq_true rfl) (by omega) (c_Mo_within (d - 1) (by omega) U I1 m 1 30 (by omega) (by omega) (by omega)) ?_
    rintro _ _ _ ⟨v9, rfl, rfl, rfl, f8⟩
    show ov_R u d ov_m307 23 [(0, ov_r 90), (1, ov_i sd), (2, ov_i m), (3, ov_i ge), (4, ov_i w)] [ov_i v9] z (ov_up h 90 0 0) (P_Mo_nights_90 F z h sd m ge w)
    have f10 : (v9 = 0 ∨ v9 = 1) ∧ (v9 = 1 → (1 : Int) ≤ m ∧ m ≤ (30 : Int)) ∧ (v9 = 0 → m < (1 : Int) ∨ (30 : Int) < m) := f8
    clear f8
    refine ov_ifeq (tgt := 44) d_307_23 (by decide) (by omega) (fun c11 => ?_) (fun c11 => ?_)
    · skip
      have f10_ : v9 = 0 := by omega
      have f12 : m < (1 : Int) ∨ (30 : Int) < m := f10.2.2 (by omega)
      clear f10
      refine ov_blk (ls2 := [(0, ov_r 90), (1, ov_i sd), (2, ov_i m), (3, ov_i ge), (4, ov_i w)]) (st2 := [ov_i (-1)]) (pc2 := 45) b_307_44_1 rfl rfl ?_
      exact ov_reti (st := []) d_307_45 rfl ⟨_, rfl, I1, ⟨rfl, rfl, rfl, rfl, rfl, rfl, rfl, (by show (h 90 25) ≤ (h 90 25) ∧ (h 90 25) ≤ (h 90 25) + 1 ∧ -2147483648 ≤ (-1) ∧ (-1) ≤ 2147483647; omega)⟩, rfl, rfl, rfl, rfl, rfl, rfl, rfl, rfl, rfl, rfl, rfl, PM⟩
    · skip
      have f10_ : v9 = 1 := by omega
      have f13 : (1 : Int) ≤ m ∧ m ≤ (30 : Int) := f10.2.1 (by omega)
      clear f10
      refine ov_blk (ls2 := [(0, ov_r 90), (1, ov_i sd), (2, ov_i m), (3, ov_i ge), (4, ov_i w)]) (st2 := [ov_i ge, ov_r 90]) (pc2 := 28) b_307_26_2 rfl rfl ?_
      refine ov_cV (as := [ov_i ge]) (st := []) (d2 := d - 1) d_307_28 lk_Mo_383 rfl (Nat.le_of_ble_eq_true rfl) (c := 1) (zb_90 I1) (zs_90 I1) ⟨by decide, rfl⟩ (by omega) (c_Mo_isGoer_90 (d - 1) (by omega) U I1 ge (by omega)) ?_
      rintro _ _ _ ⟨v15, rfl, rfl, rfl, f14⟩
      show ov_R u d ov_m307 31 [(0, ov_r 90), (1, ov_i sd), (2, ov_i m), (3, ov_i ge), (4, ov_i w)] [ov_i v15] z (ov_up h 90 0 0) (P_Mo_nights_90 F z h sd m ge w)
      have f16 : (v15 = 0 ∨ v15 = 1) ∧ (v15 = 1 → 0 ≤ ge ∧ ge ≤ 3 + (h 96 8)) := f14
      clear f14
      refine ov_ifeq (tgt := 44) d_307_31 (by decide) (by omega) (fun c17 => ?_) (fun c17 => ?_)
      · skip
        have f16_ : v15 = 0 := by omega
        clear f16
        refine ov_blk (ls2 := [(0, ov_r 90), (1, ov_i sd), (2, ov_i m), (3, ov_i ge), (4, ov_i w)]) (st2 := [ov_i (-1)]) (pc2 := 45) b_307_44_1 rfl rfl ?_
        exact ov_reti (st := []) d_307_45 rfl ⟨_, rfl, I1, ⟨rfl, rfl, rfl, rfl, rfl, rfl, rfl, (by show (h 90 25) ≤ (h 90 25) ∧ (h 90 25) ≤ (h 90 25) + 1 ∧ -2147483648 ≤ (-1) ∧ (-1) ≤ 2147483647; omega)⟩, rfl, rfl, rfl, rfl, rfl, rfl, rfl, rfl, rfl, rfl, rfl, PM⟩
      · skip
        have f16_ : v15 = 1 := by omega
        have f18 : 0 ≤ ge ∧ ge ≤ 3 + (h 96 8) := f16.2 (by omega)
        clear f16
        refine ov_blk (ls2 := [(0, ov_r 90), (1, ov_i sd), (2, ov_i m), (3, ov_i ge), (4, ov_i w)]) (st2 := [ov_i 1, ov_i 0, ov_i w]) (pc2 := 38) b_307_34_3 rfl rfl ?_
        refine ov_cS (as := [ov_i w, ov_i 0, ov_i 1]) (st := []) (d2 := d - 1) d_307_38 lk_Mo_299 rfl (Nat.le_of_ble_eq_true rfl) (by omega) (c_Mo_within (d - 1) (by omega) U I1 w 0 1 (by omega) (by omega) (by omega)) ?_
        rintro _ _ _ ⟨v20, rfl, rfl, rfl, f19⟩
        show ov_R u d ov_m307 41 [(0, ov_r 90), (1, ov_i sd), (2, ov_i m), (3, ov_i ge), (4, ov_i w)] [ov_i v20] z (ov_up h 90 0 0) (P_Mo_nights_90 F z h sd m ge w)
        have f21 : (v20 = 0 ∨ v20 = 1) ∧ (v20 = 1 → (0 : Int) ≤ w ∧ w ≤ (1 : Int)) ∧ (v20 = 0 → w < (0 : Int) ∨ (1 : Int) < w) := f19
        clear f19
        refine ov_ifne (tgt := 46) d_307_41 (by decide) (by omega) (fun c22 => ?_) (fun c22 => ?_)
        · skip
          have f21_ : v20 = 1 := by omega
          have f23 : (0 : Int) ≤ w ∧ w ≤ (1 : Int) := f21.2.1 (by omega)
          clear f21
          refine ov_blk (ls2 := [(0, ov_r 90), (1, ov_i sd), (2, ov_i m), (3, ov_i ge), (4, ov_i w)]) (st2 := [ov_i 0, ov_i (-1), ov_i 0, ov_i ge, ov_r 90]) (pc2 := 51) b_307_46_5 rfl rfl ?_
          refine ov_cV (as := [ov_i ge, ov_i 0, ov_i (-1), ov_i 0]) (st := []) (d2 := d - 1) d_307_51 lk_Mo_389 rfl (Nat.le_of_ble_eq_true rfl) (c := 1) (zb_90 I1) (zs_90 I1) ⟨by decide, rfl⟩ (by omega) (c_Mo_asks_90 (d - 1) (by omega) U I1 ge 0 (-1) 0 (by omega) (by omega) (by omega) (by omega) (by omega) (by omega) (by omega) (by show 0 ≤ (h 90 25) ∧ (h 90 25) ≤ 2000000000; omega)) ?_
          rintro _ z39 h40 ⟨rfl, I41, f24, e25, e26, e27, e28, e29, e30, e31, e32, e33, e34, e35, e36, e37, e38⟩
          have E42 : h40 92 = h 92 := e25
          have E43 : h40 93 = h 93 := e26
          have E44 : h40 94 = h 94 := e27
          have E45 : h40 95 = h 95 := e28
          have E46 : h40 96 = h 96 := e29
          have E47 : h40 97 = h 97 := e30
          have E48 : h40 98 = h 98 := e31
          have E49 : h40 99 = h 99 := e32
          have E50 : h40 100 = h 100 := e33
          have E51 : h40 103 = h 103 := e34
          have E52 : h40 105 = h 105 := e35
          have E53 : h40 106 = h 106 := e36
          have E54 : h40 109 = h 109 := e37
          have E55 : h40 114 = h 114 := e38
          show ov_R u d ov_m307 54 [(0, ov_r 90), (1, ov_i sd), (2, ov_i m), (3, ov_i ge), (4, ov_i w)] [] z39 h40 (P_Mo_nights_90 F z h sd m ge w)
          have f56 : (h40 90 2) = (h 90 2) ∧ (h40 90 7) = (h 90 7) ∧ (h40 90 8) = (h 90 8) ∧ (h40 90 13) = (h 90 13) ∧ (h40 90 20) = (h 90 20) ∧ (h40 90 22) = (h 90 22) ∧ (h40 90 34) = (h 90 34) ∧ (h40 90 26) = ge ∧ (h40 90 27) = (0 : Int) ∧ (h40 90 28) = (h 90 22) ∧ (h40 90 29) = ((-1) : Int) ∧ (h40 90 30) = (0 : Int) ∧ (((h40 90 25) = (h 90 25) + 1) ∨ ((h40 90 25) = (h 90 25) ∧ (h 90 26) = ge ∧ (h 90 27) = (0 : Int) ∧ (h 90 28) = (h 90 22) ∧ (h 90 29) = ((-1) : Int) ∧ (h 90 30) = (0 : Int))) := f24
          clear f24
          have mi57 : ov_MI (h 96) (h 103) (h 97) (h 98) ge (-1) 0 (h40 90 25) (h 105) (h 106) := ov_PM_ask PM (by omega)
          refine ov_blk (ls2 := [(0, ov_r 90), (1, ov_i sd), (2, ov_i m), (3, ov_i ge), (4, ov_i w)]) (st2 := [ov_i 0, ov_i 0, ov_i 0, ov_r 90]) (pc2 := 58) b_307_54_4 rfl rfl ?_
          have cf58 : h40 96 (0) = h 96 (0) := congrFun E46 (0)
          have cf59 : h40 96 (1) = h 96 (1) := congrFun E46 (1)
          have cf60 : h40 96 (8) = h 96 (8) := congrFun E46 (8)
          refine ov_cV (as := [ov_i 0, ov_i 0, ov_i 0]) (st := []) (d2 := d - 1) d_307_58 lk_Mo_377 rfl (Nat.le_of_ble_eq_true rfl) (c := 1) (zb_90 I41) (zs_90 I41) ⟨by decide, rfl⟩ (by omega) (c_Mo_worthFrom_90_all ge ((-1)) 0 ((h40 90 25)) (Int.toNat (13 - (0) - (0))) (d - 1) (by omega) U I41 0 0 0 (by omega) (by omega) (by omega) (by omega) (by show (0 : Int) < (h40 96 0) ∧ (0 : Int) < (h40 96 1); omega) (by omega) (by omega) (by show (h40 90 26) = ge; omega) (by show (h40 90 29) = ((-1) : Int); omega) (by show (h40 90 30) = (0 : Int); omega) (by show (h40 90 25) = (h40 90 25); omega) (by show 0 ≤ ge ∧ ge ≤ 3 + (h40 96 8); omega) (by rw [show h40 96 = h 96 from E46]; exact W) (by rw [show h40 96 = h 96 from E46, show h40 97 = h 97 from E47, show h40 98 = h 98 from E48]; exact CD) (by rw [show h40 96 = h 96 from E46, show h40 103 = h 103 from E51, show h40 97 = h 97 from E47, show h40 98 = h 98 from E48, show h40 105 = h 105 from E52, show h40 106 = h 106 from E53]; exact mi57)) ?_
          rintro _ z77 h78 ⟨v62, rfl, I79, f61, e63, e64, e65, e66, e67, e68, e69, e70, e71, e72, e73, e74, y75, y76⟩
          have E80 : h78 92 = h 92 := Eq.trans e63 E42
          have E81 : h78 93 = h 93 := Eq.trans e64 E43
          have E82 : h78 94 = h 94 := Eq.trans e65 E44
          have E83 : h78 95 = h 95 := Eq.trans e66 E45
          have E84 : h78 96 = h 96 := Eq.trans e67 E46
          have E85 : h78 97 = h 97 := Eq.trans e68 E47
          have E86 : h78 98 = h 98 := Eq.trans e69 E48
          have E87 : h78 99 = h 99 := Eq.trans e70 E49
          have E88 : h78 100 = h 100 := Eq.trans e71 E50
          have E89 : h78 103 = h 103 := Eq.trans e72 E51
          have E90 : h78 109 = h 109 := Eq.trans e73 E54
          have E91 : h78 114 = h 114 := Eq.trans e74 E55
          show ov_R u d ov_m307 61 [(0, ov_r 90), (1, ov_i sd), (2, ov_i m), (3, ov_i ge), (4, ov_i w)] [ov_i v62] z77 h78 (P_Mo_nights_90 F z h sd m ge w)
          have f92 : (h78 90 2) = (h40 90 2) ∧ (h78 90 7) = (h40 90 7) ∧ (h78 90 8) = (h40 90 8) ∧ (h78 90 13) = (h40 90 13) ∧ (h78 90 20) = (h40 90 20) ∧ (h78 90 22) = (h40 90 22) ∧ (h78 90 25) = (h40 90 25) ∧ (h78 90 26) = (h40 90 26) ∧ (h78 90 28) = (h40 90 28) ∧ (h78 90 29) = (h40 90 29) ∧ (h78 90 30) = (h40 90 30) ∧ (h78 90 34) = (h40 90 34) ∧ -1 ≤ v62 ∧ v62 ≤ 89000 * (13 - (0 : Int) - (0 : Int)) := f61
          clear f61
          rw [show h40 103 = h 103 from E51] at y75
          rw [show h40 96 = h 96 from E46] at y75
          rw [show h40 97 = h 97 from E47] at y75
          rw [show h40 98 = h 98 from E48] at y75
          have y75_ : ov_MI (h 96) (h 103) (h 97) (h 98) ge ((-1) : Int) (0 : Int) (h40 90 25) (h78 105) (h78 106) := y75
          rw [show h40 103 = h 103 from E51] at y76
          rw [show h40 96 = h 96 from E46] at y76
          rw [show h40 97 = h 97 from E47] at y76
          rw [show h40 98 = h 98 from E48] at y76
          have y76_ : (0 ≤ v62 ↔ ov_go (h 96) (h 103) (h 97) (h 98) ge ((-1) : Int) (0 : Int) (0 : Int) (0 : Int) ((0 : Int) % (h 96 9))) := y76
          refine ov_ifge (tgt := 66) d_307_61 (by decide) (by omega) (fun c93 => ?_) (fun c93 => ?_)
          · skip
            refine ov_blk (ls2 := [(0, ov_r 90), (1, ov_i sd), (2, ov_i m), (3, ov_i ge), (4, ov_i w)]) (st2 := [ov_l (ov_w sd), ov_r 90]) (pc2 := 69) b_307_66_3 rfl rfl ?_
            have g94 := ov_wg sd
            have g95 := ov_wq sd
            refine ov_putf (x := (ov_w sd)) d_307_69 fl_Mo_471 (zb_90 I79) (zs_90 I79) rfl nk_1 rfl ?_
            have I96 := up_90_46 (x := (ov_w sd)) I79 (by omega)
            have gn0 : ov_go (h 96) (h 103) (h 97) (h 98) ge (-1) 0 0 0 (0 % h 96 9) := y76_.mp (by omega)
            refine ov_blk (ls2 := [(0, ov_r 90), (1, ov_i sd), (2, ov_i m), (3, ov_i ge), (4, ov_i w), (5, ov_i 0), (6, ov_i 0), (7, ov_i 0)]) (st2 := []) (pc2 := 81) b_307_72_6 rfl rfl ?_
            have L100 : ∀ (n97 : Nat) (x5 : Int) (x6 : Int) (x7 : Int) (z101 : ov_Z) (h102 : ov_H) (I103 : ov_N F z101 h102) (E104 : h102 92 = h 92) (E105 : h102 93 = h 93) (E106 : h102 94 = h 94) (E107 : h102 95 = h 95) (E108 : h102 96 = h 96) (E109 : h102 97 = h 97) (E110 : h102 98 = h 98) (E111 : h102 99 = h 99) (E112 : h102 100 = h 100) (E113 : h102 103 = h 103) (E114 : h102 109 = h 109) (xm : ov_MI (h 96) (h 103) (h 97) (h 98) ge (-1) 0 (h40 90 25) (h102 105) (h102 106)) (q99 : 0 ≤ x7 ∧ x7 ≤ 30 ∧ 0 ≤ x5 ∧ x5 ≤ 1157 * x7 ∧ 0 ≤ x6 ∧ x6 ≤ 1157 ∧ (h102 90 2) = (h78 90 2) ∧ (h102 90 7) = (h78 90 7) ∧ (h102 90 8) = (h78 90 8) ∧ (h102 90 13) = (h78 90 13) ∧ (h102 90 20) = (h78 90 20) ∧ (h102 90 22) = (h78 90 22) ∧ (h102 90 25) = (h78 90 25) ∧ (h102 90 26) = (h78 90 26) ∧ (h102 90 28) = (h78 90 28) ∧ (h102 90 29) = (h78 90 29) ∧ (h102 90 30) = (h78 90 30) ∧ (h102 90 34) = (h78 90 34)), 30 - x7 < (n97 : Int) → ov_R u d ov_m307 81 [(0, ov_r 90), (1, ov_i sd), (2, ov_i m), (3, ov_i ge), (4, ov_i w), (5, ov_i x5), (6, ov_i x6), (7, ov_i x7)] [] z101 h102 (P_Mo_nights_90 F z h sd m ge w) := by
              intro n97
              induction n97 with
              | zero =>
                intro x5 x6 x7 z101 h102 I103 E104 E105 E106 E107 E108 E109 E110 E111 E112 E113 E114 xm q99 hn115
                exact absurd hn115 (by omega)
              | succ n97 ih98 =>
                intro x5 x6 x7 z101 h102 I103 E104 E105 E106 E107 E108 E109 E110 E111 E112 E113 E114 xm q99 hn115
                refine ov_blk (ls2 := [(0, ov_r 90), (1, ov_i sd), (2, ov_i m), (3, ov_i ge), (4, ov_i w), (5, ov_i x5), (6, ov_i x6), (7, ov_i x7)]) (st2 := [ov_i m, ov_i x7]) (pc2 := 84) b_307_81_2 rfl rfl ?_
                refine ov_icge (tgt := 126) d_307_84 (by decide) (by omega) (by omega) (fun c116 => ?_) (fun c116 => ?_)
                · skip
                  refine ov_blk (ls2 := [(0, ov_r 90), (1, ov_i sd), (2, ov_i m), (3, ov_i ge), (4, ov_i w), (5, ov_i x5), (6, ov_i x6), (7, ov_i x7)]) (st2 := [ov_i w]) (pc2 := 128) b_307_126_1 rfl rfl ?_
                  refine ov_ifne (tgt := 136) d_307_128 (by decide) (by omega) (fun c117 => ?_) (fun c117 => ?_)
                  · skip
                    refine ov_blk (ls2 := [(0, ov_r 90), (1, ov_i sd), (2, ov_i m), (3, ov_i ge), (4, ov_i w), (5, ov_i x5), (6, ov_i x6), (7, ov_i x7)]) (st2 := [ov_i x6]) (pc2 := 138) b_307_136_1 rfl rfl ?_
                    have pm118 : ov_PM (h 96) (h 103) (h 97) (h 98) (h102 105) (h102 106) (h102 90 22) (h102 90 25) (h102 90 26) (h102 90 28) (h102 90 29) (h102 90 30) := ov_PM_mi xm (by omega) (by omega) (by omega) (by omega) (by omega) (by omega)
                    exact ov_reti (st := []) d_307_138 rfl ⟨_, rfl, I103, (by show (h102 90 2) = (h 90 2) ∧ (h102 90 7) = (h 90 7) ∧ (h102 90 8) = (h 90 8) ∧ (h102 90 13) = (h 90 13) ∧ (h102 90 20) = (h 90 20) ∧ (h102 90 22) = (h 90 22) ∧ (h102 90 34) = (h 90 34) ∧ (h 90 25) ≤ (h102 90 25) ∧ (h102 90 25) ≤ (h 90 25) + 1 ∧ -2147483648 ≤ x6 ∧ x6 ≤ 2147483647; omega), E104, E105, E106, E107, E108, E109, E110, E111, E112, E113, E114, pm118⟩
                  · skip
                    refine ov_blk (ls2 := [(0, ov_r 90), (1, ov_i sd), (2, ov_i m), (3, ov_i ge), (4, ov_i w), (5, ov_i x5), (6, ov_i x6), (7, ov_i x7)]) (st2 := [ov_i x5]) (pc2 := 133) b_307_131_1 rfl rfl ?_
                    refine ov_goto (tgt := 138) d_307_133 (by decide) ?_
                    have pm119 : ov_PM (h 96) (h 103) (h 97) (h 98) (h102 105) (h102 106) (h102 90 22) (h102 90 25) (h102 90 26) (h102 90 28) (h102 90 29) (h102 90 30) := ov_PM_mi xm (by omega) (by omega) (by omega) (by omega) (by omega) (by omega)
                    exact ov_reti (st := []) d_307_138 rfl ⟨_, rfl, I103, (by show (h102 90 2) = (h 90 2) ∧ (h102 90 7) = (h 90 7) ∧ (h102 90 8) = (h 90 8) ∧ (h102 90 13) = (h 90 13) ∧ (h102 90 20) = (h 90 20) ∧ (h102 90 22) = (h 90 22) ∧ (h102 90 34) = (h 90 34) ∧ (h 90 25) ≤ (h102 90 25) ∧ (h102 90 25) ≤ (h 90 25) + 1 ∧ -2147483648 ≤ x5 ∧ x5 ≤ 2147483647; omega), E104, E105, E106, E107, E108, E109, E110, E111, E112, E113, E114, pm119⟩
                · skip
                  refine ov_blk (ls2 := [(0, ov_r 90), (1, ov_i sd), (2, ov_i m), (3, ov_i ge), (4, ov_i w), (5, ov_i x5), (6, ov_i x6), (7, ov_i x7)]) (st2 := [ov_r 90]) (pc2 := 88) b_307_87_1 rfl rfl ?_
                  refine ov_cV (as := []) (st := []) (d2 := d - 1) d_307_88 lk_Mo_485 rfl (Nat.le_of_ble_eq_true rfl) (c := 1) (zb_90 I103) (zs_90 I103) ⟨by decide, rfl⟩ (by omega) (c_Mo_draws_90 (d - 1) (by omega) U I103 (by rw [show h102 96 = h 96 from E108]; exact W)) ?_
                  rintro _ z135 h136 ⟨rfl, I137, f120, e121, e122, e123, e124, e125, e126, e127, e128, e129, e130, e131, e132, e133, y134⟩
                  have E138 : h136 92 = h 92 := Eq.trans e121 E104
                  have E139 : h136 93 = h 93 := Eq.trans e122 E105
                  have E140 : h136 94 = h 94 := Eq.trans e123 E106
                  have E141 : h136 95 = h 95 := Eq.trans e124 E107
                  have E142 : h136 96 = h 96 := Eq.trans e125 E108
                  have E143 : h136 97 = h 97 := Eq.trans e126 E109
                  have E144 : h136 98 = h 98 := Eq.trans e127 E110
                  have E145 : h136 99 = h 99 := Eq.trans e128 E111
                  have E146 : h136 100 = h 100 := Eq.trans e129 E112
                  have E147 : h136 103 = h 103 := Eq.trans e130 E113
                  have E148 : h136 105 = h102 105 := e131
                  have E149 : h136 106 = h102 106 := e132
                  have E150 : h136 109 = h 109 := Eq.trans e133 E114
                  show ov_R u d ov_m307 91 [(0, ov_r 90), (1, ov_i sd), (2, ov_i m), (3, ov_i ge), (4, ov_i w), (5, ov_i x5), (6, ov_i x6), (7, ov_i x7)] [] z135 h136 (P_Mo_nights_90 F z h sd m ge w)
                  have f151 : (h136 90 2) = (h102 90 2) ∧ (h136 90 7) = (h102 90 7) ∧ (h136 90 8) = (h102 90 8) ∧ (h136 90 13) = (h102 90 13) ∧ (h136 90 20) = (h102 90 20) ∧ (h136 90 22) = (h102 90 22) ∧ (h136 90 25) = (h102 90 25) ∧ (h136 90 26) = (h102 90 26) ∧ (h136 90 28) = (h102 90 28) ∧ (h136 90 29) = (h102 90 29) ∧ (h136 90 30) = (h102 90 30) ∧ (h136 90 34) = (h102 90 34) := f120
                  clear f120
                  rw [show h102 103 = h 103 from E113] at y134
                  rw [show h102 96 = h 96 from E108] at y134
                  have y134_ : ∀ c : Int, 0 ≤ c → c ≤ 53 → ¬ ((h 96) (10 + 4 * c) = 2 ∧ ¬ (h 103) (4 + c) = 1) → (h136 114) c = 0 := y134
                  refine ov_blk (ls2 := [(0, ov_r 90), (1, ov_i sd), (2, ov_i m), (3, ov_i ge), (4, ov_i w), (5, ov_i x5), (6, ov_i x6), (7, ov_i x7)]) (st2 := [ov_r 90]) (pc2 := 92) b_307_91_1 rfl rfl ?_
                  have cf152 : h136 96 (8) = h 96 (8) := congrFun E142 (8)
                  refine ov_cV (as := []) (st := []) (d2 := d - 1) d_307_92 lk_Mo_488 rfl (Nat.le_of_ble_eq_true rfl) (c := 1) (zb_90 I137) (zs_90 I137) ⟨by decide, rfl⟩ (by omega) (c_Mo_night_90 ge ((-1)) 0 ((h40 90 25)) (d - 1) (by omega) U I137 (by omega) (by show (h136 90 26) = ge; omega) (by show (h136 90 29) = ((-1) : Int); omega) (by show (h136 90 30) = (0 : Int); omega) (by show (h136 90 25) = (h40 90 25); omega) (by show 0 ≤ ge ∧ ge ≤ 3 + (h136 96 8); omega) (by rw [show h136 96 = h 96 from E142]; exact W) (by rw [show h136 96 = h 96 from E142, show h136 97 = h 97 from E143, show h136 98 = h 98 from E144]; exact CD) (by rw [show h136 96 = h 96 from E142, show h136 103 = h 103 from E147, show h136 97 = h 97 from E143, show h136 98 = h 98 from E144, show h136 105 = h102 105 from E148, show h136 106 = h102 106 from E149]; exact xm) (by rw [show h136 96 = h 96 from E142, show h136 103 = h 103 from E147, show h136 97 = h 97 from E143, show h136 98 = h 98 from E144]; exact gn0) (by rw [show h136 96 = h 96 from E142, show h136 103 = h 103 from E147]; exact y134_)) ?_
                  rintro _ z168 h169 ⟨v154, rfl, I170, f153, e155, e156, e157, e158, e159, e160, e161, e162, e163, e164, e165, e166, y167⟩
                  have E171 : h169 92 = h 92 := Eq.trans e155 E138
                  have E172 : h169 93 = h 93 := Eq.trans e156 E139
                  have E173 : h169 94 = h 94 := Eq.trans e157 E140
                  have E174 : h169 95 = h 95 := Eq.trans e158 E141
                  have E175 : h169 96 = h 96 := Eq.trans e159 E142
                  have E176 : h169 97 = h 97 := Eq.trans e160 E143
                  have E177 : h169 98 = h 98 := Eq.trans e161 E144
                  have E178 : h169 99 = h 99 := Eq.trans e162 E145
                  have E179 : h169 100 = h 100 := Eq.trans e163 E146
                  have E180 : h169 103 = h 103 := Eq.trans e164 E147
                  have E181 : h169 109 = h 109 := Eq.trans e165 E150
                  have E182 : h169 114 = h136 114 := e166
                  show ov_R u d ov_m307 95 [(0, ov_r 90), (1, ov_i sd), (2, ov_i m), (3, ov_i ge), (4, ov_i w), (5, ov_i x5), (6, ov_i x6), (7, ov_i x7)] [ov_i v154] z168 h169 (P_Mo_nights_90 F z h sd m ge w)
                  have f183 : (h169 90 2) = (h136 90 2) ∧ (h169 90 7) = (h136 90 7) ∧ (h169 90 8) = (h136 90 8) ∧ (h169 90 13) = (h136 90 13) ∧ (h169 90 20) = (h136 90 20) ∧ (h169 90 22) = (h136 90 22) ∧ (h169 90 25) = (h136 90 25) ∧ (h169 90 26) = (h136 90 26) ∧ (h169 90 28) = (h136 90 28) ∧ (h169 90 29) = (h136 90 29) ∧ (h169 90 30) = (h136 90 30) ∧ (h169 90 34) = (h136 90 34) ∧ 0 ≤ v154 ∧ v154 ≤ 1157 := f153
                  clear f153
                  rw [show h136 103 = h 103 from E147] at y167
                  rw [show h136 96 = h 96 from E142] at y167
                  rw [show h136 97 = h 97 from E143] at y167
                  rw [show h136 98 = h 98 from E144] at y167
                  have y167_ : ov_MI (h 96) (h 103) (h 97) (h 98) ge ((-1) : Int) (0 : Int) (h40 90 25) (h169 105) (h169 106) := y167
                  refine ov_blk (ls2 := [(0, ov_r 90), (1, ov_i sd), (2, ov_i m), (3, ov_i ge), (4, ov_i w), (5, ov_i (x5 + v154)), (6, ov_i x6), (7, ov_i x7), (8, ov_i v154)]) (st2 := [ov_i x6, ov_i v154]) (pc2 := 108) b_307_95_7 rfl rfl ?_
                  refine ov_icle (tgt := 116) d_307_108 (by decide) (by omega) (by omega) (fun c184 => ?_) (fun c184 => ?_)
                  · skip
                    refine ov_blk (ls2 := [(0, ov_r 90), (1, ov_i sd), (2, ov_i m), (3, ov_i ge), (4, ov_i w), (5, ov_i (x5 + v154)), (6, ov_i x6), (7, ov_i (x7 + 1)), (8, ov_i v154)]) (st2 := []) (pc2 := 123) b_307_116_3 rfl rfl ?_
                    refine ov_goto (tgt := 81) d_307_123 (by decide) ?_
                    refine ov_sub (ls2 := [(0, ov_r 90), (1, ov_i sd), (2, ov_i m), (3, ov_i ge), (4, ov_i w), (5, ov_i (x5 + v154)), (6, ov_i x6), (7, ov_i (x7 + 1))]) (List.Sublist.subset (by repeat (first | exact List.Sublist.refl _ | apply List.Sublist.cons_cons | apply List.Sublist.cons))) ?_
                    exact ih98 (x5 + v154) x6 (x7 + 1) _ _ I170 E171 E172 E173 E174 E175 E176 E177 E178 E179 E180 E181 y167_ (by show 0 ≤ (x7 + 1) ∧ (x7 + 1) ≤ 30 ∧ 0 ≤ (x5 + v154) ∧ (x5 + v154) ≤ 1157 * (x7 + 1) ∧ 0 ≤ x6 ∧ x6 ≤ 1157 ∧ (h169 90 2) = (h78 90 2) ∧ (h169 90 7) = (h78 90 7) ∧ (h169 90 8) = (h78 90 8) ∧ (h169 90 13) = (h78 90 13) ∧ (h169 90 20) = (h78 90 20) ∧ (h169 90 22) = (h78 90 22) ∧ (h169 90 25) = (h78 90 25) ∧ (h169 90 26) = (h78 90 26) ∧ (h169 90 28) = (h78 90 28) ∧ (h169 90 29) = (h78 90 29) ∧ (h169 90 30) = (h78 90 30) ∧ (h169 90 34) = (h78 90 34); omega) (by omega)
                  · skip
                    refine ov_blk (ls2 := [(0, ov_r 90), (1, ov_i sd), (2, ov_i m), (3, ov_i ge), (4, ov_i w), (5, ov_i (x5 + v154)), (6, ov_i x6), (7, ov_i x7), (8, ov_i v154)]) (st2 := [ov_i v154]) (pc2 := 113) b_307_111_1 rfl rfl ?_
                    refine ov_goto (tgt := 118) d_307_113 (by decide) ?_
                    refine ov_blk (ls2 := [(0, ov_r 90), (1, ov_i sd), (2, ov_i m), (3, ov_i ge), (4, ov_i w), (5, ov_i (x5 + v154)), (6, ov_i v154), (7, ov_i (x7 + 1)), (8, ov_i v154)]) (st2 := []) (pc2 := 123) b_307_118_2 rfl rfl ?_
                    refine ov_goto (tgt := 81) d_307_123 (by decide) ?_
                    refine ov_sub (ls2 := [(0, ov_r 90), (1, ov_i sd), (2, ov_i m), (3, ov_i ge), (4, ov_i w), (5, ov_i (x5 + v154)), (6, ov_i v154), (7, ov_i (x7 + 1))]) (List.Sublist.subset (by repeat (first | exact List.Sublist.refl _ | apply List.Sublist.cons_cons | apply List.Sublist.cons))) ?_
                    exact ih98 (x5 + v154) v154 (x7 + 1) _ _ I170 E171 E172 E173 E174 E175 E176 E177 E178 E179 E180 E181 y167_ (by show 0 ≤ (x7 + 1) ∧ (x7 + 1) ≤ 30 ∧ 0 ≤ (x5 + v154) ∧ (x5 + v154) ≤ 1157 * (x7 + 1) ∧ 0 ≤ v154 ∧ v154 ≤ 1157 ∧ (h169 90 2) = (h78 90 2) ∧ (h169 90 7) = (h78 90 7) ∧ (h169 90 8) = (h78 90 8) ∧ (h169 90 13) = (h78 90 13) ∧ (h169 90 20) = (h78 90 20) ∧ (h169 90 22) = (h78 90 22) ∧ (h169 90 25) = (h78 90 25) ∧ (h169 90 26) = (h78 90 26) ∧ (h169 90 28) = (h78 90 28) ∧ (h169 90 29) = (h78 90 29) ∧ (h169 90 30) = (h78 90 30) ∧ (h169 90 34) = (h78 90 34); omega) (by omega)
            exact L100 31 0 0 0 _ _ I96 E80 E81 E82 E83 E84 E85 E86 E87 E88 E89 E90 y75_ (by show 0 ≤ 0 ∧ 0 ≤ 30 ∧ 0 ≤ 0 ∧ 0 ≤ 1157 * 0 ∧ 0 ≤ 0 ∧ 0 ≤ 1157 ∧ (h78 90 2) = (h78 90 2) ∧ (h78 90 7) = (h78 90 7) ∧ (h78 90 8) = (h78 90 8) ∧ (h78 90 13) = (h78 90 13) ∧ (h78 90 20) = (h78 90 20) ∧ (h78 90 22) = (h78 90 22) ∧ (h78 90 25) = (h78 90 25) ∧ (h78 90 26) = (h78 90 26) ∧ (h78 90 28) = (h78 90 28) ∧ (h78 90 29) = (h78 90 29) ∧ (h78 90 30) = (h78 90 30) ∧ (h78 90 34) = (h78 90 34); omega) (by omega)
          · skip
            refine ov_blk (ls2 := [(0, ov_r 90), (1, ov_i sd), (2, ov_i m), (3, ov_i ge), (4, ov_i w)]) (st2 := [ov_i (-1)]) (pc2 := 65) b_307_64_1 rfl rfl ?_
            have pm185 : ov_PM (h 96) (h 103) (h 97) (h 98) (h78 105) (h78 106) (h78 90 22) (h78 90 25) (h78 90 26) (h78 90 28) (h78 90 29) (h78 90 30) := ov_PM_mi y75_ (by omega) (by omega) (by omega) (by omega) (by omega) (by omega)
            exact ov_reti (st := []) d_307_65 rfl ⟨_, rfl, I79, (by show (h78 90 2) = (h 90 2) ∧ (h78 90 7) = (h 90 7) ∧ (h78 90 8) = (h 90 8) ∧ (h78 90 13) = (h 90 13) ∧ (h78 90 20) = (h 90 20) ∧ (h78 90 22) = (h 90 22) ∧ (h78 90 34) = (h 90 34) ∧ (h 90 25) ≤ (h78 90 25) ∧ (h78 90 25) ≤ (h 90 25) + 1 ∧ -2147483648 ≤ (-1) ∧ (-1) ≤ 2147483647; omega), E80, E81, E82, E83, E84, E85, E86, E87, E88, E89, E90, pm185⟩
        · skip
          have f21_ : v20 = 0 := by omega
          have f186 : w < (0 : Int) ∨ (1 : Int) < w := f21.2.2 (by omega)
          clear f21
          refine ov_blk (ls2 := [(0, ov_r 90), (1, ov_i sd), (2, ov_i m), (3, ov_i ge), (4, ov_i w)]) (st2 := [ov_i (-1)]) (pc2 := 45) b_307_44_1 rfl rfl ?_
          exact ov_reti (st := []) d_307_45 rfl ⟨_, rfl, I1, ⟨rfl, rfl, rfl, rfl, rfl, rfl, rfl, (by show (h 90 25) ≤ (h 90 25) ∧ (h 90 25) ≤ (h 90 25) + 1 ∧ -2147483648 ≤ (-1) ∧ (-1) ≤ 2147483647; omega)⟩, rfl, rfl, rfl, rfl, rfl, rfl, rfl, rfl, rfl, rfl, rfl, PM⟩

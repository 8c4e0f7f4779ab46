abbrev P_Mo_night_90 (F : ov_H × ov_Z) (z : ov_Z) (h : ov_H) (go : Int) (wt : Int) (sf : Int) (sm : Int) : Option ov_V → ov_Z → ov_H → Prop := fun r0 z' h' => ∃ r : Int, r0 = some (ov_i r) ∧ ov_N F z' h' ∧ ((h' 90 2) = (h 90 2) ∧ (h' 90 7) = (h 90 7) ∧ (h' 90 8) = (h 90 8) ∧ (h' 90 13) = (h 90 13) ∧ (h' 90 20) = (h 90 20) ∧ (h' 90 22) = (h 90 22) ∧ (h' 90 25) = (h 90 25) ∧ (h' 90 26) = (h 90 26) ∧ (h' 90 28) = (h 90 28) ∧ (h' 90 29) = (h 90 29) ∧ (h' 90 30) = (h 90 30) ∧ (h' 90 34) = (h 90 34) ∧ 0 ≤ r ∧ r ≤ 1157) ∧ h' 91 = h 91 ∧ h' 92 = h 92 ∧ h' 93 = h 93 ∧ h' 94 = h 94 ∧ h' 95 = h 95 ∧ h' 96 = h 96 ∧ h' 97 = h 97 ∧ h' 98 = h 98 ∧ h' 99 = h 99 ∧ h' 100 = h 100 ∧ h' 103 = h 103 ∧ h' 109 = h 109 ∧ h' 114 = h 114 ∧ (ov_MI (h 96) (h 103) (h 97) (h 98) go wt sf sm (h' 105) (h' 106))
set_option maxHeartbeats 4000000 in
theorem c_Mo_night_90 {u : ov_U} {F : ov_H × ov_Z} (go : Int) (wt : Int) (sf : Int) (sm : Int) {z : ov_Z} {h : ov_H} (d : Nat) (hd : 90 ≤ d) (U : ov_cap u) (I : ov_N F z h) (p0 : wt = -1) (p1 : (h 90 26) = go) (p2 : (h 90 29) = wt) (p3 : (h 90 30) = sf) (p4 : (h 90 25) = sm) (p5 : 0 ≤ go ∧ go ≤ 3 + (h 96 8)) (W : ov_WT (h 96)) (CD : ov_CD (h 96) (h 97) (h 98)) (MI : ov_MI (h 96) (h 103) (h 97) (h 98) go wt sf sm (h 105) (h 106)) (GN : ov_go (h 96) (h 103) (h 97) (h 98) go wt sf 0 0 (0 % (h 96 9))) (SD : ∀ c : Int, 0 ≤ c → c ≤ 53 → ¬ ((h 96) (10 + 4 * c) = 2 ∧ ¬ (h 103) (4 + c) = 1) → (h 114) c = 0) : ov_T u d ov_m310 [ov_r 90] z h (P_Mo_night_90 F z h go wt sf sm) := by
  refine ov_en rfl (Nat.le_of_ble_eq_true rfl) ?_
  show ov_R u d ov_m310 0 [(0, ov_r 90)] [] z h (P_Mo_night_90 F z h go wt sf sm)
  have t0 := t96_0 I
  have t1 := t96_1 I
  have t2 := t96_2 I
  have t8 := t96_8 I
  have t9 := t96_9 I
  refine ov_blk (ls2 := [(0, ov_r 90), (1, ov_i 0), (2, ov_i 0), (3, ov_i 0)]) (st2 := []) (pc2 := 6) b_310_0_6 rfl rfl ?_
  have L4 : ∀ (n1 : Nat) (x1 : Int) (x2 : Int) (x3 : Int) (z5 : ov_Z) (h6 : ov_H) (I7 : ov_N F z5 h6) (E8 : h6 91 = h 91) (E9 : h6 92 = h 92) (E10 : h6 93 = h 93) (E11 : h6 94 = h 94) (E12 : h6 95 = h 95) (E13 : h6 96 = h 96) (E14 : h6 97 = h 97) (E15 : h6 98 = h 98) (E16 : h6 99 = h 99) (E17 : h6 100 = h 100) (E18 : h6 103 = h 103) (E19 : h6 109 = h 109) (E20 : h6 114 = h 114) (xm : ov_MI (h 96) (h 103) (h 97) (h 98) go wt sf sm (h6 105) (h6 106)) (xg : ov_go (h 96) (h 103) (h 97) (h 98) go wt sf x1 x2 (x3 % (h 96 9))) (q3 : 0 ≤ x1 ∧ x1 < (h 96 0) ∧ 0 ≤ x2 ∧ x2 < (h 96 1) ∧ 0 ≤ x3 ∧ x3 ≤ 89 * (x1 + x2) ∧ (h6 90 2) = (h 90 2) ∧ (h6 90 7) = (h 90 7) ∧ (h6 90 8) = (h 90 8) ∧ (h6 90 13) = (h 90 13) ∧ (h6 90 20) = (h 90 20) ∧ (h6 90 22) = (h 90 22) ∧ (h6 90 25) = (h 90 25) ∧ (h6 90 26) = (h 90 26) ∧ (h6 90 28) = (h 90 28) ∧ (h6 90 29) = (h 90 29) ∧ (h6 90 30) = (h 90 30) ∧ (h6 90 34) = (h 90 34)), 14 - x1 - x2 < (n1 : Int) → ov_R u d ov_m310 6 [(0, ov_r 90), (1, ov_i x1), (2, ov_i x2), (3, ov_i x3)] [] z5 h6 (P_Mo_night_90 F z h go wt sf sm) := by
    intro n1
    induction n1 with
    | zero =>
      intro x1 x2 x3 z5 h6 I7 E8 E9 E10 E11 E12 E13 E14 E15 E16 E17 E18 E19 E20 xm xg q3 hn21
      exact absurd hn21 (by omega)
    | succ n1 ih2 =>
      intro x1 x2 x3 z5 h6 I7 E8 E9 E10 E11 E12 E13 E14 E15 E16 E17 E18 E19 E20 xm xg q3 hn21
      refine ov_blk (ls2 := [(0, ov_r 90), (1, ov_i x1), (2, ov_i x2), (3, ov_i x3)]) (st2 := [ov_i x2, ov_i x1, ov_r 90]) (pc2 := 9) b_310_6_3 rfl rfl ?_
      refine ov_cV (as := [ov_i x1, ov_i x2]) (st := []) (d2 := d - 1) d_310_9 lk_Mo_335 rfl (Nat.le_of_ble_eq_true rfl) (c := 1) (zb_90 I7) (zs_90 I7) ⟨by decide, rfl⟩ (by omega) (c_Mo_isHome_90 (d - 1) (by omega) U I7 x1 x2 (by omega) (by omega) (by omega)) ?_
      rintro _ _ _ ⟨v23, rfl, rfl, rfl, f22⟩
      show ov_R u d ov_m310 12 [(0, ov_r 90), (1, ov_i x1), (2, ov_i x2), (3, ov_i x3)] [ov_i v23] z5 h6 (P_Mo_night_90 F z h go wt sf sm)
      rw [show h6 96 = h 96 from E13] at f22
      have f24 : (v23 = 0 ∨ v23 = 1) ∧ (v23 = 1 → x1 = (h 96 0) - 1 ∧ x2 = (h 96 1) - 1) ∧ (v23 = 0 → ¬ (x1 = (h 96 0) - 1 ∧ x2 = (h 96 1) - 1)) := f22
      clear f22
      refine ov_ifne (tgt := 84) d_310_12 (by decide) (by omega) (fun c25 => ?_) (fun c25 => ?_)
      · skip
        have f24_ : v23 = 1 := by omega
        have f26 : x1 = (h 96 0) - 1 ∧ x2 = (h 96 1) - 1 := f24.2.1 (by omega)
        clear f24
        refine ov_blk (ls2 := [(0, ov_r 90), (1, ov_i x1), (2, ov_i x2), (3, ov_i x3)]) (st2 := [ov_i x3]) (pc2 := 85) b_310_84_1 rfl rfl ?_
        exact ov_reti (st := []) d_310_85 rfl ⟨_, rfl, I7, (by show (h6 90 2) = (h 90 2) ∧ (h6 90 7) = (h 90 7) ∧ (h6 90 8) = (h 90 8) ∧ (h6 90 13) = (h 90 13) ∧ (h6 90 20) = (h 90 20) ∧ (h6 90 22) = (h 90 22) ∧ (h6 90 25) = (h 90 25) ∧ (h6 90 26) = (h 90 26) ∧ (h6 90 28) = (h 90 28) ∧ (h6 90 29) = (h 90 29) ∧ (h6 90 30) = (h 90 30) ∧ (h6 90 34) = (h 90 34) ∧ 0 ≤ x3 ∧ x3 ≤ 1157; omega), E8, E9, E10, E11, E12, E13, E14, E15, E16, E17, E18, E19, E20, xm⟩
      · skip
        have f24_ : v23 = 0 := by omega
        have f27 : ¬ (x1 = (h 96 0) - 1 ∧ x2 = (h 96 1) - 1) := f24.2.2 (by omega)
        clear f24
        refine ov_blk (ls2 := [(0, ov_r 90), (1, ov_i x1), (2, ov_i x2), (3, ov_i x3)]) (st2 := [ov_r 90, ov_i x3]) (pc2 := 17) b_310_15_2 rfl rfl ?_
        refine ov_getf (v := ov_r 114) d_310_17 fl_Mo_144 (zb_90 I7) (zs_90 I7) (congrArg ov_r (rg_90_47 I7)) ?_
        refine ov_blk (ls2 := [(0, ov_r 90), (1, ov_i x1), (2, ov_i x2), (3, ov_i x3)]) (st2 := [ov_i ((6 * x2) + x1), ov_r 114, ov_i x3]) (pc2 := 26) b_310_20_5 rfl rfl ?_
        refine ov_iald d_310_26 (zb_114 I7) (zs_114 I7) (by omega) ?_
        rw [show h6 114 = h 114 from E20]
        have g28 := ra_114 I ((6 * x2) + x1)
        refine ov_blk (ls2 := [(0, ov_r 90), (1, ov_i x1), (2, ov_i x2), (3, ov_i x3), (4, ov_i (x3 + (h 114 ((6 * x2) + x1))))]) (st2 := [ov_r 90, ov_i x3, ov_i x2, ov_i x1, ov_r 90]) (pc2 := 35) b_310_27_7 rfl rfl ?_
        refine ov_getf (v := ov_r 96) d_310_35 fl_Mo_81 (zb_90 I7) (zs_90 I7) (congrArg ov_r (rg_90_10 I7)) ?_
        refine ov_blk (ls2 := [(0, ov_r 90), (1, ov_i x1), (2, ov_i x2), (3, ov_i x3), (4, ov_i (x3 + (h 114 ((6 * x2) + x1))))]) (st2 := [ov_i 9, ov_r 96, ov_i x3, ov_i x2, ov_i x1, ov_r 90]) (pc2 := 40) b_310_38_1 rfl rfl ?_
        refine ov_iald d_310_40 (zb_96 I7) (zs_96 I7) (by omega) ?_
        rw [show h6 96 = h 96 from E13]
        have g29 := t96_9 I
        have gt1 := ov_tmv (x := x3) (y := (h 96 9)) (by omega) (by omega)
        have gt2 : Int.tmod x3 (h 96 9) = x3 % (h 96 9) := ov_tm (by omega)
        have go1 : ov_go (h 96) (h 103) (h 97) (h 98) go wt sf x1 x2 (Int.tmod x3 (h 96 9)) := by rw [gt2]; exact xg
        have w1 := ov_WT_at W (c := 6 * x2 + x1) (by omega)
        have gq : ov_gs (h 96) (h 97) (h 98) (ov_go (h 96) (h 103) (h 97) (h 98) go wt sf) go x1 x2 (Int.tmod x3 (h 96 9)) (x3 + (h 114 ((6 * x2) + x1))) := ov_ngs W (by omega) (by omega) (by omega) (by omega) gt2 (SD (6 * x2 + x1) (by omega) (by omega)) go1
        refine ov_irem d_310_41 (by omega) (by omega) (by omega) ?_
        have g30 := ov_tmg (a := x3) (b := (h 96 9)) (by omega) (by omega)
        refine ov_blk (ls2 := [(0, ov_r 90), (1, ov_i x1), (2, ov_i x2), (3, ov_i x3), (4, ov_i (x3 + (h 114 ((6 * x2) + x1))))]) (st2 := [ov_i (x3 + (h 114 ((6 * x2) + x1))), ov_i (Int.tmod x3 (h 96 9)), ov_i x2, ov_i x1, ov_r 90]) (pc2 := 44) b_310_42_1 rfl rfl ?_
        have cf31 : h6 96 (0) = h 96 (0) := congrFun E13 (0)
        have cf32 : h6 96 (1) = h 96 (1) := congrFun E13 (1)
        have cf33 : h6 96 (9) = h 96 (9) := congrFun E13 (9)
        have cf34 : h6 96 (8) = h 96 (8) := congrFun E13 (8)
        refine ov_cV (as := [ov_i x1, ov_i x2, ov_i (Int.tmod x3 (h 96 9)), ov_i (x3 + (h 114 ((6 * x2) + x1)))]) (st := []) (d2 := d - 1) d_310_44 lk_Mo_371 rfl (Nat.le_of_ble_eq_true rfl) (c := 1) (zb_90 I7) (zs_90 I7) ⟨by decide, rfl⟩ (by omega) (c_Mo_wayOf_90_all go wt sf sm (Int.toNat (13 - (x1) - (x2))) (d - 1) (by omega) U I7 x1 x2 (Int.tmod x3 (h 96 9)) (x3 + (h 114 ((6 * x2) + x1))) (by omega) (by omega) (by omega) (by omega) (by omega) (by show x1 < (h6 96 0) ∧ x2 < (h6 96 1); omega) (by omega) (by show 0 ≤ (Int.tmod x3 (h 96 9)) ∧ (Int.tmod x3 (h 96 9)) < (h6 96 9); omega) (by omega) (by show (h6 90 26) = go; omega) (by show (h6 90 29) = wt; omega) (by show (h6 90 30) = sf; omega) (by show (h6 90 25) = sm; omega) (by show 0 ≤ go ∧ go ≤ 3 + (h6 96 8); omega) (by rw [show h6 96 = h 96 from E13]; exact W) (by rw [show h6 96 = h 96 from E13, show h6 97 = h 97 from E14, show h6 98 = h 98 from E15]; exact CD) (by rw [show h6 96 = h 96 from E13, show h6 103 = h 103 from E18, show h6 97 = h 97 from E14, show h6 98 = h 98 from E15]; exact xm)) ?_
        rintro _ z52 h53 ⟨v36, rfl, I54, f35, e37, e38, e39, e40, e41, e42, e43, e44, e45, e46, e47, e48, e49, y50, y51⟩
        have E55 : h53 91 = h 91 := Eq.trans e37 E8
        have E56 : h53 92 = h 92 := Eq.trans e38 E9
        have E57 : h53 93 = h 93 := Eq.trans e39 E10
        have E58 : h53 94 = h 94 := Eq.trans e40 E11
        have E59 : h53 95 = h 95 := Eq.trans e41 E12
        have E60 : h53 96 = h 96 := Eq.trans e42 E13
        have E61 : h53 97 = h 97 := Eq.trans e43 E14
        have E62 : h53 98 = h 98 := Eq.trans e44 E15
        have E63 : h53 99 = h 99 := Eq.trans e45 E16
        have E64 : h53 100 = h 100 := Eq.trans e46 E17
        have E65 : h53 103 = h 103 := Eq.trans e47 E18
        have E66 : h53 109 = h 109 := Eq.trans e48 E19
        have E67 : h53 114 = h 114 := Eq.trans e49 E20
        show ov_R u d ov_m310 47 [(0, ov_r 90), (1, ov_i x1), (2, ov_i x2), (3, ov_i x3), (4, ov_i (x3 + (h 114 ((6 * x2) + x1))))] [ov_i v36] z52 h53 (P_Mo_night_90 F z h go wt sf sm)
        have f68 : (h53 90 2) = (h6 90 2) ∧ (h53 90 7) = (h6 90 7) ∧ (h53 90 8) = (h6 90 8) ∧ (h53 90 13) = (h6 90 13) ∧ (h53 90 20) = (h6 90 20) ∧ (h53 90 22) = (h6 90 22) ∧ (h53 90 25) = (h6 90 25) ∧ (h53 90 26) = (h6 90 26) ∧ (h53 90 28) = (h6 90 28) ∧ (h53 90 29) = (h6 90 29) ∧ (h53 90 30) = (h6 90 30) ∧ (h53 90 34) = (h6 90 34) ∧ -1 ≤ v36 ∧ v36 ≤ 1 := f35
        clear f35
        rw [show h6 103 = h 103 from E18] at y50
        rw [show h6 96 = h 96 from E13] at y50
        rw [show h6 97 = h 97 from E14] at y50
        rw [show h6 98 = h 98 from E15] at y50
        have y50_ : ov_MI (h 96) (h 103) (h 97) (h 98) go wt sf sm (h53 105) (h53 106) := y50
        rw [show h6 103 = h 103 from E18] at y51
        rw [show h6 96 = h 96 from E13] at y51
        rw [show h6 97 = h 97 from E14] at y51
        rw [show h6 98 = h 98 from E15] at y51
        have y51_ : ov_wf (h 96) (h 97) (h 98) (ov_go (h 96) (h 103) (h 97) (h 98) go wt sf) go x1 x2 (Int.tmod x3 (h 96 9)) (x3 + (h 114 ((6 * x2) + x1))) v36 := y51
        have r0 : 0 ≤ v36 := if c : 0 ≤ v36 then c else absurd gq (ov_wf_no y51_ (by omega))
        have cg := (ov_cgi_sp (h 96) x1 x2 v36).2 (y51_.1 r0)
        have gn := (ov_wf_gs y51_ r0).mpr gq
        refine ov_blk (ls2 := [(0, ov_r 90), (1, ov_i x1), (2, ov_i x2), (3, ov_i x3), (4, ov_i (x3 + (h 114 ((6 * x2) + x1)))), (5, ov_i v36)]) (st2 := [ov_i (x3 + (h 114 ((6 * x2) + x1))), ov_i v36, ov_i x2, ov_i x1, ov_r 90, ov_i x3]) (pc2 := 57) b_310_47_7 rfl rfl ?_
        have cf69 : h53 96 (10 + 4 * (6 * x2 + x1)) = h 96 (10 + 4 * (6 * x2 + x1)) := congrFun E60 (10 + 4 * (6 * x2 + x1))
        have cf70 : h53 96 (10 + 4 * (6 * x2 + x1) + 3) = h 96 (10 + 4 * (6 * x2 + x1) + 3) := congrFun E60 (10 + 4 * (6 * x2 + x1) + 3)
        have cf71 : h53 96 (10 + 4 * (6 * x2 + x1) + 1) = h 96 (10 + 4 * (6 * x2 + x1) + 1) := congrFun E60 (10 + 4 * (6 * x2 + x1) + 1)
        refine ov_cV (as := [ov_i x1, ov_i x2, ov_i v36, ov_i (x3 + (h 114 ((6 * x2) + x1)))]) (st := [ov_i x3]) (d2 := d - 1) d_310_57 lk_Mo_315 rfl (Nat.le_of_ble_eq_true rfl) (c := 1) (zb_90 I54) (zs_90 I54) ⟨by decide, rfl⟩ (by omega) (c_Mo_waitFor_90 (d - 1) (by omega) U I54 x1 x2 v36 (x3 + (h 114 ((6 * x2) + x1))) (by omega) (by omega) (by omega) (by omega) (by omega) (by omega) (by omega) (by show (((h53 96 (10 + 4 * (6 * x2 + x1))) = 1 ∨ (h53 96 (10 + 4 * (6 * x2 + x1))) = 2) → (v36 = 0 → 0 < (h53 96 (10 + 4 * (6 * x2 + x1) + 3))) ∧ (¬ v36 = 0 → (h53 96 (10 + 4 * (6 * x2 + x1) + 3)) < (h53 96 (10 + 4 * (6 * x2 + x1) + 1)))); omega) (by rw [show h53 96 = h 96 from E60]; exact W)) ?_
        rintro _ _ _ ⟨v73, rfl, rfl, rfl, f72⟩
        show ov_R u d ov_m310 60 [(0, ov_r 90), (1, ov_i x1), (2, ov_i x2), (3, ov_i x3), (4, ov_i (x3 + (h 114 ((6 * x2) + x1)))), (5, ov_i v36)] [ov_i v73, ov_i x3] z52 h53 (P_Mo_night_90 F z h go wt sf sm)
        rw [show h53 96 = h 96 from E60] at f72
        have f74 : 0 ≤ v73 ∧ v73 ≤ 59 ∧ v73 = ov_wm (h 96) (6 * x2 + x1) v36 (x3 + (h 114 ((6 * x2) + x1))) := f72
        clear f72
        refine ov_blk (ls2 := [(0, ov_r 90), (1, ov_i x1), (2, ov_i x2), (3, ov_i x3), (4, ov_i (x3 + (h 114 ((6 * x2) + x1)))), (5, ov_i v36)]) (st2 := [ov_r 90, ov_i v73, ov_i x3]) (pc2 := 61) b_310_60_1 rfl rfl ?_
        refine ov_getf (v := ov_r 96) d_310_61 fl_Mo_81 (zb_90 I54) (zs_90 I54) (congrArg ov_r (rg_90_10 I54)) ?_
        refine ov_blk (ls2 := [(0, ov_r 90), (1, ov_i x1), (2, ov_i x2), (3, ov_i x3), (4, ov_i (x3 + (h 114 ((6 * x2) + x1)))), (5, ov_i v36)]) (st2 := [ov_i 2, ov_r 96, ov_i v73, ov_i x3]) (pc2 := 65) b_310_64_1 rfl rfl ?_
        refine ov_iald d_310_65 (zb_96 I54) (zs_96 I54) (by omega) ?_
        rw [show h53 96 = h 96 from E60]
        have g75 := t96_2 I
        refine ov_blk (ls2 := [(0, ov_r 90), (1, ov_i (x1 + (1 - v36))), (2, ov_i (x2 + v36)), (3, ov_i (x3 + (v73 + (h 96 2)))), (4, ov_i (x3 + (h 114 ((6 * x2) + x1)))), (5, ov_i v36)]) (st2 := []) (pc2 := 81) b_310_66_13 rfl rfl ?_
        refine ov_goto (tgt := 6) d_310_81 (by decide) ?_
        refine ov_sub (ls2 := [(0, ov_r 90), (1, ov_i (x1 + (1 - v36))), (2, ov_i (x2 + v36)), (3, ov_i (x3 + (v73 + (h 96 2))))]) (List.Sublist.subset (by repeat (first | exact List.Sublist.refl _ | apply List.Sublist.cons_cons | apply List.Sublist.cons))) ?_
        have xe : v73 = ov_wm (h 96) (6 * x2 + x1) v36 (x3 + (h 114 ((6 * x2) + x1))) := by omega
        have xg2 : ov_go (h 96) (h 103) (h 97) (h 98) go wt sf (x1 + (1 - v36)) (x2 + v36) ((x3 + (v73 + (h 96 2))) % h 96 9) := by rw [show (x1 + (1 - v36)) = x1 + 1 - v36 by omega, xe, ov_nxb gt2]; exact gn
        exact ih2 (x1 + (1 - v36)) (x2 + v36) (x3 + (v73 + (h 96 2))) _ _ I54 E55 E56 E57 E58 E59 E60 E61 E62 E63 E64 E65 E66 E67 y50_ xg2 (by show 0 ≤ (x1 + (1 - v36)) ∧ (x1 + (1 - v36)) < (h 96 0) ∧ 0 ≤ (x2 + v36) ∧ (x2 + v36) < (h 96 1) ∧ 0 ≤ (x3 + (v73 + (h 96 2))) ∧ (x3 + (v73 + (h 96 2))) ≤ 89 * ((x1 + (1 - v36)) + (x2 + v36)) ∧ (h53 90 2) = (h 90 2) ∧ (h53 90 7) = (h 90 7) ∧ (h53 90 8) = (h 90 8) ∧ (h53 90 13) = (h 90 13) ∧ (h53 90 20) = (h 90 20) ∧ (h53 90 22) = (h 90 22) ∧ (h53 90 25) = (h 90 25) ∧ (h53 90 26) = (h 90 26) ∧ (h53 90 28) = (h 90 28) ∧ (h53 90 29) = (h 90 29) ∧ (h53 90 30) = (h 90 30) ∧ (h53 90 34) = (h 90 34); omega) (by omega)
  exact L4 15 0 0 0 _ _ I rfl rfl rfl rfl rfl rfl rfl rfl rfl rfl rfl rfl rfl MI GN (by show 0 ≤ 0 ∧ 0 < (h 96 0) ∧ 0 ≤ 0 ∧ 0 < (h 96 1) ∧ 0 ≤ 0 ∧ 0 ≤ 89 * (0 + 0) ∧ (h 90 2) = (h 90 2) ∧ (h 90 7) = (h 90 7) ∧ (h 90 8) = (h 90 8) ∧ (h 90 13) = (h 90 13) ∧ (h 90 20) = (h 90 20) ∧ (h 90 22) = (h 90 22) ∧ (h 90 25) = (h 90 25) ∧ (h 90 26) = (h 90 26) ∧ (h 90 28) = (h 90 28) ∧ (h 90 29) = (h 90 29) ∧ (h 90 30) = (h 90 30) ∧ (h 90 34) = (h 90 34); omega) (by omega)
abbrev P_Mo_nights_90 (F : ov_H × ov_Z) (z : ov_Z) (h : ov_H) (sd : Int) (m : Int) (ge : Int) (w : Int) : Option ov_V → ov_Z → ov_H → Prop := fun r0 z' h' => ∃ r : Int, r0 = some (ov_i r) ∧ ov_N F z' h' ∧ ((h' 90 2) = (h 90 2) ∧ (h' 90 7) = (h 90 7) ∧ (h' 90 8) = (h 90 8) ∧ (h' 90 13) = (h 90 13) ∧ (h' 90 20) = (h 90 20) ∧ (h' 90 22) = (h 90 22) ∧ (h' 90 34) = (h 90 34) ∧ (h 90 25) ≤ (h' 90 25) ∧ (h' 90 25) ≤ (h 90 25) + 1 ∧ -2147483648 ≤ r ∧ r ≤ 2147483647) ∧ h' 91 = h 91 ∧ h' 92 = h 92 ∧ h' 93 = h 93 ∧ h' 94 = h 94 ∧ h' 95 = h 95 ∧ h' 96 = h 96 ∧ h' 97 = h 97 ∧ h' 98 = h 98 ∧ h' 99 = h 99 ∧ h' 100 = h 100 ∧ h' 103 = h 103 ∧ h' 109 = h 109 ∧ (ov_PM (h 96) (h 103) (h 97) (h 98) (h' 105) (h' 106) (h' 90 22) (h' 90 25) (h' 90 26) (h' 90 28) (h' 90 29) (h' 90 30))
set_option maxHeartbeats 4000000 in
theorem c_Mo_nights_90 {u : ov_U} {F : ov_H × ov_Z} {z : ov_Z} {h : ov_H} (d : Nat) (hd : 110 ≤ d) (U : ov_cap u) (I : ov_N F z h) (sd : Int) (m : Int) (ge : Int) (w : Int) (g_sd : ov_g sd) (g_m : ov_g m) (g_ge : ov_g ge) (g_w : ov_g w) (p0 : 0 ≤ (h 90 25) ∧ (h 90 25) ≤ 1000000000) (W : ov_WT (h 96)) (CD : ov_CD (h 96) (h 97) (h 98)) (PM : ov_PM (h 96) (h 103) (h 97) (h 98) (h 105) (h 106) (h 90 22) (h 90 25) (h 90 26) (h 90 28) (h 90 29) (h 90 30)) : ov_T u d ov_m307 [ov_r 90, ov_i sd, ov_i m, ov_i ge, ov_i w] z h (P_Mo_nights_90 F z h sd m ge w) := by
  refine ov_en rfl (Nat.le_of_ble_eq_true rfl) ?_
  show ov_R u d ov_m307 0 [(0, ov_r 90), (1, ov_i sd), (2, ov_i m), (3, ov_i ge), (4, ov_i w)] [] z h (P_Mo_nights_90 F z h sd m ge w)
  have t0 := t96_0 I
  have t1 := t96_1 I
  have t8 := t96_8 I
  have t9 := t96_9 I
  refine ov_blk (ls2 := [(0, ov_r 90), (1, ov_i sd), (2, ov_i m), (3, ov_i ge), (4, ov_i w)]) (st2 := [ov_i 0, ov_r 90]) (pc2 := 2) b_307_0_2 rfl rfl ?_
  refine ov_putf (x := 0) d_307_2 fl_Mo_1 (zb_90 I) (zs_90 I) rfl nk_0 rfl ?_
  have I1 := up_90_0 (x := 0) I (by omega)
  refine ov_blk (ls2 := [(0, ov_r 90), (1, ov_i sd), (2, ov_i m), (3, ov_i ge), (4, ov_i w)]) (st2 := [ov_i 9999, ov_i 0, ov_i sd]) (pc2 := 10) b_307_5_3 rfl rfl ?_
  refine ov_cS (as := [ov_i sd, ov_i 0, ov_i 9999]) (st := []) (d2 := d - 1) d_307_10 lk_Mo_299 rfl (Nat.le_of_ble_eq_true rfl) (by omega) (c_Mo_within (d - 1) (by omega) U I1 sd 0 9999 (by omega) (by omega) (by omega)) ?_
  rintro _ _ _ ⟨v3, rfl, rfl, rfl, f2⟩
  show ov_R u d ov_m307 13 [(0, ov_r 90), (1, ov_i sd), (2, ov_i m), (3, ov_i ge), (4, ov_i w)] [ov_i v3] z (ov_up h 90 0 0) (P_Mo_nights_90 F z h sd m ge w)
  have f4 : (v3 = 0 ∨ v3 = 1) ∧ (v3 = 1 → (0 : Int) ≤ sd ∧ sd ≤ (9999 : Int)) ∧ (v3 = 0 → sd < (0 : Int) ∨ (9999 : Int) < sd) := f2
  clear f2
  refine ov_ifeq (tgt := 44) d_307_13 (by decide) (by omega) (fun c5 => ?_) (fun c5 => ?_)
  · skip
    have f4_ : v3 = 0 := by omega
    have f6 : sd < (0 : Int) ∨ (9999 : Int) < sd := f4.2.2 (by omega)
    clear f4
    refine ov_blk (ls2 := [(0, ov_r 90), (1, ov_i sd), (2, ov_i m), (3, ov_i ge), (4, ov_i w)]) (st2 := [ov_i (-1)]) (pc2 := 45) b_307_44_1 rfl rfl ?_
    exact ov_reti (st := []) d_307_45 rfl ⟨_, rfl, I1, ⟨rfl, rfl, rfl, rfl, rfl, rfl, rfl, (by show (h 90 25) ≤ (h 90 25) ∧ (h 90 25) ≤ (h 90 25) + 1 ∧ -2147483648 ≤ (-1) ∧ (-1) ≤ 2147483647; omega)⟩, rfl, rfl, rfl, rfl, rfl, rfl, rfl, rfl, rfl, rfl, rfl, rfl, PM⟩
  · skip
    have f4_ : v3 = 1 := by omega
    have f7 : (0 : Int) ≤ sd ∧ sd ≤ (9999 : Int) := f4.2.1 (by omega)
    clear f4
    refine ov_blk (ls2 := [(0, ov_r 90), (1, ov_i sd), (2, ov_i m), (3, ov_i ge), (4, ov_i w)]) (st2 := [ov_i 30, ov_i 1, ov_i m]) (pc2 := 20) b_307_16_3 rfl rfl ?_
    refine ov_cS (as := [ov_i m, ov_i 1, ov_i 30]) (st := []) (d2 := d - 1) d_307_20 lk_Mo_299 rfl (Nat.le_of_ble_eq_true rfl) (by omega) (c_Mo_within (d - 1) (by omega) U I1 m 1 30 (by omega) (by omega) (by omega)) ?_
    rintro _ _ _ ⟨v9, rfl, rfl, rfl, f8⟩
    show ov_R u d ov_m307 23 [(0, ov_r 90), (1, ov_i sd), (2, ov_i m), (3, ov_i ge), (4, ov_i w)] [ov_i v9] z (ov_up h 90 0 0) (P_Mo_nights_90 F z h sd m ge w)
    have f10 : (v9 = 0 ∨ v9 = 1) ∧ (v9 = 1 → (1 : Int) ≤ m ∧ m ≤ (30 : Int)) ∧ (v9 = 0 → m < (1 : Int) ∨ (30 : Int) < m) := f8
    clear f8
    refine ov_ifeq (tgt := 44) d_307_23 (by decide) (by omega) (fun c11 => ?_) (fun c11 => ?_)
    · skip
      have f10_ : v9 = 0 := by omega
      have f12 : m < (1 : Int) ∨ (30 : Int) < m := f10.2.2 (by omega)
      clear f10
      refine ov_blk (ls2 := [(0, ov_r 90), (1, ov_i sd), (2, ov_i m), (3, ov_i ge), (4, ov_i w)]) (st2 := [ov_i (-1)]) (pc2 := 45) b_307_44_1 rfl rfl ?_
      exact ov_reti (st := []) d_307_45 rfl ⟨_, rfl, I1, ⟨rfl, rfl, rfl, rfl, rfl, rfl, rfl, (by show (h 90 25) ≤ (h 90 25) ∧ (h 90 25) ≤ (h 90 25) + 1 ∧ -2147483648 ≤ (-1) ∧ (-1) ≤ 2147483647; omega)⟩, rfl, rfl, rfl, rfl, rfl, rfl, rfl, rfl, rfl, rfl, rfl, rfl, PM⟩
    · skip
      have f10_ : v9 = 1 := by omega
      have f13 : (1 : Int) ≤ m ∧ m ≤ (30 : Int) := f10.2.1 (by omega)
      clear f10
      refine ov_blk (ls2 := [(0, ov_r 90), (1, ov_i sd), (2, ov_i m), (3, ov_i ge), (4, ov_i w)]) (st2 := [ov_i ge, ov_r 90]) (pc2 := 28) b_307_26_2 rfl rfl ?_
      refine ov_cV (as := [ov_i ge]) (st := []) (d2 := d - 1) d_307_28 lk_Mo_383 rfl (Nat.le_of_ble_eq_true rfl) (c := 1) (zb_90 I1) (zs_90 I1) ⟨by decide, rfl⟩ (by omega) (c_Mo_isGoer_90 (d - 1) (by omega) U I1 ge (by omega)) ?_
      rintro _ _ _ ⟨v15, rfl, rfl, rfl, f14⟩
      show ov_R u d ov_m307 31 [(0, ov_r 90), (1, ov_i sd), (2, ov_i m), (3, ov_i ge), (4, ov_i w)] [ov_i v15] z (ov_up h 90 0 0) (P_Mo_nights_90 F z h sd m ge w)
      have f16 : (v15 = 0 ∨ v15 = 1) ∧ (v15 = 1 → 0 ≤ ge ∧ ge ≤ 3 + (h 96 8)) := f14
      clear f14
      refine ov_ifeq (tgt := 44) d_307_31 (by decide) (by omega) (fun c17 => ?_) (fun c17 => ?_)
      · skip
        have f16_ : v15 = 0 := by omega
        clear f16
        refine ov_blk (ls2 := [(0, ov_r 90), (1, ov_i sd), (2, ov_i m), (3, ov_i ge), (4, ov_i w)]) (st2 := [ov_i (-1)]) (pc2 := 45) b_307_44_1 rfl rfl ?_
        exact ov_reti (st := []) d_307_45 rfl ⟨_, rfl, I1, ⟨rfl, rfl, rfl, rfl, rfl, rfl, rfl, (by show (h 90 25) ≤ (h 90 25) ∧ (h 90 25) ≤ (h 90 25) + 1 ∧ -2147483648 ≤ (-1) ∧ (-1) ≤ 2147483647; omega)⟩, rfl, rfl, rfl, rfl, rfl, rfl, rfl, rfl, rfl, rfl, rfl, rfl, PM⟩
      · skip
        have f16_ : v15 = 1 := by omega
        have f18 : 0 ≤ ge ∧ ge ≤ 3 + (h 96 8) := f16.2 (by omega)
        clear f16
        refine ov_blk (ls2 := [(0, ov_r 90), (1, ov_i sd), (2, ov_i m), (3, ov_i ge), (4, ov_i w)]) (st2 := [ov_i 1, ov_i 0, ov_i w]) (pc2 := 38) b_307_34_3 rfl rfl ?_
        refine ov_cS (as := [ov_i w, ov_i 0, ov_i 1]) (st := []) (d2 := d - 1) d_307_38 lk_Mo_299 rfl (Nat.le_of_ble_eq_true rfl) (by omega) (c_Mo_within (d - 1) (by omega) U I1 w 0 1 (by omega) (by omega) (by omega)) ?_
        rintro _ _ _ ⟨v20, rfl, rfl, rfl, f19⟩
        show ov_R u d ov_m307 41 [(0, ov_r 90), (1, ov_i sd), (2, ov_i m), (3, ov_i ge), (4, ov_i w)] [ov_i v20] z (ov_up h 90 0 0) (P_Mo_nights_90 F z h sd m ge w)
        have f21 : (v20 = 0 ∨ v20 = 1) ∧ (v20 = 1 → (0 : Int) ≤ w ∧ w ≤ (1 : Int)) ∧ (v20 = 0 → w < (0 : Int) ∨ (1 : Int) < w) := f19
        clear f19
        refine ov_ifne (tgt := 46) d_307_41 (by decide) (by omega) (fun c22 => ?_) (fun c22 => ?_)
        · skip
          have f21_ : v20 = 1 := by omega
          have f23 : (0 : Int) ≤ w ∧ w ≤ (1 : Int) := f21.2.1 (by omega)
          clear f21
          refine ov_blk (ls2 := [(0, ov_r 90), (1, ov_i sd), (2, ov_i m), (3, ov_i ge), (4, ov_i w)]) (st2 := [ov_i 0, ov_i (-1), ov_i 0, ov_i ge, ov_r 90]) (pc2 := 51) b_307_46_5 rfl rfl ?_
          refine ov_cV (as := [ov_i ge, ov_i 0, ov_i (-1), ov_i 0]) (st := []) (d2 := d - 1) d_307_51 lk_Mo_389 rfl (Nat.le_of_ble_eq_true rfl) (c := 1) (zb_90 I1) (zs_90 I1) ⟨by decide, rfl⟩ (by omega) (c_Mo_asks_90 (d - 1) (by omega) U I1 ge 0 (-1) 0 (by omega) (by omega) (by omega) (by omega) (by omega) (by omega) (by omega) (by show 0 ≤ (h 90 25) ∧ (h 90 25) ≤ 2000000000; omega)) ?_
          rintro _ z40 h41 ⟨rfl, I42, f24, e25, e26, e27, e28, e29, e30, e31, e32, e33, e34, e35, e36, e37, e38, e39⟩
          have E43 : h41 91 = h 91 := e25
          have E44 : h41 92 = h 92 := e26
          have E45 : h41 93 = h 93 := e27
          have E46 : h41 94 = h 94 := e28
          have E47 : h41 95 = h 95 := e29
          have E48 : h41 96 = h 96 := e30
          have E49 : h41 97 = h 97 := e31
          have E50 : h41 98 = h 98 := e32
          have E51 : h41 99 = h 99 := e33
          have E52 : h41 100 = h 100 := e34
          have E53 : h41 103 = h 103 := e35
          have E54 : h41 105 = h 105 := e36
          have E55 : h41 106 = h 106 := e37
          have E56 : h41 109 = h 109 := e38
          have E57 : h41 114 = h 114 := e39
          show ov_R u d ov_m307 54 [(0, ov_r 90), (1, ov_i sd), (2, ov_i m), (3, ov_i ge), (4, ov_i w)] [] z40 h41 (P_Mo_nights_90 F z h sd m ge w)
          have f58 : (h41 90 2) = (h 90 2) ∧ (h41 90 7) = (h 90 7) ∧ (h41 90 8) = (h 90 8) ∧ (h41 90 13) = (h 90 13) ∧ (h41 90 20) = (h 90 20) ∧ (h41 90 22) = (h 90 22) ∧ (h41 90 34) = (h 90 34) ∧ (h41 90 26) = ge ∧ (h41 90 27) = (0 : Int) ∧ (h41 90 28) = (h 90 22) ∧ (h41 90 29) = ((-1) : Int) ∧ (h41 90 30) = (0 : Int) ∧ (((h41 90 25) = (h 90 25) + 1) ∨ ((h41 90 25) = (h 90 25) ∧ (h 90 26) = ge ∧ (h 90 27) = (0 : Int) ∧ (h 90 28) = (h 90 22) ∧ (h 90 29) = ((-1) : Int) ∧ (h 90 30) = (0 : Int))) := f24
          clear f24
          have mi59 : ov_MI (h 96) (h 103) (h 97) (h 98) ge (-1) 0 (h41 90 25) (h 105) (h 106) := ov_PM_ask PM (by omega)
          refine ov_blk (ls2 := [(0, ov_r 90), (1, ov_i sd), (2, ov_i m), (3, ov_i ge), (4, ov_i w)]) (st2 := [ov_i 0, ov_i 0, ov_i 0, ov_r 90]) (pc2 := 58) b_307_54_4 rfl rfl ?_
          have cf60 : h41 96 (0) = h 96 (0) := congrFun E48 (0)
          have cf61 : h41 96 (1) = h 96 (1) := congrFun E48 (1)
          have cf62 : h41 96 (8) = h 96 (8) := congrFun E48 (8)
          refine ov_cV (as := [ov_i 0, ov_i 0, ov_i 0]) (st := []) (d2 := d - 1) d_307_58 lk_Mo_377 rfl (Nat.le_of_ble_eq_true rfl) (c := 1) (zb_90 I42) (zs_90 I42) ⟨by decide, rfl⟩ (by omega) (c_Mo_worthFrom_90_all ge ((-1)) 0 ((h41 90 25)) (Int.toNat (13 - (0) - (0))) (d - 1) (by omega) U I42 0 0 0 (by omega) (by omega) (by omega) (by omega) (by show (0 : Int) < (h41 96 0) ∧ (0 : Int) < (h41 96 1); omega) (by omega) (by omega) (by show (h41 90 26) = ge; omega) (by show (h41 90 29) = ((-1) : Int); omega) (by show (h41 90 30) = (0 : Int); omega) (by show (h41 90 25) = (h41 90 25); omega) (by show 0 ≤ ge ∧ ge ≤ 3 + (h41 96 8); omega) (by rw [show h41 96 = h 96 from E48]; exact W) (by rw [show h41 96 = h 96 from E48, show h41 97 = h 97 from E49, show h41 98 = h 98 from E50]; exact CD) (by rw [show h41 96 = h 96 from E48, show h41 103 = h 103 from E53, show h41 97 = h 97 from E49, show h41 98 = h 98 from E50, show h41 105 = h 105 from E54, show h41 106 = h 106 from E55]; exact mi59)) ?_
          rintro _ z80 h81 ⟨v64, rfl, I82, f63, e65, e66, e67, e68, e69, e70, e71, e72, e73, e74, e75, e76, e77, y78, y79⟩
          have E83 : h81 91 = h 91 := Eq.trans e65 E43
          have E84 : h81 92 = h 92 := Eq.trans e66 E44
          have E85 : h81 93 = h 93 := Eq.trans e67 E45
          have E86 : h81 94 = h 94 := Eq.trans e68 E46
          have E87 : h81 95 = h 95 := Eq.trans e69 E47
          have E88 : h81 96 = h 96 := Eq.trans e70 E48
          have E89 : h81 97 = h 97 := Eq.trans e71 E49
          have E90 : h81 98 = h 98 := Eq.trans e72 E50
          have E91 : h81 99 = h 99 := Eq.trans e73 E51
          have E92 : h81 100 = h 100 := Eq.trans e74 E52
          have E93 : h81 103 = h 103 := Eq.trans e75 E53
          have E94 : h81 109 = h 109 := Eq.trans e76 E56
          have E95 : h81 114 = h 114 := Eq.trans e77 E57
          show ov_R u d ov_m307 61 [(0, ov_r 90), (1, ov_i sd), (2, ov_i m), (3, ov_i ge), (4, ov_i w)] [ov_i v64] z80 h81 (P_Mo_nights_90 F z h sd m ge w)
          have f96 : (h81 90 2) = (h41 90 2) ∧ (h81 90 7) = (h41 90 7) ∧ (h81 90 8) = (h41 90 8) ∧ (h81 90 13) = (h41 90 13) ∧ (h81 90 20) = (h41 90 20) ∧ (h81 90 22) = (h41 90 22) ∧ (h81 90 25) = (h41 90 25) ∧ (h81 90 26) = (h41 90 26) ∧ (h81 90 28) = (h41 90 28) ∧ (h81 90 29) = (h41 90 29) ∧ (h81 90 30) = (h41 90 30) ∧ (h81 90 34) = (h41 90 34) ∧ -1 ≤ v64 ∧ v64 ≤ 89000 * (13 - (0 : Int) - (0 : Int)) := f63
          clear f63
          rw [show h41 103 = h 103 from E53] at y78
          rw [show h41 96 = h 96 from E48] at y78
          rw [show h41 97 = h 97 from E49] at y78
          rw [show h41 98 = h 98 from E50] at y78
          have y78_ : ov_MI (h 96) (h 103) (h 97) (h 98) ge ((-1) : Int) (0 : Int) (h41 90 25) (h81 105) (h81 106) := y78
          rw [show h41 103 = h 103 from E53] at y79
          rw [show h41 96 = h 96 from E48] at y79
          rw [show h41 97 = h 97 from E49] at y79
          rw [show h41 98 = h 98 from E50] at y79
          have y79_ : (0 ≤ v64 ↔ ov_go (h 96) (h 103) (h 97) (h 98) ge ((-1) : Int) (0 : Int) (0 : Int) (0 : Int) ((0 : Int) % (h 96 9))) := y79
          refine ov_ifge (tgt := 66) d_307_61 (by decide) (by omega) (fun c97 => ?_) (fun c97 => ?_)
          · skip
            refine ov_blk (ls2 := [(0, ov_r 90), (1, ov_i sd), (2, ov_i m), (3, ov_i ge), (4, ov_i w)]) (st2 := [ov_l (ov_w sd), ov_r 90]) (pc2 := 69) b_307_66_3 rfl rfl ?_
            have g98 := ov_wg sd
            have g99 := ov_wq sd
            refine ov_putf (x := (ov_w sd)) d_307_69 fl_Mo_471 (zb_90 I82) (zs_90 I82) rfl nk_1 rfl ?_
            have I100 := up_90_46 (x := (ov_w sd)) I82 (by omega)
            have gn0 : ov_go (h 96) (h 103) (h 97) (h 98) ge (-1) 0 0 0 (0 % h 96 9) := y79_.mp (by omega)
            refine ov_blk (ls2 := [(0, ov_r 90), (1, ov_i sd), (2, ov_i m), (3, ov_i ge), (4, ov_i w), (5, ov_i 0), (6, ov_i 0), (7, ov_i 0)]) (st2 := []) (pc2 := 81) b_307_72_6 rfl rfl ?_
            have L104 : ∀ (n101 : Nat) (x5 : Int) (x6 : Int) (x7 : Int) (z105 : ov_Z) (h106 : ov_H) (I107 : ov_N F z105 h106) (E108 : h106 91 = h 91) (E109 : h106 92 = h 92) (E110 : h106 93 = h 93) (E111 : h106 94 = h 94) (E112 : h106 95 = h 95) (E113 : h106 96 = h 96) (E114 : h106 97 = h 97) (E115 : h106 98 = h 98) (E116 : h106 99 = h 99) (E117 : h106 100 = h 100) (E118 : h106 103 = h 103) (E119 : h106 109 = h 109) (xm : ov_MI (h 96) (h 103) (h 97) (h 98) ge (-1) 0 (h41 90 25) (h106 105) (h106 106)) (q103 : 0 ≤ x7 ∧ x7 ≤ 30 ∧ 0 ≤ x5 ∧ x5 ≤ 1157 * x7 ∧ 0 ≤ x6 ∧ x6 ≤ 1157 ∧ (h106 90 2) = (h81 90 2) ∧ (h106 90 7) = (h81 90 7) ∧ (h106 90 8) = (h81 90 8) ∧ (h106 90 13) = (h81 90 13) ∧ (h106 90 20) = (h81 90 20) ∧ (h106 90 22) = (h81 90 22) ∧ (h106 90 25) = (h81 90 25) ∧ (h106 90 26) = (h81 90 26) ∧ (h106 90 28) = (h81 90 28) ∧ (h106 90 29) = (h81 90 29) ∧ (h106 90 30) = (h81 90 30) ∧ (h106 90 34) = (h81 90 34)), 30 - x7 < (n101 : Int) → ov_R u d ov_m307 81 [(0, ov_r 90), (1, ov_i sd), (2, ov_i m), (3, ov_i ge), (4, ov_i w), (5, ov_i x5), (6, ov_i x6), (7, ov_i x7)] [] z105 h106 (P_Mo_nights_90 F z h sd m ge w) := by
              intro n101
              induction n101 with
              | zero =>
                intro x5 x6 x7 z105 h106 I107 E108 E109 E110 E111 E112 E113 E114 E115 E116 E117 E118 E119 xm q103 hn120
                exact absurd hn120 (by omega)
              | succ n101 ih102 =>
                intro x5 x6 x7 z105 h106 I107 E108 E109 E110 E111 E112 E113 E114 E115 E116 E117 E118 E119 xm q103 hn120
                refine ov_blk (ls2 := [(0, ov_r 90), (1, ov_i sd), (2, ov_i m), (3, ov_i ge), (4, ov_i w), (5, ov_i x5), (6, ov_i x6), (7, ov_i x7)]) (st2 := [ov_i m, ov_i x7]) (pc2 := 84) b_307_81_2 rfl rfl ?_
                refine ov_icge (tgt := 126) d_307_84 (by decide) (by omega) (by omega) (fun c121 => ?_) (fun c121 => ?_)
                · skip
                  refine ov_blk (ls2 := [(0, ov_r 90), (1, ov_i sd), (2, ov_i m), (3, ov_i ge), (4, ov_i w), (5, ov_i x5), (6, ov_i x6), (7, ov_i x7)]) (st2 := [ov_i w]) (pc2 := 128) b_307_126_1 rfl rfl ?_
                  refine ov_ifne (tgt := 136) d_307_128 (by decide) (by omega) (fun c122 => ?_) (fun c122 => ?_)
                  · skip
                    refine ov_blk (ls2 := [(0, ov_r 90), (1, ov_i sd), (2, ov_i m), (3, ov_i ge), (4, ov_i w), (5, ov_i x5), (6, ov_i x6), (7, ov_i x7)]) (st2 := [ov_i x6]) (pc2 := 138) b_307_136_1 rfl rfl ?_
                    have pm123 : ov_PM (h 96) (h 103) (h 97) (h 98) (h106 105) (h106 106) (h106 90 22) (h106 90 25) (h106 90 26) (h106 90 28) (h106 90 29) (h106 90 30) := ov_PM_mi xm (by omega) (by omega) (by omega) (by omega) (by omega) (by omega)
                    exact ov_reti (st := []) d_307_138 rfl ⟨_, rfl, I107, (by show (h106 90 2) = (h 90 2) ∧ (h106 90 7) = (h 90 7) ∧ (h106 90 8) = (h 90 8) ∧ (h106 90 13) = (h 90 13) ∧ (h106 90 20) = (h 90 20) ∧ (h106 90 22) = (h 90 22) ∧ (h106 90 34) = (h 90 34) ∧ (h 90 25) ≤ (h106 90 25) ∧ (h106 90 25) ≤ (h 90 25) + 1 ∧ -2147483648 ≤ x6 ∧ x6 ≤ 2147483647; omega), E108, E109, E110, E111, E112, E113, E114, E115, E116, E117, E118, E119, pm123⟩
                  · skip
                    refine ov_blk (ls2 := [(0, ov_r 90), (1, ov_i sd), (2, ov_i m), (3, ov_i ge), (4, ov_i w), (5, ov_i x5), (6, ov_i x6), (7, ov_i x7)]) (st2 := [ov_i x5]) (pc2 := 133) b_307_131_1 rfl rfl ?_
                    refine ov_goto (tgt := 138) d_307_133 (by decide) ?_
                    have pm124 : ov_PM (h 96) (h 103) (h 97) (h 98) (h106 105) (h106 106) (h106 90 22) (h106 90 25) (h106 90 26) (h106 90 28) (h106 90 29) (h106 90 30) := ov_PM_mi xm (by omega) (by omega) (by omega) (by omega) (by omega) (by omega)
                    exact ov_reti (st := []) d_307_138 rfl ⟨_, rfl, I107, (by show (h106 90 2) = (h 90 2) ∧ (h106 90 7) = (h 90 7) ∧ (h106 90 8) = (h 90 8) ∧ (h106 90 13) = (h 90 13) ∧ (h106 90 20) = (h 90 20) ∧ (h106 90 22) = (h 90 22) ∧ (h106 90 34) = (h 90 34) ∧ (h 90 25) ≤ (h106 90 25) ∧ (h106 90 25) ≤ (h 90 25) + 1 ∧ -2147483648 ≤ x5 ∧ x5 ≤ 2147483647; omega), E108, E109, E110, E111, E112, E113, E114, E115, E116, E117, E118, E119, pm124⟩
                · skip
                  refine ov_blk (ls2 := [(0, ov_r 90), (1, ov_i sd), (2, ov_i m), (3, ov_i ge), (4, ov_i w), (5, ov_i x5), (6, ov_i x6), (7, ov_i x7)]) (st2 := [ov_r 90]) (pc2 := 88) b_307_87_1 rfl rfl ?_
                  refine ov_cV (as := []) (st := []) (d2 := d - 1) d_307_88 lk_Mo_485 rfl (Nat.le_of_ble_eq_true rfl) (c := 1) (zb_90 I107) (zs_90 I107) ⟨by decide, rfl⟩ (by omega) (c_Mo_draws_90 (d - 1) (by omega) U I107 (by rw [show h106 96 = h 96 from E113]; exact W)) ?_
                  rintro _ z141 h142 ⟨rfl, I143, f125, e126, e127, e128, e129, e130, e131, e132, e133, e134, e135, e136, e137, e138, e139, y140⟩
                  have E144 : h142 91 = h 91 := Eq.trans e126 E108
                  have E145 : h142 92 = h 92 := Eq.trans e127 E109
                  have E146 : h142 93 = h 93 := Eq.trans e128 E110
                  have E147 : h142 94 = h 94 := Eq.trans e129 E111
                  have E148 : h142 95 = h 95 := Eq.trans e130 E112
                  have E149 : h142 96 = h 96 := Eq.trans e131 E113
                  have E150 : h142 97 = h 97 := Eq.trans e132 E114
                  have E151 : h142 98 = h 98 := Eq.trans e133 E115
                  have E152 : h142 99 = h 99 := Eq.trans e134 E116
                  have E153 : h142 100 = h 100 := Eq.trans e135 E117
                  have E154 : h142 103 = h 103 := Eq.trans e136 E118
                  have E155 : h142 105 = h106 105 := e137
                  have E156 : h142 106 = h106 106 := e138
                  have E157 : h142 109 = h 109 := Eq.trans e139 E119
                  show ov_R u d ov_m307 91 [(0, ov_r 90), (1, ov_i sd), (2, ov_i m), (3, ov_i ge), (4, ov_i w), (5, ov_i x5), (6, ov_i x6), (7, ov_i x7)] [] z141 h142 (P_Mo_nights_90 F z h sd m ge w)
                  have f158 : (h142 90 2) = (h106 90 2) ∧ (h142 90 7) = (h106 90 7) ∧ (h142 90 8) = (h106 90 8) ∧ (h142 90 13) = (h106 90 13) ∧ (h142 90 20) = (h106 90 20) ∧ (h142 90 22) = (h106 90 22) ∧ (h142 90 25) = (h106 90 25) ∧ (h142 90 26) = (h106 90 26) ∧ (h142 90 28) = (h106 90 28) ∧ (h142 90 29) = (h106 90 29) ∧ (h142 90 30) = (h106 90 30) ∧ (h142 90 34) = (h106 90 34) := f125
                  clear f125
                  rw [show h106 103 = h 103 from E118] at y140
                  rw [show h106 96 = h 96 from E113] at y140
                  have y140_ : ∀ c : Int, 0 ≤ c → c ≤ 53 → ¬ ((h 96) (10 + 4 * c) = 2 ∧ ¬ (h 103) (4 + c) = 1) → (h142 114) c = 0 := y140
                  refine ov_blk (ls2 := [(0, ov_r 90), (1, ov_i sd), (2, ov_i m), (3, ov_i ge), (4, ov_i w), (5, ov_i x5), (6, ov_i x6), (7, ov_i x7)]) (st2 := [ov_r 90]) (pc2 := 92) b_307_91_1 rfl rfl ?_
                  have cf159 : h142 96 (8) = h 96 (8) := congrFun E149 (8)
                  refine ov_cV (as := []) (st := []) (d2 := d - 1) d_307_92 lk_Mo_488 rfl (Nat.le_of_ble_eq_true rfl) (c := 1) (zb_90 I143) (zs_90 I143) ⟨by decide, rfl⟩ (by omega) (c_Mo_night_90 ge ((-1)) 0 ((h41 90 25)) (d - 1) (by omega) U I143 (by omega) (by show (h142 90 26) = ge; omega) (by show (h142 90 29) = ((-1) : Int); omega) (by show (h142 90 30) = (0 : Int); omega) (by show (h142 90 25) = (h41 90 25); omega) (by show 0 ≤ ge ∧ ge ≤ 3 + (h142 96 8); omega) (by rw [show h142 96 = h 96 from E149]; exact W) (by rw [show h142 96 = h 96 from E149, show h142 97 = h 97 from E150, show h142 98 = h 98 from E151]; exact CD) (by rw [show h142 96 = h 96 from E149, show h142 103 = h 103 from E154, show h142 97 = h 97 from E150, show h142 98 = h 98 from E151, show h142 105 = h106 105 from E155, show h142 106 = h106 106 from E156]; exact xm) (by rw [show h142 96 = h 96 from E149, show h142 103 = h 103 from E154, show h142 97 = h 97 from E150, show h142 98 = h 98 from E151]; exact gn0) (by rw [show h142 96 = h 96 from E149, show h142 103 = h 103 from E154]; exact y140_)) ?_
                  rintro _ z176 h177 ⟨v161, rfl, I178, f160, e162, e163, e164, e165, e166, e167, e168, e169, e170, e171, e172, e173, e174, y175⟩
                  have E179 : h177 91 = h 91 := Eq.trans e162 E144
                  have E180 : h177 92 = h 92 := Eq.trans e163 E145
                  have E181 : h177 93 = h 93 := Eq.trans e164 E146
                  have E182 : h177 94 = h 94 := Eq.trans e165 E147
                  have E183 : h177 95 = h 95 := Eq.trans e166 E148
                  have E184 : h177 96 = h 96 := Eq.trans e167 E149
                  have E185 : h177 97 = h 97 := Eq.trans e168 E150
                  have E186 : h177 98 = h 98 := Eq.trans e169 E151
                  have E187 : h177 99 = h 99 := Eq.trans e170 E152
                  have E188 : h177 100 = h 100 := Eq.trans e171 E153
                  have E189 : h177 103 = h 103 := Eq.trans e172 E154
                  have E190 : h177 109 = h 109 := Eq.trans e173 E157
                  have E191 : h177 114 = h142 114 := e174
                  show ov_R u d ov_m307 95 [(0, ov_r 90), (1, ov_i sd), (2, ov_i m), (3, ov_i ge), (4, ov_i w), (5, ov_i x5), (6, ov_i x6), (7, ov_i x7)] [ov_i v161] z176 h177 (P_Mo_nights_90 F z h sd m ge w)
                  have f192 : (h177 90 2) = (h142 90 2) ∧ (h177 90 7) = (h142 90 7) ∧ (h177 90 8) = (h142 90 8) ∧ (h177 90 13) = (h142 90 13) ∧ (h177 90 20) = (h142 90 20) ∧ (h177 90 22) = (h142 90 22) ∧ (h177 90 25) = (h142 90 25) ∧ (h177 90 26) = (h142 90 26) ∧ (h177 90 28) = (h142 90 28) ∧ (h177 90 29) = (h142 90 29) ∧ (h177 90 30) = (h142 90 30) ∧ (h177 90 34) = (h142 90 34) ∧ 0 ≤ v161 ∧ v161 ≤ 1157 := f160
                  clear f160
                  rw [show h142 103 = h 103 from E154] at y175
                  rw [show h142 96 = h 96 from E149] at y175
                  rw [show h142 97 = h 97 from E150] at y175
                  rw [show h142 98 = h 98 from E151] at y175
                  have y175_ : ov_MI (h 96) (h 103) (h 97) (h 98) ge ((-1) : Int) (0 : Int) (h41 90 25) (h177 105) (h177 106) := y175
                  refine ov_blk (ls2 := [(0, ov_r 90), (1, ov_i sd), (2, ov_i m), (3, ov_i ge), (4, ov_i w), (5, ov_i (x5 + v161)), (6, ov_i x6), (7, ov_i x7), (8, ov_i v161)]) (st2 := [ov_i x6, ov_i v161]) (pc2 := 108) b_307_95_7 rfl rfl ?_
                  refine ov_icle (tgt := 116) d_307_108 (by decide) (by omega) (by omega) (fun c193 => ?_) (fun c193 => ?_)
                  · skip
                    refine ov_blk (ls2 := [(0, ov_r 90), (1, ov_i sd), (2, ov_i m), (3, ov_i ge), (4, ov_i w), (5, ov_i (x5 + v161)), (6, ov_i x6), (7, ov_i (x7 + 1)), (8, ov_i v161)]) (st2 := []) (pc2 := 123) b_307_116_3 rfl rfl ?_
                    refine ov_goto (tgt := 81) d_307_123 (by decide) ?_
                    refine ov_sub (ls2 := [(0, ov_r 90), (1, ov_i sd), (2, ov_i m), (3, ov_i ge), (4, ov_i w), (5, ov_i (x5 + v161)), (6, ov_i x6), (7, ov_i (x7 + 1))]) (List.Sublist.subset (by repeat (first | exact List.Sublist.refl _ | apply List.Sublist.cons_cons | apply List.Sublist.cons))) ?_
                    exact ih102 (x5 + v161) x6 (x7 + 1) _ _ I178 E179 E180 E181 E182 E183 E184 E185 E186 E187 E188 E189 E190 y175_ (by show 0 ≤ (x7 + 1) ∧ (x7 + 1) ≤ 30 ∧ 0 ≤ (x5 + v161) ∧ (x5 + v161) ≤ 1157 * (x7 + 1) ∧ 0 ≤ x6 ∧ x6 ≤ 1157 ∧ (h177 90 2) = (h81 90 2) ∧ (h177 90 7) = (h81 90 7) ∧ (h177 90 8) = (h81 90 8) ∧ (h177 90 13) = (h81 90 13) ∧ (h177 90 20) = (h81 90 20) ∧ (h177 90 22) = (h81 90 22) ∧ (h177 90 25) = (h81 90 25) ∧ (h177 90 26) = (h81 90 26) ∧ (h177 90 28) = (h81 90 28) ∧ (h177 90 29) = (h81 90 29) ∧ (h177 90 30) = (h81 90 30) ∧ (h177 90 34) = (h81 90 34); omega) (by omega)
                  · skip
                    refine ov_blk (ls2 := [(0, ov_r 90), (1, ov_i sd), (2, ov_i m), (3, ov_i ge), (4, ov_i w), (5, ov_i (x5 + v161)), (6, ov_i x6), (7, ov_i x7), (8, ov_i v161)]) (st2 := [ov_i v161]) (pc2 := 113) b_307_111_1 rfl rfl ?_
                    refine ov_goto (tgt := 118) d_307_113 (by decide) ?_
                    refine ov_blk (ls2 := [(0, ov_r 90), (1, ov_i sd), (2, ov_i m), (3, ov_i ge), (4, ov_i w), (5, ov_i (x5 + v161)), (6, ov_i v161), (7, ov_i (x7 + 1)), (8, ov_i v161)]) (st2 := []) (pc2 := 123) b_307_118_2 rfl rfl ?_
                    refine ov_goto (tgt := 81) d_307_123 (by decide) ?_
                    refine ov_sub (ls2 := [(0, ov_r 90), (1, ov_i sd), (2, ov_i m), (3, ov_i ge), (4, ov_i w), (5, ov_i (x5 + v161)), (6, ov_i v161), (7, ov_i (x7 + 1))]) (List.Sublist.subset (by repeat (first | exact List.Sublist.refl _ | apply List.Sublist.cons_cons | apply List.Sublist.cons))) ?_
                    exact ih102 (x5 + v161) v161 (x7 + 1) _ _ I178 E179 E180 E181 E182 E183 E184 E185 E186 E187 E188 E189 E190 y175_ (by show 0 ≤ (x7 + 1) ∧ (x7 + 1) ≤ 30 ∧ 0 ≤ (x5 + v161) ∧ (x5 + v161) ≤ 1157 * (x7 + 1) ∧ 0 ≤ v161 ∧ v161 ≤ 1157 ∧ (h177 90 2) = (h81 90 2) ∧ (h177 90 7) = (h81 90 7) ∧ (h177 90 8) = (h81 90 8) ∧ (h177 90 13) = (h81 90 13) ∧ (h177 90 20) = (h81 90 20) ∧ (h177 90 22) = (h81 90 22) ∧ (h177 90 25) = (h81 90 25) ∧ (h177 90 26) = (h81 90 26) ∧ (h177 90 28) = (h81 90 28) ∧ (h177 90 29) = (h81 90 29) ∧ (h177 90 30) = (h81 90 30) ∧ (h177 90 34) = (h81 90 34); omega) (by omega)
            exact L104 31 0 0 0 _ _ I100 E83 E84 E85 E86 E87 E88 E89 E90 E91 E92 E93 E94 y78_ (by show 0 ≤ 0 ∧ 0 ≤ 30 ∧ 0 ≤ 0 ∧ 0 ≤ 1157 * 0 ∧ 0 ≤ 0 ∧ 0 ≤ 1157 ∧ (h81 90 2) = (h81 90 2) ∧ (h81 90 7) = (h81 90 7) ∧ (h81 90 8) = (h81 90 8) ∧ (h81 90 13) = (h81 90 13) ∧ (h81 90 20) = (h81 90 20) ∧ (h81 90 22) = (h81 90 22) ∧ (h81 90 25) = (h81 90 25) ∧ (h81 90 26) = (h81 90 26) ∧ (h81 90 28) = (h81 90 28) ∧ (h81 90 29) = (h81 90 29) ∧ (h81 90 30) = (h81 90 30) ∧ (h81 90 34) = (h81 90 34); omega) (by omega)
          · skip
            refine ov_blk (ls2 := [(0, ov_r 90), (1, ov_i sd), (2, ov_i m), (3, ov_i ge), (4, ov_i w)]) (st2 := [ov_i (-1)]) (pc2 := 65) b_307_64_1 rfl rfl ?_
            have pm194 : ov_PM (h 96) (h 103) (h 97) (h 98) (h81 105) (h81 106) (h81 90 22) (h81 90 25) (h81 90 26) (h81 90 28) (h81 90 29) (h81 90 30) := ov_PM_mi y78_ (by omega) (by omega) (by omega) (by omega) (by omega) (by omega)
            exact ov_reti (st := []) d_307_65 rfl ⟨_, rfl, I82, (by show (h81 90 2) = (h 90 2) ∧ (h81 90 7) = (h 90 7) ∧ (h81 90 8) = (h 90 8) ∧ (h81 90 13) = (h 90 13) ∧ (h81 90 20) = (h 90 20) ∧ (h81 90 22) = (h 90 22) ∧ (h81 90 34) = (h 90 34) ∧ (h 90 25) ≤ (h81 90 25) ∧ (h81 90 25) ≤ (h 90 25) + 1 ∧ -2147483648 ≤ (-1) ∧ (-1) ≤ 2147483647; omega), E83, E84, E85, E86, E87, E88, E89, E90, E91, E92, E93, E94, pm194⟩
        · skip
          have f21_ : v20 = 0 := by omega
          have f195 : w < (0 : Int) ∨ (1 : Int) < w := f21.2.2 (by omega)
          clear f21
          refine ov_blk (ls2 := [(0, ov_r 90), (1, ov_i sd), (2, ov_i m), (3, ov_i ge), (4, ov_i w)]) (st2 := [ov_i (-1)]) (pc2 := 45) b_307_44_1 rfl rfl ?_
          exact ov_reti (st := []) d_307_45 rfl ⟨_, rfl, I1, ⟨rfl, rfl, rfl, rfl, rfl, rfl, rfl, (by show (h 90 25) ≤ (h 90 25) ∧ (h 90 25) ≤ (h 90 25) + 1 ∧ -2147483648 ≤ (-1) ∧ (-1) ≤ 2147483647; omega)⟩, rfl, rfl, rfl, rfl, rfl, rfl, rfl, rfl, rfl, rfl, rfl, rfl, PM⟩

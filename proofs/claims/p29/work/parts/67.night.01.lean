abbrev P_Mo_night_90 (F : ov_H × ov_Z) (z : ov_Z) (h : ov_H) (go : Int) (wt : Int) (sf : Int) (sm : Int) : Option ov_V → ov_Z → ov_H → Prop := fun r0 z' h' => ∃ r : Int, r0 = some (ov_i r) ∧ ov_N F z' h' ∧ ((h' 90 2) = (h 90 2) ∧ (h' 90 7) = (h 90 7) ∧ (h' 90 8) = (h 90 8) ∧ (h' 90 13) = (h 90 13) ∧ (h' 90 20) = (h 90 20) ∧ (h' 90 22) = (h 90 22) ∧ (h' 90 25) = (h 90 25) ∧ (h' 90 26) = (h 90 26) ∧ (h' 90 28) = (h 90 28) ∧ (h' 90 29) = (h 90 29) ∧ (h' 90 30) = (h 90 30) ∧ (h' 90 34) = (h 90 34) ∧ 0 ≤ r ∧ r ≤ 1157) ∧ h' 91 = h 91 ∧ h' 92 = h 92 ∧ h' 93 = h 93 ∧ h' 94 = h 94 ∧ h' 95 = h 95 ∧ h' 96 = h 96 ∧ h' 97 = h 97 ∧ h' 98 = h 98 ∧ h' 99 = h 99 ∧ h' 100 = h 100 ∧ h' 103 = h 103 ∧ h' 104 = h 104 ∧ h' 109 = h 109 ∧ h' 114 = h 114 ∧ (ov_MI (h 96) (h 103) (h 97) (h 98) go wt sf sm (h' 105) (h' 106))
set_option maxHeartbeats 4000000 in
theorem c_Mo_night_90 {u : ov_U} {F : ov_H × ov_Z} (go : Int) (wt : Int) (sf : Int) (sm : Int) {z : ov_Z} {h : ov_H} (d : Nat) (hd : 90 ≤ d) (U : ov_cap u) (I : ov_N F z h) (p0 : wt = -1) (p1 : (h 90 26) = go) (p2 : (h 90 29) = wt) (p3 : (h 90 30) = sf) (p4 : (h 90 25) = sm) (p5 : 0 ≤ go ∧ go ≤ 3 + (h 96 8)) (W : ov_WT (h 96)) (CD : ov_CD (h 96) (h 97) (h 98)) (MI : ov_MI (h 96) (h 103) (h 97) (h 98) go wt sf sm (h 105) (h 106)) (GN : ov_go (h 96) (h 103) (h 97) (h 98) go wt sf 0 0 (0 % (h 96 9))) (SD : ∀ c : Int, 0 ≤ c → c ≤ 53 → ¬ ((h 96) (10 + 4 * c) = 2 ∧ ¬ (h 103) (4 + c) = 1) → (h 114) c = 0) : ov_T u d ov_m310 [ov_r 90] z h (P_Mo_night_90 F z h go wt sf sm) := by
  refine ov_en rfl (Nat.le_of_ble_eq_true rfl) ?_
  show ov_R u d ov_m310 0 [(0, ov_r 90)] [] z h (P_Mo_night_90 F z h go wt sf sm)
  have t0 := t96_0 I
  have t1 := t96_1 I
  have t2 := t96_2 I
  have t8 := t96_8 I
  have t9 := t96_9 I
  refine ov_blk (ls2 := [(0, ov_r 90), (1, ov_i 0), (2, ov_i 0), (3, ov_i 0)]) (st2 := []) (pc2 := 6) b_310_0_6 rfl rfl ?_
  have L4 : ∀ (n1 : Nat) (x1 : Int) (x2 : Int) (x3 : Int) (z5 : ov_Z) (h6 : ov_H) (I7 : ov_N F z5 h6) (E8 : h6 91 = h 91) (E9 : h6 92 = h 92) (E10 : h6 93 = h 93) (E11 : h6 94 = h 94) (E12 : h6 95 = h 95) (E13 : h6 96 = h 96) (E14 : h6 97 = h 97) (E15 : h6 98 = h 98) (E16 : h6 99 = h 99) (E17 : h6 100 = h 100) (E18 : h6 103 = h 103) (E19 : h6 104 = h 104) (E20 : h6 109 = h 109) (E21 : h6 114 = h 114) (xm : ov_MI (h 96) (h 103) (h 97) (h 98) go wt sf sm (h6 105) (h6 106)) (xg : ov_go (h 96) (h 103) (h 97) (h 98) go wt sf x1 x2 (x3 % (h 96 9))) (q3 : 0 ≤ x1 ∧ x1 < (h 96 0) ∧ 0 ≤ x2 ∧ x2 < (h 96 1) ∧ 0 ≤ x3 ∧ x3 ≤ 89 * (x1 + x2) ∧ (h6 90 2) = (h 90 2) ∧ (h6 90 7) = (h 90 7) ∧ (h6 90 8) = (h 90 8) ∧ (h6 90 13) = (h 90 13) ∧ (h6 90 20) = (h 90 20) ∧ (h6 90 22) = (h 90 22) ∧ (h6 90 25) = (h 90 25) ∧ (h6 90 26) = (h 90 26) ∧ (h6 90 28) = (h 90 28) ∧ (h6 90 29) = (h 90 29) ∧ (h6 90 30) = (h 90 30) ∧ (h6 90 34) = (h 90 34)), 14 - x1 - x2 < (n1 : Int) → ov_R u d ov_m310 6 [(0, ov_r 90), (1, ov_i x1), (2, ov_i x2), (3, ov_i x3)] [] z5 h6 (P_Mo_night_90 F z h go wt sf sm) := by
    intro n1
    induction n1 with
    | zero =>
      intro x1 x2 x3 z5 h6 I7 E8 E9 E10 E11 E12 E13 E14 E15 E16 E17 E18 E19 E20 E21 xm xg q3 hn22
      exact absurd hn22 (by omega)
    | succ n1 ih2 =>
      intro x1 x2 x3 z5 h6 I7 E8 E9 E10 E11 E12 E13 E14 E15 E16 E17 E18 E19 E20 E21 xm xg q3 hn22
      refine ov_blk (ls2 := [(0, ov_r 90), (1, ov_i x1), (2, ov_i x2), (3, ov_i x3)]) (st2 := [ov_i x2, ov_i x1, ov_r 90]) (pc2 := 9) b_310_6_3 rfl rfl ?_
      refine ov_cV (as := [ov_i x1, ov_i x2]) (st := []) (d2 := d - 1) d_310_9 lk_Mo_335 rfl (Nat.le_of_ble_eq_true rfl) (c := 1) (zb_90 I7) (zs_90 I7) ⟨by decide, rfl⟩ (by omega) (c_Mo_isHome_90 (d - 1) (by omega) U I7 x1 x2 (by omega) (by omega) (by omega)) ?_
      rintro _ _ _ ⟨v24, rfl, rfl, rfl, f23⟩
      show ov_R u d ov_m310 12 [(0, ov_r 90), (1, ov_i x1), (2, ov_i x2), (3, ov_i x3)] [ov_i v24] z5 h6 (P_Mo_night_90 F z h go wt sf sm)
      rw [show h6 96 = h 96 from E13] at f23
      have f25 : (v24 = 0 ∨ v24 = 1) ∧ (v24 = 1 → x1 = (h 96 0) - 1 ∧ x2 = (h 96 1) - 1) ∧ (v24 = 0 → ¬ (x1 = (h 96 0) - 1 ∧ x2 = (h 96 1) - 1)) := f23
      clear f23
      refine ov_ifne (tgt := 84) d_310_12 (by decide) (by omega) (fun c26 => ?_) (fun c26 => ?_)
      · skip
        have f25_ : v24 = 1 := by omega
        have f27 : x1 = (h 96 0) - 1 ∧ x2 = (h 96 1) - 1 := f25.2.1 (by omega)
        clear f25
        refine ov_blk (ls2 := [(0, ov_r 90), (1, ov_i x1), (2, ov_i x2), (3, ov_i x3)]) (st2 := [ov_i x3]) (pc2 := 85) b_310_84_1 rfl rfl ?_
        exact ov_reti (st := []) d_310_85 rfl ⟨_, rfl, I7, (by show (h6 90 2) = (h 90 2) ∧ (h6 90 7) = (h 90 7) ∧ (h6 90 8) = (h 90 8) ∧ (h6 90 13) = (h 90 13) ∧ (h6 90 20) = (h 90 20) ∧ (h6 90 22) = (h 90 22) ∧ (h6 90 25) = (h 90 25) ∧ (h6 90 26) = (h 90 26) ∧ (h6 90 28) = (h 90 28) ∧ (h6 90 29) = (h 90 29) ∧ (h6 90 30) = (h 90 30) ∧ (h6 90 34) = (h 90 34) ∧ 0 ≤ x3 ∧ x3 ≤ 1157; omega), E8, E9, E10, E11, E12, E13, E14, E15, E16, E17, E18, E19, E20, E21, xm⟩
      · skip
        have f25_ : v24 = 0 := by omega
        have f28 : ¬ (x1 = (h 96 0) - 1 ∧ x2 = (h 96 1) - 1) := f25.2.2 (by omega)
        clear f25
        refine ov_blk (ls2 := [(0, ov_r 90), (1, ov_i x1), (2, ov_i x2), (3, ov_i x3)]) (st2 := [ov_r 90, ov_i x3]) (pc2 := 17) b_310_15_2 rfl rfl ?_
        refine ov_getf (v := ov_r 114) d_310_17 fl_Mo_144 (zb_90 I7) (zs_90 I7) (congrArg ov_r (rg_90_47 I7)) ?_
        refine ov_blk (ls2 := [(0, ov_r 90), (1, ov_i x1), (2, ov_i x2), (3, ov_i x3)]) (st2 := [ov_i ((6 * x2) + x1), ov_r 114, ov_i x3]) (pc2 := 26) b_310_20_5 rfl rfl ?_
        refine ov_iald d_310_26 (zb_114 I7) (zs_114 I7) (by omega) ?_
        rw [show h6 114 = h 114 from E21]
        have g29 := ra_114 I ((6 * x2) + x1)
        refine ov_blk (ls2 := [(0, ov_r 90), (1, ov_i x1), (2, ov_i x2), (3, ov_i x3), (4, ov_i (x3 + (h 114 ((6 * x2) + x1))))]) (st2 := [ov_r 90, ov_i x3, ov_i x2, ov_i x1, ov_r 90]) (pc2 := 35) b_310_27_7 rfl rfl ?_
        refine ov_getf (v := ov_r 96) d_310_35 fl_Mo_81 (zb_90 I7) (zs_90 I7) (congrArg ov_r (rg_90_10 I7)) ?_
        refine ov_blk (ls2 := [(0, ov_r 90), (1, ov_i x1), (2, ov_i x2), (3, ov_i x3), (4, ov_i (x3 + (h 114 ((6 * x2) + x1))))]) (st2 := [ov_i 9, ov_r 96, ov_i x3, ov_i x2, ov_i x1, ov_r 90]) (pc2 := 40) b_310_38_1 rfl rfl ?_
        refine ov_iald d_310_40 (zb_96 I7) (zs_96 I7) (by omega) ?_
        rw [show h6 96 = h 96 from E13]
        have g30 := t96_9 I
        have gt1 := ov_tmv (x := x3) (y := (h 96 9)) (by omega) (by omega)
        have gt2 : Int.tmod x3 (h 96 9) = x3 % (h 96 9) := ov_tm (by omega)
        have go1 : ov_go (h 96) (h 103) (h 97) (h 98) go wt sf x1 x2 (Int.tmod x3 (h 96 9)) := by rw [gt2]; exact xg
        have w1 := ov_WT_at W (c := 6 * x2 + x1) (by omega)
        have gq : ov_gs (h 96) (h 97) (h 98) (ov_go (h 96) (h 103) (h 97) (h 98) go wt sf) go x1 x2 (Int.tmod x3 (h 96 9)) (x3 + (h 114 ((6 * x2) + x1))) := ov_ngs W (by omega) (by omega) (by omega) (by omega) gt2 (SD (6 * x2 + x1) (by omega) (by omega)) go1
        refine ov_irem d_310_41 (by omega) (by omega) (by omega) ?_
        have g31 := ov_tmg (a := x3) (b := (h 96 9)) (by omega) (by omega)
        refine ov_blk (ls2 := [(0, ov_r 90), (1, ov_i x1), (2, ov_i x2), (3, ov_i x3), (4, ov_i (x3 + (h 114 ((6 * x2) + x1))))]) (st2 := [ov_i (x3 + (h 114 ((6 * x2) + x1))), ov_i (Int.tmod x3 (h 96 9)), ov_i x2, ov_i x1, ov_r 90]) (pc2 := 44) b_310_42_1 rfl rfl ?_
        have cf32 : h6 96 (0) = h 96 (0) := congrFun E13 (0)
        have cf33 : h6 96 (1) = h 96 (1) := congrFun E13 (1)
        have cf34 : h6 96 (9) = h 96 (9) := congrFun E13 (9)
        have cf35 : h6 96 (8) = h 96 (8) := congrFun E13 (8)
        refine ov_cV (as := [ov_i x1, ov_i x2, ov_i (Int.tmod x3 (h 96 9)), ov_i (x3 + (h 114 ((6 * x2) + x1)))]) (st := []) (d2 := d - 1) d_310_44 lk_Mo_371 rfl (Nat.le_of_ble_eq_true rfl) (c := 1) (zb_90 I7) (zs_90 I7) ⟨by decide, rfl⟩ (by omega) (c_Mo_wayOf_90_all go wt sf sm (Int.toNat (13 - (x1) - (x2))) (d - 1) (by omega) U I7 x1 x2 (Int.tmod x3 (h 96 9)) (x3 + (h 114 ((6 * x2) + x1))) (by omega) (by omega) (by omega) (by omega) (by omega) (by show x1 < (h6 96 0) ∧ x2 < (h6 96 1); omega) (by omega) (by show 0 ≤ (Int.tmod x3 (h 96 9)) ∧ (Int.tmod x3 (h 96 9)) < (h6 96 9); omega) (by omega) (by show (h6 90 26) = go; omega) (by show (h6 90 29) = wt; omega) (by show (h6 90 30) = sf; omega) (by show (h6 90 25) = sm; omega) (by show 0 ≤ go ∧ go ≤ 3 + (h6 96 8); omega) (by rw [show h6 96 = h 96 from E13]; exact W) (by rw [show h6 96 = h 96 from E13, show h6 97 = h 97 from E14, show h6 98 = h 98 from E15]; exact CD) (by rw [show h6 96 = h 96 from E13, show h6 103 = h 103 from E18, show h6 97 = h 97 from E14, show h6 98 = h 98 from E15]; exact xm)) ?_
        rintro _ z54 h55 ⟨v37, rfl, I56, f36, e38, e39, e40, e41, e42, e43, e44, e45, e46, e47, e48, e49, e50, e51, y52, y53⟩
        have E57 : h55 91 = h 91 := Eq.trans e38 E8
        have E58 : h55 92 = h 92 := Eq.trans e39 E9
        have E59 : h55 93 = h 93 := Eq.trans e40 E10
        have E60 : h55 94 = h 94 := Eq.trans e41 E11
        have E61 : h55 95 = h 95 := Eq.trans e42 E12
        have E62 : h55 96 = h 96 := Eq.trans e43 E13
        have E63 : h55 97 = h 97 := Eq.trans e44 E14
        have E64 : h55 98 = h 98 := Eq.trans e45 E15
        have E65 : h55 99 = h 99 := Eq.trans e46 E16
        have E66 : h55 100 = h 100 := Eq.trans e47 E17
        have E67 : h55 103 = h 103 := Eq.trans e48 E18
        have E68 : h55 104 = h 104 := Eq.trans e49 E19
        have E69 : h55 109 = h 109 := Eq.trans e50 E20
        have E70 : h55 114 = h 114 := Eq.trans e51 E21
        show ov_R u d ov_m310 47 [(0, ov_r 90), (1, ov_i x1), (2, ov_i x2), (3, ov_i x3), (4, ov_i (x3 + (h 114 ((6 * x2) + x1))))] [ov_i v37] z54 h55 (P_Mo_night_90 F z h go wt sf sm)
        have f71 : (h55 90 2) = (h6 90 2) ∧ (h55 90 7) = (h6 90 7) ∧ (h55 90 8) = (h6 90 8) ∧ (h55 90 13) = (h6 90 13) ∧ (h55 90 20) = (h6 90 20) ∧ (h55 90 22) = (h6 90 22) ∧ (h55 90 25) = (h6 90 25) ∧ (h55 90 26) = (h6 90 26) ∧ (h55 90 28) = (h6 90 28) ∧ (h55 90 29) = (h6 90 29) ∧ (h55 90 30) = (h6 90 30) ∧ (h55 90 34) = (h6 90 34) ∧ -1 ≤ v37 ∧ v37 ≤ 1 := f36
        clear f36
        rw [show h6 103 = h 103 from E18] at y52
        rw [show h6 96 = h 96 from E13] at y52
        rw [show h6 97 = h 97 from E14] at y52
        rw [show h6 98 = h 98 from E15] at y52
        have y52_ : ov_MI (h 96) (h 103) (h 97) (h 98) go wt sf sm (h55 105) (h55 106) := y52
        rw [show h6 103 = h 103 from E18] at y53
        rw [show h6 96 = h 96 from E13] at y53
        rw [show h6 97 = h 97 from E14] at y53
        rw [show h6 98 = h 98 from E15] at y53
        have y53_ : ov_wf (h 96) (h 97) (h 98) (ov_go (h 96) (h 103) (h 97) (h 98) go wt sf) go x1 x2 (Int.tmod x3 (h 96 9)) (x3 + (h 114 ((6 * x2) + x1))) v37 := y53
        have r0 : 0 ≤ v37 := if c : 0 ≤ v37 then c else absurd gq (ov_wf_no y53_ (by omega))
        have cg := (ov_cgi_sp (h 96) x1 x2 v37).2 (y53_.1 r0)
        have gn := (ov_wf_gs y53_ r0).mpr gq
        refine ov_blk (ls2 := [(0, ov_r 90), (1, ov_i x1), (2, ov_i x2), (3, ov_i x3), (4, ov_i (x3 + (h 114 ((6 * x2) + x1)))), (5, ov_i v37)]) (st2 := [ov_i (x3 + (h 114 ((6 * x2) + x1))), ov_i v37, ov_i x2, ov_i x1, ov_r 90, ov_i x3]) (pc2 := 57) b_310_47_7 rfl rfl ?_
        have cf72 : h55 96 (10 + 4 * (6 * x2 + x1)) = h 96 (10 + 4 * (6 * x2 + x1)) := congrFun E62 (10 + 4 * (6 * x2 + x1))
        have cf73 : h55 96 (10 + 4 * (6 * x2 + x1) + 3) = h 96 (10 + 4 * (6 * x2 + x1) + 3) := congrFun E62 (10 + 4 * (6 * x2 + x1) + 3)
        have cf74 : h55 96 (10 + 4 * (6 * x2 + x1) + 1) = h 96 (10 + 4 * (6 * x2 + x1) + 1) := congrFun E62 (10 + 4 * (6 * x2 + x1) + 1)
        refine ov_cV (as := [ov_i x1, ov_i x2, ov_i v37, ov_i (x3 + (h 114 ((6 * x2) + x1)))]) (st := [ov_i x3]) (d2 := d - 1) d_310_57 lk_Mo_315 rfl (Nat.le_of_ble_eq_true rfl) (c := 1) (zb_90 I56) (zs_90 I56) ⟨by decide, rfl⟩ (by omega) (c_Mo_waitFor_90 (d - 1) (by omega) U I56 x1 x2 v37 (x3 + (h 114 ((6 * x2) + x1))) (by omega) (by omega) (by omega) (by omega) (by omega) (by omega) (by omega) (by show (((h55 96 (10 + 4 * (6 * x2 + x1))) = 1 ∨ (h55 96 (10 + 4 * (6 * x2 + x1))) = 2) → (v37 = 0 → 0 < (h55 96 (10 + 4 * (6 * x2 + x1) + 3))) ∧ (¬ v37 = 0 → (h55 96 (10 + 4 * (6 * x2 + x1) + 3)) < (h55 96 (10 + 4 * (6 * x2 + x1) + 1)))); omega) (by rw [show h55 96 = h 96 from E62]; exact W)) ?_
        rintro _ _ _ ⟨v76, rfl, rfl, rfl, f75⟩
        show ov_R u d ov_m310 60 [(0, ov_r 90), (1, ov_i x1), (2, ov_i x2), (3, ov_i x3), (4, ov_i (x3 + (h 114 ((6 * x2) + x1)))), (5, ov_i v37)] [ov_i v76, ov_i x3] z54 h55 (P_Mo_night_90 F z h go wt sf sm)
        rw [show h55 96 = h 96 from E62] at f75
        have f77 : 0 ≤ v76 ∧ v76 ≤ 59 ∧ v76 = ov_wm (h 96) (6 * x2 + x1) v37 (x3 + (h 114 ((6 * x2) + x1))) := f75
        clear f75
        refine ov_blk (ls2 := [(0, ov_r 90), (1, ov_i x1), (2, ov_i x2), (3, ov_i x3), (4, ov_i (x3 + (h 114 ((6 * x2) + x1)))), (5, ov_i v37)]) (st2 := [ov_r 90, ov_i v76, ov_i x3]) (pc2 := 61) b_310_60_1 rfl rfl ?_
        refine ov_getf (v := ov_r 96) d_310_61 fl_Mo_81 (zb_90 I56) (zs_90 I56) (congrArg ov_r (rg_90_10 I56)) ?_
        refine ov_blk (ls2 := [(0, ov_r 90), (1, ov_i x1), (2, ov_i x2), (3, ov_i x3), (4, ov_i (x3 + (h 114 ((6 * x2) + x1)))), (5, ov_i v37)]) (st2 := [ov_i 2, ov_r 96, ov_i v76, ov_i x3]) (pc2 := 65) b_310_64_1 rfl rfl ?_
        refine ov_iald d_310_65 (zb_96 I56) (zs_96 I56) (by omega) ?_
        rw [show h55 96 = h 96 from E62]
        have g78 := t96_2 I
        refine ov_blk (ls2 := [(0, ov_r 90), (1, ov_i (x1 + (1 - v37))), (2, ov_i (x2 + v37)), (3, ov_i (x3 + (v76 + (h 96 2)))), (4, ov_i (x3 + (h 114 ((6 * x2) + x1)))), (5, ov_i v37)]) (st2 := []) (pc2 := 81) b_310_66_13 rfl rfl ?_
        refine ov_goto (tgt := 6) d_310_81 (by decide) ?_
        refine ov_sub (ls2 := [(0, ov_r 90), (1, ov_i (x1 + (1 - v37))), (2, ov_i (x2 + v37)), (3, ov_i (x3 + (v76 + (h 96 2))))]) (List.Sublist.subset (by repeat (first | exact List.Sublist.refl _ | apply List.Sublist.cons_cons | apply List.Sublist.cons))) ?_
        have xe : v76 = ov_wm (h 96) (6 * x2 + x1) v37 (x3 + (h 114 ((6 * x2) + x1))) := by omega
        have xg2 : ov_go (h 96) (h 103) (h 97) (h 98) go wt sf (x1 + (1 - v37)) (x2 + v37) ((x3 + (v76 + (h 96 2))) % h 96 9) := by rw [show (x1 + (1 - v37)) = x1 + 1 - v37 by omega, xe, ov_nxb gt2]; exact gn
        exact ih2 (x1 + (1 - v37)) (x2 + v37) (x3 + (v76 + (h 96 2))) _ _ I56 E57 E58 E59 E60 E61 E62 E63 E64 E65 E66 E67 E68 E69 E70 y52_ xg2 (by show 0 ≤ (x1 + (1 - v37)) ∧ (x1 + (1 - v37)) < (h 96 0) ∧ 0 ≤ (x2 + v37) ∧ (x2 + v37) < (h 96 1) ∧ 0 ≤ (x3 + (v76 + (h 96 2))) ∧ (x3 + (v76 + (h 96 2))) ≤ 89 * ((x1 + (1 - v37)) + (x2 + v37)) ∧ (h55 90 2) = (h 90 2) ∧ (h55 90 7) = (h 90 7) ∧ (h55 90 8) = (h 90 8) ∧ (h55 90 13) = (h 90 13) ∧ (h55 90 20) = (h 90 20) ∧ (h55 90 22) = (h 90 22) ∧ (h55 90 25) = (h 90 25) ∧ (h55 90 26) = (h 90 26) ∧ (h55 90 28) = (h 90 28) ∧ (h55 90 29) = (h 90 29) ∧ (h55 90 30) = (h 90 30) ∧ (h55 90 34) = (h 90 34); omega) (by omega)
  exact L4 15 0 0 0 _ _ I rfl rfl rfl rfl rfl rfl rfl rfl rfl rfl rfl rfl rfl rfl MI GN (by show 0 ≤ 0 ∧ 0 < (h 96 0) ∧ 0 ≤ 0 ∧ 0 < (h 96 1) ∧ 0 ≤ 0 ∧ 0 ≤ 89 * (0 + 0) ∧ (h 90 2) = (h 90 2) ∧ (h 90 7) = (h 90 7) ∧ (h 90 8) = (h 90 8) ∧ (h 90 13) = (h 90 13) ∧ (h 90 20) = (h 90 20) ∧ (h 90 22) = (h 90 22) ∧ (h 90 25) = (h 90 25) ∧ (h 90 26) = (h 90 26) ∧ (h 90 28) = (h 90 28) ∧ (h 90 29) = (h 90 29) ∧ (h 90 30) = (h 90 30) ∧ (h 90 34) = (h 90 34); omega) (by omega)
abbrev P_Mo_nights_90 (F : ov_H × ov_Z) (z : ov_Z) (h : ov_H) (sd : Int) (m : Int) (ge : Int) (w : Int) : Option ov_V → ov_Z → ov_H → Prop := fun r0 z' h' => ∃ r : Int, r0 = some (ov_i r) ∧ ov_N F z' h' ∧ ((h' 90 2) = (h 90 2) ∧ (h' 90 7) = (h 90 7) ∧ (h' 90 8) = (h 90 8) ∧ (h' 90 13) = (h 90 13) ∧ (h' 90 20) = (h 90 20) ∧ (h' 90 22) = (h 90 22) ∧ (h' 90 34) = (h 90 34) ∧ (h 90 25) ≤ (h' 90 25) ∧ (h' 90 25) ≤ (h 90 25) + 1 ∧ -2147483648 ≤ r ∧ r ≤ 2147483647) ∧ h' 91 = h 91 ∧ h' 92 = h 92 ∧ h' 93 = h 93 ∧ h' 94 = h 94 ∧ h' 95 = h 95 ∧ h' 96 = h 96 ∧ h' 97 = h 97 ∧ h' 98 = h 98 ∧ h' 99 = h 99 ∧ h' 100 = h 100 ∧ h' 103 = h 103 ∧ h' 104 = h 104 ∧ h' 109 = h 109 ∧ (ov_PM (h 96) (h 103) (h 97) (h 98) (h' 105) (h' 106) (h' 90 22) (h' 90 25) (h' 90 26) (h' 90 28) (h' 90 29) (h' 90 30))
set_option maxHeartbeats 4000000 in
theorem c_Mo_nights_90 {u : ov_U} {F : ov_H × ov_Z} {z : ov_Z} {h : ov_H} (d : Nat) (hd : 110 ≤ d) (U : ov_cap u) (I : ov_N F z h) (sd : Int) (m : Int) (ge : Int) (w : Int) (g_sd : ov_g sd) (g_m : ov_g m) (g_ge : ov_g ge) (g_w : ov_g w) (p0 : 0 ≤ (h 90 25) ∧ (h 90 25) ≤ 1000000000) (W : ov_WT (h 96)) (CD : ov_CD (h 96) (h 97) (h 98)) (PM : ov_PM (h 96) (h 103) (h 97) (h 98) (h 105) (h 106) (h 90 22) (h 90 25) (h 90 26) (h 90 28) (h 90 29) (h 90 30)) : ov_T u d ov_m307 [ov_r 90, ov_i sd, ov_i m, ov_i ge, ov_i w] z h (P_Mo_nights_90 F z h sd m ge w) := by
  refine ov_en rfl (Nat.le_of_ble_eq_true rfl) ?_
  show ov_R u d ov_m307 0 [(0, ov_r 90), (1, ov_i sd), (2, ov_i m), (3, ov_i ge), (4, ov_i w)] [] z h (P_Mo_nights_90 F z h sd m ge w)
  have t0 := t96_0 I
  have t1 := t96_1 I
  have t8 := t96_8 I
  have t9 := t96_9 I
  refine ov_blk (ls2 := [(0, ov_r 90), (1, ov_i sd), (2, ov_i m), (3, ov_i ge), (4, ov_i w)]) (st2 := [ov_i 0, ov_r 90]) (pc2 := 2) b_307_0_2 rfl rfl ?_
  refine ov_putf (x := 0) d_307_2 fl_Mo_1 (zb_90 I) (zs_90 I) rfl nk_0 rfl ?_
  have I1 := up_90_0 (x := 0) I (by omega)
  refine ov_blk (ls2 := [(0, ov_r 90), (1, ov_i sd), (2, ov_i m), (3, ov_i ge), (4, ov_i w)]) (st2 := [ov_i 9999, ov_i 0, ov_i sd]) (pc2 := 10) b_307_5_3 rfl rfl ?_
  refine ov_cS (as := [ov_i sd, ov_i 0, ov_i 9999]) (st := []) (d2 := d - 1) d_307_10 lk_Mo_299 rfl (Nat.le_of_ble_eq_true rfl) (by omega) (c_Mo_within (d - 1) (by omega) U I1 sd 0 9999 (by omega) (by omega) (by omega)) ?_
  rintro _ _ _ ⟨v3, rfl, rfl, rfl, f2⟩
  show ov_R u d ov_m307 13 [(0, ov_r 90), (1, ov_i sd), (2, ov_i m), (3, ov_i ge), (4, ov_i w)] [ov_i v3] z (ov_up h 90 0 0) (P_Mo_nights_90 F z h sd m ge w)
  have f4 : (v3 = 0 ∨ v3 = 1) ∧ (v3 = 1 → (0 : Int) ≤ sd ∧ sd ≤ (9999 : Int)) ∧ (v3 = 0 → sd < (0 : Int) ∨ (9999 : Int) < sd) := f2
  clear f2
  refine ov_ifeq (tgt := 44) d_307_13 (by decide) (by omega) (fun c5 => ?_) (fun c5 => ?_)
  · skip
    have f4_ : v3 = 0 := by omega
    have f6 : sd < (0 : Int) ∨ (9999 : Int) < sd := f4.2.2 (by omega)
    clear f4
    refine ov_blk (ls2 := [(0, ov_r 90), (1, ov_i sd), (2, ov_i m), (3, ov_i ge), (4, ov_i w)]) (st2 := [ov_i (-1)]) (pc2 := 45) b_307_44_1 rfl rfl ?_
    exact ov_reti (st := []) d_307_45 rfl ⟨_, rfl, I1, ⟨rfl, rfl, rfl, rfl, rfl, rfl, rfl, (by show (h 90 25) ≤ (h 90 25) ∧ (h 90 25) ≤ (h 90 25) + 1 ∧ -2147483648 ≤ (-1) ∧ (-1) ≤ 2147483647; omega)⟩, rfl, rfl, rfl, rfl, rfl, rfl, rfl, rfl, rfl, rfl, rfl, rfl, rfl, PM⟩
  · skip
    have f4_ : v3 = 1 := by omega
    have f7 : (0 : Int) ≤ sd ∧ sd ≤ (9999 : Int) := f4.2.1 (by omega)
    clear f4
    refine ov_blk (ls2 := [(0, ov_r 90), (1, ov_i sd), (2, ov_i m), (3, ov_i ge), (4, ov_i w)]) (st2 := [ov_i 30, ov_i 1, ov_i m]) (pc2 := 20) b_307_16_3 rfl rfl ?_
    refine ov_cS (as := [ov_i m, ov_i 1, ov_i 30]) (st := []) (d2 := d - 1) d_307_20 lk_Mo_299 rfl (Nat.le_of_ble_eq_true rfl) (by omega) (c_Mo_within (d - 1) (by omega) U I1 m 1 30 (by omega) (by omega) (by omega)) ?_
    rintro _ _ _ ⟨v9, rfl, rfl, rfl, f8⟩
    show ov_R u d ov_m307 23 [(0, ov_r 90), (1, ov_i sd), (2, ov_i m), (3, ov_i ge), (4, ov_i w)] [ov_i v9] z (ov_up h 90 0 0) (P_Mo_nights_90 F z h sd m ge w)
    have f10 : (v9 = 0 ∨ v9 = 1) ∧ (v9 = 1 → (1 : Int) ≤ m ∧ m ≤ (30 : Int)) ∧ (v9 = 0 → m < (1 : Int) ∨ (30 : Int) < m) := f8
    clear f8
    refine ov_ifeq (tgt := 44) d_307_23 (by decide) (by omega) (fun c11 => ?_) (fun c11 => ?_)
    · skip
      have f10_ : v9 = 0 := by omega
      have f12 : m < (1 : Int) ∨ (30 : Int) < m := f10.2.2 (by omega)
      clear f10
      refine ov_blk (ls2 := [(0, ov_r 90), (1, ov_i sd), (2, ov_i m), (3, ov_i ge), (4, ov_i w)]) (st2 := [ov_i (-1)]) (pc2 := 45) b_307_44_1 rfl rfl ?_
      exact ov_reti (st := []) d_307_45 rfl ⟨_, rfl, I1, ⟨rfl, rfl, rfl, rfl, rfl, rfl, rfl, (by show (h 90 25) ≤ (h 90 25) ∧ (h 90 25) ≤ (h 90 25) + 1 ∧ -2147483648 ≤ (-1) ∧ (-1) ≤ 2147483647; omega)⟩, rfl, rfl, rfl, rfl, rfl, rfl, rfl, rfl, rfl, rfl, rfl, rfl, rfl, PM⟩
    · skip
      have f10_ : v9 = 1 := by omega
      have f13 : (1 : Int) ≤ m ∧ m ≤ (30 : Int) := f10.2.1 (by omega)
      clear f10
      refine ov_blk (ls2 := [(0, ov_r 90), (1, ov_i sd), (2, ov_i m), (3, ov_i ge), (4, ov_i w)]) (st2 := [ov_i ge, ov_r 90]) (pc2 := 28) b_307_26_2 rfl rfl ?_
      refine ov_cV (as := [ov_i ge]) (st := []) (d2 := d - 1) d_307_28 lk_Mo_383 rfl (Nat.le_of_ble_eq_true rfl) (c := 1) (zb_90 I1) (zs_90 I1) ⟨by decide, rfl⟩ (by omega) (c_Mo_isGoer_90 (d - 1) (by omega) U I1 ge (by omega)) ?_
      rintro _ _ _ ⟨v15, rfl, rfl, rfl, f14⟩
      show ov_R u d ov_m307 31 [(0, ov_r 90), (1, ov_i sd), (2, ov_i m), (3, ov_i ge), (4, ov_i w)] [ov_i v15] z (ov_up h 90 0 0) (P_Mo_nights_90 F z h sd m ge w)
      have f16 : (v15 = 0 ∨ v15 = 1) ∧ (v15 = 1 → 0 ≤ ge ∧ ge ≤ 3 + (h 96 8)) := f14
      clear f14
      refine ov_ifeq (tgt := 44) d_307_31 (by decide) (by omega) (fun c17 => ?_) (fun c17 => ?_)
      · skip
        have f16_ : v15 = 0 := by omega
        clear f16
        refine ov_blk (ls2 := [(0, ov_r 90), (1, ov_i sd), (2, ov_i m), (3, ov_i ge), (4, ov_i w)]) (st2 := [ov_i (-1)]) (pc2 := 45) b_307_44_1 rfl rfl ?_
        exact ov_reti (st := []) d_307_45 rfl ⟨_, rfl, I1, ⟨rfl, rfl, rfl, rfl, rfl, rfl, rfl, (by show (h 90 25) ≤ (h 90 25) ∧ (h 90 25) ≤ (h 90 25) + 1 ∧ -2147483648 ≤ (-1) ∧ (-1) ≤ 2147483647; omega)⟩, rfl, rfl, rfl, rfl, rfl, rfl, rfl, rfl, rfl, rfl, rfl, rfl, rfl, PM⟩
      · skip
        have f16_ : v15 = 1 := by omega
        have f18 : 0 ≤ ge ∧ ge ≤ 3 + (h 96 8) := f16.2 (by omega)
        clear f16
        refine ov_blk (ls2 := [(0, ov_r 90), (1, ov_i sd), (2, ov_i m), (3, ov_i ge), (4, ov_i w)]) (st2 := [ov_i 1, ov_i 0, ov_i w]) (pc2 := 38) b_307_34_3 rfl rfl ?_
        refine ov_cS (as := [ov_i w, ov_i 0, ov_i 1]) (st := []) (d2 := d - 1) d_307_38 lk_Mo_299 rfl (Nat.le_of_ble_eq_true rfl) (by omega) (c_Mo_within (d - 1) (by omega) U I1 w 0 1 (by omega) (by omega) (by omega)) ?_
        rintro _ _ _ ⟨v20, rfl, rfl, rfl, f19⟩
        show ov_R u d ov_m307 41 [(0, ov_r 90), (1, ov_i sd), (2, ov_i m), (3, ov_i ge), (4, ov_i w)] [ov_i v20] z (ov_up h 90 0 0) (P_Mo_nights_90 F z h sd m ge w)
        have f21 : (v20 = 0 ∨ v20 = 1) ∧ (v20 = 1 → (0 : Int) ≤ w ∧ w ≤ (1 : Int)) ∧ (v20 = 0 → w < (0 : Int) ∨ (1 : Int) < w) := f19
        clear f19
        refine ov_ifne (tgt := 46) d_307_41 (by decide) (by omega) (fun c22 => ?_) (fun c22 => ?_)
        · skip
          have f21_ : v20 = 1 := by omega
          have f23 : (0 : Int) ≤ w ∧ w ≤ (1 : Int) := f21.2.1 (by omega)
          clear f21
          refine ov_blk (ls2 := [(0, ov_r 90), (1, ov_i sd), (2, ov_i m), (3, ov_i ge), (4, ov_i w)]) (st2 := [ov_i 0, ov_i (-1), ov_i 0, ov_i ge, ov_r 90]) (pc2 := 51) b_307_46_5 rfl rfl ?_
          refine ov_cV (as := [ov_i ge, ov_i 0, ov_i (-1), ov_i 0]) (st := []) (d2 := d - 1) d_307_51 lk_Mo_389 rfl (Nat.le_of_ble_eq_true rfl) (c := 1) (zb_90 I1) (zs_90 I1) ⟨by decide, rfl⟩ (by omega) (c_Mo_asks_90 (d - 1) (by omega) U I1 ge 0 (-1) 0 (by omega) (by omega) (by omega) (by omega) (by omega) (by omega) (by omega) (by show 0 ≤ (h 90 25) ∧ (h 90 25) ≤ 2000000000; omega)) ?_
          rintro _ z41 h42 ⟨rfl, I43, f24, e25, e26, e27, e28, e29, e30, e31, e32, e33, e34, e35, e36, e37, e38, e39, e40⟩
          have E44 : h42 91 = h 91 := e25
          have E45 : h42 92 = h 92 := e26
          have E46 : h42 93 = h 93 := e27
          have E47 : h42 94 = h 94 := e28
          have E48 : h42 95 = h 95 := e29
          have E49 : h42 96 = h 96 := e30
          have E50 : h42 97 = h 97 := e31
          have E51 : h42 98 = h 98 := e32
          have E52 : h42 99 = h 99 := e33
          have E53 : h42 100 = h 100 := e34
          have E54 : h42 103 = h 103 := e35
          have E55 : h42 104 = h 104 := e36
          have E56 : h42 105 = h 105 := e37
          have E57 : h42 106 = h 106 := e38
          have E58 : h42 109 = h 109 := e39
          have E59 : h42 114 = h 114 := e40
          show ov_R u d ov_m307 54 [(0, ov_r 90), (1, ov_i sd), (2, ov_i m), (3, ov_i ge), (4, ov_i w)] [] z41 h42 (P_Mo_nights_90 F z h sd m ge w)
          have f60 : (h42 90 2) = (h 90 2) ∧ (h42 90 7) = (h 90 7) ∧ (h42 90 8) = (h 90 8) ∧ (h42 90 13) = (h 90 13) ∧ (h42 90 20) = (h 90 20) ∧ (h42 90 22) = (h 90 22) ∧ (h42 90 34) = (h 90 34) ∧ (h42 90 26) = ge ∧ (h42 90 27) = (0 : Int) ∧ (h42 90 28) = (h 90 22) ∧ (h42 90 29) = ((-1) : Int) ∧ (h42 90 30) = (0 : Int) ∧ (((h42 90 25) = (h 90 25) + 1) ∨ ((h42 90 25) = (h 90 25) ∧ (h 90 26) = ge ∧ (h 90 27) = (0 : Int) ∧ (h 90 28) = (h 90 22) ∧ (h 90 29) = ((-1) : Int) ∧ (h 90 30) = (0 : Int))) := f24
          clear f24
          have mi61 : ov_MI (h 96) (h 103) (h 97) (h 98) ge (-1) 0 (h42 90 25) (h 105) (h 106) := ov_PM_ask PM (by omega)
          refine ov_blk (ls2 := [(0, ov_r 90), (1, ov_i sd), (2, ov_i m), (3, ov_i ge), (4, ov_i w)]) (st2 := [ov_i 0, ov_i 0, ov_i 0, ov_r 90]) (pc2 := 58) b_307_54_4 rfl rfl ?_
          have cf62 : h42 96 (0) = h 96 (0) := congrFun E49 (0)
          have cf63 : h42 96 (1) = h 96 (1) := congrFun E49 (1)
          have cf64 : h42 96 (8) = h 96 (8) := congrFun E49 (8)
          refine ov_cV (as := [ov_i 0, ov_i 0, ov_i 0]) (st := []) (d2 := d - 1) d_307_58 lk_Mo_377 rfl (Nat.le_of_ble_eq_true rfl) (c := 1) (zb_90 I43) (zs_90 I43) ⟨by decide, rfl⟩ (by omega) (c_Mo_worthFrom_90_all ge ((-1)) 0 ((h42 90 25)) (Int.toNat (13 - (0) - (0))) (d - 1) (by omega) U I43 0 0 0 (by omega) (by omega) (by omega) (by omega) (by show (0 : Int) < (h42 96 0) ∧ (0 : Int) < (h42 96 1); omega) (by omega) (by omega) (by show (h42 90 26) = ge; omega) (by show (h42 90 29) = ((-1) : Int); omega) (by show (h42 90 30) = (0 : Int); omega) (by show (h42 90 25) = (h42 90 25); omega) (by show 0 ≤ ge ∧ ge ≤ 3 + (h42 96 8); omega) (by rw [show h42 96 = h 96 from E49]; exact W) (by rw [show h42 96 = h 96 from E49, show h42 97 = h 97 from E50, show h42 98 = h 98 from E51]; exact CD) (by rw [show h42 96 = h 96 from E49, show h42 103 = h 103 from E54, show h42 97 = h 97 from E50, show h42 98 = h 98 from E51, show h42 105 = h 105 from E56, show h42 106 = h 106 from E57]; exact mi61)) ?_
          rintro _ z83 h84 ⟨v66, rfl, I85, f65, e67, e68, e69, e70, e71, e72, e73, e74, e75, e76, e77, e78, e79, e80, y81, y82⟩
          have E86 : h84 91 = h 91 := Eq.trans e67 E44
          have E87 : h84 92 = h 92 := Eq.trans e68 E45
          have E88 : h84 93 = h 93 := Eq.trans e69 E46
          have E89 : h84 94 = h 94 := Eq.trans e70 E47
          have E90 : h84 95 = h 95 := Eq.trans e71 E48
          have E91 : h84 96 = h 96 := Eq.trans e72 E49
          have E92 : h84 97 = h 97 := Eq.trans e73 E50
          have E93 : h84 98 = h 98 := Eq.trans e74 E51
          have E94 : h84 99 = h 99 := Eq.trans e75 E52
          have E95 : h84 100 = h 100 := Eq.trans e76 E53
          have E96 : h84 103 = h 103 := Eq.trans e77 E54
          have E97 : h84 104 = h 104 := Eq.trans e78 E55
          have E98 : h84 109 = h 109 := Eq.trans e79 E58
          have E99 : h84 114 = h 114 := Eq.trans e80 E59
          show ov_R u d ov_m307 61 [(0, ov_r 90), (1, ov_i sd), (2, ov_i m), (3, ov_i ge), (4, ov_i w)] [ov_i v66] z83 h84 (P_Mo_nights_90 F z h sd m ge w)
          have f100 : (h84 90 2) = (h42 90 2) ∧ (h84 90 7) = (h42 90 7) ∧ (h84 90 8) = (h42 90 8) ∧ (h84 90 13) = (h42 90 13) ∧ (h84 90 20) = (h42 90 20) ∧ (h84 90 22) = (h42 90 22) ∧ (h84 90 25) = (h42 90 25) ∧ (h84 90 26) = (h42 90 26) ∧ (h84 90 28) = (h42 90 28) ∧ (h84 90 29) = (h42 90 29) ∧ (h84 90 30) = (h42 90 30) ∧ (h84 90 34) = (h42 90 34) ∧ -1 ≤ v66 ∧ v66 ≤ 89000 * (13 - (0 : Int) - (0 : Int)) := f65
          clear f65
          rw [show h42 103 = h 103 from E54] at y81
          rw [show h42 96 = h 96 from E49] at y81
          rw [show h42 97 = h 97 from E50] at y81
          rw [show h42 98 = h 98 from E51] at y81
          have y81_ : ov_MI (h 96) (h 103) (h 97) (h 98) ge ((-1) : Int) (0 : Int) (h42 90 25) (h84 105) (h84 106) := y81
          rw [show h42 103 = h 103 from E54] at y82
          rw [show h42 96 = h 96 from E49] at y82
          rw [show h42 97 = h 97 from E50] at y82
          rw [show h42 98 = h 98 from E51] at y82
          have y82_ : (0 ≤ v66 ↔ ov_go (h 96) (h 103) (h 97) (h 98) ge ((-1) : Int) (0 : Int) (0 : Int) (0 : Int) ((0 : Int) % (h 96 9))) := y82
          refine ov_ifge (tgt := 66) d_307_61 (by decide) (by omega) (fun c101 => ?_) (fun c101 => ?_)
          · skip
            refine ov_blk (ls2 := [(0, ov_r 90), (1, ov_i sd), (2, ov_i m), (3, ov_i ge), (4, ov_i w)]) (st2 := [ov_l (ov_w sd), ov_r 90]) (pc2 := 69) b_307_66_3 rfl rfl ?_
            have g102 := ov_wg sd
            have g103 := ov_wq sd
            refine ov_putf (x := (ov_w sd)) d_307_69 fl_Mo_471 (zb_90 I85) (zs_90 I85) rfl nk_1 rfl ?_
            have I104 := up_90_46 (x := (ov_w sd)) I85 (by omega)
            have gn0 : ov_go (h 96) (h 103) (h 97) (h 98) ge (-1) 0 0 0 (0 % h 96 9) := y82_.mp (by omega)
            refine ov_blk (ls2 := [(0, ov_r 90), (1, ov_i sd), (2, ov_i m), (3, ov_i ge), (4, ov_i w), (5, ov_i 0), (6, ov_i 0), (7, ov_i 0)]) (st2 := []) (pc2 := 81) b_307_72_6 rfl rfl ?_
            have L108 : ∀ (n105 : Nat) (x5 : Int) (x6 : Int) (x7 : Int) (z109 : ov_Z) (h110 : ov_H) (I111 : ov_N F z109 h110) (E112 : h110 91 = h 91) (E113 : h110 92 = h 92) (E114 : h110 93 = h 93) (E115 : h110 94 = h 94) (E116 : h110 95 = h 95) (E117 : h110 96 = h 96) (E118 : h110 97 = h 97) (E119 : h110 98 = h 98) (E120 : h110 99 = h 99) (E121 : h110 100 = h 100) (E122 : h110 103 = h 103) (E123 : h110 104 = h 104) (E124 : h110 109 = h 109) (xm : ov_MI (h 96) (h 103) (h 97) (h 98) ge (-1) 0 (h42 90 25) (h110 105) (h110 106)) (q107 : 0 ≤ x7 ∧ x7 ≤ 30 ∧ 0 ≤ x5 ∧ x5 ≤ 1157 * x7 ∧ 0 ≤ x6 ∧ x6 ≤ 1157 ∧ (h110 90 2) = (h84 90 2) ∧ (h110 90 7) = (h84 90 7) ∧ (h110 90 8) = (h84 90 8) ∧ (h110 90 13) = (h84 90 13) ∧ (h110 90 20) = (h84 90 20) ∧ (h110 90 22) = (h84 90 22) ∧ (h110 90 25) = (h84 90 25) ∧ (h110 90 26) = (h84 90 26) ∧ (h110 90 28) = (h84 90 28) ∧ (h110 90 29) = (h84 90 29) ∧ (h110 90 30) = (h84 90 30) ∧ (h110 90 34) = (h84 90 34)), 30 - x7 < (n105 : Int) → ov_R u d ov_m307 81 [(0, ov_r 90), (1, ov_i sd), (2, ov_i m), (3, ov_i ge), (4, ov_i w), (5, ov_i x5), (6, ov_i x6), (7, ov_i x7)] [] z109 h110 (P_Mo_nights_90 F z h sd m ge w) := by
              intro n105
              induction n105 with
              | zero =>
                intro x5 x6 x7 z109 h110 I111 E112 E113 E114 E115 E116 E117 E118 E119 E120 E121 E122 E123 E124 xm q107 hn125
                exact absurd hn125 (by omega)
              | succ n105 ih106 =>
                intro x5 x6 x7 z109 h110 I111 E112 E113 E114 E115 E116 E117 E118 E119 E120 E121 E122 E123 E124 xm q107 hn125
                refine ov_blk (ls2 := [(0, ov_r 90), (1, ov_i sd), (2, ov_i m), (3, ov_i ge), (4, ov_i w), (5, ov_i x5), (6, ov_i x6), (7, ov_i x7)]) (st2 := [ov_i m, ov_i x7]) (pc2 := 84) b_307_81_2 rfl rfl ?_
                refine ov_icge (tgt := 126) d_307_84 (by decide) (by omega) (by omega) (fun c126 => ?_) (fun c126 => ?_)
                · skip
                  refine ov_blk (ls2 := [(0, ov_r 90), (1, ov_i sd), (2, ov_i m), (3, ov_i ge), (4, ov_i w), (5, ov_i x5), (6, ov_i x6), (7, ov_i x7)]) (st2 := [ov_i w]) (pc2 := 128) b_307_126_1 rfl rfl ?_
                  refine ov_ifne (tgt := 136) d_307_128 (by decide) (by omega) (fun c127 => ?_) (fun c127 => ?_)
                  · skip
                    refine ov_blk (ls2 := [(0, ov_r 90), (1, ov_i sd), (2, ov_i m), (3, ov_i ge), (4, ov_i w), (5, ov_i x5), (6, ov_i x6), (7, ov_i x7)]) (st2 := [ov_i x6]) (pc2 := 138) b_307_136_1 rfl rfl ?_
                    have pm128 : ov_PM (h 96) (h 103) (h 97) (h 98) (h110 105) (h110 106) (h110 90 22) (h110 90 25) (h110 90 26) (h110 90 28) (h110 90 29) (h110 90 30) := ov_PM_mi xm (by omega) (by omega) (by omega) (by omega) (by omega) (by omega)
                    exact ov_reti (st := []) d_307_138 rfl ⟨_, rfl, I111, (by show (h110 90 2) = (h 90 2) ∧ (h110 90 7) = (h 90 7) ∧ (h110 90 8) = (h 90 8) ∧ (h110 90 13) = (h 90 13) ∧ (h110 90 20) = (h 90 20) ∧ (h110 90 22) = (h 90 22) ∧ (h110 90 34) = (h 90 34) ∧ (h 90 25) ≤ (h110 90 25) ∧ (h110 90 25) ≤ (h 90 25) + 1 ∧ -2147483648 ≤ x6 ∧ x6 ≤ 2147483647; omega), E112, E113, E114, E115, E116, E117, E118, E119, E120, E121, E122, E123, E124, pm128⟩
                  · skip
                    refine ov_blk (ls2 := [(0, ov_r 90), (1, ov_i sd), (2, ov_i m), (3, ov_i ge), (4, ov_i w), (5, ov_i x5), (6, ov_i x6), (7, ov_i x7)]) (st2 := [ov_i x5]) (pc2 := 133) b_307_131_1 rfl rfl ?_
                    refine ov_goto (tgt := 138) d_307_133 (by decide) ?_
                    have pm129 : ov_PM (h 96) (h 103) (h 97) (h 98) (h110 105) (h110 106) (h110 90 22) (h110 90 25) (h110 90 26) (h110 90 28) (h110 90 29) (h110 90 30) := ov_PM_mi xm (by omega) (by omega) (by omega) (by omega) (by omega) (by omega)
                    exact ov_reti (st := []) d_307_138 rfl ⟨_, rfl, I111, (by show (h110 90 2) = (h 90 2) ∧ (h110 90 7) = (h 90 7) ∧ (h110 90 8) = (h 90 8) ∧ (h110 90 13) = (h 90 13) ∧ (h110 90 20) = (h 90 20) ∧ (h110 90 22) = (h 90 22) ∧ (h110 90 34) = (h 90 34) ∧ (h 90 25) ≤ (h110 90 25) ∧ (h110 90 25) ≤ (h 90 25) + 1 ∧ -2147483648 ≤ x5 ∧ x5 ≤ 2147483647; omega), E112, E113, E114, E115, E116, E117, E118, E119, E120, E121, E122, E123, E124, pm129⟩
                · skip
                  refine ov_blk (ls2 := [(0, ov_r 90), (1, ov_i sd), (2, ov_i m), (3, ov_i ge), (4, ov_i w), (5, ov_i x5), (6, ov_i x6), (7, ov_i x7)]) (st2 := [ov_r 90]) (pc2 := 88) b_307_87_1 rfl rfl ?_
                  refine ov_cV (as := []) (st := []) (d2 := d - 1) d_307_88 lk_Mo_485 rfl (Nat.le_of_ble_eq_true rfl) (c := 1) (zb_90 I111) (zs_90 I111) ⟨by decide, rfl⟩ (by omega) (c_Mo_draws_90 (d - 1) (by omega) U I111 (by rw [show h110 96 = h 96 from E117]; exact W)) ?_
                  rintro _ z147 h148 ⟨rfl, I149, f130, e131, e132, e133, e134, e135, e136, e137, e138, e139, e140, e141, e142, e143, e144, e145, y146⟩
                  have E150 : h148 91 = h 91 := Eq.trans e131 E112
                  have E151 : h148 92 = h 92 := Eq.trans e132 E113
                  have E152 : h148 93 = h 93 := Eq.trans e133 E114
                  have E153 : h148 94 = h 94 := Eq.trans e134 E115
                  have E154 : h148 95 = h 95 := Eq.trans e135 E116
                  have E155 : h148 96 = h 96 := Eq.trans e136 E117
                  have E156 : h148 97 = h 97 := Eq.trans e137 E118
                  have E157 : h148 98 = h 98 := Eq.trans e138 E119
                  have E158 : h148 99 = h 99 := Eq.trans e139 E120
                  have E159 : h148 100 = h 100 := Eq.trans e140 E121
                  have E160 : h148 103 = h 103 := Eq.trans e141 E122
                  have E161 : h148 104 = h 104 := Eq.trans e142 E123
                  have E162 : h148 105 = h110 105 := e143
                  have E163 : h148 106 = h110 106 := e144
                  have E164 : h148 109 = h 109 := Eq.trans e145 E124
                  show ov_R u d ov_m307 91 [(0, ov_r 90), (1, ov_i sd), (2, ov_i m), (3, ov_i ge), (4, ov_i w), (5, ov_i x5), (6, ov_i x6), (7, ov_i x7)] [] z147 h148 (P_Mo_nights_90 F z h sd m ge w)
                  have f165 : (h148 90 2) = (h110 90 2) ∧ (h148 90 7) = (h110 90 7) ∧ (h148 90 8) = (h110 90 8) ∧ (h148 90 13) = (h110 90 13) ∧ (h148 90 20) = (h110 90 20) ∧ (h148 90 22) = (h110 90 22) ∧ (h148 90 25) = (h110 90 25) ∧ (h148 90 26) = (h110 90 26) ∧ (h148 90 28) = (h110 90 28) ∧ (h148 90 29) = (h110 90 29) ∧ (h148 90 30) = (h110 90 30) ∧ (h148 90 34) = (h110 90 34) := f130
                  clear f130
                  rw [show h110 103 = h 103 from E122] at y146
                  rw [show h110 96 = h 96 from E117] at y146
                  have y146_ : ∀ c : Int, 0 ≤ c → c ≤ 53 → ¬ ((h 96) (10 + 4 * c) = 2 ∧ ¬ (h 103) (4 + c) = 1) → (h148 114) c = 0 := y146
                  refine ov_blk (ls2 := [(0, ov_r 90), (1, ov_i sd), (2, ov_i m), (3, ov_i ge), (4, ov_i w), (5, ov_i x5), (6, ov_i x6), (7, ov_i x7)]) (st2 := [ov_r 90]) (pc2 := 92) b_307_91_1 rfl rfl ?_
                  have cf166 : h148 96 (8) = h 96 (8) := congrFun E155 (8)
                  refine ov_cV (as := []) (st := []) (d2 := d - 1) d_307_92 lk_Mo_488 rfl (Nat.le_of_ble_eq_true rfl) (c := 1) (zb_90 I149) (zs_90 I149) ⟨by decide, rfl⟩ (by omega) (c_Mo_night_90 ge ((-1)) 0 ((h42 90 25)) (d - 1) (by omega) U I149 (by omega) (by show (h148 90 26) = ge; omega) (by show (h148 90 29) = ((-1) : Int); omega) (by show (h148 90 30) = (0 : Int); omega) (by show (h148 90 25) = (h42 90 25); omega) (by show 0 ≤ ge ∧ ge ≤ 3 + (h148 96 8); omega) (by rw [show h148 96 = h 96 from E155]; exact W) (by rw [show h148 96 = h 96 from E155, show h148 97 = h 97 from E156, show h148 98 = h 98 from E157]; exact CD) (by rw [show h148 96 = h 96 from E155, show h148 103 = h 103 from E160, show h148 97 = h 97 from E156, show h148 98 = h 98 from E157, show h148 105 = h110 105 from E162, show h148 106 = h110 106 from E163]; exact xm) (by rw [show h148 96 = h 96 from E155, show h148 103 = h 103 from E160, show h148 97 = h 97 from E156, show h148 98 = h 98 from E157]; exact gn0) (by rw [show h148 96 = h 96 from E155, show h148 103 = h 103 from E160]; exact y146_)) ?_
                  rintro _ z184 h185 ⟨v168, rfl, I186, f167, e169, e170, e171, e172, e173, e174, e175, e176, e177, e178, e179, e180, e181, e182, y183⟩
                  have E187 : h185 91 = h 91 := Eq.trans e169 E150
                  have E188 : h185 92 = h 92 := Eq.trans e170 E151
                  have E189 : h185 93 = h 93 := Eq.trans e171 E152
                  have E190 : h185 94 = h 94 := Eq.trans e172 E153
                  have E191 : h185 95 = h 95 := Eq.trans e173 E154
                  have E192 : h185 96 = h 96 := Eq.trans e174 E155
                  have E193 : h185 97 = h 97 := Eq.trans e175 E156
                  have E194 : h185 98 = h 98 := Eq.trans e176 E157
                  have E195 : h185 99 = h 99 := Eq.trans e177 E158
                  have E196 : h185 100 = h 100 := Eq.trans e178 E159
                  have E197 : h185 103 = h 103 := Eq.trans e179 E160
                  have E198 : h185 104 = h 104 := Eq.trans e180 E161
                  have E199 : h185 109 = h 109 := Eq.trans e181 E164
                  have E200 : h185 114 = h148 114 := e182
                  show ov_R u d ov_m307 95 [(0, ov_r 90), (1, ov_i sd), (2, ov_i m), (3, ov_i ge), (4, ov_i w), (5, ov_i x5), (6, ov_i x6), (7, ov_i x7)] [ov_i v168] z184 h185 (P_Mo_nights_90 F z h sd m ge w)
                  have f201 : (h185 90 2) = (h148 90 2) ∧ (h185 90 7) = (h148 90 7) ∧ (h185 90 8) = (h148 90 8) ∧ (h185 90 13) = (h148 90 13) ∧ (h185 90 20) = (h148 90 20) ∧ (h185 90 22) = (h148 90 22) ∧ (h185 90 25) = (h148 90 25) ∧ (h185 90 26) = (h148 90 26) ∧ (h185 90 28) = (h148 90 28) ∧ (h185 90 29) = (h148 90 29) ∧ (h185 90 30) = (h148 90 30) ∧ (h185 90 34) = (h148 90 34) ∧ 0 ≤ v168 ∧ v168 ≤ 1157 := f167
                  clear f167
                  rw [show h148 103 = h 103 from E160] at y183
                  rw [show h148 96 = h 96 from E155] at y183
                  rw [show h148 97 = h 97 from E156] at y183
                  rw [show h148 98 = h 98 from E157] at y183
                  have y183_ : ov_MI (h 96) (h 103) (h 97) (h 98) ge ((-1) : Int) (0 : Int) (h42 90 25) (h185 105) (h185 106) := y183
                  refine ov_blk (ls2 := [(0, ov_r 90), (1, ov_i sd), (2, ov_i m), (3, ov_i ge), (4, ov_i w), (5, ov_i (x5 + v168)), (6, ov_i x6), (7, ov_i x7), (8, ov_i v168)]) (st2 := [ov_i x6, ov_i v168]) (pc2 := 108) b_307_95_7 rfl rfl ?_
                  refine ov_icle (tgt := 116) d_307_108 (by decide) (by omega) (by omega) (fun c202 => ?_) (fun c202 => ?_)
                  · skip
                    refine ov_blk (ls2 := [(0, ov_r 90), (1, ov_i sd), (2, ov_i m), (3, ov_i ge), (4, ov_i w), (5, ov_i (x5 + v168)), (6, ov_i x6), (7, ov_i (x7 + 1)), (8, ov_i v168)]) (st2 := []) (pc2 := 123) b_307_116_3 rfl rfl ?_
                    refine ov_goto (tgt := 81) d_307_123 (by decide) ?_
                    refine ov_sub (ls2 := [(0, ov_r 90), (1, ov_i sd), (2, ov_i m), (3, ov_i ge), (4, ov_i w), (5, ov_i (x5 + v168)), (6, ov_i x6), (7, ov_i (x7 + 1))]) (List.Sublist.subset (by repeat (first | exact List.Sublist.refl _ | apply List.Sublist.cons_cons | apply List.Sublist.cons))) ?_
                    exact ih106 (x5 + v168) x6 (x7 + 1) _ _ I186 E187 E188 E189 E190 E191 E192 E193 E194 E195 E196 E197 E198 E199 y183_ (by show 0 ≤ (x7 + 1) ∧ (x7 + 1) ≤ 30 ∧ 0 ≤ (x5 + v168) ∧ (x5 + v168) ≤ 1157 * (x7 + 1) ∧ 0 ≤ x6 ∧ x6 ≤ 1157 ∧ (h185 90 2) = (h84 90 2) ∧ (h185 90 7) = (h84 90 7) ∧ (h185 90 8) = (h84 90 8) ∧ (h185 90 13) = (h84 90 13) ∧ (h185 90 20) = (h84 90 20) ∧ (h185 90 22) = (h84 90 22) ∧ (h185 90 25) = (h84 90 25) ∧ (h185 90 26) = (h84 90 26) ∧ (h185 90 28) = (h84 90 28) ∧ (h185 90 29) = (h84 90 29) ∧ (h185 90 30) = (h84 90 30) ∧ (h185 90 34) = (h84 90 34); omega) (by omega)
                  · skip
                    refine ov_blk (ls2 := [(0, ov_r 90), (1, ov_i sd), (2, ov_i m), (3, ov_i ge), (4, ov_i w), (5, ov_i (x5 + v168)), (6, ov_i x6), (7, ov_i x7), (8, ov_i v168)]) (st2 := [ov_i v168]) (pc2 := 113) b_307_111_1 rfl rfl ?_
                    refine ov_goto (tgt := 118) d_307_113 (by decide) ?_
                    refine ov_blk (ls2 := [(0, ov_r 90), (1, ov_i sd), (2, ov_i m), (3, ov_i ge), (4, ov_i w), (5, ov_i (x5 + v168)), (6, ov_i v168), (7, ov_i (x7 + 1)), (8, ov_i v168)]) (st2 := []) (pc2 := 123) b_307_118_2 rfl rfl ?_
                    refine ov_goto (tgt := 81) d_307_123 (by decide) ?_
                    refine ov_sub (ls2 := [(0, ov_r 90), (1, ov_i sd), (2, ov_i m), (3, ov_i ge), (4, ov_i w), (5, ov_i (x5 + v168)), (6, ov_i v168), (7, ov_i (x7 + 1))]) (List.Sublist.subset (by repeat (first | exact List.Sublist.refl _ | apply List.Sublist.cons_cons | apply List.Sublist.cons))) ?_
                    exact ih106 (x5 + v168) v168 (x7 + 1) _ _ I186 E187 E188 E189 E190 E191 E192 E193 E194 E195 E196 E197 E198 E199 y183_ (by show 0 ≤ (x7 + 1) ∧ (x7 + 1) ≤ 30 ∧ 0 ≤ (x5 + v168) ∧ (x5 + v168) ≤ 1157 * (x7 + 1) ∧ 0 ≤ v168 ∧ v168 ≤ 1157 ∧ (h185 90 2) = (h84 90 2) ∧ (h185 90 7) = (h84 90 7) ∧ (h185 90 8) = (h84 90 8) ∧ (h185 90 13) = (h84 90 13) ∧ (h185 90 20) = (h84 90 20) ∧ (h185 90 22) = (h84 90 22) ∧ (h185 90 25) = (h84 90 25) ∧ (h185 90 26) = (h84 90 26) ∧ (h185 90 28) = (h84 90 28) ∧ (h185 90 29) = (h84 90 29) ∧ (h185 90 30) = (h84 90 30) ∧ (h185 90 34) = (h84 90 34); omega) (by omega)
            exact L108 31 0 0 0 _ _ I104 E86 E87 E88 E89 E90 E91 E92 E93 E94 E95 E96 E97 E98 y81_ (by show 0 ≤ 0 ∧ 0 ≤ 30 ∧ 0 ≤ 0 ∧ 0 ≤ 1157 * 0 ∧ 0 ≤ 0 ∧ 0 ≤ 1157 ∧ (h84 90 2) = (h84 90 2) ∧ (h84 90 7) = (h84 90 7) ∧ (h84 90 8) = (h84 90 8) ∧ (h84 90 13) = (h84 90 13) ∧ (h84 90 20) = (h84 90 20) ∧ (h84 90 22) = (h84 90 22) ∧ (h84 90 25) = (h84 90 25) ∧ (h84 90 26) = (h84 90 26) ∧ (h84 90 28) = (h84 90 28) ∧ (h84 90 29) = (h84 90 29) ∧ (h84 90 30) = (h84 90 30) ∧ (h84 90 34) = (h84 90 34); omega) (by omega)
          · skip
            refine ov_blk (ls2 := [(0, ov_r 90), (1, ov_i sd), (2, ov_i m), (3, ov_i ge), (4, ov_i w)]) (st2 := [ov_i (-1)]) (pc2 := 65) b_307_64_1 rfl rfl ?_
            have pm203 : ov_PM (h 96) (h 103) (h 97) (h 98) (h84 105) (h84 106) (h84 90 22) (h84 90 25) (h84 90 26) (h84 90 28) (h84 90 29) (h84 90 30) := ov_PM_mi y81_ (by omega) (by omega) (by omega) (by omega) (by omega) (by omega)
            exact ov_reti (st := []) d_307_65 rfl ⟨_, rfl, I85, (by show (h84 90 2) = (h 90 2) ∧ (h84 90 7) = (h 90 7) ∧ (h84 90 8) = (h 90 8) ∧ (h84 90 13) = (h 90 13) ∧ (h84 90 20) = (h 90 20) ∧ (h84 90 22) = (h 90 22) ∧ (h84 90 34) = (h 90 34) ∧ (h 90 25) ≤ (h84 90 25) ∧ (h84 90 25) ≤ (h 90 25) + 1 ∧ -2147483648 ≤ (-1) ∧ (-1) ≤ 2147483647; omega), E86, E87, E88, E89, E90, E91, E92, E93, E94, E95, E96, E97, E98, pm203⟩
        · skip
          have f21_ : v20 = 0 := by omega
          have f204 : w < (0 : Int) ∨ (1 : Int) < w := f21.2.2 (by omega)
          clear f21
          refine ov_blk (ls2 := [(0, ov_r 90), (1, ov_i sd), (2, ov_i m), (3, ov_i ge), (4, ov_i w)]) (st2 := [ov_i (-1)]) (pc2 := 45) b_307_44_1 rfl rfl ?_
          exact ov_reti (st := []) d_307_45 rfl ⟨_, rfl, I1, ⟨rfl, rfl, rfl, rfl, rfl, rfl, rfl, (by show (h 90 25) ≤ (h 90 25) ∧ (h 90 25) ≤ (h 90 25) + 1 ∧ -2147483648 ≤ (-1) ∧ (-1) ≤ 2147483647; omega)⟩, rfl, rfl, rfl, rfl, rfl, rfl, rfl, rfl, rfl, rfl, rfl, rfl, rfl, PM⟩

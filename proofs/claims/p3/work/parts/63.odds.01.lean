abbrev P_Mo_chanceFrom_90 (F : ov_H × ov_Z) (z : ov_Z) (h : ov_H) (go : Int) (wt : Int) (sf : Int) (sm : Int) (x : Int) (y : Int) (tm : Int) : Option ov_V → ov_Z → ov_H → Prop := fun r0 z' h' => ∃ r : Int, r0 = some (ov_i r) ∧ ov_N F z' h' ∧ ((h' 90 2) = (h 90 2) ∧ (h' 90 7) = (h 90 7) ∧ (h' 90 8) = (h 90 8) ∧ (h' 90 13) = (h 90 13) ∧ (h' 90 20) = (h 90 20) ∧ (h' 90 22) = (h 90 22) ∧ (h' 90 25) = (h 90 25) ∧ (h' 90 26) = (h 90 26) ∧ (h' 90 28) = (h 90 28) ∧ (h' 90 29) = (h 90 29) ∧ (h' 90 30) = (h 90 30) ∧ (h' 90 34) = (h 90 34) ∧ -2147483648 ≤ r ∧ r ≤ 2147483647) ∧ h' 92 = h 92 ∧ h' 93 = h 93 ∧ h' 94 = h 94 ∧ h' 95 = h 95 ∧ h' 96 = h 96 ∧ h' 97 = h 97 ∧ h' 98 = h 98 ∧ h' 99 = h 99 ∧ h' 100 = h 100 ∧ h' 103 = h 103 ∧ h' 109 = h 109 ∧ h' 114 = h 114 ∧ (ov_MI (h 96) (h 103) (h 97) (h 98) go wt sf sm (h' 105) (h' 106))
set_option maxHeartbeats 4000000 in
theorem c_Mo_chanceFrom_90 {u : ov_U} {F : ov_H × ov_Z} (go : Int) (wt : Int) (sf : Int) (sm : Int) (k : Nat) (HV : ∀ k' : Nat, k' < k → ∀ {z : ov_Z} {h : ov_H} (d : Nat) (hd : (90 + 1 * k' + 0) ≤ d) (U : ov_cap u) (I : ov_N F z h) (x : Int) (y : Int) (tm : Int) (g_x : ov_g x) (g_y : ov_g y) (g_tm : ov_g tm) (p0 : 0 ≤ x ∧ x ≤ 5 ∧ 0 ≤ y ∧ y ≤ 8) (p1 : x < (h 96 0) ∧ y < (h 96 1)) (p2 : x + y + (k' : Int) = 13) (p3 : 0 ≤ tm ∧ tm + 89 * (k' : Int) ≤ 1157) (p4 : wt = -1) (p5 : (h 90 26) = go) (p6 : (h 90 29) = wt) (p7 : (h 90 30) = sf) (p8 : (h 90 25) = sm) (p9 : 0 ≤ go ∧ go ≤ 3 + (h 96 8)) (W : ov_WT (h 96)) (CD : ov_CD (h 96) (h 97) (h 98)) (MI : ov_MI (h 96) (h 103) (h 97) (h 98) go wt sf sm (h 105) (h 106)) (GH : ov_go (h 96) (h 103) (h 97) (h 98) go wt sf x y (((h 90 34) + tm) % (h 96 9))), ov_T u d ov_m287 [ov_r 90, ov_i x, ov_i y, ov_i tm] z h (P_Mo_chanceFrom_90 F z h go wt sf sm x y tm)) {z : ov_Z} {h : ov_H} (d : Nat) (hd : (90 + 1 * k + 0) ≤ d) (U : ov_cap u) (I : ov_N F z h) (x : Int) (y : Int) (tm : Int) (g_x : ov_g x) (g_y : ov_g y) (g_tm : ov_g tm) (p0 : 0 ≤ x ∧ x ≤ 5 ∧ 0 ≤ y ∧ y ≤ 8) (p1 : x < (h 96 0) ∧ y < (h 96 1)) (p2 : x + y + (k : Int) = 13) (p3 : 0 ≤ tm ∧ tm + 89 * (k : Int) ≤ 1157) (p4 : wt = -1) (p5 : (h 90 26) = go) (p6 : (h 90 29) = wt) (p7 : (h 90 30) = sf) (p8 : (h 90 25) = sm) (p9 : 0 ≤ go ∧ go ≤ 3 + (h 96 8)) (W : ov_WT (h 96)) (CD : ov_CD (h 96) (h 97) (h 98)) (MI : ov_MI (h 96) (h 103) (h 97) (h 98) go wt sf sm (h 105) (h 106)) (GH : ov_go (h 96) (h 103) (h 97) (h 98) go wt sf x y (((h 90 34) + tm) % (h 96 9))) : ov_T u d ov_m287 [ov_r 90, ov_i x, ov_i y, ov_i tm] z h (P_Mo_chanceFrom_90 F z h go wt sf sm x y tm) := by
  refine ov_en rfl (Nat.le_of_ble_eq_true rfl) ?_
  show ov_R u d ov_m287 0 [(0, ov_r 90), (1, ov_i x), (2, ov_i y), (3, ov_i tm)] [] z h (P_Mo_chanceFrom_90 F z h go wt sf sm x y tm)
  have t0 := t96_0 I
  have t1 := t96_1 I
  have t9 := t96_9 I
  refine ov_blk (ls2 := [(0, ov_r 90), (1, ov_i x), (2, ov_i y), (3, ov_i tm)]) (st2 := [ov_i y, ov_i x, ov_r 90]) (pc2 := 3) b_287_0_3 rfl rfl ?_
  refine ov_cV (as := [ov_i x, ov_i y]) (st := []) (d2 := d - 1) d_287_3 lk_Mo_335 rfl (Nat.le_of_ble_eq_true rfl) (c := 1) (zb_90 I) (zs_90 I) ⟨by decide, rfl⟩ (by omega) (c_Mo_isHome_90 (d - 1) (by omega) U I x y (by omega) (by omega) (by omega)) ?_
  rintro _ _ _ ⟨v2, rfl, rfl, rfl, f1⟩
  show ov_R u d ov_m287 6 [(0, ov_r 90), (1, ov_i x), (2, ov_i y), (3, ov_i tm)] [ov_i v2] z h (P_Mo_chanceFrom_90 F z h go wt sf sm x y tm)
  have f3 : (v2 = 0 ∨ v2 = 1) ∧ (v2 = 1 → x = (h 96 0) - 1 ∧ y = (h 96 1) - 1) ∧ (v2 = 0 → ¬ (x = (h 96 0) - 1 ∧ y = (h 96 1) - 1)) := f1
  clear f1
  refine ov_ifeq (tgt := 30) d_287_6 (by decide) (by omega) (fun c4 => ?_) (fun c4 => ?_)
  · skip
    have f3_ : v2 = 0 := by omega
    have f5 : ¬ (x = (h 96 0) - 1 ∧ y = (h 96 1) - 1) := f3.2.2 (by omega)
    clear f3
    refine ov_blk (ls2 := [(0, ov_r 90), (1, ov_i x), (2, ov_i y), (3, ov_i tm), (4, ov_i ((1200 * ((6 * y) + x)) + tm))]) (st2 := [ov_r 90]) (pc2 := 45) b_287_30_11 rfl rfl ?_
    refine ov_getf (v := ov_r 108) d_287_45 fl_Mo_125 (zb_90 I) (zs_90 I) (congrArg ov_r (rg_90_32 I)) ?_
    refine ov_blk (ls2 := [(0, ov_r 90), (1, ov_i x), (2, ov_i y), (3, ov_i tm), (4, ov_i ((1200 * ((6 * y) + x)) + tm))]) (st2 := [ov_i ((1200 * ((6 * y) + x)) + tm), ov_r 108]) (pc2 := 50) b_287_48_1 rfl rfl ?_
    refine ov_iald d_287_50 (zb_108 I) (zs_108 I) (by omega) ?_
    have g6 := ra_108 I ((1200 * ((6 * y) + x)) + tm)
    refine ov_blk (ls2 := [(0, ov_r 90), (1, ov_i x), (2, ov_i y), (3, ov_i tm), (4, ov_i ((1200 * ((6 * y) + x)) + tm))]) (st2 := [ov_r 90, ov_i (h 108 ((1200 * ((6 * y) + x)) + tm))]) (pc2 := 52) b_287_51_1 rfl rfl ?_
    refine ov_getf (v := ov_i (h 90 33)) d_287_52 fl_Mo_405 (zb_90 I) (zs_90 I) rfl ?_
    have g7 := rg_90_33 I
    refine ov_iceq (tgt := 206) d_287_55 (by decide) (by omega) (by omega) (fun c8 => ?_) (fun c8 => ?_)
    · skip
      refine ov_blk (ls2 := [(0, ov_r 90), (1, ov_i x), (2, ov_i y), (3, ov_i tm), (4, ov_i ((1200 * ((6 * y) + x)) + tm))]) (st2 := [ov_r 90]) (pc2 := 207) b_287_206_1 rfl rfl ?_
      refine ov_getf (v := ov_r 107) d_287_207 fl_Mo_122 (zb_90 I) (zs_90 I) (congrArg ov_r (rg_90_31 I)) ?_
      refine ov_blk (ls2 := [(0, ov_r 90), (1, ov_i x), (2, ov_i y), (3, ov_i tm), (4, ov_i ((1200 * ((6 * y) + x)) + tm))]) (st2 := [ov_i ((1200 * ((6 * y) + x)) + tm), ov_r 107]) (pc2 := 212) b_287_210_1 rfl rfl ?_
      refine ov_iald d_287_212 (zb_107 I) (zs_107 I) (by omega) ?_
      have g9 := ra_107 I ((1200 * ((6 * y) + x)) + tm)
      exact ov_reti (st := []) d_287_213 rfl ⟨_, rfl, I, ⟨rfl, rfl, rfl, rfl, rfl, rfl, rfl, rfl, rfl, rfl, rfl, rfl, (by show -2147483648 ≤ (h 107 ((1200 * ((6 * y) + x)) + tm)) ∧ (h 107 ((1200 * ((6 * y) + x)) + tm)) ≤ 2147483647; omega)⟩, rfl, rfl, rfl, rfl, rfl, rfl, rfl, rfl, rfl, rfl, rfl, rfl, MI⟩
    · skip
      refine ov_blk (ls2 := [(0, ov_r 90), (1, ov_i x), (2, ov_i y), (3, ov_i tm), (4, ov_i ((1200 * ((6 * y) + x)) + tm))]) (st2 := [ov_r 90]) (pc2 := 59) b_287_58_1 rfl rfl ?_
      refine ov_getf (v := ov_i (h 90 34)) d_287_59 fl_Mo_399 (zb_90 I) (zs_90 I) rfl ?_
      have g10 := rg_90_34 I
      refine ov_blk (ls2 := [(0, ov_r 90), (1, ov_i x), (2, ov_i y), (3, ov_i tm), (4, ov_i ((1200 * ((6 * y) + x)) + tm))]) (st2 := [ov_r 90, ov_i ((h 90 34) + tm)]) (pc2 := 65) b_287_62_3 rfl rfl ?_
      refine ov_getf (v := ov_r 96) d_287_65 fl_Mo_81 (zb_90 I) (zs_90 I) (congrArg ov_r (rg_90_10 I)) ?_
      refine ov_blk (ls2 := [(0, ov_r 90), (1, ov_i x), (2, ov_i y), (3, ov_i tm), (4, ov_i ((1200 * ((6 * y) + x)) + tm))]) (st2 := [ov_i 9, ov_r 96, ov_i ((h 90 34) + tm)]) (pc2 := 70) b_287_68_1 rfl rfl ?_
      refine ov_iald d_287_70 (zb_96 I) (zs_96 I) (by omega) ?_
      have g11 := t96_9 I
      have gt1 := ov_tmv (x := ((h 90 34) + tm)) (y := (h 96 9)) (by omega) (by omega)
      have gt2 : Int.tmod ((h 90 34) + tm) (h 96 9) = ((h 90 34) + tm) % (h 96 9) := ov_tm (by omega)
      have go1 : ov_go (h 96) (h 103) (h 97) (h 98) go wt sf x y (Int.tmod ((h 90 34) + tm) (h 96 9)) := by rw [gt2]; exact GH
      have w1 := ov_WT_at W (c := 6 * y + x) (by omega)
      refine ov_irem d_287_71 (by omega) (by omega) (by omega) ?_
      have g12 := ov_tmg (a := ((h 90 34) + tm)) (b := (h 96 9)) (by omega) (by omega)
      refine ov_blk (ls2 := [(0, ov_r 90), (1, ov_i x), (2, ov_i y), (3, ov_i tm), (4, ov_i ((1200 * ((6 * y) + x)) + tm)), (5, ov_i (Int.tmod ((h 90 34) + tm) (h 96 9))), (6, ov_i 0)]) (st2 := [ov_i y, ov_i x, ov_r 90]) (pc2 := 80) b_287_72_6 rfl rfl ?_
      refine ov_cV (as := [ov_i x, ov_i y]) (st := []) (d2 := d - 1) d_287_80 lk_Mo_362 rfl (Nat.le_of_ble_eq_true rfl) (c := 1) (zb_90 I) (zs_90 I) ⟨by decide, rfl⟩ (by omega) (c_Mo_isUnknown_90 (d - 1) (by omega) U I x y (by omega) (by omega) (by omega)) ?_
      rintro _ _ _ ⟨v14, rfl, rfl, rfl, f13⟩
      show ov_R u d ov_m287 83 [(0, ov_r 90), (1, ov_i x), (2, ov_i y), (3, ov_i tm), (4, ov_i ((1200 * ((6 * y) + x)) + tm)), (5, ov_i (Int.tmod ((h 90 34) + tm) (h 96 9))), (6, ov_i 0)] [ov_i v14] z h (P_Mo_chanceFrom_90 F z h go wt sf sm x y tm)
      have f15 : (v14 = 0 ∨ v14 = 1) ∧ (v14 = 1 → ((h 96 (10 + 4 * (6 * y + x))) = 2 ∧ ¬ (h 103 (4 + 6 * y + x)) = 1 ∧ ¬ 6 * y + x = (h 90 29))) ∧ (v14 = 0 → ¬ ((h 96 (10 + 4 * (6 * y + x))) = 2 ∧ ¬ (h 103 (4 + 6 * y + x)) = 1 ∧ ¬ 6 * y + x = (h 90 29))) := f13
      clear f13
      refine ov_ifeq (tgt := 96) d_287_83 (by decide) (by omega) (fun c16 => ?_) (fun c16 => ?_)
      · skip
        have f15_ : v14 = 0 := by omega
        have f17 : ¬ ((h 96 (10 + 4 * (6 * y + x))) = 2 ∧ ¬ (h 103 (4 + 6 * y + x)) = 1 ∧ ¬ 6 * y + x = (h 90 29)) := f15.2.2 (by omega)
        clear f15
        refine ov_blk (ls2 := [(0, ov_r 90), (1, ov_i x), (2, ov_i y), (3, ov_i tm), (4, ov_i ((1200 * ((6 * y) + x)) + tm)), (5, ov_i (Int.tmod ((h 90 34) + tm) (h 96 9))), (6, ov_i 0), (7, ov_i 1), (8, ov_i 0)]) (st2 := []) (pc2 := 102) b_287_96_4 rfl rfl ?_
        have L21 : ∀ (n18 : Nat) (x6 : Int) (x8 : Int) (z22 : ov_Z) (h23 : ov_H) (I24 : ov_N F z22 h23) (E25 : h23 92 = h 92) (E26 : h23 93 = h 93) (E27 : h23 94 = h 94) (E28 : h23 95 = h 95) (E29 : h23 96 = h 96) (E30 : h23 97 = h 97) (E31 : h23 98 = h 98) (E32 : h23 99 = h 99) (E33 : h23 100 = h 100) (E34 : h23 103 = h 103) (E35 : h23 109 = h 109) (E36 : h23 114 = h 114) (xm : ov_MI (h 96) (h 103) (h 97) (h 98) go wt sf sm (h23 105) (h23 106)) (q20 : 0 ≤ x8 ∧ x8 ≤ 60 ∧ x8 ≤ 1 ∧ ov_g x6 ∧ (h23 90 2) = (h 90 2) ∧ (h23 90 7) = (h 90 7) ∧ (h23 90 8) = (h 90 8) ∧ (h23 90 13) = (h 90 13) ∧ (h23 90 20) = (h 90 20) ∧ (h23 90 22) = (h 90 22) ∧ (h23 90 25) = (h 90 25) ∧ (h23 90 26) = (h 90 26) ∧ (h23 90 28) = (h 90 28) ∧ (h23 90 29) = (h 90 29) ∧ (h23 90 30) = (h 90 30) ∧ (h23 90 34) = (h 90 34)), 60 - x8 < (n18 : Int) → ov_R u d ov_m287 102 [(0, ov_r 90), (1, ov_i x), (2, ov_i y), (3, ov_i tm), (4, ov_i ((1200 * ((6 * y) + x)) + tm)), (5, ov_i (Int.tmod ((h 90 34) + tm) (h 96 9))), (6, ov_i x6), (7, ov_i 1), (8, ov_i x8)] [] z22 h23 (P_Mo_chanceFrom_90 F z h go wt sf sm x y tm) := by
          intro n18
          induction n18 with
          | zero =>
            intro x6 x8 z22 h23 I24 E25 E26 E27 E28 E29 E30 E31 E32 E33 E34 E35 E36 xm q20 hn37
            exact absurd hn37 (by omega)
          | succ n18 ih19 =>
            intro x6 x8 z22 h23 I24 E25 E26 E27 E28 E29 E30 E31 E32 E33 E34 E35 E36 xm q20 hn37
            refine ov_blk (ls2 := [(0, ov_r 90), (1, ov_i x), (2, ov_i y), (3, ov_i tm), (4, ov_i ((1200 * ((6 * y) + x)) + tm)), (5, ov_i (Int.tmod ((h 90 34) + tm) (h 96 9))), (6, ov_i x6), (7, ov_i 1), (8, ov_i x8)]) (st2 := [ov_i 1, ov_i x8]) (pc2 := 106) b_287_102_2 rfl rfl ?_
            refine ov_icge (tgt := 183) d_287_106 (by decide) (by omega) (by omega) (fun c38 => ?_) (fun c38 => ?_)
            · skip
              refine ov_blk (ls2 := [(0, ov_r 90), (1, ov_i x), (2, ov_i y), (3, ov_i tm), (4, ov_i ((1200 * ((6 * y) + x)) + tm)), (5, ov_i (Int.tmod ((h 90 34) + tm) (h 96 9))), (6, ov_i x6), (7, ov_i 1), (8, ov_i x8)]) (st2 := [ov_r 90]) (pc2 := 184) b_287_183_1 rfl rfl ?_
              refine ov_getf (v := ov_r 107) d_287_184 fl_Mo_122 (zb_90 I24) (zs_90 I24) (congrArg ov_r (rg_90_31 I24)) ?_
              refine ov_blk (ls2 := [(0, ov_r 90), (1, ov_i x), (2, ov_i y), (3, ov_i tm), (4, ov_i ((1200 * ((6 * y) + x)) + tm)), (5, ov_i (Int.tmod ((h 90 34) + tm) (h 96 9))), (6, ov_i x6), (7, ov_i 1), (8, ov_i x8)]) (st2 := [ov_i 1, ov_i x6, ov_i ((1200 * ((6 * y) + x)) + tm), ov_r 107]) (pc2 := 193) b_287_187_3 rfl rfl ?_
              have xd := ov_tdt (a := x6) (b := 1) (by omega)
              refine ov_idiv d_287_193 (by omega) (by omega) (by omega) ?_
              refine ov_iast d_287_194 (zb_107 I24) (zs_107 I24) (by omega) ?_
              have I39 := ua_107 (k := ((1200 * ((6 * y) + x)) + tm)) (x := (Int.tdiv x6 1)) I24 (by omega)
              refine ov_blk (ls2 := [(0, ov_r 90), (1, ov_i x), (2, ov_i y), (3, ov_i tm), (4, ov_i ((1200 * ((6 * y) + x)) + tm)), (5, ov_i (Int.tmod ((h 90 34) + tm) (h 96 9))), (6, ov_i x6), (7, ov_i 1), (8, ov_i x8)]) (st2 := [ov_r 90]) (pc2 := 196) b_287_195_1 rfl rfl ?_
              refine ov_getf (v := ov_r 108) d_287_196 fl_Mo_125 (zb_90 I39) (zs_90 I39) (congrArg ov_r (rg_90_32 I39)) ?_
              refine ov_blk (ls2 := [(0, ov_r 90), (1, ov_i x), (2, ov_i y), (3, ov_i tm), (4, ov_i ((1200 * ((6 * y) + x)) + tm)), (5, ov_i (Int.tmod ((h 90 34) + tm) (h 96 9))), (6, ov_i x6), (7, ov_i 1), (8, ov_i x8)]) (st2 := [ov_r 90, ov_i ((1200 * ((6 * y) + x)) + tm), ov_r 108]) (pc2 := 202) b_287_199_2 rfl rfl ?_
              refine ov_getf (v := ov_i (h23 90 33)) d_287_202 fl_Mo_405 (zb_90 I39) (zs_90 I39) rfl ?_
              have g40 := rg_90_33 I24
              refine ov_iast d_287_205 (zb_108 I39) (zs_108 I39) (by omega) ?_
              have I41 := ua_108 (k := ((1200 * ((6 * y) + x)) + tm)) (x := (h23 90 33)) I39 (by omega)
              refine ov_blk (ls2 := [(0, ov_r 90), (1, ov_i x), (2, ov_i y), (3, ov_i tm), (4, ov_i ((1200 * ((6 * y) + x)) + tm)), (5, ov_i (Int.tmod ((h 90 34) + tm) (h 96 9))), (6, ov_i x6), (7, ov_i 1), (8, ov_i x8)]) (st2 := [ov_r 90]) (pc2 := 207) b_287_206_1 rfl rfl ?_
              refine ov_getf (v := ov_r 107) d_287_207 fl_Mo_122 (zb_90 I41) (zs_90 I41) (congrArg ov_r (rg_90_31 I41)) ?_
              refine ov_blk (ls2 := [(0, ov_r 90), (1, ov_i x), (2, ov_i y), (3, ov_i tm), (4, ov_i ((1200 * ((6 * y) + x)) + tm)), (5, ov_i (Int.tmod ((h 90 34) + tm) (h 96 9))), (6, ov_i x6), (7, ov_i 1), (8, ov_i x8)]) (st2 := [ov_i ((1200 * ((6 * y) + x)) + tm), ov_r 107]) (pc2 := 212) b_287_210_1 rfl rfl ?_
              refine ov_iald d_287_212 (zb_107 I41) (zs_107 I41) (by omega) ?_
              show ov_R u d ov_m287 213 [(0, ov_r 90), (1, ov_i x), (2, ov_i y), (3, ov_i tm), (4, ov_i ((1200 * ((6 * y) + x)) + tm)), (5, ov_i (Int.tmod ((h 90 34) + tm) (h 96 9))), (6, ov_i x6), (7, ov_i 1), (8, ov_i x8)] [ov_i ((ov_up h23 107 ((1200 * ((6 * y) + x)) + tm) (Int.tdiv x6 1)) 107 ((1200 * ((6 * y) + x)) + tm))] z22 (ov_up (ov_up h23 107 ((1200 * ((6 * y) + x)) + tm) (Int.tdiv x6 1)) 108 ((1200 * ((6 * y) + x)) + tm) (h23 90 33)) (P_Mo_chanceFrom_90 F z h go wt sf sm x y tm)
              have g42 := ra_107 I41 ((1200 * ((6 * y) + x)) + tm)
              have gr : -2147483648 ≤ ((ov_up h23 107 ((1200 * ((6 * y) + x)) + tm) (Int.tdiv x6 1)) 107 ((1200 * ((6 * y) + x)) + tm)) ∧ ((ov_up h23 107 ((1200 * ((6 * y) + x)) + tm) (Int.tdiv x6 1)) 107 ((1200 * ((6 * y) + x)) + tm)) ≤ 2147483647 := ra_107 I41 ((1200 * ((6 * y) + x)) + tm)
              exact ov_reti (st := []) d_287_213 rfl ⟨_, rfl, I41, (by show (h23 90 2) = (h 90 2) ∧ (h23 90 7) = (h 90 7) ∧ (h23 90 8) = (h 90 8) ∧ (h23 90 13) = (h 90 13) ∧ (h23 90 20) = (h 90 20) ∧ (h23 90 22) = (h 90 22) ∧ (h23 90 25) = (h 90 25) ∧ (h23 90 26) = (h 90 26) ∧ (h23 90 28) = (h 90 28) ∧ (h23 90 29) = (h 90 29) ∧ (h23 90 30) = (h 90 30) ∧ (h23 90 34) = (h 90 34) ∧ -2147483648 ≤ ((ov_up h23 107 ((1200 * ((6 * y) + x)) + tm) (Int.tdiv x6 1)) 107 ((1200 * ((6 * y) + x)) + tm)) ∧ ((ov_up h23 107 ((1200 * ((6 * y) + x)) + tm) (Int.tdiv x6 1)) 107 ((1200 * ((6 * y) + x)) + tm)) ≤ 2147483647; omega), E25, E26, E27, E28, E29, E30, E31, E32, E33, E34, E35, E36, xm⟩
            · skip
              refine ov_blk (ls2 := [(0, ov_r 90), (1, ov_i x), (2, ov_i y), (3, ov_i tm), (4, ov_i ((1200 * ((6 * y) + x)) + tm)), (5, ov_i (Int.tmod ((h 90 34) + tm) (h 96 9))), (6, ov_i x6), (7, ov_i 1), (8, ov_i x8)]) (st2 := [ov_i y, ov_i x, ov_r 90]) (pc2 := 112) b_287_109_3 rfl rfl ?_
              refine ov_cV (as := [ov_i x, ov_i y]) (st := []) (d2 := d - 1) d_287_112 lk_Mo_362 rfl (Nat.le_of_ble_eq_true rfl) (c := 1) (zb_90 I24) (zs_90 I24) ⟨by decide, rfl⟩ (by omega) (c_Mo_isUnknown_90 (d - 1) (by omega) U I24 x y (by omega) (by omega) (by omega)) ?_
              rintro _ _ _ ⟨v44, rfl, rfl, rfl, f43⟩
              show ov_R u d ov_m287 115 [(0, ov_r 90), (1, ov_i x), (2, ov_i y), (3, ov_i tm), (4, ov_i ((1200 * ((6 * y) + x)) + tm)), (5, ov_i (Int.tmod ((h 90 34) + tm) (h 96 9))), (6, ov_i x6), (7, ov_i 1), (8, ov_i x8)] [ov_i v44] z22 h23 (P_Mo_chanceFrom_90 F z h go wt sf sm x y tm)
              rw [show h23 103 = h 103 from E34] at f43
              rw [show h23 96 = h 96 from E29] at f43
              have f45 : (v44 = 0 ∨ v44 = 1) ∧ (v44 = 1 → ((h 96 (10 + 4 * (6 * y + x))) = 2 ∧ ¬ (h 103 (4 + 6 * y + x)) = 1 ∧ ¬ 6 * y + x = (h23 90 29))) ∧ (v44 = 0 → ¬ ((h 96 (10 + 4 * (6 * y + x))) = 2 ∧ ¬ (h 103 (4 + 6 * y + x)) = 1 ∧ ¬ 6 * y + x = (h23 90 29))) := f43
              clear f43
              refine ov_ifeq (tgt := 123) d_287_115 (by decide) (by omega) (fun c46 => ?_) (fun c46 => ?_)
              · skip
                have f45_ : v44 = 0 := by omega
                have f47 : ¬ ((h 96 (10 + 4 * (6 * y + x))) = 2 ∧ ¬ (h 103 (4 + 6 * y + x)) = 1 ∧ ¬ 6 * y + x = (h23 90 29)) := f45.2.2 (by omega)
                clear f45
                refine ov_blk (ls2 := [(0, ov_r 90), (1, ov_i x), (2, ov_i y), (3, ov_i tm), (4, ov_i ((1200 * ((6 * y) + x)) + tm)), (5, ov_i (Int.tmod ((h 90 34) + tm) (h 96 9))), (6, ov_i x6), (7, ov_i 1), (8, ov_i x8), (9, ov_i (Int.tmod ((h 90 34) + tm) (h 96 9)))]) (st2 := []) (pc2 := 127) b_287_123_2 rfl rfl ?_
                have gq : ov_gs (h 96) (h 97) (h 98) (ov_go (h 96) (h 103) (h 97) (h 98) go wt sf) go x y (Int.tmod ((h 90 34) + tm) (h 96 9)) (Int.tmod ((h 90 34) + tm) (h 96 9)) := (ov_go_s (by omega) (by omega) (by omega) (by omega)).mpr go1
                refine ov_blk (ls2 := [(0, ov_r 90), (1, ov_i x), (2, ov_i y), (3, ov_i tm), (4, ov_i ((1200 * ((6 * y) + x)) + tm)), (5, ov_i (Int.tmod ((h 90 34) + tm) (h 96 9))), (6, ov_i x6), (7, ov_i 1), (8, ov_i x8), (9, ov_i (Int.tmod ((h 90 34) + tm) (h 96 9)))]) (st2 := [ov_i (Int.tmod ((h 90 34) + tm) (h 96 9)), ov_i (Int.tmod ((h 90 34) + tm) (h 96 9)), ov_i y, ov_i x, ov_r 90]) (pc2 := 134) b_287_127_5 rfl rfl ?_
                have cf48 : h23 96 (0) = h 96 (0) := congrFun E29 (0)
                have cf49 : h23 96 (1) = h 96 (1) := congrFun E29 (1)
                have cf50 : h23 96 (9) = h 96 (9) := congrFun E29 (9)
                have cf51 : h23 96 (8) = h 96 (8) := congrFun E29 (8)
                refine ov_cV (as := [ov_i x, ov_i y, ov_i (Int.tmod ((h 90 34) + tm) (h 96 9)), ov_i (Int.tmod ((h 90 34) + tm) (h 96 9))]) (st := []) (d2 := d - 1) d_287_134 lk_Mo_371 rfl (Nat.le_of_ble_eq_true rfl) (c := 1) (zb_90 I24) (zs_90 I24) ⟨by decide, rfl⟩ (by omega) (c_Mo_wayOf_90_all go wt sf sm (Int.toNat (13 - (x) - (y))) (d - 1) (by omega) U I24 x y (Int.tmod ((h 90 34) + tm) (h 96 9)) (Int.tmod ((h 90 34) + tm) (h 96 9)) (by omega) (by omega) (by omega) (by omega) (by omega) (by show x < (h23 96 0) ∧ y < (h23 96 1); omega) (by omega) (by show 0 ≤ (Int.tmod ((h 90 34) + tm) (h 96 9)) ∧ (Int.tmod ((h 90 34) + tm) (h 96 9)) < (h23 96 9); omega) (by omega) (by show (h23 90 26) = go; omega) (by show (h23 90 29) = wt; omega) (by show (h23 90 30) = sf; omega) (by show (h23 90 25) = sm; omega) (by show 0 ≤ go ∧ go ≤ 3 + (h23 96 8); omega) (by rw [show h23 96 = h 96 from E29]; exact W) (by rw [show h23 96 = h 96 from E29, show h23 97 = h 97 from E30, show h23 98 = h 98 from E31]; exact CD) (by rw [show h23 96 = h 96 from E29, show h23 103 = h 103 from E34, show h23 97 = h 97 from E30, show h23 98 = h 98 from E31]; exact xm)) ?_
                rintro _ z68 h69 ⟨v53, rfl, I70, f52, e54, e55, e56, e57, e58, e59, e60, e61, e62, e63, e64, e65, y66, y67⟩
                have E71 : h69 92 = h 92 := Eq.trans e54 E25
                have E72 : h69 93 = h 93 := Eq.trans e55 E26
                have E73 : h69 94 = h 94 := Eq.trans e56 E27
                have E74 : h69 95 = h 95 := Eq.trans e57 E28
                have E75 : h69 96 = h 96 := Eq.trans e58 E29
                have E76 : h69 97 = h 97 := Eq.trans e59 E30
                have E77 : h69 98 = h 98 := Eq.trans e60 E31
                have E78 : h69 99 = h 99 := Eq.trans e61 E32
                have E79 : h69 100 = h 100 := Eq.trans e62 E33
                have E80 : h69 103 = h 103 := Eq.trans e63 E34
                have E81 : h69 109 = h 109 := Eq.trans e64 E35
                have E82 : h69 114 = h 114 := Eq.trans e65 E36
                show ov_R u d ov_m287 137 [(0, ov_r 90), (1, ov_i x), (2, ov_i y), (3, ov_i tm), (4, ov_i ((1200 * ((6 * y) + x)) + tm)), (5, ov_i (Int.tmod ((h 90 34) + tm) (h 96 9))), (6, ov_i x6), (7, ov_i 1), (8, ov_i x8), (9, ov_i (Int.tmod ((h 90 34) + tm) (h 96 9)))] [ov_i v53] z68 h69 (P_Mo_chanceFrom_90 F z h go wt sf sm x y tm)
                have f83 : (h69 90 2) = (h23 90 2) ∧ (h69 90 7) = (h23 90 7) ∧ (h69 90 8) = (h23 90 8) ∧ (h69 90 13) = (h23 90 13) ∧ (h69 90 20) = (h23 90 20) ∧ (h69 90 22) = (h23 90 22) ∧ (h69 90 25) = (h23 90 25) ∧ (h69 90 26) = (h23 90 26) ∧ (h69 90 28) = (h23 90 28) ∧ (h69 90 29) = (h23 90 29) ∧ (h69 90 30) = (h23 90 30) ∧ (h69 90 34) = (h23 90 34) ∧ -1 ≤ v53 ∧ v53 ≤ 1 := f52
                clear f52
                rw [show h23 103 = h 103 from E34] at y66
                rw [show h23 96 = h 96 from E29] at y66
                rw [show h23 97 = h 97 from E30] at y66
                rw [show h23 98 = h 98 from E31] at y66
                have y66_ : ov_MI (h 96) (h 103) (h 97) (h 98) go wt sf sm (h69 105) (h69 106) := y66
                rw [show h23 103 = h 103 from E34] at y67
                rw [show h23 96 = h 96 from E29] at y67
                rw [show h23 97 = h 97 from E30] at y67
                rw [show h23 98 = h 98 from E31] at y67
                have y67_ : ov_wf (h 96) (h 97) (h 98) (ov_go (h 96) (h 103) (h 97) (h 98) go wt sf) go x y (Int.tmod ((h 90 34) + tm) (h 96 9)) (Int.tmod ((h 90 34) + tm) (h 96 9)) v53 := y67
                have r0 : 0 ≤ v53 := if c : 0 ≤ v53 then c else absurd gq (ov_wf_no y67_ (by omega))
                have cg := (ov_cgi_sp (h 96) x y v53).2 (y67_.1 r0)
                have gn := (ov_wf_gs y67_ r0).mpr gq
                refine ov_blk (ls2 := [(0, ov_r 90), (1, ov_i x), (2, ov_i y), (3, ov_i tm), (4, ov_i ((1200 * ((6 * y) + x)) + tm)), (5, ov_i (Int.tmod ((h 90 34) + tm) (h 96 9))), (6, ov_i x6), (7, ov_i 1), (8, ov_i x8), (9, ov_i (Int.tmod ((h 90 34) + tm) (h 96 9))), (10, ov_i v53)]) (st2 := [ov_i (Int.tmod ((h 90 34) + tm) (h 96 9)), ov_i v53, ov_i y, ov_i x, ov_r 90, ov_i tm, ov_i (y + v53), ov_i ((x + 1) - v53), ov_r 90, ov_i x6]) (pc2 := 160) b_287_137_17 rfl rfl ?_
                have cf84 : h69 96 (10 + 4 * (6 * y + x)) = h 96 (10 + 4 * (6 * y + x)) := congrFun E75 (10 + 4 * (6 * y + x))
                have cf85 : h69 96 (10 + 4 * (6 * y + x) + 3) = h 96 (10 + 4 * (6 * y + x) + 3) := congrFun E75 (10 + 4 * (6 * y + x) + 3)
                have cf86 : h69 96 (10 + 4 * (6 * y + x) + 1) = h 96 (10 + 4 * (6 * y + x) + 1) := congrFun E75 (10 + 4 * (6 * y + x) + 1)
                refine ov_cV (as := [ov_i x, ov_i y, ov_i v53, ov_i (Int.tmod ((h 90 34) + tm) (h 96 9))]) (st := [ov_i tm, ov_i (y + v53), ov_i ((x + 1) - v53), ov_r 90, ov_i x6]) (d2 := d - 1) d_287_160 lk_Mo_315 rfl (Nat.le_of_ble_eq_true rfl) (c := 1) (zb_90 I70) (zs_90 I70) ⟨by decide, rfl⟩ (by omega) (c_Mo_waitFor_90 (d - 1) (by omega) U I70 x y v53 (Int.tmod ((h 90 34) + tm) (h 96 9)) (by omega) (by omega) (by omega) (by omega) (by omega) (by omega) (by omega) (by show (((h69 96 (10 + 4 * (6 * y + x))) = 1 ∨ (h69 96 (10 + 4 * (6 * y + x))) = 2) → (v53 = 0 → 0 < (h69 96 (10 + 4 * (6 * y + x) + 3))) ∧ (¬ v53 = 0 → (h69 96 (10 + 4 * (6 * y + x) + 3)) < (h69 96 (10 + 4 * (6 * y + x) + 1)))); omega) (by rw [show h69 96 = h 96 from E75]; exact W)) ?_
                rintro _ _ _ ⟨v88, rfl, rfl, rfl, f87⟩
                show ov_R u d ov_m287 163 [(0, ov_r 90), (1, ov_i x), (2, ov_i y), (3, ov_i tm), (4, ov_i ((1200 * ((6 * y) + x)) + tm)), (5, ov_i (Int.tmod ((h 90 34) + tm) (h 96 9))), (6, ov_i x6), (7, ov_i 1), (8, ov_i x8), (9, ov_i (Int.tmod ((h 90 34) + tm) (h 96 9))), (10, ov_i v53)] [ov_i v88, ov_i tm, ov_i (y + v53), ov_i ((x + 1) - v53), ov_r 90, ov_i x6] z68 h69 (P_Mo_chanceFrom_90 F z h go wt sf sm x y tm)
                rw [show h69 96 = h 96 from E75] at f87
                have f89 : 0 ≤ v88 ∧ v88 ≤ 59 ∧ v88 = ov_wm (h 96) (6 * y + x) v53 (Int.tmod ((h 90 34) + tm) (h 96 9)) := f87
                clear f87
                refine ov_blk (ls2 := [(0, ov_r 90), (1, ov_i x), (2, ov_i y), (3, ov_i tm), (4, ov_i ((1200 * ((6 * y) + x)) + tm)), (5, ov_i (Int.tmod ((h 90 34) + tm) (h 96 9))), (6, ov_i x6), (7, ov_i 1), (8, ov_i x8), (9, ov_i (Int.tmod ((h 90 34) + tm) (h 96 9))), (10, ov_i v53)]) (st2 := [ov_r 90, ov_i (tm + v88), ov_i (y + v53), ov_i ((x + 1) - v53), ov_r 90, ov_i x6]) (pc2 := 165) b_287_163_2 rfl rfl ?_
                refine ov_getf (v := ov_r 96) d_287_165 fl_Mo_81 (zb_90 I70) (zs_90 I70) (congrArg ov_r (rg_90_10 I70)) ?_
                refine ov_blk (ls2 := [(0, ov_r 90), (1, ov_i x), (2, ov_i y), (3, ov_i tm), (4, ov_i ((1200 * ((6 * y) + x)) + tm)), (5, ov_i (Int.tmod ((h 90 34) + tm) (h 96 9))), (6, ov_i x6), (7, ov_i 1), (8, ov_i x8), (9, ov_i (Int.tmod ((h 90 34) + tm) (h 96 9))), (10, ov_i v53)]) (st2 := [ov_i 2, ov_r 96, ov_i (tm + v88), ov_i (y + v53), ov_i ((x + 1) - v53), ov_r 90, ov_i x6]) (pc2 := 169) b_287_168_1 rfl rfl ?_
                refine ov_iald d_287_169 (zb_96 I70) (zs_96 I70) (by omega) ?_
                rw [show h69 96 = h 96 from E75]
                have g90 := t96_2 I
                refine ov_blk (ls2 := [(0, ov_r 90), (1, ov_i x), (2, ov_i y), (3, ov_i tm), (4, ov_i ((1200 * ((6 * y) + x)) + tm)), (5, ov_i (Int.tmod ((h 90 34) + tm) (h 96 9))), (6, ov_i x6), (7, ov_i 1), (8, ov_i x8), (9, ov_i (Int.tmod ((h 90 34) + tm) (h 96 9))), (10, ov_i v53)]) (st2 := [ov_i ((tm + v88) + (h 96 2)), ov_i (y + v53), ov_i ((x + 1) - v53), ov_r 90, ov_i x6]) (pc2 := 171) b_287_170_1 rfl rfl ?_
                have ec : ((h69 90 34) + ((tm + v88) + (h 96 2))) % h 96 9 = ov_nx (h 96) (Int.tmod ((h 90 34) + tm) (h 96 9)) (ov_wm (h 96) (6 * y + x) v53 (Int.tmod ((h 90 34) + tm) (h 96 9))) := by rw [show (h69 90 34) = h 90 34 by omega, show v88 = ov_wm (h 96) (6 * y + x) v53 (Int.tmod ((h 90 34) + tm) (h 96 9)) by omega]; exact ov_nxa gt2
                have cf91 : h69 96 (0) = h 96 (0) := congrFun E75 (0)
                have cf92 : h69 96 (1) = h 96 (1) := congrFun E75 (1)
                have cf93 : h69 96 (8) = h 96 (8) := congrFun E75 (8)
                refine ov_cV (as := [ov_i ((x + 1) - v53), ov_i (y + v53), ov_i ((tm + v88) + (h 96 2))]) (st := [ov_i x6]) (d2 := d - 1) d_287_171 lk_Mo_408 rfl (Nat.le_of_ble_eq_true rfl) (c := 1) (zb_90 I70) (zs_90 I70) ⟨by decide, rfl⟩ (by omega) (HV (Int.toNat (13 - (((x + 1) - v53)) - ((y + v53)))) (by omega) (d - 1) (by omega) U I70 ((x + 1) - v53) (y + v53) ((tm + v88) + (h 96 2)) (by omega) (by omega) (by omega) (by omega) (by show ((x + 1) - v53) < (h69 96 0) ∧ (y + v53) < (h69 96 1); omega) (by omega) (by omega) (by omega) (by show (h69 90 26) = go; omega) (by show (h69 90 29) = wt; omega) (by show (h69 90 30) = sf; omega) (by show (h69 90 25) = sm; omega) (by show 0 ≤ go ∧ go ≤ 3 + (h69 96 8); omega) (by rw [show h69 96 = h 96 from E75]; exact W) (by rw [show h69 96 = h 96 from E75, show h69 97 = h 97 from E76, show h69 98 = h 98 from E77]; exact CD) (by rw [show h69 96 = h 96 from E75, show h69 103 = h 103 from E80, show h69 97 = h 97 from E76, show h69 98 = h 98 from E77]; exact y66_) (by rw [show h69 96 = h 96 from E75, show h69 103 = h 103 from E80, show h69 97 = h 97 from E76, show h69 98 = h 98 from E77, ec]; exact gn)) ?_
                rintro _ z109 h110 ⟨v95, rfl, I111, f94, e96, e97, e98, e99, e100, e101, e102, e103, e104, e105, e106, e107, y108⟩
                have E112 : h110 92 = h 92 := Eq.trans e96 E71
                have E113 : h110 93 = h 93 := Eq.trans e97 E72
                have E114 : h110 94 = h 94 := Eq.trans e98 E73
                have E115 : h110 95 = h 95 := Eq.trans e99 E74
                have E116 : h110 96 = h 96 := Eq.trans e100 E75
                have E117 : h110 97 = h 97 := Eq.trans e101 E76
                have E118 : h110 98 = h 98 := Eq.trans e102 E77
                have E119 : h110 99 = h 99 := Eq.trans e103 E78
                have E120 : h110 100 = h 100 := Eq.trans e104 E79
                have E121 : h110 103 = h 103 := Eq.trans e105 E80
                have E122 : h110 109 = h 109 := Eq.trans e106 E81
                have E123 : h110 114 = h 114 := Eq.trans e107 E82
                show ov_R u d ov_m287 174 [(0, ov_r 90), (1, ov_i x), (2, ov_i y), (3, ov_i tm), (4, ov_i ((1200 * ((6 * y) + x)) + tm)), (5, ov_i (Int.tmod ((h 90 34) + tm) (h 96 9))), (6, ov_i x6), (7, ov_i 1), (8, ov_i x8), (9, ov_i (Int.tmod ((h 90 34) + tm) (h 96 9))), (10, ov_i v53)] [ov_i v95, ov_i x6] z109 h110 (P_Mo_chanceFrom_90 F z h go wt sf sm x y tm)
                have f124 : (h110 90 2) = (h69 90 2) ∧ (h110 90 7) = (h69 90 7) ∧ (h110 90 8) = (h69 90 8) ∧ (h110 90 13) = (h69 90 13) ∧ (h110 90 20) = (h69 90 20) ∧ (h110 90 22) = (h69 90 22) ∧ (h110 90 25) = (h69 90 25) ∧ (h110 90 26) = (h69 90 26) ∧ (h110 90 28) = (h69 90 28) ∧ (h110 90 29) = (h69 90 29) ∧ (h110 90 30) = (h69 90 30) ∧ (h110 90 34) = (h69 90 34) ∧ -2147483648 ≤ v95 ∧ v95 ≤ 2147483647 := f94
                clear f94
                rw [show h69 103 = h 103 from E80] at y108
                rw [show h69 96 = h 96 from E75] at y108
                rw [show h69 97 = h 97 from E76] at y108
                rw [show h69 98 = h 98 from E77] at y108
                have y108_ : ov_MI (h 96) (h 103) (h 97) (h 98) go wt sf sm (h110 105) (h110 106) := y108
                refine ov_blk (ls2 := [(0, ov_r 90), (1, ov_i x), (2, ov_i y), (3, ov_i tm), (4, ov_i ((1200 * ((6 * y) + x)) + tm)), (5, ov_i (Int.tmod ((h 90 34) + tm) (h 96 9))), (6, ov_i x6), (7, ov_i 1), (8, ov_i x8), (9, ov_i (Int.tmod ((h 90 34) + tm) (h 96 9))), (10, ov_i v53)]) (st2 := [ov_i (x6 + v95)]) (pc2 := 175) b_287_174_1 rfl rfl ?_
                refine ov_hav (fun w125 gw125 => ?_)
                refine ov_blk (ls2 := [(0, ov_r 90), (1, ov_i x), (2, ov_i y), (3, ov_i tm), (4, ov_i ((1200 * ((6 * y) + x)) + tm)), (5, ov_i (Int.tmod ((h 90 34) + tm) (h 96 9))), (6, ov_i w125), (7, ov_i 1), (8, ov_i (x8 + 1)), (9, ov_i (Int.tmod ((h 90 34) + tm) (h 96 9))), (10, ov_i v53)]) (st2 := []) (pc2 := 180) b_287_175_2 rfl rfl ?_
                refine ov_goto (tgt := 102) d_287_180 (by decide) ?_
                refine ov_sub (ls2 := [(0, ov_r 90), (1, ov_i x), (2, ov_i y), (3, ov_i tm), (4, ov_i ((1200 * ((6 * y) + x)) + tm)), (5, ov_i (Int.tmod ((h 90 34) + tm) (h 96 9))), (6, ov_i w125), (7, ov_i 1), (8, ov_i (x8 + 1))]) (List.Sublist.subset (by repeat (first | exact List.Sublist.refl _ | apply List.Sublist.cons_cons | apply List.Sublist.cons))) ?_
                exact ih19 w125 (x8 + 1) _ _ I111 E112 E113 E114 E115 E116 E117 E118 E119 E120 E121 E122 E123 y108_ (by show 0 ≤ (x8 + 1) ∧ (x8 + 1) ≤ 60 ∧ (x8 + 1) ≤ 1 ∧ ov_g w125 ∧ (h110 90 2) = (h 90 2) ∧ (h110 90 7) = (h 90 7) ∧ (h110 90 8) = (h 90 8) ∧ (h110 90 13) = (h 90 13) ∧ (h110 90 20) = (h 90 20) ∧ (h110 90 22) = (h 90 22) ∧ (h110 90 25) = (h 90 25) ∧ (h110 90 26) = (h 90 26) ∧ (h110 90 28) = (h 90 28) ∧ (h110 90 29) = (h 90 29) ∧ (h110 90 30) = (h 90 30) ∧ (h110 90 34) = (h 90 34); omega) (by omega)
              · skip
                have f45_ : v44 = 1 := by omega
                have f126 : ((h 96 (10 + 4 * (6 * y + x))) = 2 ∧ ¬ (h 103 (4 + 6 * y + x)) = 1 ∧ ¬ 6 * y + x = (h23 90 29)) := f45.2.1 (by omega)
                clear f45
                exfalso; omega
        exact L21 61 0 0 _ _ I rfl rfl rfl rfl rfl rfl rfl rfl rfl rfl rfl rfl MI (by show 0 ≤ 0 ∧ 0 ≤ 60 ∧ 0 ≤ 1 ∧ ov_g 0 ∧ (h 90 2) = (h 90 2) ∧ (h 90 7) = (h 90 7) ∧ (h 90 8) = (h 90 8) ∧ (h 90 13) = (h 90 13) ∧ (h 90 20) = (h 90 20) ∧ (h 90 22) = (h 90 22) ∧ (h 90 25) = (h 90 25) ∧ (h 90 26) = (h 90 26) ∧ (h 90 28) = (h 90 28) ∧ (h 90 29) = (h 90 29) ∧ (h 90 30) = (h 90 30) ∧ (h 90 34) = (h 90 34); omega) (by omega)
      · skip
        have f15_ : v14 = 1 := by omega
        have f127 : ((h 96 (10 + 4 * (6 * y + x))) = 2 ∧ ¬ (h 103 (4 + 6 * y + x)) = 1 ∧ ¬ 6 * y + x = (h 90 29)) := f15.2.1 (by omega)
        clear f15
        refine ov_blk (ls2 := [(0, ov_r 90), (1, ov_i x), (2, ov_i y), (3, ov_i tm), (4, ov_i ((1200 * ((6 * y) + x)) + tm)), (5, ov_i (Int.tmod ((h 90 34) + tm) (h 96 9))), (6, ov_i 0)]) (st2 := [ov_i 1, ov_i y, ov_i x, ov_r 90]) (pc2 := 90) b_287_86_4 rfl rfl ?_
        refine ov_cV (as := [ov_i x, ov_i y, ov_i 1]) (st := []) (d2 := d - 1) d_287_90 lk_Mo_289 rfl (Nat.le_of_ble_eq_true rfl) (c := 1) (zb_90 I) (zs_90 I) ⟨by decide, rfl⟩ (by omega) (c_Mo_lightAt_90 (d - 1) (by omega) U I x y 1 (by omega) (by omega) (by omega) (by omega) (by omega)) ?_
        rintro _ _ _ ⟨v129, rfl, rfl, rfl, f128⟩
        show ov_R u d ov_m287 93 [(0, ov_r 90), (1, ov_i x), (2, ov_i y), (3, ov_i tm), (4, ov_i ((1200 * ((6 * y) + x)) + tm)), (5, ov_i (Int.tmod ((h 90 34) + tm) (h 96 9))), (6, ov_i 0)] [ov_i v129] z h (P_Mo_chanceFrom_90 F z h go wt sf sm x y tm)
        have f130 : v129 = (h 96 (10 + 4 * (6 * y + x) + (1 : Int))) ∧ ((1 : Int) = 1 → 0 ≤ v129 ∧ v129 ≤ 60) ∧ ((1 : Int) = 2 → 0 ≤ v129 ∧ v129 ≤ 59) ∧ ((1 : Int) = 3 → 0 ≤ v129 ∧ v129 ≤ 60) := f128
        clear f128
        refine ov_goto (tgt := 97) d_287_93 (by decide) ?_
        refine ov_blk (ls2 := [(0, ov_r 90), (1, ov_i x), (2, ov_i y), (3, ov_i tm), (4, ov_i ((1200 * ((6 * y) + x)) + tm)), (5, ov_i (Int.tmod ((h 90 34) + tm) (h 96 9))), (6, ov_i 0), (7, ov_i v129), (8, ov_i 0)]) (st2 := []) (pc2 := 102) b_287_97_3 rfl rfl ?_
        have L134 : ∀ (n131 : Nat) (x6_ : Int) (x8_ : Int) (z135 : ov_Z) (h136 : ov_H) (I137 : ov_N F z135 h136) (E138 : h136 92 = h 92) (E139 : h136 93 = h 93) (E140 : h136 94 = h 94) (E141 : h136 95 = h 95) (E142 : h136 96 = h 96) (E143 : h136 97 = h 97) (E144 : h136 98 = h 98) (E145 : h136 99 = h 99) (E146 : h136 100 = h 100) (E147 : h136 103 = h 103) (E148 : h136 109 = h 109) (E149 : h136 114 = h 114) (xm : ov_MI (h 96) (h 103) (h 97) (h 98) go wt sf sm (h136 105) (h136 106)) (q133 : 0 ≤ x8_ ∧ x8_ ≤ 60 ∧ x8_ ≤ v129 ∧ ov_g x6_ ∧ (h136 90 2) = (h 90 2) ∧ (h136 90 7) = (h 90 7) ∧ (h136 90 8) = (h 90 8) ∧ (h136 90 13) = (h 90 13) ∧ (h136 90 20) = (h 90 20) ∧ (h136 90 22) = (h 90 22) ∧ (h136 90 25) = (h 90 25) ∧ (h136 90 26) = (h 90 26) ∧ (h136 90 28) = (h 90 28) ∧ (h136 90 29) = (h 90 29) ∧ (h136 90 30) = (h 90 30) ∧ (h136 90 34) = (h 90 34)), 60 - x8_ < (n131 : Int) → ov_R u d ov_m287 102 [(0, ov_r 90), (1, ov_i x), (2, ov_i y), (3, ov_i tm), (4, ov_i ((1200 * ((6 * y) + x)) + tm)), (5, ov_i (Int.tmod ((h 90 34) + tm) (h 96 9))), (6, ov_i x6_), (7, ov_i v129), (8, ov_i x8_)] [] z135 h136 (P_Mo_chanceFrom_90 F z h go wt sf sm x y tm) := by
          intro n131
          induction n131 with
          | zero =>
            intro x6_ x8_ z135 h136 I137 E138 E139 E140 E141 E142 E143 E144 E145 E146 E147 E148 E149 xm q133 hn150
            exact absurd hn150 (by omega)
          | succ n131 ih132 =>
            intro x6_ x8_ z135 h136 I137 E138 E139 E140 E141 E142 E143 E144 E145 E146 E147 E148 E149 xm q133 hn150
            refine ov_blk (ls2 := [(0, ov_r 90), (1, ov_i x), (2, ov_i y), (3, ov_i tm), (4, ov_i ((1200 * ((6 * y) + x)) + tm)), (5, ov_i (Int.tmod ((h 90 34) + tm) (h 96 9))), (6, ov_i x6_), (7, ov_i v129), (8, ov_i x8_)]) (st2 := [ov_i v129, ov_i x8_]) (pc2 := 106) b_287_102_2 rfl rfl ?_
            refine ov_icge (tgt := 183) d_287_106 (by decide) (by omega) (by omega) (fun c151 => ?_) (fun c151 => ?_)
            · skip
              refine ov_blk (ls2 := [(0, ov_r 90), (1, ov_i x), (2, ov_i y), (3, ov_i tm), (4, ov_i ((1200 * ((6 * y) + x)) + tm)), (5, ov_i (Int.tmod ((h 90 34) + tm) (h 96 9))), (6, ov_i x6_), (7, ov_i v129), (8, ov_i x8_)]) (st2 := [ov_r 90]) (pc2 := 184) b_287_183_1 rfl rfl ?_
              refine ov_getf (v := ov_r 107) d_287_184 fl_Mo_122 (zb_90 I137) (zs_90 I137) (congrArg ov_r (rg_90_31 I137)) ?_
              refine ov_blk (ls2 := [(0, ov_r 90), (1, ov_i x), (2, ov_i y), (3, ov_i tm), (4, ov_i ((1200 * ((6 * y) + x)) + tm)), (5, ov_i (Int.tmod ((h 90 34) + tm) (h 96 9))), (6, ov_i x6_), (7, ov_i v129), (8, ov_i x8_)]) (st2 := [ov_i v129, ov_i x6_, ov_i ((1200 * ((6 * y) + x)) + tm), ov_r 107]) (pc2 := 193) b_287_187_3 rfl rfl ?_
              have xd := ov_tdt (a := x6_) (b := v129) (by omega)
              refine ov_idiv d_287_193 (by omega) (by omega) (by omega) ?_
              refine ov_iast d_287_194 (zb_107 I137) (zs_107 I137) (by omega) ?_
              have I152 := ua_107 (k := ((1200 * ((6 * y) + x)) + tm)) (x := (Int.tdiv x6_ v129)) I137 (by omega)
              refine ov_blk (ls2 := [(0, ov_r 90), (1, ov_i x), (2, ov_i y), (3, ov_i tm), (4, ov_i ((1200 * ((6 * y) + x)) + tm)), (5, ov_i (Int.tmod ((h 90 34) + tm) (h 96 9))), (6, ov_i x6_), (7, ov_i v129), (8, ov_i x8_)]) (st2 := [ov_r 90]) (pc2 := 196) b_287_195_1 rfl rfl ?_
              refine ov_getf (v := ov_r 108) d_287_196 fl_Mo_125 (zb_90 I152) (zs_90 I152) (congrArg ov_r (rg_90_32 I152)) ?_
              refine ov_blk (ls2 := [(0, ov_r 90), (1, ov_i x), (2, ov_i y), (3, ov_i tm), (4, ov_i ((1200 * ((6 * y) + x)) + tm)), (5, ov_i (Int.tmod ((h 90 34) + tm) (h 96 9))), (6, ov_i x6_), (7, ov_i v129), (8, ov_i x8_)]) (st2 := [ov_r 90, ov_i ((1200 * ((6 * y) + x)) + tm), ov_r 108]) (pc2 := 202) b_287_199_2 rfl rfl ?_
              refine ov_getf (v := ov_i (h136 90 33)) d_287_202 fl_Mo_405 (zb_90 I152) (zs_90 I152) rfl ?_
              have g153 := rg_90_33 I137
              refine ov_iast d_287_205 (zb_108 I152) (zs_108 I152) (by omega) ?_
              have I154 := ua_108 (k := ((1200 * ((6 * y) + x)) + tm)) (x := (h136 90 33)) I152 (by omega)
              refine ov_blk (ls2 := [(0, ov_r 90), (1, ov_i x), (2, ov_i y), (3, ov_i tm), (4, ov_i ((1200 * ((6 * y) + x)) + tm)), (5, ov_i (Int.tmod ((h 90 34) + tm) (h 96 9))), (6, ov_i x6_), (7, ov_i v129), (8, ov_i x8_)]) (st2 := [ov_r 90]) (pc2 := 207) b_287_206_1 rfl rfl ?_
              refine ov_getf (v := ov_r 107) d_287_207 fl_Mo_122 (zb_90 I154) (zs_90 I154) (congrArg ov_r (rg_90_31 I154)) ?_
              refine ov_blk (ls2 := [(0, ov_r 90), (1, ov_i x), (2, ov_i y), (3, ov_i tm), (4, ov_i ((1200 * ((6 * y) + x)) + tm)), (5, ov_i (Int.tmod ((h 90 34) + tm) (h 96 9))), (6, ov_i x6_), (7, ov_i v129), (8, ov_i x8_)]) (st2 := [ov_i ((1200 * ((6 * y) + x)) + tm), ov_r 107]) (pc2 := 212) b_287_210_1 rfl rfl ?_
              refine ov_iald d_287_212 (zb_107 I154) (zs_107 I154) (by omega) ?_
              show ov_R u d ov_m287 213 [(0, ov_r 90), (1, ov_i x), (2, ov_i y), (3, ov_i tm), (4, ov_i ((1200 * ((6 * y) + x)) + tm)), (5, ov_i (Int.tmod ((h 90 34) + tm) (h 96 9))), (6, ov_i x6_), (7, ov_i v129), (8, ov_i x8_)] [ov_i ((ov_up h136 107 ((1200 * ((6 * y) + x)) + tm) (Int.tdiv x6_ v129)) 107 ((1200 * ((6 * y) + x)) + tm))] z135 (ov_up (ov_up h136 107 ((1200 * ((6 * y) + x)) + tm) (Int.tdiv x6_ v129)) 108 ((1200 * ((6 * y) + x)) + tm) (h136 90 33)) (P_Mo_chanceFrom_90 F z h go wt sf sm x y tm)
              have g155 := ra_107 I154 ((1200 * ((6 * y) + x)) + tm)
              have gr : -2147483648 ≤ ((ov_up h136 107 ((1200 * ((6 * y) + x)) + tm) (Int.tdiv x6_ v129)) 107 ((1200 * ((6 * y) + x)) + tm)) ∧ ((ov_up h136 107 ((1200 * ((6 * y) + x)) + tm) (Int.tdiv x6_ v129)) 107 ((1200 * ((6 * y) + x)) + tm)) ≤ 2147483647 := ra_107 I154 ((1200 * ((6 * y) + x)) + tm)
              exact ov_reti (st := []) d_287_213 rfl ⟨_, rfl, I154, (by show (h136 90 2) = (h 90 2) ∧ (h136 90 7) = (h 90 7) ∧ (h136 90 8) = (h 90 8) ∧ (h136 90 13) = (h 90 13) ∧ (h136 90 20) = (h 90 20) ∧ (h136 90 22) = (h 90 22) ∧ (h136 90 25) = (h 90 25) ∧ (h136 90 26) = (h 90 26) ∧ (h136 90 28) = (h 90 28) ∧ (h136 90 29) = (h 90 29) ∧ (h136 90 30) = (h 90 30) ∧ (h136 90 34) = (h 90 34) ∧ -2147483648 ≤ ((ov_up h136 107 ((1200 * ((6 * y) + x)) + tm) (Int.tdiv x6_ v129)) 107 ((1200 * ((6 * y) + x)) + tm)) ∧ ((ov_up h136 107 ((1200 * ((6 * y) + x)) + tm) (Int.tdiv x6_ v129)) 107 ((1200 * ((6 * y) + x)) + tm)) ≤ 2147483647; omega), E138, E139, E140, E141, E142, E143, E144, E145, E146, E147, E148, E149, xm⟩
            · skip
              refine ov_blk (ls2 := [(0, ov_r 90), (1, ov_i x), (2, ov_i y), (3, ov_i tm), (4, ov_i ((1200 * ((6 * y) + x)) + tm)), (5, ov_i (Int.tmod ((h 90 34) + tm) (h 96 9))), (6, ov_i x6_), (7, ov_i v129), (8, ov_i x8_)]) (st2 := [ov_i y, ov_i x, ov_r 90]) (pc2 := 112) b_287_109_3 rfl rfl ?_
              refine ov_cV (as := [ov_i x, ov_i y]) (st := []) (d2 := d - 1) d_287_112 lk_Mo_362 rfl (Nat.le_of_ble_eq_true rfl) (c := 1) (zb_90 I137) (zs_90 I137) ⟨by decide, rfl⟩ (by omega) (c_Mo_isUnknown_90 (d - 1) (by omega) U I137 x y (by omega) (by omega) (by omega)) ?_
              rintro _ _ _ ⟨v157, rfl, rfl, rfl, f156⟩
              show ov_R u d ov_m287 115 [(0, ov_r 90), (1, ov_i x), (2, ov_i y), (3, ov_i tm), (4, ov_i ((1200 * ((6 * y) + x)) + tm)), (5, ov_i (Int.tmod ((h 90 34) + tm) (h 96 9))), (6, ov_i x6_), (7, ov_i v129), (8, ov_i x8_)] [ov_i v157] z135 h136 (P_Mo_chanceFrom_90 F z h go wt sf sm x y tm)
              rw [show h136 103 = h 103 from E147] at f156
              rw [show h136 96 = h 96 from E142] at f156
              have f158 : (v157 = 0 ∨ v157 = 1) ∧ (v157 = 1 → ((h 96 (10 + 4 * (6 * y + x))) = 2 ∧ ¬ (h 103 (4 + 6 * y + x)) = 1 ∧ ¬ 6 * y + x = (h136 90 29))) ∧ (v157 = 0 → ¬ ((h 96 (10 + 4 * (6 * y + x))) = 2 ∧ ¬ (h 103 (4 + 6 * y + x)) = 1 ∧ ¬ 6 * y + x = (h136 90 29))) := f156
              clear f156
              refine ov_ifeq (tgt := 123) d_287_115 (by decide) (by omega) (fun c159 => ?_) (fun c159 => ?_)
              · skip
                have f158_ : v157 = 0 := by omega
                have f160 : ¬ ((h 96 (10 + 4 * (6 * y + x))) = 2 ∧ ¬ (h 103 (4 + 6 * y + x)) = 1 ∧ ¬ 6 * y + x = (h136 90 29)) := f158.2.2 (by omega)
                clear f158
                exfalso; omega
              · skip
                have f158_ : v157 = 1 := by omega
                have f161 : ((h 96 (10 + 4 * (6 * y + x))) = 2 ∧ ¬ (h 103 (4 + 6 * y + x)) = 1 ∧ ¬ 6 * y + x = (h136 90 29)) := f158.2.1 (by omega)
                clear f158
                refine ov_blk (ls2 := [(0, ov_r 90), (1, ov_i x), (2, ov_i y), (3, ov_i tm), (4, ov_i ((1200 * ((6 * y) + x)) + tm)), (5, ov_i (Int.tmod ((h 90 34) + tm) (h 96 9))), (6, ov_i x6_), (7, ov_i v129), (8, ov_i x8_)]) (st2 := [ov_i x8_]) (pc2 := 120) b_287_118_1 rfl rfl ?_
                refine ov_goto (tgt := 125) d_287_120 (by decide) ?_
                refine ov_blk (ls2 := [(0, ov_r 90), (1, ov_i x), (2, ov_i y), (3, ov_i tm), (4, ov_i ((1200 * ((6 * y) + x)) + tm)), (5, ov_i (Int.tmod ((h 90 34) + tm) (h 96 9))), (6, ov_i x6_), (7, ov_i v129), (8, ov_i x8_), (9, ov_i x8_)]) (st2 := []) (pc2 := 127) b_287_125_1 rfl rfl ?_
                have gq : ov_gs (h 96) (h 97) (h 98) (ov_go (h 96) (h 103) (h 97) (h 98) go wt sf) go x y (Int.tmod ((h 90 34) + tm) (h 96 9)) x8_ := (ov_go_h (by omega) (by omega) (by omega)).mpr go1 x8_ (by omega) (by omega)
                refine ov_blk (ls2 := [(0, ov_r 90), (1, ov_i x), (2, ov_i y), (3, ov_i tm), (4, ov_i ((1200 * ((6 * y) + x)) + tm)), (5, ov_i (Int.tmod ((h 90 34) + tm) (h 96 9))), (6, ov_i x6_), (7, ov_i v129), (8, ov_i x8_), (9, ov_i x8_)]) (st2 := [ov_i x8_, ov_i (Int.tmod ((h 90 34) + tm) (h 96 9)), ov_i y, ov_i x, ov_r 90]) (pc2 := 134) b_287_127_5 rfl rfl ?_
                have cf162 : h136 96 (0) = h 96 (0) := congrFun E142 (0)
                have cf163 : h136 96 (1) = h 96 (1) := congrFun E142 (1)
                have cf164 : h136 96 (9) = h 96 (9) := congrFun E142 (9)
                have cf165 : h136 96 (8) = h 96 (8) := congrFun E142 (8)
                refine ov_cV (as := [ov_i x, ov_i y, ov_i (Int.tmod ((h 90 34) + tm) (h 96 9)), ov_i x8_]) (st := []) (d2 := d - 1) d_287_134 lk_Mo_371 rfl (Nat.le_of_ble_eq_true rfl) (c := 1) (zb_90 I137) (zs_90 I137) ⟨by decide, rfl⟩ (by omega) (c_Mo_wayOf_90_all go wt sf sm (Int.toNat (13 - (x) - (y))) (d - 1) (by omega) U I137 x y (Int.tmod ((h 90 34) + tm) (h 96 9)) x8_ (by omega) (by omega) (by omega) (by omega) (by omega) (by show x < (h136 96 0) ∧ y < (h136 96 1); omega) (by omega) (by show 0 ≤ (Int.tmod ((h 90 34) + tm) (h 96 9)) ∧ (Int.tmod ((h 90 34) + tm) (h 96 9)) < (h136 96 9); omega) (by omega) (by show (h136 90 26) = go; omega) (by show (h136 90 29) = wt; omega) (by show (h136 90 30) = sf; omega) (by show (h136 90 25) = sm; omega) (by show 0 ≤ go ∧ go ≤ 3 + (h136 96 8); omega) (by rw [show h136 96 = h 96 from E142]; exact W) (by rw [show h136 96 = h 96 from E142, show h136 97 = h 97 from E143, show h136 98 = h 98 from E144]; exact CD) (by rw [show h136 96 = h 96 from E142, show h136 103 = h 103 from E147, show h136 97 = h 97 from E143, show h136 98 = h 98 from E144]; exact xm)) ?_
                rintro _ z182 h183 ⟨v167, rfl, I184, f166, e168, e169, e170, e171, e172, e173, e174, e175, e176, e177, e178, e179, y180, y181⟩
                have E185 : h183 92 = h 92 := Eq.trans e168 E138
                have E186 : h183 93 = h 93 := Eq.trans e169 E139
                have E187 : h183 94 = h 94 := Eq.trans e170 E140
                have E188 : h183 95 = h 95 := Eq.trans e171 E141
                have E189 : h183 96 = h 96 := Eq.trans e172 E142
                have E190 : h183 97 = h 97 := Eq.trans e173 E143
                have E191 : h183 98 = h 98 := Eq.trans e174 E144
                have E192 : h183 99 = h 99 := Eq.trans e175 E145
                have E193 : h183 100 = h 100 := Eq.trans e176 E146
                have E194 : h183 103 = h 103 := Eq.trans e177 E147
                have E195 : h183 109 = h 109 := Eq.trans e178 E148
                have E196 : h183 114 = h 114 := Eq.trans e179 E149
                show ov_R u d ov_m287 137 [(0, ov_r 90), (1, ov_i x), (2, ov_i y), (3, ov_i tm), (4, ov_i ((1200 * ((6 * y) + x)) + tm)), (5, ov_i (Int.tmod ((h 90 34) + tm) (h 96 9))), (6, ov_i x6_), (7, ov_i v129), (8, ov_i x8_), (9, ov_i x8_)] [ov_i v167] z182 h183 (P_Mo_chanceFrom_90 F z h go wt sf sm x y tm)
                have f197 : (h183 90 2) = (h136 90 2) ∧ (h183 90 7) = (h136 90 7) ∧ (h183 90 8) = (h136 90 8) ∧ (h183 90 13) = (h136 90 13) ∧ (h183 90 20) = (h136 90 20) ∧ (h183 90 22) = (h136 90 22) ∧ (h183 90 25) = (h136 90 25) ∧ (h183 90 26) = (h136 90 26) ∧ (h183 90 28) = (h136 90 28) ∧ (h183 90 29) = (h136 90 29) ∧ (h183 90 30) = (h136 90 30) ∧ (h183 90 34) = (h136 90 34) ∧ -1 ≤ v167 ∧ v167 ≤ 1 := f166
                clear f166
                rw [show h136 103 = h 103 from E147] at y180
                rw [show h136 96 = h 96 from E142] at y180
                rw [show h136 97 = h 97 from E143] at y180
                rw [show h136 98 = h 98 from E144] at y180
                have y180_ : ov_MI (h 96) (h 103) (h 97) (h 98) go wt sf sm (h183 105) (h183 106) := y180
                rw [show h136 103 = h 103 from E147] at y181
                rw [show h136 96 = h 96 from E142] at y181
                rw [show h136 97 = h 97 from E143] at y181
                rw [show h136 98 = h 98 from E144] at y181
                have y181_ : ov_wf (h 96) (h 97) (h 98) (ov_go (h 96) (h 103) (h 97) (h 98) go wt sf) go x y (Int.tmod ((h 90 34) + tm) (h 96 9)) x8_ v167 := y181
                have r0 : 0 ≤ v167 := if c : 0 ≤ v167 then c else absurd gq (ov_wf_no y181_ (by omega))
                have cg := (ov_cgi_sp (h 96) x y v167).2 (y181_.1 r0)
                have gn := (ov_wf_gs y181_ r0).mpr gq
                refine ov_blk (ls2 := [(0, ov_r 90), (1, ov_i x), (2, ov_i y), (3, ov_i tm), (4, ov_i ((1200 * ((6 * y) + x)) + tm)), (5, ov_i (Int.tmod ((h 90 34) + tm) (h 96 9))), (6, ov_i x6_), (7, ov_i v129), (8, ov_i x8_), (9, ov_i x8_), (10, ov_i v167)]) (st2 := [ov_i x8_, ov_i v167, ov_i y, ov_i x, ov_r 90, ov_i tm, ov_i (y + v167), ov_i ((x + 1) - v167), ov_r 90, ov_i x6_]) (pc2 := 160) b_287_137_17 rfl rfl ?_
                have cf198 : h183 96 (10 + 4 * (6 * y + x)) = h 96 (10 + 4 * (6 * y + x)) := congrFun E189 (10 + 4 * (6 * y + x))
                have cf199 : h183 96 (10 + 4 * (6 * y + x) + 3) = h 96 (10 + 4 * (6 * y + x) + 3) := congrFun E189 (10 + 4 * (6 * y + x) + 3)
                have cf200 : h183 96 (10 + 4 * (6 * y + x) + 1) = h 96 (10 + 4 * (6 * y + x) + 1) := congrFun E189 (10 + 4 * (6 * y + x) + 1)
                refine ov_cV (as := [ov_i x, ov_i y, ov_i v167, ov_i x8_]) (st := [ov_i tm, ov_i (y + v167), ov_i ((x + 1) - v167), ov_r 90, ov_i x6_]) (d2 := d - 1) d_287_160 lk_Mo_315 rfl (Nat.le_of_ble_eq_true rfl) (c := 1) (zb_90 I184) (zs_90 I184) ⟨by decide, rfl⟩ (by omega) (c_Mo_waitFor_90 (d - 1) (by omega) U I184 x y v167 x8_ (by omega) (by omega) (by omega) (by omega) (by omega) (by omega) (by omega) (by show (((h183 96 (10 + 4 * (6 * y + x))) = 1 ∨ (h183 96 (10 + 4 * (6 * y + x))) = 2) → (v167 = 0 → 0 < (h183 96 (10 + 4 * (6 * y + x) + 3))) ∧ (¬ v167 = 0 → (h183 96 (10 + 4 * (6 * y + x) + 3)) < (h183 96 (10 + 4 * (6 * y + x) + 1)))); omega) (by rw [show h183 96 = h 96 from E189]; exact W)) ?_
                rintro _ _ _ ⟨v202, rfl, rfl, rfl, f201⟩
                show ov_R u d ov_m287 163 [(0, ov_r 90), (1, ov_i x), (2, ov_i y), (3, ov_i tm), (4, ov_i ((1200 * ((6 * y) + x)) + tm)), (5, ov_i (Int.tmod ((h 90 34) + tm) (h 96 9))), (6, ov_i x6_), (7, ov_i v129), (8, ov_i x8_), (9, ov_i x8_), (10, ov_i v167)] [ov_i v202, ov_i tm, ov_i (y + v167), ov_i ((x + 1) - v167), ov_r 90, ov_i x6_] z182 h183 (P_Mo_chanceFrom_90 F z h go wt sf sm x y tm)
                rw [show h183 96 = h 96 from E189] at f201
                have f203 : 0 ≤ v202 ∧ v202 ≤ 59 ∧ v202 = ov_wm (h 96) (6 * y + x) v167 x8_ := f201
                clear f201
                refine ov_blk (ls2 := [(0, ov_r 90), (1, ov_i x), (2, ov_i y), (3, ov_i tm), (4, ov_i ((1200 * ((6 * y) + x)) + tm)), (5, ov_i (Int.tmod ((h 90 34) + tm) (h 96 9))), (6, ov_i x6_), (7, ov_i v129), (8, ov_i x8_), (9, ov_i x8_), (10, ov_i v167)]) (st2 := [ov_r 90, ov_i (tm + v202), ov_i (y + v167), ov_i ((x + 1) - v167), ov_r 90, ov_i x6_]) (pc2 := 165) b_287_163_2 rfl rfl ?_
                refine ov_getf (v := ov_r 96) d_287_165 fl_Mo_81 (zb_90 I184) (zs_90 I184) (congrArg ov_r (rg_90_10 I184)) ?_
                refine ov_blk (ls2 := [(0, ov_r 90), (1, ov_i x), (2, ov_i y), (3, ov_i tm), (4, ov_i ((1200 * ((6 * y) + x)) + tm)), (5, ov_i (Int.tmod ((h 90 34) + tm) (h 96 9))), (6, ov_i x6_), (7, ov_i v129), (8, ov_i x8_), (9, ov_i x8_), (10, ov_i v167)]) (st2 := [ov_i 2, ov_r 96, ov_i (tm + v202), ov_i (y + v167), ov_i ((x + 1) - v167), ov_r 90, ov_i x6_]) (pc2 := 169) b_287_168_1 rfl rfl ?_
                refine ov_iald d_287_169 (zb_96 I184) (zs_96 I184) (by omega) ?_
                rw [show h183 96 = h 96 from E189]
                have g204 := t96_2 I
                refine ov_blk (ls2 := [(0, ov_r 90), (1, ov_i x), (2, ov_i y), (3, ov_i tm), (4, ov_i ((1200 * ((6 * y) + x)) + tm)), (5, ov_i (Int.tmod ((h 90 34) + tm) (h 96 9))), (6, ov_i x6_), (7, ov_i v129), (8, ov_i x8_), (9, ov_i x8_), (10, ov_i v167)]) (st2 := [ov_i ((tm + v202) + (h 96 2)), ov_i (y + v167), ov_i ((x + 1) - v167), ov_r 90, ov_i x6_]) (pc2 := 171) b_287_170_1 rfl rfl ?_
                have ec : ((h183 90 34) + ((tm + v202) + (h 96 2))) % h 96 9 = ov_nx (h 96) (Int.tmod ((h 90 34) + tm) (h 96 9)) (ov_wm (h 96) (6 * y + x) v167 x8_) := by rw [show (h183 90 34) = h 90 34 by omega, show v202 = ov_wm (h 96) (6 * y + x) v167 x8_ by omega]; exact ov_nxa gt2
                have cf205 : h183 96 (0) = h 96 (0) := congrFun E189 (0)
                have cf206 : h183 96 (1) = h 96 (1) := congrFun E189 (1)
                have cf207 : h183 96 (8) = h 96 (8) := congrFun E189 (8)
                refine ov_cV (as := [ov_i ((x + 1) - v167), ov_i (y + v167), ov_i ((tm + v202) + (h 96 2))]) (st := [ov_i x6_]) (d2 := d - 1) d_287_171 lk_Mo_408 rfl (Nat.le_of_ble_eq_true rfl) (c := 1) (zb_90 I184) (zs_90 I184) ⟨by decide, rfl⟩ (by omega) (HV (Int.toNat (13 - (((x + 1) - v167)) - ((y + v167)))) (by omega) (d - 1) (by omega) U I184 ((x + 1) - v167) (y + v167) ((tm + v202) + (h 96 2)) (by omega) (by omega) (by omega) (by omega) (by show ((x + 1) - v167) < (h183 96 0) ∧ (y + v167) < (h183 96 1); omega) (by omega) (by omega) (by omega) (by show (h183 90 26) = go; omega) (by show (h183 90 29) = wt; omega) (by show (h183 90 30) = sf; omega) (by show (h183 90 25) = sm; omega) (by show 0 ≤ go ∧ go ≤ 3 + (h183 96 8); omega) (by rw [show h183 96 = h 96 from E189]; exact W) (by rw [show h183 96 = h 96 from E189, show h183 97 = h 97 from E190, show h183 98 = h 98 from E191]; exact CD) (by rw [show h183 96 = h 96 from E189, show h183 103 = h 103 from E194, show h183 97 = h 97 from E190, show h183 98 = h 98 from E191]; exact y180_) (by rw [show h183 96 = h 96 from E189, show h183 103 = h 103 from E194, show h183 97 = h 97 from E190, show h183 98 = h 98 from E191, ec]; exact gn)) ?_
                rintro _ z223 h224 ⟨v209, rfl, I225, f208, e210, e211, e212, e213, e214, e215, e216, e217, e218, e219, e220, e221, y222⟩
                have E226 : h224 92 = h 92 := Eq.trans e210 E185
                have E227 : h224 93 = h 93 := Eq.trans e211 E186
                have E228 : h224 94 = h 94 := Eq.trans e212 E187
                have E229 : h224 95 = h 95 := Eq.trans e213 E188
                have E230 : h224 96 = h 96 := Eq.trans e214 E189
                have E231 : h224 97 = h 97 := Eq.trans e215 E190
                have E232 : h224 98 = h 98 := Eq.trans e216 E191
                have E233 : h224 99 = h 99 := Eq.trans e217 E192
                have E234 : h224 100 = h 100 := Eq.trans e218 E193
                have E235 : h224 103 = h 103 := Eq.trans e219 E194
                have E236 : h224 109 = h 109 := Eq.trans e220 E195
                have E237 : h224 114 = h 114 := Eq.trans e221 E196
                show ov_R u d ov_m287 174 [(0, ov_r 90), (1, ov_i x), (2, ov_i y), (3, ov_i tm), (4, ov_i ((1200 * ((6 * y) + x)) + tm)), (5, ov_i (Int.tmod ((h 90 34) + tm) (h 96 9))), (6, ov_i x6_), (7, ov_i v129), (8, ov_i x8_), (9, ov_i x8_), (10, ov_i v167)] [ov_i v209, ov_i x6_] z223 h224 (P_Mo_chanceFrom_90 F z h go wt sf sm x y tm)
                have f238 : (h224 90 2) = (h183 90 2) ∧ (h224 90 7) = (h183 90 7) ∧ (h224 90 8) = (h183 90 8) ∧ (h224 90 13) = (h183 90 13) ∧ (h224 90 20) = (h183 90 20) ∧ (h224 90 22) = (h183 90 22) ∧ (h224 90 25) = (h183 90 25) ∧ (h224 90 26) = (h183 90 26) ∧ (h224 90 28) = (h183 90 28) ∧ (h224 90 29) = (h183 90 29) ∧ (h224 90 30) = (h183 90 30) ∧ (h224 90 34) = (h183 90 34) ∧ -2147483648 ≤ v209 ∧ v209 ≤ 2147483647 := f208
                clear f208
                rw [show h183 103 = h 103 from E194] at y222
                rw [show h183 96 = h 96 from E189] at y222
                rw [show h183 97 = h 97 from E190] at y222
                rw [show h183 98 = h 98 from E191] at y222
                have y222_ : ov_MI (h 96) (h 103) (h 97) (h 98) go wt sf sm (h224 105) (h224 106) := y222
                refine ov_blk (ls2 := [(0, ov_r 90), (1, ov_i x), (2, ov_i y), (3, ov_i tm), (4, ov_i ((1200 * ((6 * y) + x)) + tm)), (5, ov_i (Int.tmod ((h 90 34) + tm) (h 96 9))), (6, ov_i x6_), (7, ov_i v129), (8, ov_i x8_), (9, ov_i x8_), (10, ov_i v167)]) (st2 := [ov_i (x6_ + v209)]) (pc2 := 175) b_287_174_1 rfl rfl ?_
                refine ov_hav (fun w239 gw239 => ?_)
                refine ov_blk (ls2 := [(0, ov_r 90), (1, ov_i x), (2, ov_i y), (3, ov_i tm), (4, ov_i ((1200 * ((6 * y) + x)) + tm)), (5, ov_i (Int.tmod ((h 90 34) + tm) (h 96 9))), (6, ov_i w239), (7, ov_i v129), (8, ov_i (x8_ + 1)), (9, ov_i x8_), (10, ov_i v167)]) (st2 := []) (pc2 := 180) b_287_175_2 rfl rfl ?_
                refine ov_goto (tgt := 102) d_287_180 (by decide) ?_
                refine ov_sub (ls2 := [(0, ov_r 90), (1, ov_i x), (2, ov_i y), (3, ov_i tm), (4, ov_i ((1200 * ((6 * y) + x)) + tm)), (5, ov_i (Int.tmod ((h 90 34) + tm) (h 96 9))), (6, ov_i w239), (7, ov_i v129), (8, ov_i (x8_ + 1))]) (List.Sublist.subset (by repeat (first | exact List.Sublist.refl _ | apply List.Sublist.cons_cons | apply List.Sublist.cons))) ?_
                exact ih132 w239 (x8_ + 1) _ _ I225 E226 E227 E228 E229 E230 E231 E232 E233 E234 E235 E236 E237 y222_ (by show 0 ≤ (x8_ + 1) ∧ (x8_ + 1) ≤ 60 ∧ (x8_ + 1) ≤ v129 ∧ ov_g w239 ∧ (h224 90 2) = (h 90 2) ∧ (h224 90 7) = (h 90 7) ∧ (h224 90 8) = (h 90 8) ∧ (h224 90 13) = (h 90 13) ∧ (h224 90 20) = (h 90 20) ∧ (h224 90 22) = (h 90 22) ∧ (h224 90 25) = (h 90 25) ∧ (h224 90 26) = (h 90 26) ∧ (h224 90 28) = (h 90 28) ∧ (h224 90 29) = (h 90 29) ∧ (h224 90 30) = (h 90 30) ∧ (h224 90 34) = (h 90 34); omega) (by omega)
        exact L134 61 0 0 _ _ I rfl rfl rfl rfl rfl rfl rfl rfl rfl rfl rfl rfl MI (by show 0 ≤ 0 ∧ 0 ≤ 60 ∧ 0 ≤ v129 ∧ ov_g 0 ∧ (h 90 2) = (h 90 2) ∧ (h 90 7) = (h 90 7) ∧ (h 90 8) = (h 90 8) ∧ (h 90 13) = (h 90 13) ∧ (h 90 20) = (h 90 20) ∧ (h 90 22) = (h 90 22) ∧ (h 90 25) = (h 90 25) ∧ (h 90 26) = (h 90 26) ∧ (h 90 28) = (h 90 28) ∧ (h 90 29) = (h 90 29) ∧ (h 90 30) = (h 90 30) ∧ (h 90 34) = (h 90 34); omega) (by omega)
  · skip
    have f3_ : v2 = 1 := by omega
    have f240 : x = (h 96 0) - 1 ∧ y = (h 96 1) - 1 := f3.2.1 (by omega)
    clear f3
    refine ov_blk (ls2 := [(0, ov_r 90), (1, ov_i x), (2, ov_i y), (3, ov_i tm)]) (st2 := [ov_r 90]) (pc2 := 10) b_287_9_1 rfl rfl ?_
    refine ov_getf (v := ov_i (h 90 34)) d_287_10 fl_Mo_399 (zb_90 I) (zs_90 I) rfl ?_
    have g241 := rg_90_34 I
    refine ov_blk (ls2 := [(0, ov_r 90), (1, ov_i x), (2, ov_i y), (3, ov_i tm)]) (st2 := [ov_r 90, ov_i ((h 90 34) + tm)]) (pc2 := 16) b_287_13_3 rfl rfl ?_
    refine ov_getf (v := ov_i (h 90 35)) d_287_16 fl_Mo_402 (zb_90 I) (zs_90 I) rfl ?_
    have g242 := rg_90_35 I
    refine ov_icgt (tgt := 28) d_287_19 (by decide) (by omega) (by omega) (fun c243 => ?_) (fun c243 => ?_)
    · skip
      refine ov_blk (ls2 := [(0, ov_r 90), (1, ov_i x), (2, ov_i y), (3, ov_i tm)]) (st2 := [ov_i 0]) (pc2 := 29) b_287_28_1 rfl rfl ?_
      exact ov_reti (st := []) d_287_29 rfl ⟨_, rfl, I, ⟨rfl, rfl, rfl, rfl, rfl, rfl, rfl, rfl, rfl, rfl, rfl, rfl, (by show -2147483648 ≤ 0 ∧ 0 ≤ 2147483647; omega)⟩, rfl, rfl, rfl, rfl, rfl, rfl, rfl, rfl, rfl, rfl, rfl, rfl, MI⟩
    · skip
      refine ov_ldcw (n := 1000000) d_287_22 kc_Mo_305 ?_
      refine ov_goto (tgt := 29) d_287_25 (by decide) ?_
      exact ov_reti (st := []) d_287_29 rfl ⟨_, rfl, I, ⟨rfl, rfl, rfl, rfl, rfl, rfl, rfl, rfl, rfl, rfl, rfl, rfl, (by show -2147483648 ≤ 1000000 ∧ 1000000 ≤ 2147483647; omega)⟩, rfl, rfl, rfl, rfl, rfl, rfl, rfl, rfl, rfl, rfl, rfl, rfl, MI⟩
theorem c_Mo_chanceFrom_90_all {u : ov_U} {F : ov_H × ov_Z} (go : Int) (wt : Int) (sf : Int) (sm : Int) (k : Nat) : ∀ {z : ov_Z} {h : ov_H} (d : Nat) (hd : (90 + 1 * k + 0) ≤ d) (U : ov_cap u) (I : ov_N F z h) (x : Int) (y : Int) (tm : Int) (g_x : ov_g x) (g_y : ov_g y) (g_tm : ov_g tm) (p0 : 0 ≤ x ∧ x ≤ 5 ∧ 0 ≤ y ∧ y ≤ 8) (p1 : x < (h 96 0) ∧ y < (h 96 1)) (p2 : x + y + (k : Int) = 13) (p3 : 0 ≤ tm ∧ tm + 89 * (k : Int) ≤ 1157) (p4 : wt = -1) (p5 : (h 90 26) = go) (p6 : (h 90 29) = wt) (p7 : (h 90 30) = sf) (p8 : (h 90 25) = sm) (p9 : 0 ≤ go ∧ go ≤ 3 + (h 96 8)) (W : ov_WT (h 96)) (CD : ov_CD (h 96) (h 97) (h 98)) (MI : ov_MI (h 96) (h 103) (h 97) (h 98) go wt sf sm (h 105) (h 106)) (GH : ov_go (h 96) (h 103) (h 97) (h 98) go wt sf x y (((h 90 34) + tm) % (h 96 9))), ov_T u d ov_m287 [ov_r 90, ov_i x, ov_i y, ov_i tm] z h (P_Mo_chanceFrom_90 F z h go wt sf sm x y tm) := by
  induction k using Nat.strongRecOn with
  | ind k ih => exact fun {z} {h} => @c_Mo_chanceFrom_90 u F go wt sf sm k (fun k' hk => @ih k' hk) z h
abbrev P_Mo_odds_90 (F : ov_H × ov_Z) (z : ov_Z) (h : ov_H) (ge : Int) (s : Int) (b : Int) : Option ov_V → ov_Z → ov_H → Prop := fun r0 z' h' => ∃ r : Int, r0 = some (ov_i r) ∧ ov_N F z' h' ∧ ((h' 90 2) = (h 90 2) ∧ (h' 90 7) = (h 90 7) ∧ (h' 90 8) = (h 90 8) ∧ (h' 90 13) = (h 90 13) ∧ (h' 90 20) = (h 90 20) ∧ (h' 90 22) = (h 90 22) ∧ (h 90 25) ≤ (h' 90 25) ∧ (h' 90 25) ≤ (h 90 25) + 1 ∧ -2147483648 ≤ r ∧ r ≤ 2147483647) ∧ h' 92 = h 92 ∧ h' 93 = h 93 ∧ h' 94 = h 94 ∧ h' 95 = h 95 ∧ h' 96 = h 96 ∧ h' 97 = h 97 ∧ h' 98 = h 98 ∧ h' 99 = h 99 ∧ h' 100 = h 100 ∧ h' 103 = h 103 ∧ h' 109 = h 109 ∧ h' 114 = h 114 ∧ (ov_PM (h 96) (h 103) (h 97) (h 98) (h' 105) (h' 106) (h' 90 22) (h' 90 25) (h' 90 26) (h' 90 28) (h' 90 29) (h' 90 30))
set_option maxHeartbeats 4000000 in
theorem c_Mo_odds_90 {u : ov_U} {F : ov_H × ov_Z} {z : ov_Z} {h : ov_H} (d : Nat) (hd : 110 ≤ d) (U : ov_cap u) (I : ov_N F z h) (ge : Int) (s : Int) (b : Int) (g_ge : ov_g ge) (g_s : ov_g s) (g_b : ov_g b) (p0 : 0 ≤ (h 90 25) ∧ (h 90 25) ≤ 1000000000) (W : ov_WT (h 96)) (CD : ov_CD (h 96) (h 97) (h 98)) (PM : ov_PM (h 96) (h 103) (h 97) (h 98) (h 105) (h 106) (h 90 22) (h 90 25) (h 90 26) (h 90 28) (h 90 29) (h 90 30)) : ov_T u d ov_m286 [ov_r 90, ov_i ge, ov_i s, ov_i b] z h (P_Mo_odds_90 F z h ge s b) := by
  refine ov_en rfl (Nat.le_of_ble_eq_true rfl) ?_
  show ov_R u d ov_m286 0 [(0, ov_r 90), (1, ov_i ge), (2, ov_i s), (3, ov_i b)] [] z h (P_Mo_odds_90 F z h ge s b)
  have t0 := t96_0 I
  have t1 := t96_1 I
  have t8 := t96_8 I
  have t9 := t96_9 I
  refine ov_blk (ls2 := [(0, ov_r 90), (1, ov_i ge), (2, ov_i s), (3, ov_i b)]) (st2 := [ov_i 0, ov_r 90]) (pc2 := 2) b_286_0_2 rfl rfl ?_
  refine ov_putf (x := 0) d_286_2 fl_Mo_1 (zb_90 I) (zs_90 I) rfl nk_0 rfl ?_
  have I1 := up_90_0 (x := 0) I (by omega)
  refine ov_blk (ls2 := [(0, ov_r 90), (1, ov_i ge), (2, ov_i s), (3, ov_i b)]) (st2 := [ov_i ge, ov_r 90]) (pc2 := 7) b_286_5_2 rfl rfl ?_
  refine ov_cV (as := [ov_i ge]) (st := []) (d2 := d - 1) d_286_7 lk_Mo_383 rfl (Nat.le_of_ble_eq_true rfl) (c := 1) (zb_90 I1) (zs_90 I1) ⟨by decide, rfl⟩ (by omega) (c_Mo_isGoer_90 (d - 1) (by omega) U I1 ge (by omega)) ?_
  rintro _ _ _ ⟨v3, rfl, rfl, rfl, f2⟩
  show ov_R u d ov_m286 10 [(0, ov_r 90), (1, ov_i ge), (2, ov_i s), (3, ov_i b)] [ov_i v3] z (ov_up h 90 0 0) (P_Mo_odds_90 F z h ge s b)
  have f4 : (v3 = 0 ∨ v3 = 1) ∧ (v3 = 1 → 0 ≤ ge ∧ ge ≤ 3 + (h 96 8)) := f2
  clear f2
  refine ov_ifeq (tgt := 29) d_286_10 (by decide) (by omega) (fun c5 => ?_) (fun c5 => ?_)
  · skip
    have f4_ : v3 = 0 := by omega
    clear f4
    refine ov_blk (ls2 := [(0, ov_r 90), (1, ov_i ge), (2, ov_i s), (3, ov_i b)]) (st2 := [ov_i (-1)]) (pc2 := 30) b_286_29_1 rfl rfl ?_
    exact ov_reti (st := []) d_286_30 rfl ⟨_, rfl, I1, ⟨rfl, rfl, rfl, rfl, rfl, rfl, (by show (h 90 25) ≤ (h 90 25) ∧ (h 90 25) ≤ (h 90 25) + 1 ∧ -2147483648 ≤ (-1) ∧ (-1) ≤ 2147483647; omega)⟩, rfl, rfl, rfl, rfl, rfl, rfl, rfl, rfl, rfl, rfl, rfl, rfl, PM⟩
  · skip
    have f4_ : v3 = 1 := by omega
    have f6 : 0 ≤ ge ∧ ge ≤ 3 + (h 96 8) := f4.2 (by omega)
    clear f4
    refine ov_blk (ls2 := [(0, ov_r 90), (1, ov_i ge), (2, ov_i s), (3, ov_i b)]) (st2 := [ov_i s, ov_r 90]) (pc2 := 15) b_286_13_2 rfl rfl ?_
    refine ov_cV (as := [ov_i s]) (st := []) (d2 := d - 1) d_286_15 lk_Mo_306 rfl (Nat.le_of_ble_eq_true rfl) (c := 1) (zb_90 I1) (zs_90 I1) ⟨by decide, rfl⟩ (by omega) (c_Mo_isSecond_90 (d - 1) (by omega) U I1 s (by omega)) ?_
    rintro _ _ _ ⟨v8, rfl, rfl, rfl, f7⟩
    show ov_R u d ov_m286 18 [(0, ov_r 90), (1, ov_i ge), (2, ov_i s), (3, ov_i b)] [ov_i v8] z (ov_up h 90 0 0) (P_Mo_odds_90 F z h ge s b)
    have f9 : (v8 = 0 ∨ v8 = 1) ∧ (v8 = 1 → 0 ≤ s ∧ s ≤ 1000000) := f7
    clear f7
    refine ov_ifeq (tgt := 29) d_286_18 (by decide) (by omega) (fun c10 => ?_) (fun c10 => ?_)
    · skip
      have f9_ : v8 = 0 := by omega
      clear f9
      refine ov_blk (ls2 := [(0, ov_r 90), (1, ov_i ge), (2, ov_i s), (3, ov_i b)]) (st2 := [ov_i (-1)]) (pc2 := 30) b_286_29_1 rfl rfl ?_
      exact ov_reti (st := []) d_286_30 rfl ⟨_, rfl, I1, ⟨rfl, rfl, rfl, rfl, rfl, rfl, (by show (h 90 25) ≤ (h 90 25) ∧ (h 90 25) ≤ (h 90 25) + 1 ∧ -2147483648 ≤ (-1) ∧ (-1) ≤ 2147483647; omega)⟩, rfl, rfl, rfl, rfl, rfl, rfl, rfl, rfl, rfl, rfl, rfl, rfl, PM⟩
    · skip
      have f9_ : v8 = 1 := by omega
      have f11 : 0 ≤ s ∧ s ≤ 1000000 := f9.2 (by omega)
      clear f9
      refine ov_blk (ls2 := [(0, ov_r 90), (1, ov_i ge), (2, ov_i s), (3, ov_i b)]) (st2 := [ov_i b, ov_r 90]) (pc2 := 23) b_286_21_2 rfl rfl ?_
      refine ov_cV (as := [ov_i b]) (st := []) (d2 := d - 1) d_286_23 lk_Mo_306 rfl (Nat.le_of_ble_eq_true rfl) (c := 1) (zb_90 I1) (zs_90 I1) ⟨by decide, rfl⟩ (by omega) (c_Mo_isSecond_90 (d - 1) (by omega) U I1 b (by omega)) ?_
      rintro _ _ _ ⟨v13, rfl, rfl, rfl, f12⟩
      show ov_R u d ov_m286 26 [(0, ov_r 90), (1, ov_i ge), (2, ov_i s), (3, ov_i b)] [ov_i v13] z (ov_up h 90 0 0) (P_Mo_odds_90 F z h ge s b)
      have f14 : (v13 = 0 ∨ v13 = 1) ∧ (v13 = 1 → 0 ≤ b ∧ b ≤ 1000000) := f12
      clear f12
      refine ov_ifne (tgt := 31) d_286_26 (by decide) (by omega) (fun c15 => ?_) (fun c15 => ?_)
      · skip
        have f14_ : v13 = 1 := by omega
        have f16 : 0 ≤ b ∧ b ≤ 1000000 := f14.2 (by omega)
        clear f14
        refine ov_blk (ls2 := [(0, ov_r 90), (1, ov_i ge), (2, ov_i s), (3, ov_i b)]) (st2 := [ov_i 0, ov_i (-1), ov_i 0, ov_i ge, ov_r 90]) (pc2 := 36) b_286_31_5 rfl rfl ?_
        refine ov_cV (as := [ov_i ge, ov_i 0, ov_i (-1), ov_i 0]) (st := []) (d2 := d - 1) d_286_36 lk_Mo_389 rfl (Nat.le_of_ble_eq_true rfl) (c := 1) (zb_90 I1) (zs_90 I1) ⟨by decide, rfl⟩ (by omega) (c_Mo_asks_90 (d - 1) (by omega) U I1 ge 0 (-1) 0 (by omega) (by omega) (by omega) (by omega) (by omega) (by omega) (by omega) (by show 0 ≤ (h 90 25) ∧ (h 90 25) ≤ 2000000000; omega)) ?_
        rintro _ z32 h33 ⟨rfl, I34, f17, e18, e19, e20, e21, e22, e23, e24, e25, e26, e27, e28, e29, e30, e31⟩
        have E35 : h33 92 = h 92 := e18
        have E36 : h33 93 = h 93 := e19
        have E37 : h33 94 = h 94 := e20
        have E38 : h33 95 = h 95 := e21
        have E39 : h33 96 = h 96 := e22
        have E40 : h33 97 = h 97 := e23
        have E41 : h33 98 = h 98 := e24
        have E42 : h33 99 = h 99 := e25
        have E43 : h33 100 = h 100 := e26
        have E44 : h33 103 = h 103 := e27
        have E45 : h33 105 = h 105 := e28
        have E46 : h33 106 = h 106 := e29
        have E47 : h33 109 = h 109 := e30
        have E48 : h33 114 = h 114 := e31
        show ov_R u d ov_m286 39 [(0, ov_r 90), (1, ov_i ge), (2, ov_i s), (3, ov_i b)] [] z32 h33 (P_Mo_odds_90 F z h ge s b)
        have f49 : (h33 90 2) = (h 90 2) ∧ (h33 90 7) = (h 90 7) ∧ (h33 90 8) = (h 90 8) ∧ (h33 90 13) = (h 90 13) ∧ (h33 90 20) = (h 90 20) ∧ (h33 90 22) = (h 90 22) ∧ (h33 90 34) = (h 90 34) ∧ (h33 90 26) = ge ∧ (h33 90 27) = (0 : Int) ∧ (h33 90 28) = (h 90 22) ∧ (h33 90 29) = ((-1) : Int) ∧ (h33 90 30) = (0 : Int) ∧ (((h33 90 25) = (h 90 25) + 1) ∨ ((h33 90 25) = (h 90 25) ∧ (h 90 26) = ge ∧ (h 90 27) = (0 : Int) ∧ (h 90 28) = (h 90 22) ∧ (h 90 29) = ((-1) : Int) ∧ (h 90 30) = (0 : Int))) := f17
        clear f17
        have mi50 : ov_MI (h 96) (h 103) (h 97) (h 98) ge (-1) 0 (h33 90 25) (h 105) (h 106) := ov_PM_ask PM (by omega)
        refine ov_blk (ls2 := [(0, ov_r 90), (1, ov_i ge), (2, ov_i s), (3, ov_i b)]) (st2 := [ov_i s, ov_i 0, ov_i 0, ov_r 90]) (pc2 := 43) b_286_39_4 rfl rfl ?_
        have cf51 : h33 96 (0) = h 96 (0) := congrFun E39 (0)
        have cf52 : h33 96 (1) = h 96 (1) := congrFun E39 (1)
        have cf53 : h33 96 (8) = h 96 (8) := congrFun E39 (8)
        refine ov_cV (as := [ov_i 0, ov_i 0, ov_i s]) (st := []) (d2 := d - 1) d_286_43 lk_Mo_377 rfl (Nat.le_of_ble_eq_true rfl) (c := 1) (zb_90 I34) (zs_90 I34) ⟨by decide, rfl⟩ (by omega) (c_Mo_worthFrom_90_all ge ((-1)) 0 ((h33 90 25)) (Int.toNat (13 - (0) - (0))) (d - 1) (by omega) U I34 0 0 s (by omega) (by omega) (by omega) (by omega) (by show (0 : Int) < (h33 96 0) ∧ (0 : Int) < (h33 96 1); omega) (by omega) (by omega) (by show (h33 90 26) = ge; omega) (by show (h33 90 29) = ((-1) : Int); omega) (by show (h33 90 30) = (0 : Int); omega) (by show (h33 90 25) = (h33 90 25); omega) (by show 0 ≤ ge ∧ ge ≤ 3 + (h33 96 8); omega) (by rw [show h33 96 = h 96 from E39]; exact W) (by rw [show h33 96 = h 96 from E39, show h33 97 = h 97 from E40, show h33 98 = h 98 from E41]; exact CD) (by rw [show h33 96 = h 96 from E39, show h33 103 = h 103 from E44, show h33 97 = h 97 from E40, show h33 98 = h 98 from E41, show h33 105 = h 105 from E45, show h33 106 = h 106 from E46]; exact mi50)) ?_
        rintro _ z70 h71 ⟨v55, rfl, I72, f54, e56, e57, e58, e59, e60, e61, e62, e63, e64, e65, e66, e67, y68, y69⟩
        have E73 : h71 92 = h 92 := Eq.trans e56 E35
        have E74 : h71 93 = h 93 := Eq.trans e57 E36
        have E75 : h71 94 = h 94 := Eq.trans e58 E37
        have E76 : h71 95 = h 95 := Eq.trans e59 E38
        have E77 : h71 96 = h 96 := Eq.trans e60 E39
        have E78 : h71 97 = h 97 := Eq.trans e61 E40
        have E79 : h71 98 = h 98 := Eq.trans e62 E41
        have E80 : h71 99 = h 99 := Eq.trans e63 E42
        have E81 : h71 100 = h 100 := Eq.trans e64 E43
        have E82 : h71 103 = h 103 := Eq.trans e65 E44
        have E83 : h71 109 = h 109 := Eq.trans e66 E47
        have E84 : h71 114 = h 114 := Eq.trans e67 E48
        show ov_R u d ov_m286 46 [(0, ov_r 90), (1, ov_i ge), (2, ov_i s), (3, ov_i b)] [ov_i v55] z70 h71 (P_Mo_odds_90 F z h ge s b)
        have f85 : (h71 90 2) = (h33 90 2) ∧ (h71 90 7) = (h33 90 7) ∧ (h71 90 8) = (h33 90 8) ∧ (h71 90 13) = (h33 90 13) ∧ (h71 90 20) = (h33 90 20) ∧ (h71 90 22) = (h33 90 22) ∧ (h71 90 25) = (h33 90 25) ∧ (h71 90 26) = (h33 90 26) ∧ (h71 90 28) = (h33 90 28) ∧ (h71 90 29) = (h33 90 29) ∧ (h71 90 30) = (h33 90 30) ∧ (h71 90 34) = (h33 90 34) ∧ -1 ≤ v55 ∧ v55 ≤ 89000 * (13 - (0 : Int) - (0 : Int)) := f54
        clear f54
        rw [show h33 103 = h 103 from E44] at y68
        rw [show h33 96 = h 96 from E39] at y68
        rw [show h33 97 = h 97 from E40] at y68
        rw [show h33 98 = h 98 from E41] at y68
        have y68_ : ov_MI (h 96) (h 103) (h 97) (h 98) ge ((-1) : Int) (0 : Int) (h33 90 25) (h71 105) (h71 106) := y68
        rw [show h33 103 = h 103 from E44] at y69
        rw [show h33 96 = h 96 from E39] at y69
        rw [show h33 97 = h 97 from E40] at y69
        rw [show h33 98 = h 98 from E41] at y69
        have y69_ : (0 ≤ v55 ↔ ov_go (h 96) (h 103) (h 97) (h 98) ge ((-1) : Int) (0 : Int) (0 : Int) (0 : Int) (s % (h 96 9))) := y69
        refine ov_ifge (tgt := 51) d_286_46 (by decide) (by omega) (fun c86 => ?_) (fun c86 => ?_)
        · skip
          refine ov_blk (ls2 := [(0, ov_r 90), (1, ov_i ge), (2, ov_i s), (3, ov_i b)]) (st2 := [ov_r 90, ov_r 90]) (pc2 := 53) b_286_51_2 rfl rfl ?_
          refine ov_getf (v := ov_i (h71 90 33)) d_286_53 fl_Mo_405 (zb_90 I72) (zs_90 I72) rfl ?_
          have g87 := rg_90_33 I72
          refine ov_blk (ls2 := [(0, ov_r 90), (1, ov_i ge), (2, ov_i s), (3, ov_i b)]) (st2 := [ov_i ((h71 90 33) + 1), ov_r 90]) (pc2 := 58) b_286_56_2 rfl rfl ?_
          refine ov_hav (fun w88 gw88 => ?_)
          refine ov_putf (x := w88) d_286_58 fl_Mo_405 (zb_90 I72) (zs_90 I72) rfl nk_0 rfl ?_
          have I89 := up_90_33 (x := w88) I72 (by omega)
          refine ov_blk (ls2 := [(0, ov_r 90), (1, ov_i ge), (2, ov_i s), (3, ov_i b)]) (st2 := [ov_i s, ov_r 90]) (pc2 := 63) b_286_61_2 rfl rfl ?_
          refine ov_putf (x := s) d_286_63 fl_Mo_399 (zb_90 I89) (zs_90 I89) rfl nk_0 rfl ?_
          have I90 := up_90_34 (x := s) I89 (by omega)
          refine ov_blk (ls2 := [(0, ov_r 90), (1, ov_i ge), (2, ov_i s), (3, ov_i b)]) (st2 := [ov_i b, ov_r 90]) (pc2 := 68) b_286_66_2 rfl rfl ?_
          refine ov_putf (x := b) d_286_68 fl_Mo_402 (zb_90 I90) (zs_90 I90) rfl nk_0 rfl ?_
          have I91 := up_90_35 (x := b) I90 (by omega)
          refine ov_blk (ls2 := [(0, ov_r 90), (1, ov_i ge), (2, ov_i s), (3, ov_i b)]) (st2 := [ov_i 0, ov_i 0, ov_i 0, ov_r 90]) (pc2 := 75) b_286_71_4 rfl rfl ?_
          have cf92 : h71 96 (0) = h 96 (0) := congrFun E77 (0)
          have cf93 : h71 96 (1) = h 96 (1) := congrFun E77 (1)
          have cf94 : h71 96 (8) = h 96 (8) := congrFun E77 (8)
          refine ov_cV (as := [ov_i 0, ov_i 0, ov_i 0]) (st := []) (d2 := d - 1) d_286_75 lk_Mo_408 rfl (Nat.le_of_ble_eq_true rfl) (c := 1) (zb_90 I91) (zs_90 I91) ⟨by decide, rfl⟩ (by omega) (c_Mo_chanceFrom_90_all ge ((-1)) 0 ((h33 90 25)) (Int.toNat (13 - (0) - (0))) (d - 1) (by omega) U I91 0 0 0 (by omega) (by omega) (by omega) (by omega) (by show (0 : Int) < (h71 96 0) ∧ (0 : Int) < (h71 96 1); omega) (by omega) (by omega) (by omega) (by show (h71 90 26) = ge; omega) (by show (h71 90 29) = ((-1) : Int); omega) (by show (h71 90 30) = (0 : Int); omega) (by show (h71 90 25) = (h33 90 25); omega) (by show 0 ≤ ge ∧ ge ≤ 3 + (h71 96 8); omega) (by rw [show (ov_up (ov_up (ov_up h71 90 33 w88) 90 34 s) 90 35 b) 96 = h 96 from E77]; exact W) (by rw [show (ov_up (ov_up (ov_up h71 90 33 w88) 90 34 s) 90 35 b) 96 = h 96 from E77, show (ov_up (ov_up (ov_up h71 90 33 w88) 90 34 s) 90 35 b) 97 = h 97 from E78, show (ov_up (ov_up (ov_up h71 90 33 w88) 90 34 s) 90 35 b) 98 = h 98 from E79]; exact CD) (by rw [show (ov_up (ov_up (ov_up h71 90 33 w88) 90 34 s) 90 35 b) 96 = h 96 from E77, show (ov_up (ov_up (ov_up h71 90 33 w88) 90 34 s) 90 35 b) 103 = h 103 from E82, show (ov_up (ov_up (ov_up h71 90 33 w88) 90 34 s) 90 35 b) 97 = h 97 from E78, show (ov_up (ov_up (ov_up h71 90 33 w88) 90 34 s) 90 35 b) 98 = h 98 from E79]; exact y68_) (by rw [show (ov_up (ov_up (ov_up h71 90 33 w88) 90 34 s) 90 35 b) 96 = h 96 from E77, show (ov_up (ov_up (ov_up h71 90 33 w88) 90 34 s) 90 35 b) 103 = h 103 from E82, show (ov_up (ov_up (ov_up h71 90 33 w88) 90 34 s) 90 35 b) 97 = h 97 from E78, show (ov_up (ov_up (ov_up h71 90 33 w88) 90 34 s) 90 35 b) 98 = h 98 from E79]; show ov_go (h 96) (h 103) (h 97) (h 98) ge (-1) 0 0 0 ((s + 0) % h 96 9); rw [Int.add_zero]; exact y69_.mp (by omega))) ?_
          rintro _ z110 h111 ⟨v96, rfl, I112, f95, e97, e98, e99, e100, e101, e102, e103, e104, e105, e106, e107, e108, y109⟩
          have E113 : h111 92 = h 92 := Eq.trans e97 E73
          have E114 : h111 93 = h 93 := Eq.trans e98 E74
          have E115 : h111 94 = h 94 := Eq.trans e99 E75
          have E116 : h111 95 = h 95 := Eq.trans e100 E76
          have E117 : h111 96 = h 96 := Eq.trans e101 E77
          have E118 : h111 97 = h 97 := Eq.trans e102 E78
          have E119 : h111 98 = h 98 := Eq.trans e103 E79
          have E120 : h111 99 = h 99 := Eq.trans e104 E80
          have E121 : h111 100 = h 100 := Eq.trans e105 E81
          have E122 : h111 103 = h 103 := Eq.trans e106 E82
          have E123 : h111 109 = h 109 := Eq.trans e107 E83
          have E124 : h111 114 = h 114 := Eq.trans e108 E84
          show ov_R u d ov_m286 78 [(0, ov_r 90), (1, ov_i ge), (2, ov_i s), (3, ov_i b)] [ov_i v96] z110 h111 (P_Mo_odds_90 F z h ge s b)
          have f125 : (h111 90 2) = (h71 90 2) ∧ (h111 90 7) = (h71 90 7) ∧ (h111 90 8) = (h71 90 8) ∧ (h111 90 13) = (h71 90 13) ∧ (h111 90 20) = (h71 90 20) ∧ (h111 90 22) = (h71 90 22) ∧ (h111 90 25) = (h71 90 25) ∧ (h111 90 26) = (h71 90 26) ∧ (h111 90 28) = (h71 90 28) ∧ (h111 90 29) = (h71 90 29) ∧ (h111 90 30) = (h71 90 30) ∧ (h111 90 34) = s ∧ -2147483648 ≤ v96 ∧ v96 ≤ 2147483647 := f95
          clear f95
          rw [show (ov_up (ov_up (ov_up h71 90 33 w88) 90 34 s) 90 35 b) 103 = h 103 from E82] at y109
          rw [show (ov_up (ov_up (ov_up h71 90 33 w88) 90 34 s) 90 35 b) 96 = h 96 from E77] at y109
          rw [show (ov_up (ov_up (ov_up h71 90 33 w88) 90 34 s) 90 35 b) 97 = h 97 from E78] at y109
          rw [show (ov_up (ov_up (ov_up h71 90 33 w88) 90 34 s) 90 35 b) 98 = h 98 from E79] at y109
          have y109_ : ov_MI (h 96) (h 103) (h 97) (h 98) ge ((-1) : Int) (0 : Int) (h33 90 25) (h111 105) (h111 106) := y109
          have pm126 : ov_PM (h 96) (h 103) (h 97) (h 98) (h111 105) (h111 106) (h111 90 22) (h111 90 25) (h111 90 26) (h111 90 28) (h111 90 29) (h111 90 30) := ov_PM_mi y109_ (by omega) (by omega) (by omega) (by omega) (by omega) (by omega)
          exact ov_reti (st := []) d_286_78 rfl ⟨_, rfl, I112, (by show (h111 90 2) = (h 90 2) ∧ (h111 90 7) = (h 90 7) ∧ (h111 90 8) = (h 90 8) ∧ (h111 90 13) = (h 90 13) ∧ (h111 90 20) = (h 90 20) ∧ (h111 90 22) = (h 90 22) ∧ (h 90 25) ≤ (h111 90 25) ∧ (h111 90 25) ≤ (h 90 25) + 1 ∧ -2147483648 ≤ v96 ∧ v96 ≤ 2147483647; omega), E113, E114, E115, E116, E117, E118, E119, E120, E121, E122, E123, E124, pm126⟩
        · skip
          refine ov_blk (ls2 := [(0, ov_r 90), (1, ov_i ge), (2, ov_i s), (3, ov_i b)]) (st2 := [ov_i (-1)]) (pc2 := 50) b_286_49_1 rfl rfl ?_
          have pm127 : ov_PM (h 96) (h 103) (h 97) (h 98) (h71 105) (h71 106) (h71 90 22) (h71 90 25) (h71 90 26) (h71 90 28) (h71 90 29) (h71 90 30) := ov_PM_mi y68_ (by omega) (by omega) (by omega) (by omega) (by omega) (by omega)
          exact ov_reti (st := []) d_286_50 rfl ⟨_, rfl, I72, (by show (h71 90 2) = (h 90 2) ∧ (h71 90 7) = (h 90 7) ∧ (h71 90 8) = (h 90 8) ∧ (h71 90 13) = (h 90 13) ∧ (h71 90 20) = (h 90 20) ∧ (h71 90 22) = (h 90 22) ∧ (h 90 25) ≤ (h71 90 25) ∧ (h71 90 25) ≤ (h 90 25) + 1 ∧ -2147483648 ≤ (-1) ∧ (-1) ≤ 2147483647; omega), E73, E74, E75, E76, E77, E78, E79, E80, E81, E82, E83, E84, pm127⟩
      · skip
        have f14_ : v13 = 0 := by omega
        clear f14
        refine ov_blk (ls2 := [(0, ov_r 90), (1, ov_i ge), (2, ov_i s), (3, ov_i b)]) (st2 := [ov_i (-1)]) (pc2 := 30) b_286_29_1 rfl rfl ?_
        exact ov_reti (st := []) d_286_30 rfl ⟨_, rfl, I1, ⟨rfl, rfl, rfl, rfl, rfl, rfl, (by show (h 90 25) ≤ (h 90 25) ∧ (h 90 25) ≤ (h 90 25) + 1 ∧ -2147483648 ≤ (-1) ∧ (-1) ≤ 2147483647; omega)⟩, rfl, rfl, rfl, rfl, rfl, rfl, rfl, rfl, rfl, rfl, rfl, rfl, PM⟩

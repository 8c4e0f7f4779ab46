abbrev P_Mo_chanceFrom_90 (F : ov_H × ov_Z) (z : ov_Z) (h : ov_H) (go : Int) (wt : Int) (sf : Int) (sm : Int) (x : Int) (y : Int) (tm : Int) : Option ov_V → ov_Z → ov_H → Prop := fun r0 z' h' => ∃ r : Int, r0 = some (ov_i r) ∧ ov_N F z' h' ∧ ((h' 90 2) = (h 90 2) ∧ (h' 90 7) = (h 90 7) ∧ (h' 90 8) = (h 90 8) ∧ (h' 90 13) = (h 90 13) ∧ (h' 90 20) = (h 90 20) ∧ (h' 90 22) = (h 90 22) ∧ (h' 90 25) = (h 90 25) ∧ (h' 90 26) = (h 90 26) ∧ (h' 90 28) = (h 90 28) ∧ (h' 90 29) = (h 90 29) ∧ (h' 90 30) = (h 90 30) ∧ (h' 90 34) = (h 90 34) ∧ -2147483648 ≤ r ∧ r ≤ 2147483647) ∧ h' 91 = h 91 ∧ h' 92 = h 92 ∧ h' 93 = h 93 ∧ h' 94 = h 94 ∧ h' 95 = h 95 ∧ h' 96 = h 96 ∧ h' 97 = h 97 ∧ h' 98 = h 98 ∧ h' 99 = h 99 ∧ h' 100 = h 100 ∧ h' 103 = h 103 ∧ h' 109 = h 109 ∧ h' 114 = h 114 ∧ (ov_MI (h 96) (h 103) (h 97) (h 98) go wt sf sm (h' 105) (h' 106))
set_option maxHeartbeats 4000000 in
theorem c_Mo_chanceFrom_90 {u : ov_U} {F : ov_H × ov_Z} (go : Int) (wt : Int) (sf : Int) (sm : Int) (k : Nat) (HV : ∀ k' : Nat, k' < k → ∀ {z : ov_Z} {h : ov_H} (d : Nat) (hd : (90 + 1 * k' + 0) ≤ d) (U : ov_cap u) (I : ov_N F z h) (x : Int) (y : Int) (tm : Int) (g_x : ov_g x) (g_y : ov_g y) (g_tm : ov_g tm) (p0 : 0 ≤ x ∧ x ≤ 5 ∧ 0 ≤ y ∧ y ≤ 8) (p1 : x < (h 96 0) ∧ y < (h 96 1)) (p2 : x + y + (k' : Int) = 13) (p3 : 0 ≤ tm ∧ tm + 89 * (k' : Int) ≤ 1157) (p4 : wt = -1) (p5 : (h 90 26) = go) (p6 : (h 90 29) = wt) (p7 : (h 90 30) = sf) (p8 : (h 90 25) = sm) (p9 : 0 ≤ go ∧ go ≤ 3 + (h 96 8)) (W : ov_WT (h 96)) (CD : ov_CD (h 96) (h 97) (h 98)) (MI : ov_MI (h 96) (h 103) (h 97) (h 98) go wt sf sm (h 105) (h 106)) (GH : ov_go (h 96) (h 103) (h 97) (h 98) go wt sf x y (((h 90 34) + tm) % (h 96 9))), ov_T u d ov_m287 [ov_r 90, ov_i x, ov_i y, ov_i tm] z h (P_Mo_chanceFrom_90 F z h go wt sf sm x y tm)) {z : ov_Z} {h : ov_H} (d : Nat) (hd : (90 + 1 * k + 0) ≤ d) (U : ov_cap u) (I : ov_N F z h) (x : Int) (y : Int) (tm : Int) (g_x : ov_g x) (g_y : ov_g y) (g_tm : ov_g tm) (p0 : 0 ≤ x ∧ x ≤ 5 ∧ 0 ≤ y ∧ y ≤ 8) (p1 : x < (h 96 0) ∧ y < (h 96 1)) (p2 : x + y + (k : Int) = 13) (p3 : 0 ≤ tm ∧ tm + 89 * (k : Int) ≤ 1157) (p4 : wt = -1) (p5 : (h 90 26) = go) (p6 : (h 90 29) = wt) (p7 : (h 90 30) = sf) (p8 : (h 90 25) = sm) (p9 : 0 ≤ go ∧ go ≤ 3 + (h 96 8)) (W : ov_WT (h 96)) (CD : ov_CD (h 96) (h 97) (h 98)) (MI : ov_MI (h 96) (h 103) (h 97) (h 98) go wt sf sm (h 105) (h 106)) (GH : ov_go (h 96) (h 103) (h 97) (h 98) go wt sf x y (((h 90 34) + tm) % (h 96 9))) : ov_T u d ov_m287 [ov_r 90, ov_i x, ov_i y, ov_i tm] z h (P_Mo_chanceFrom_90 F z h go wt sf sm x y tm) := by
  refine ov_en rfl (Nat.le_of_ble_eq_true rfl) ?_
  show ov_R u d ov_m287 0 [(0, ov_r 90), (1, ov_i x), (2, ov_i y), (3, ov_i tm)] [] z h (P_Mo_chanceFrom_90 F z h go wt sf sm x y tm)
  have t0 := t96_0 I
  have t1 := t96_1 I
  have t9 := t96_9 I
  refine ov_blk (ls2 := [(0, ov_r 90), (1, ov_i x), (2, ov_i y), (3, ov_i tm)]) (st2 := [ov_i y, ov_i x, ov_r 90]) (pc2 := 3) b_287_0_3 rfl rfl ?_
  refine ov_cV (as := [ov_i x, ov_i y]) (st := []) (d2 := d - 1) d_287_3 lk_Mo_335 rfl (Nat.le_of_ble_eq_true rfl) (c := 1) (zb_90 I) (zs_90 I) ⟨by decide, rfl⟩ (by omega) (c_Mo_isHome_90 (d - 1) (by omega) U I x y (by omega) (by omega) (by omega)) ?_
  rintro _ _ _ ⟨v2, rfl, rfl, rfl, f1⟩
  show ov_R u d ov_m287 6 [(0, ov_r 90), (1, ov_i x), (2, ov_i y), (3, ov_i tm)] [ov_i v2] z h (P_Mo_chanceFrom_90 F z h go wt sf sm x y tm)
  have f3 : (v2 = 0 ∨ v2 = 1) ∧ (v2 = 1 → x = (h 96 0) - 1 ∧ y = (h 96 1) - 1) ∧ (v2 = 0 → ¬ (x = (h 96 0) - 1 ∧ y = (h 96 1) - 1)) := f1
  clear f1
  refine ov_ifeq (tgt := 30) d_287_6 (by decide) (by omega) (fun c4 => ?_) (fun c4 => ?_)
  · skip
    have f3_ : v2 = 0 := by omega
    have f5 : ¬ (x = (h 96 0) - 1 ∧ y = (h 96 1) - 1) := f3.2.2 (by omega)
    clear f3
    refine ov_blk (ls2 := [(0, ov_r 90), (1, ov_i x), (2, ov_i y), (3, ov_i tm), (4, ov_i ((1200 * ((6 * y) + x)) + tm))]) (st2 := [ov_r 90]) (pc2 := 45) b_287_30_11 rfl rfl ?_
    refine ov_getf (v := ov_r 108) d_287_45 fl_Mo_125 (zb_90 I) (zs_90 I) (congrArg ov_r (rg_90_32 I)) ?_
    refine ov_blk (ls2 := [(0, ov_r 90), (1, ov_i x), (2, ov_i y), (3, ov_i tm), (4, ov_i ((1200 * ((6 * y) + x)) + tm))]) (st2 := [ov_i ((1200 * ((6 * y) + x)) + tm), ov_r 108]) (pc2 := 50) b_287_48_1 rfl rfl ?_
    refine ov_iald d_287_50 (zb_108 I) (zs_108 I) (by omega) ?_
    have g6 := ra_108 I ((1200 * ((6 * y) + x)) + tm)
    refine ov_blk (ls2 := [(0, ov_r 90), (1, ov_i x), (2, ov_i y), (3, ov_i tm), (4, ov_i ((1200 * ((6 * y) + x)) + tm))]) (st2 := [ov_r 90, ov_i (h 108 ((1200 * ((6 * y) + x)) + tm))]) (pc2 := 52) b_287_51_1 rfl rfl ?_
    refine ov_getf (v := ov_i (h 90 33)) d_287_52 fl_Mo_405 (zb_90 I) (zs_90 I) rfl ?_
    have g7 := rg_90_33 I
    refine ov_iceq (tgt := 206) d_287_55 (by decide) (by omega) (by omega) (fun c8 => ?_) (fun c8 => ?_)
    · skip
      refine ov_blk (ls2 := [(0, ov_r 90), (1, ov_i x), (2, ov_i y), (3, ov_i tm), (4, ov_i ((1200 * ((6 * y) + x)) + tm))]) (st2 := [ov_r 90]) (pc2 := 207) b_287_206_1 rfl rfl ?_
      refine ov_getf (v := ov_r 107) d_287_207 fl_Mo_122 (zb_90 I) (zs_90 I) (congrArg ov_r (rg_90_31 I)) ?_
      refine ov_blk (ls2 := [(0, ov_r 90), (1, ov_i x), (2, ov_i y), (3, ov_i tm), (4, ov_i ((1200 * ((6 * y) + x)) + tm))]) (st2 := [ov_i ((1200 * ((6 * y) + x)) + tm), ov_r 107]) (pc2 := 212) b_287_210_1 rfl rfl ?_
      refine ov_iald d_287_212 (zb_107 I) (zs_107 I) (by omega) ?_
      have g9 := ra_107 I ((1200 * ((6 * y) + x)) + tm)
      exact ov_reti (st := []) d_287_213 rfl ⟨_, rfl, I, ⟨rfl, rfl, rfl, rfl, rfl, rfl, rfl, rfl, rfl, rfl, rfl, rfl, (by show -2147483648 ≤ (h 107 ((1200 * ((6 * y) + x)) + tm)) ∧ (h 107 ((1200 * ((6 * y) + x)) + tm)) ≤ 2147483647; omega)⟩, rfl, rfl, rfl, rfl, rfl, rfl, rfl, rfl, rfl, rfl, rfl, rfl, rfl, MI⟩
    · skip
      refine ov_blk (ls2 := [(0, ov_r 90), (1, ov_i x), (2, ov_i y), (3, ov_i tm), (4, ov_i ((1200 * ((6 * y) + x)) + tm))]) (st2 := [ov_r 90]) (pc2 := 59) b_287_58_1 rfl rfl ?_
      refine ov_getf (v := ov_i (h 90 34)) d_287_59 fl_Mo_399 (zb_90 I) (zs_90 I) rfl ?_
      have g10 := rg_90_34 I
      refine ov_blk (ls2 := [(0, ov_r 90), (1, ov_i x), (2, ov_i y), (3, ov_i tm), (4, ov_i ((1200 * ((6 * y) + x)) + tm))]) (st2 := [ov_r 90, ov_i ((h 90 34) + tm)]) (pc2 := 65) b_287_62_3 rfl rfl ?_
      refine ov_getf (v := ov_r 96) d_287_65 fl_Mo_81 (zb_90 I) (zs_90 I) (congrArg ov_r (rg_90_10 I)) ?_
      refine ov_blk (ls2 := [(0, ov_r 90), (1, ov_i x), (2, ov_i y), (3, ov_i tm), (4, ov_i ((1200 * ((6 * y) + x)) + tm))]) (st2 := [ov_i 9, ov_r 96, ov_i ((h 90 34) + tm)]) (pc2 := 70) b_287_68_1 rfl rfl ?_
      refine ov_iald d_287_70 (zb_96 I) (zs_96 I) (by omega) ?_
      have g11 := t96_9 I
      have gt1 := ov_tmv (x := ((h 90 34) + tm)) (y := (h 96 9)) (by omega) (by omega)
      have gt2 : Int.tmod ((h 90 34) + tm) (h 96 9) = ((h 90 34) + tm) % (h 96 9) := ov_tm (by omega)
      have go1 : ov_go (h 96) (h 103) (h 97) (h 98) go wt sf x y (Int.tmod ((h 90 34) + tm) (h 96 9)) := by rw [gt2]; exact GH
      have w1 := ov_WT_at W (c := 6 * y + x) (by omega)
      refine ov_irem d_287_71 (by omega) (by omega) (by omega) ?_
      have g12 := ov_tmg (a := ((h 90 34) + tm)) (b := (h 96 9)) (by omega) (by omega)
      refine ov_blk (ls2 := [(0, ov_r 90), (1, ov_i x), (2, ov_i y), (3, ov_i tm), (4, ov_i ((1200 * ((6 * y) + x)) + tm)), (5, ov_i (Int.tmod ((h 90 34) + tm) (h 96 9))), (6, ov_i 0)]) (st2 := [ov_i y, ov_i x, ov_r 90]) (pc2 := 80) b_287_72_6 rfl rfl ?_
      refine ov_cV (as := [ov_i x, ov_i y]) (st := []) (d2 := d - 1) d_287_80 lk_Mo_362 rfl (Nat.le_of_ble_eq_true rfl) (c := 1) (zb_90 I) (zs_90 I) ⟨by decide, rfl⟩ (by omega) (c_Mo_isUnknown_90 (d - 1) (by omega) U I x y (by omega) (by omega) (by omega)) ?_
      rintro _ _ _ ⟨v14, rfl, rfl, rfl, f13⟩
      show ov_R u d ov_m287 83 [(0, ov_r 90), (1, ov_i x), (2, ov_i y), (3, ov_i tm), (4, ov_i ((1200 * ((6 * y) + x)) + tm)), (5, ov_i (Int.tmod ((h 90 34) + tm) (h 96 9))), (6, ov_i 0)] [ov_i v14] z h (P_Mo_chanceFrom_90 F z h go wt sf sm x y tm)
      have f15 : (v14 = 0 ∨ v14 = 1) ∧ (v14 = 1 → ((h 96 (10 + 4 * (6 * y + x))) = 2 ∧ ¬ (h 103 (4 + 6 * y + x)) = 1 ∧ ¬ 6 * y + x = (h 90 29))) ∧ (v14 = 0 → ¬ ((h 96 (10 + 4 * (6 * y + x))) = 2 ∧ ¬ (h 103 (4 + 6 * y + x)) = 1 ∧ ¬ 6 * y + x = (h 90 29))) := f13
      clear f13
      refine ov_ifeq (tgt := 96) d_287_83 (by decide) (by omega) (fun c16 => ?_) (fun c16 => ?_)
      · skip
        have f15_ : v14 = 0 := by omega
        have f17 : ¬ ((h 96 (10 + 4 * (6 * y + x))) = 2 ∧ ¬ (h 103 (4 + 6 * y + x)) = 1 ∧ ¬ 6 * y + x = (h 90 29)) := f15.2.2 (by omega)
        clear f15
        refine ov_blk (ls2 := [(0, ov_r 90), (1, ov_i x), (2, ov_i y), (3, ov_i tm), (4, ov_i ((1200 * ((6 * y) + x)) + tm)), (5, ov_i (Int.tmod ((h 90 34) + tm) (h 96 9))), (6, ov_i 0), (7, ov_i 1), (8, ov_i 0)]) (st2 := []) (pc2 := 102) b_287_96_4 rfl rfl ?_
        have L21 : ∀ (n18 : Nat) (x6 : Int) (x8 : Int) (z22 : ov_Z) (h23 : ov_H) (I24 : ov_N F z22 h23) (E25 : h23 91 = h 91) (E26 : h23 92 = h 92) (E27 : h23 93 = h 93) (E28 : h23 94 = h 94) (E29 : h23 95 = h 95) (E30 : h23 96 = h 96) (E31 : h23 97 = h 97) (E32 : h23 98 = h 98) (E33 : h23 99 = h 99) (E34 : h23 100 = h 100) (E35 : h23 103 = h 103) (E36 : h23 109 = h 109) (E37 : h23 114 = h 114) (xm : ov_MI (h 96) (h 103) (h 97) (h 98) go wt sf sm (h23 105) (h23 106)) (q20 : 0 ≤ x8 ∧ x8 ≤ 60 ∧ x8 ≤ 1 ∧ ov_g x6 ∧ (h23 90 2) = (h 90 2) ∧ (h23 90 7) = (h 90 7) ∧ (h23 90 8) = (h 90 8) ∧ (h23 90 13) = (h 90 13) ∧ (h23 90 20) = (h 90 20) ∧ (h23 90 22) = (h 90 22) ∧ (h23 90 25) = (h 90 25) ∧ (h23 90 26) = (h 90 26) ∧ (h23 90 28) = (h 90 28) ∧ (h23 90 29) = (h 90 29) ∧ (h23 90 30) = (h 90 30) ∧ (h23 90 34) = (h 90 34)), 60 - x8 < (n18 : Int) → ov_R u d ov_m287 102 [(0, ov_r 90), (1, ov_i x), (2, ov_i y), (3, ov_i tm), (4, ov_i ((1200 * ((6 * y) + x)) + tm)), (5, ov_i (Int.tmod ((h 90 34) + tm) (h 96 9))), (6, ov_i x6), (7, ov_i 1), (8, ov_i x8)] [] z22 h23 (P_Mo_chanceFrom_90 F z h go wt sf sm x y tm) := by
          intro n18
          induction n18 with
          | zero =>
            intro x6 x8 z22 h23 I24 E25 E26 E27 E28 E29 E30 E31 E32 E33 E34 E35 E36 E37 xm q20 hn38
            exact absurd hn38 (by omega)
          | succ n18 ih19 =>
            intro x6 x8 z22 h23 I24 E25 E26 E27 E28 E29 E30 E31 E32 E33 E34 E35 E36 E37 xm q20 hn38
            refine ov_blk (ls2 := [(0, ov_r 90), (1, ov_i x), (2, ov_i y), (3, ov_i tm), (4, ov_i ((1200 * ((6 * y) + x)) + tm)), (5, ov_i (Int.tmod ((h 90 34) + tm) (h 96 9))), (6, ov_i x6), (7, ov_i 1), (8, ov_i x8)]) (st2 := [ov_i 1, ov_i x8]) (pc2 := 106) b_287_102_2 rfl rfl ?_
            refine ov_icge (tgt := 183) d_287_106 (by decide) (by omega) (by omega) (fun c39 => ?_) (fun c39 => ?_)
            · skip
              refine ov_blk (ls2 := [(0, ov_r 90), (1, ov_i x), (2, ov_i y), (3, ov_i tm), (4, ov_i ((1200 * ((6 * y) + x)) + tm)), (5, ov_i (Int.tmod ((h 90 34) + tm) (h 96 9))), (6, ov_i x6), (7, ov_i 1), (8, ov_i x8)]) (st2 := [ov_r 90]) (pc2 := 184) b_287_183_1 rfl rfl ?_
              refine ov_getf (v := ov_r 107) d_287_184 fl_Mo_122 (zb_90 I24) (zs_90 I24) (congrArg ov_r (rg_90_31 I24)) ?_
              refine ov_blk (ls2 := [(0, ov_r 90), (1, ov_i x), (2, ov_i y), (3, ov_i tm), (4, ov_i ((1200 * ((6 * y) + x)) + tm)), (5, ov_i (Int.tmod ((h 90 34) + tm) (h 96 9))), (6, ov_i x6), (7, ov_i 1), (8, ov_i x8)]) (st2 := [ov_i 1, ov_i x6, ov_i ((1200 * ((6 * y) + x)) + tm), ov_r 107]) (pc2 := 193) b_287_187_3 rfl rfl ?_
              have xd := ov_tdt (a := x6) (b := 1) (by omega)
              refine ov_idiv d_287_193 (by omega) (by omega) (by omega) ?_
              refine ov_iast d_287_194 (zb_107 I24) (zs_107 I24) (by omega) ?_
              have I40 := ua_107 (k := ((1200 * ((6 * y) + x)) + tm)) (x := (Int.tdiv x6 1)) I24 (by omega)
              refine ov_blk (ls2 := [(0, ov_r 90), (1, ov_i x), (2, ov_i y), (3, ov_i tm), (4, ov_i ((1200 * ((6 * y) + x)) + tm)), (5, ov_i (Int.tmod ((h 90 34) + tm) (h 96 9))), (6, ov_i x6), (7, ov_i 1), (8, ov_i x8)]) (st2 := [ov_r 90]) (pc2 := 196) b_287_195_1 rfl rfl ?_
              refine ov_getf (v := ov_r 108) d_287_196 fl_Mo_125 (zb_90 I40) (zs_90 I40) (congrArg ov_r (rg_90_32 I40)) ?_
              refine ov_blk (ls2 := [(0, ov_r 90), (1, ov_i x), (2, ov_i y), (3, ov_i tm), (4, ov_i ((1200 * ((6 * y) + x)) + tm)), (5, ov_i (Int.tmod ((h 90 34) + tm) (h 96 9))), (6, ov_i x6), (7, ov_i 1), (8, ov_i x8)]) (st2 := [ov_r 90, ov_i ((1200 * ((6 * y) + x)) + tm), ov_r 108]) (pc2 := 202) b_287_199_2 rfl rfl ?_
              refine ov_getf (v := ov_i (h23 90 33)) d_287_202 fl_Mo_405 (zb_90 I40) (zs_90 I40) rfl ?_
              have g41 := rg_90_33 I24
              refine ov_iast d_287_205 (zb_108 I40) (zs_108 I40) (by omega) ?_
              have I42 := ua_108 (k := ((1200 * ((6 * y) + x)) + tm)) (x := (h23 90 33)) I40 (by omega)
              refine ov_blk (ls2 := [(0, ov_r 90), (1, ov_i x), (2, ov_i y), (3, ov_i tm), (4, ov_i ((1200 * ((6 * y) + x)) + tm)), (5, ov_i (Int.tmod ((h 90 34) + tm) (h 96 9))), (6, ov_i x6), (7, ov_i 1), (8, ov_i x8)]) (st2 := [ov_r 90]) (pc2 := 207) b_287_206_1 rfl rfl ?_
              refine ov_getf (v := ov_r 107) d_287_207 fl_Mo_122 (zb_90 I42) (zs_90 I42) (congrArg ov_r (rg_90_31 I42)) ?_
              refine ov_blk (ls2 := [(0, ov_r 90), (1, ov_i x), (2, ov_i y), (3, ov_i tm), (4, ov_i ((1200 * ((6 * y) + x)) + tm)), (5, ov_i (Int.tmod ((h 90 34) + tm) (h 96 9))), (6, ov_i x6), (7, ov_i 1), (8, ov_i x8)]) (st2 := [ov_i ((1200 * ((6 * y) + x)) + tm), ov_r 107]) (pc2 := 212) b_287_210_1 rfl rfl ?_
              refine ov_iald d_287_212 (zb_107 I42) (zs_107 I42) (by omega) ?_
              show ov_R u d ov_m287 213 [(0, ov_r 90), (1, ov_i x), (2, ov_i y), (3, ov_i tm), (4, ov_i ((1200 * ((6 * y) + x)) + tm)), (5, ov_i (Int.tmod ((h 90 34) + tm) (h 96 9))), (6, ov_i x6), (7, ov_i 1), (8, ov_i x8)] [ov_i ((ov_up h23 107 ((1200 * ((6 * y) + x)) + tm) (Int.tdiv x6 1)) 107 ((1200 * ((6 * y) + x)) + tm))] z22 (ov_up (ov_up h23 107 ((1200 * ((6 * y) + x)) + tm) (Int.tdiv x6 1)) 108 ((1200 * ((6 * y) + x)) + tm) (h23 90 33)) (P_Mo_chanceFrom_90 F z h go wt sf sm x y tm)
              have g43 := ra_107 I42 ((1200 * ((6 * y) + x)) + tm)
              have gr : -2147483648 ≤ ((ov_up h23 107 ((1200 * ((6 * y) + x)) + tm) (Int.tdiv x6 1)) 107 ((1200 * ((6 * y) + x)) + tm)) ∧ ((ov_up h23 107 ((1200 * ((6 * y) + x)) + tm) (Int.tdiv x6 1)) 107 ((1200 * ((6 * y) + x)) + tm)) ≤ 2147483647 := ra_107 I42 ((1200 * ((6 * y) + x)) + tm)
              exact ov_reti (st := []) d_287_213 rfl ⟨_, rfl, I42, (by show (h23 90 2) = (h 90 2) ∧ (h23 90 7) = (h 90 7) ∧ (h23 90 8) = (h 90 8) ∧ (h23 90 13) = (h 90 13) ∧ (h23 90 20) = (h 90 20) ∧ (h23 90 22) = (h 90 22) ∧ (h23 90 25) = (h 90 25) ∧ (h23 90 26) = (h 90 26) ∧ (h23 90 28) = (h 90 28) ∧ (h23 90 29) = (h 90 29) ∧ (h23 90 30) = (h 90 30) ∧ (h23 90 34) = (h 90 34) ∧ -2147483648 ≤ ((ov_up h23 107 ((1200 * ((6 * y) + x)) + tm) (Int.tdiv x6 1)) 107 ((1200 * ((6 * y) + x)) + tm)) ∧ ((ov_up h23 107 ((1200 * ((6 * y) + x)) + tm) (Int.tdiv x6 1)) 107 ((1200 * ((6 * y) + x)) + tm)) ≤ 2147483647; omega), E25, E26, E27, E28, E29, E30, E31, E32, E33, E34, E35, E36, E37, xm⟩
            · skip
              refine ov_blk (ls2 := [(0, ov_r 90), (1, ov_i x), (2, ov_i y), (3, ov_i tm), (4, ov_i ((1200 * ((6 * y) + x)) + tm)), (5, ov_i (Int.tmod ((h 90 34) + tm) (h 96 9))), (6, ov_i x6), (7, ov_i 1), (8, ov_i x8)]) (st2 := [ov_i y, ov_i x, ov_r 90]) (pc2 := 112) b_287_109_3 rfl rfl ?_
              refine ov_cV (as := [ov_i x, ov_i y]) (st := []) (d2 := d - 1) d_287_112 lk_Mo_362 rfl (Nat.le_of_ble_eq_true rfl) (c := 1) (zb_90 I24) (zs_90 I24) ⟨by decide, rfl⟩ (by omega) (c_Mo_isUnknown_90 (d - 1) (by omega) U I24 x y (by omega) (by omega) (by omega)) ?_
              rintro _ _ _ ⟨v45, rfl, rfl, rfl, f44⟩
              show ov_R u d ov_m287 115 [(0, ov_r 90), (1, ov_i x), (2, ov_i y), (3, ov_i tm), (4, ov_i ((1200 * ((6 * y) + x)) + tm)), (5, ov_i (Int.tmod ((h 90 34) + tm) (h 96 9))), (6, ov_i x6), (7, ov_i 1), (8, ov_i x8)] [ov_i v45] z22 h23 (P_Mo_chanceFrom_90 F z h go wt sf sm x y tm)
              rw [show h23 103 = h 103 from E35] at f44
              rw [show h23 96 = h 96 from E30] at f44
              have f46 : (v45 = 0 ∨ v45 = 1) ∧ (v45 = 1 → ((h 96 (10 + 4 * (6 * y + x))) = 2 ∧ ¬ (h 103 (4 + 6 * y + x)) = 1 ∧ ¬ 6 * y + x = (h23 90 29))) ∧ (v45 = 0 → ¬ ((h 96 (10 + 4 * (6 * y + x))) = 2 ∧ ¬ (h 103 (4 + 6 * y + x)) = 1 ∧ ¬ 6 * y + x = (h23 90 29))) := f44
              clear f44
              refine ov_ifeq (tgt := 123) d_287_115 (by decide) (by omega) (fun c47 => ?_) (fun c47 => ?_)
              · skip
                have f46_ : v45 = 0 := by omega
                have f48 : ¬ ((h 96 (10 + 4 * (6 * y + x))) = 2 ∧ ¬ (h 103 (4 + 6 * y + x)) = 1 ∧ ¬ 6 * y + x = (h23 90 29)) := f46.2.2 (by omega)
                clear f46
                refine ov_blk (ls2 := [(0, ov_r 90), (1, ov_i x), (2, ov_i y), (3, ov_i tm), (4, ov_i ((1200 * ((6 * y) + x)) + tm)), (5, ov_i (Int.tmod ((h 90 34) + tm) (h 96 9))), (6, ov_i x6), (7, ov_i 1), (8, ov_i x8), (9, ov_i (Int.tmod ((h 90 34) + tm) (h 96 9)))]) (st2 := []) (pc2 := 127) b_287_123_2 rfl rfl ?_
                have gq : ov_gs (h 96) (h 97) (h 98) (ov_go (h 96) (h 103) (h 97) (h 98) go wt sf) go x y (Int.tmod ((h 90 34) + tm) (h 96 9)) (Int.tmod ((h 90 34) + tm) (h 96 9)) := (ov_go_s (by omega) (by omega) (by omega) (by omega)).mpr go1
                refine ov_blk (ls2 := [(0, ov_r 90), (1, ov_i x), (2, ov_i y), (3, ov_i tm), (4, ov_i ((1200 * ((6 * y) + x)) + tm)), (5, ov_i (Int.tmod ((h 90 34) + tm) (h 96 9))), (6, ov_i x6), (7, ov_i 1), (8, ov_i x8), (9, ov_i (Int.tmod ((h 90 34) + tm) (h 96 9)))]) (st2 := [ov_i (Int.tmod ((h 90 34) + tm) (h 96 9)), ov_i (Int.tmod ((h 90 34) + tm) (h 96 9)), ov_i y, ov_i x, ov_r 90]) (pc2 := 134) b_287_127_5 rfl rfl ?_
                have cf49 : h23 96 (0) = h 96 (0) := congrFun E30 (0)
                have cf50 : h23 96 (1) = h 96 (1) := congrFun E30 (1)
                have cf51 : h23 96 (9) = h 96 (9) := congrFun E30 (9)
                have cf52 : h23 96 (8) = h 96 (8) := congrFun E30 (8)
                refine ov_cV (as := [ov_i x, ov_i y, ov_i (Int.tmod ((h 90 34) + tm) (h 96 9)), ov_i (Int.tmod ((h 90 34) + tm) (h 96 9))]) (st := []) (d2 := d - 1) d_287_134 lk_Mo_371 rfl (Nat.le_of_ble_eq_true rfl) (c := 1) (zb_90 I24) (zs_90 I24) ⟨by decide, rfl⟩ (by omega) (c_Mo_wayOf_90_all go wt sf sm (Int.toNat (13 - (x) - (y))) (d - 1) (by omega) U I24 x y (Int.tmod ((h 90 34) + tm) (h 96 9)) (Int.tmod ((h 90 34) + tm) (h 96 9)) (by omega) (by omega) (by omega) (by omega) (by omega) (by show x < (h23 96 0) ∧ y < (h23 96 1); omega) (by omega) (by show 0 ≤ (Int.tmod ((h 90 34) + tm) (h 96 9)) ∧ (Int.tmod ((h 90 34) + tm) (h 96 9)) < (h23 96 9); omega) (by omega) (by show (h23 90 26) = go; omega) (by show (h23 90 29) = wt; omega) (by show (h23 90 30) = sf; omega) (by show (h23 90 25) = sm; omega) (by show 0 ≤ go ∧ go ≤ 3 + (h23 96 8); omega) (by rw [show h23 96 = h 96 from E30]; exact W) (by rw [show h23 96 = h 96 from E30, show h23 97 = h 97 from E31, show h23 98 = h 98 from E32]; exact CD) (by rw [show h23 96 = h 96 from E30, show h23 103 = h 103 from E35, show h23 97 = h 97 from E31, show h23 98 = h 98 from E32]; exact xm)) ?_
                rintro _ z70 h71 ⟨v54, rfl, I72, f53, e55, e56, e57, e58, e59, e60, e61, e62, e63, e64, e65, e66, e67, y68, y69⟩
                have E73 : h71 91 = h 91 := Eq.trans e55 E25
                have E74 : h71 92 = h 92 := Eq.trans e56 E26
                have E75 : h71 93 = h 93 := Eq.trans e57 E27
                have E76 : h71 94 = h 94 := Eq.trans e58 E28
                have E77 : h71 95 = h 95 := Eq.trans e59 E29
                have E78 : h71 96 = h 96 := Eq.trans e60 E30
                have E79 : h71 97 = h 97 := Eq.trans e61 E31
                have E80 : h71 98 = h 98 := Eq.trans e62 E32
                have E81 : h71 99 = h 99 := Eq.trans e63 E33
                have E82 : h71 100 = h 100 := Eq.trans e64 E34
                have E83 : h71 103 = h 103 := Eq.trans e65 E35
                have E84 : h71 109 = h 109 := Eq.trans e66 E36
                have E85 : h71 114 = h 114 := Eq.trans e67 E37
                show ov_R u d ov_m287 137 [(0, ov_r 90), (1, ov_i x), (2, ov_i y), (3, ov_i tm), (4, ov_i ((1200 * ((6 * y) + x)) + tm)), (5, ov_i (Int.tmod ((h 90 34) + tm) (h 96 9))), (6, ov_i x6), (7, ov_i 1), (8, ov_i x8), (9, ov_i (Int.tmod ((h 90 34) + tm) (h 96 9)))] [ov_i v54] z70 h71 (P_Mo_chanceFrom_90 F z h go wt sf sm x y tm)
                have f86 : (h71 90 2) = (h23 90 2) ∧ (h71 90 7) = (h23 90 7) ∧ (h71 90 8) = (h23 90 8) ∧ (h71 90 13) = (h23 90 13) ∧ (h71 90 20) = (h23 90 20) ∧ (h71 90 22) = (h23 90 22) ∧ (h71 90 25) = (h23 90 25) ∧ (h71 90 26) = (h23 90 26) ∧ (h71 90 28) = (h23 90 28) ∧ (h71 90 29) = (h23 90 29) ∧ (h71 90 30) = (h23 90 30) ∧ (h71 90 34) = (h23 90 34) ∧ -1 ≤ v54 ∧ v54 ≤ 1 := f53
                clear f53
                rw [show h23 103 = h 103 from E35] at y68
                rw [show h23 96 = h 96 from E30] at y68
                rw [show h23 97 = h 97 from E31] at y68
                rw [show h23 98 = h 98 from E32] at y68
                have y68_ : ov_MI (h 96) (h 103) (h 97) (h 98) go wt sf sm (h71 105) (h71 106) := y68
                rw [show h23 103 = h 103 from E35] at y69
                rw [show h23 96 = h 96 from E30] at y69
                rw [show h23 97 = h 97 from E31] at y69
                rw [show h23 98 = h 98 from E32] at y69
                have y69_ : ov_wf (h 96) (h 97) (h 98) (ov_go (h 96) (h 103) (h 97) (h 98) go wt sf) go x y (Int.tmod ((h 90 34) + tm) (h 96 9)) (Int.tmod ((h 90 34) + tm) (h 96 9)) v54 := y69
                have r0 : 0 ≤ v54 := if c : 0 ≤ v54 then c else absurd gq (ov_wf_no y69_ (by omega))
                have cg := (ov_cgi_sp (h 96) x y v54).2 (y69_.1 r0)
                have gn := (ov_wf_gs y69_ r0).mpr gq
                refine ov_blk (ls2 := [(0, ov_r 90), (1, ov_i x), (2, ov_i y), (3, ov_i tm), (4, ov_i ((1200 * ((6 * y) + x)) + tm)), (5, ov_i (Int.tmod ((h 90 34) + tm) (h 96 9))), (6, ov_i x6), (7, ov_i 1), (8, ov_i x8), (9, ov_i (Int.tmod ((h 90 34) + tm) (h 96 9))), (10, ov_i v54)]) (st2 := [ov_i (Int.tmod ((h 90 34) + tm) (h 96 9)), ov_i v54, ov_i y, ov_i x, ov_r 90, ov_i tm, ov_i (y + v54), ov_i ((x + 1) - v54), ov_r 90, ov_i x6]) (pc2 := 160) b_287_137_17 rfl rfl ?_
                have cf87 : h71 96 (10 + 4 * (6 * y + x)) = h 96 (10 + 4 * (6 * y + x)) := congrFun E78 (10 + 4 * (6 * y + x))
                have cf88 : h71 96 (10 + 4 * (6 * y + x) + 3) = h 96 (10 + 4 * (6 * y + x) + 3) := congrFun E78 (10 + 4 * (6 * y + x) + 3)
                have cf89 : h71 96 (10 + 4 * (6 * y + x) + 1) = h 96 (10 + 4 * (6 * y + x) + 1) := congrFun E78 (10 + 4 * (6 * y + x) + 1)
                refine ov_cV (as := [ov_i x, ov_i y, ov_i v54, ov_i (Int.tmod ((h 90 34) + tm) (h 96 9))]) (st := [ov_i tm, ov_i (y + v54), ov_i ((x + 1) - v54), ov_r 90, ov_i x6]) (d2 := d - 1) d_287_160 lk_Mo_315 rfl (Nat.le_of_ble_eq_true rfl) (c := 1) (zb_90 I72) (zs_90 I72) ⟨by decide, rfl⟩ (by omega) (c_Mo_waitFor_90 (d - 1) (by omega) U I72 x y v54 (Int.tmod ((h 90 34) + tm) (h 96 9)) (by omega) (by omega) (by omega) (by omega) (by omega) (by omega) (by omega) (by show (((h71 96 (10 + 4 * (6 * y + x))) = 1 ∨ (h71 96 (10 + 4 * (6 * y + x))) = 2) → (v54 = 0 → 0 < (h71 96 (10 + 4 * (6 * y + x) + 3))) ∧ (¬ v54 = 0 → (h71 96 (10 + 4 * (6 * y + x) + 3)) < (h71 96 (10 + 4 * (6 * y + x) + 1)))); omega) (by rw [show h71 96 = h 96 from E78]; exact W)) ?_
                rintro _ _ _ ⟨v91, rfl, rfl, rfl, f90⟩
                show ov_R u d ov_m287 163 [(0, ov_r 90), (1, ov_i x), (2, ov_i y), (3, ov_i tm), (4, ov_i ((1200 * ((6 * y) + x)) + tm)), (5, ov_i (Int.tmod ((h 90 34) + tm) (h 96 9))), (6, ov_i x6), (7, ov_i 1), (8, ov_i x8), (9, ov_i (Int.tmod ((h 90 34) + tm) (h 96 9))), (10, ov_i v54)] [ov_i v91, ov_i tm, ov_i (y + v54), ov_i ((x + 1) - v54), ov_r 90, ov_i x6] z70 h71 (P_Mo_chanceFrom_90 F z h go wt sf sm x y tm)
                rw [show h71 96 = h 96 from E78] at f90
                have f92 : 0 ≤ v91 ∧ v91 ≤ 59 ∧ v91 = ov_wm (h 96) (6 * y + x) v54 (Int.tmod ((h 90 34) + tm) (h 96 9)) := f90
                clear f90
                refine ov_blk (ls2 := [(0, ov_r 90), (1, ov_i x), (2, ov_i y), (3, ov_i tm), (4, ov_i ((1200 * ((6 * y) + x)) + tm)), (5, ov_i (Int.tmod ((h 90 34) + tm) (h 96 9))), (6, ov_i x6), (7, ov_i 1), (8, ov_i x8), (9, ov_i (Int.tmod ((h 90 34) + tm) (h 96 9))), (10, ov_i v54)]) (st2 := [ov_r 90, ov_i (tm + v91), ov_i (y + v54), ov_i ((x + 1) - v54), ov_r 90, ov_i x6]) (pc2 := 165) b_287_163_2 rfl rfl ?_
                refine ov_getf (v := ov_r 96) d_287_165 fl_Mo_81 (zb_90 I72) (zs_90 I72) (congrArg ov_r (rg_90_10 I72)) ?_
                refine ov_blk (ls2 := [(0, ov_r 90), (1, ov_i x), (2, ov_i y), (3, ov_i tm), (4, ov_i ((1200 * ((6 * y) + x)) + tm)), (5, ov_i (Int.tmod ((h 90 34) + tm) (h 96 9))), (6, ov_i x6), (7, ov_i 1), (8, ov_i x8), (9, ov_i (Int.tmod ((h 90 34) + tm) (h 96 9))), (10, ov_i v54)]) (st2 := [ov_i 2, ov_r 96, ov_i (tm + v91), ov_i (y + v54), ov_i ((x + 1) - v54), ov_r 90, ov_i x6]) (pc2 := 169) b_287_168_1 rfl rfl ?_
                refine ov_iald d_287_169 (zb_96 I72) (zs_96 I72) (by omega) ?_
                rw [show h71 96 = h 96 from E78]
                have g93 := t96_2 I
                refine ov_blk (ls2 := [(0, ov_r 90), (1, ov_i x), (2, ov_i y), (3, ov_i tm), (4, ov_i ((1200 * ((6 * y) + x)) + tm)), (5, ov_i (Int.tmod ((h 90 34) + tm) (h 96 9))), (6, ov_i x6), (7, ov_i 1), (8, ov_i x8), (9, ov_i (Int.tmod ((h 90 34) + tm) (h 96 9))), (10, ov_i v54)]) (st2 := [ov_i ((tm + v91) + (h 96 2)), ov_i (y + v54), ov_i ((x + 1) - v54), ov_r 90, ov_i x6]) (pc2 := 171) b_287_170_1 rfl rfl ?_
                have ec : ((h71 90 34) + ((tm + v91) + (h 96 2))) % h 96 9 = ov_nx (h 96) (Int.tmod ((h 90 34) + tm) (h 96 9)) (ov_wm (h 96) (6 * y + x) v54 (Int.tmod ((h 90 34) + tm) (h 96 9))) := by rw [show (h71 90 34) = h 90 34 by omega, show v91 = ov_wm (h 96) (6 * y + x) v54 (Int.tmod ((h 90 34) + tm) (h 96 9)) by omega]; exact ov_nxa gt2
                have cf94 : h71 96 (0) = h 96 (0) := congrFun E78 (0)
                have cf95 : h71 96 (1) = h 96 (1) := congrFun E78 (1)
                have cf96 : h71 96 (8) = h 96 (8) := congrFun E78 (8)
                refine ov_cV (as := [ov_i ((x + 1) - v54), ov_i (y + v54), ov_i ((tm + v91) + (h 96 2))]) (st := [ov_i x6]) (d2 := d - 1) d_287_171 lk_Mo_408 rfl (Nat.le_of_ble_eq_true rfl) (c := 1) (zb_90 I72) (zs_90 I72) ⟨by decide, rfl⟩ (by omega) (HV (Int.toNat (13 - (((x + 1) - v54)) - ((y + v54)))) (by omega) (d - 1) (by omega) U I72 ((x + 1) - v54) (y + v54) ((tm + v91) + (h 96 2)) (by omega) (by omega) (by omega) (by omega) (by show ((x + 1) - v54) < (h71 96 0) ∧ (y + v54) < (h71 96 1); omega) (by omega) (by omega) (by omega) (by show (h71 90 26) = go; omega) (by show (h71 90 29) = wt; omega) (by show (h71 90 30) = sf; omega) (by show (h71 90 25) = sm; omega) (by show 0 ≤ go ∧ go ≤ 3 + (h71 96 8); omega) (by rw [show h71 96 = h 96 from E78]; exact W) (by rw [show h71 96 = h 96 from E78, show h71 97 = h 97 from E79, show h71 98 = h 98 from E80]; exact CD) (by rw [show h71 96 = h 96 from E78, show h71 103 = h 103 from E83, show h71 97 = h 97 from E79, show h71 98 = h 98 from E80]; exact y68_) (by rw [show h71 96 = h 96 from E78, show h71 103 = h 103 from E83, show h71 97 = h 97 from E79, show h71 98 = h 98 from E80, ec]; exact gn)) ?_
                rintro _ z113 h114 ⟨v98, rfl, I115, f97, e99, e100, e101, e102, e103, e104, e105, e106, e107, e108, e109, e110, e111, y112⟩
                have E116 : h114 91 = h 91 := Eq.trans e99 E73
                have E117 : h114 92 = h 92 := Eq.trans e100 E74
                have E118 : h114 93 = h 93 := Eq.trans e101 E75
                have E119 : h114 94 = h 94 := Eq.trans e102 E76
                have E120 : h114 95 = h 95 := Eq.trans e103 E77
                have E121 : h114 96 = h 96 := Eq.trans e104 E78
                have E122 : h114 97 = h 97 := Eq.trans e105 E79
                have E123 : h114 98 = h 98 := Eq.trans e106 E80
                have E124 : h114 99 = h 99 := Eq.trans e107 E81
                have E125 : h114 100 = h 100 := Eq.trans e108 E82
                have E126 : h114 103 = h 103 := Eq.trans e109 E83
                have E127 : h114 109 = h 109 := Eq.trans e110 E84
                have E128 : h114 114 = h 114 := Eq.trans e111 E85
                show ov_R u d ov_m287 174 [(0, ov_r 90), (1, ov_i x), (2, ov_i y), (3, ov_i tm), (4, ov_i ((1200 * ((6 * y) + x)) + tm)), (5, ov_i (Int.tmod ((h 90 34) + tm) (h 96 9))), (6, ov_i x6), (7, ov_i 1), (8, ov_i x8), (9, ov_i (Int.tmod ((h 90 34) + tm) (h 96 9))), (10, ov_i v54)] [ov_i v98, ov_i x6] z113 h114 (P_Mo_chanceFrom_90 F z h go wt sf sm x y tm)
                have f129 : (h114 90 2) = (h71 90 2) ∧ (h114 90 7) = (h71 90 7) ∧ (h114 90 8) = (h71 90 8) ∧ (h114 90 13) = (h71 90 13) ∧ (h114 90 20) = (h71 90 20) ∧ (h114 90 22) = (h71 90 22) ∧ (h114 90 25) = (h71 90 25) ∧ (h114 90 26) = (h71 90 26) ∧ (h114 90 28) = (h71 90 28) ∧ (h114 90 29) = (h71 90 29) ∧ (h114 90 30) = (h71 90 30) ∧ (h114 90 34) = (h71 90 34) ∧ -2147483648 ≤ v98 ∧ v98 ≤ 2147483647 := f97
                clear f97
                rw [show h71 103 = h 103 from E83] at y112
                rw [show h71 96 = h 96 from E78] at y112
                rw [show h71 97 = h 97 from E79] at y112
                rw [show h71 98 = h 98 from E80] at y112
                have y112_ : ov_MI (h 96) (h 103) (h 97) (h 98) go wt sf sm (h114 105) (h114 106) := y112
                refine ov_blk (ls2 := [(0, ov_r 90), (1, ov_i x), (2, ov_i y), (3, ov_i tm), (4, ov_i ((1200 * ((6 * y) + x)) + tm)), (5, ov_i (Int.tmod ((h 90 34) + tm) (h 96 9))), (6, ov_i x6), (7, ov_i 1), (8, ov_i x8), (9, ov_i (Int.tmod ((h 90 34) + tm) (h 96 9))), (10, ov_i v54)]) (st2 := [ov_i (x6 + v98)]) (pc2 := 175) b_287_174_1 rfl rfl ?_
                refine ov_hav (fun w130 gw130 => ?_)
                refine ov_blk (ls2 := [(0, ov_r 90), (1, ov_i x), (2, ov_i y), (3, ov_i tm), (4, ov_i ((1200 * ((6 * y) + x)) + tm)), (5, ov_i (Int.tmod ((h 90 34) + tm) (h 96 9))), (6, ov_i w130), (7, ov_i 1), (8, ov_i (x8 + 1)), (9, ov_i (Int.tmod ((h 90 34) + tm) (h 96 9))), (10, ov_i v54)]) (st2 := []) (pc2 := 180) b_287_175_2 rfl rfl ?_
                refine ov_goto (tgt := 102) d_287_180 (by decide) ?_
                refine ov_sub (ls2 := [(0, ov_r 90), (1, ov_i x), (2, ov_i y), (3, ov_i tm), (4, ov_i ((1200 * ((6 * y) + x)) + tm)), (5, ov_i (Int.tmod ((h 90 34) + tm) (h 96 9))), (6, ov_i w130), (7, ov_i 1), (8, ov_i (x8 + 1))]) (List.Sublist.subset (by repeat (first | exact List.Sublist.refl _ | apply List.Sublist.cons_cons | apply List.Sublist.cons))) ?_
                exact ih19 w130 (x8 + 1) _ _ I115 E116 E117 E118 E119 E120 E121 E122 E123 E124 E125 E126 E127 E128 y112_ (by show 0 ≤ (x8 + 1) ∧ (x8 + 1) ≤ 60 ∧ (x8 + 1) ≤ 1 ∧ ov_g w130 ∧ (h114 90 2) = (h 90 2) ∧ (h114 90 7) = (h 90 7) ∧ (h114 90 8) = (h 90 8) ∧ (h114 90 13) = (h 90 13) ∧ (h114 90 20) = (h 90 20) ∧ (h114 90 22) = (h 90 22) ∧ (h114 90 25) = (h 90 25) ∧ (h114 90 26) = (h 90 26) ∧ (h114 90 28) = (h 90 28) ∧ (h114 90 29) = (h 90 29) ∧ (h114 90 30) = (h 90 30) ∧ (h114 90 34) = (h 90 34); omega) (by omega)
              · skip
                have f46_ : v45 = 1 := by omega
                have f131 : ((h 96 (10 + 4 * (6 * y + x))) = 2 ∧ ¬ (h 103 (4 + 6 * y + x)) = 1 ∧ ¬ 6 * y + x = (h23 90 29)) := f46.2.1 (by omega)
                clear f46
                exfalso; omega
        exact L21 61 0 0 _ _ I rfl rfl rfl rfl rfl rfl rfl rfl rfl rfl rfl rfl rfl MI (by show 0 ≤ 0 ∧ 0 ≤ 60 ∧ 0 ≤ 1 ∧ ov_g 0 ∧ (h 90 2) = (h 90 2) ∧ (h 90 7) = (h 90 7) ∧ (h 90 8) = (h 90 8) ∧ (h 90 13) = (h 90 13) ∧ (h 90 20) = (h 90 20) ∧ (h 90 22) = (h 90 22) ∧ (h 90 25) = (h 90 25) ∧ (h 90 26) = (h 90 26) ∧ (h 90 28) = (h 90 28) ∧ (h 90 29) = (h 90 29) ∧ (h 90 30) = (h 90 30) ∧ (h 90 34) = (h 90 34); omega) (by omega)
      · skip
        have f15_ : v14 = 1 := by omega
        have f132 : ((h 96 (10 + 4 * (6 * y + x))) = 2 ∧ ¬ (h 103 (4 + 6 * y + x)) = 1 ∧ ¬ 6 * y + x = (h 90 29)) := f15.2.1 (by omega)
        clear f15
        refine ov_blk (ls2 := [(0, ov_r 90), (1, ov_i x), (2, ov_i y), (3, ov_i tm), (4, ov_i ((1200 * ((6 * y) + x)) + tm)), (5, ov_i (Int.tmod ((h 90 34) + tm) (h 96 9))), (6, ov_i 0)]) (st2 := [ov_i 1, ov_i y, ov_i x, ov_r 90]) (pc2 := 90) b_287_86_4 rfl rfl ?_
        refine ov_cV (as := [ov_i x, ov_i y, ov_i 1]) (st := []) (d2 := d - 1) d_287_90 lk_Mo_289 rfl (Nat.le_of_ble_eq_true rfl) (c := 1) (zb_90 I) (zs_90 I) ⟨by decide, rfl⟩ (by omega) (c_Mo_lightAt_90 (d - 1) (by omega) U I x y 1 (by omega) (by omega) (by omega) (by omega) (by omega)) ?_
        rintro _ _ _ ⟨v134, rfl, rfl, rfl, f133⟩
        show ov_R u d ov_m287 93 [(0, ov_r 90), (1, ov_i x), (2, ov_i y), (3, ov_i tm), (4, ov_i ((1200 * ((6 * y) + x)) + tm)), (5, ov_i (Int.tmod ((h 90 34) + tm) (h 96 9))), (6, ov_i 0)] [ov_i v134] z h (P_Mo_chanceFrom_90 F z h go wt sf sm x y tm)
        have f135 : v134 = (h 96 (10 + 4 * (6 * y + x) + (1 : Int))) ∧ ((1 : Int) = 1 → 0 ≤ v134 ∧ v134 ≤ 60) ∧ ((1 : Int) = 2 → 0 ≤ v134 ∧ v134 ≤ 59) ∧ ((1 : Int) = 3 → 0 ≤ v134 ∧ v134 ≤ 60) := f133
        clear f133
        refine ov_goto (tgt := 97) d_287_93 (by decide) ?_
        refine ov_blk (ls2 := [(0, ov_r 90), (1, ov_i x), (2, ov_i y), (3, ov_i tm), (4, ov_i ((1200 * ((6 * y) + x)) + tm)), (5, ov_i (Int.tmod ((h 90 34) + tm) (h 96 9))), (6, ov_i 0), (7, ov_i v134), (8, ov_i 0)]) (st2 := []) (pc2 := 102) b_287_97_3 rfl rfl ?_
        have L139 : ∀ (n136 : Nat) (x6_ : Int) (x8_ : Int) (z140 : ov_Z) (h141 : ov_H) (I142 : ov_N F z140 h141) (E143 : h141 91 = h 91) (E144 : h141 92 = h 92) (E145 : h141 93 = h 93) (E146 : h141 94 = h 94) (E147 : h141 95 = h 95) (E148 : h141 96 = h 96) (E149 : h141 97 = h 97) (E150 : h141 98 = h 98) (E151 : h141 99 = h 99) (E152 : h141 100 = h 100) (E153 : h141 103 = h 103) (E154 : h141 109 = h 109) (E155 : h141 114 = h 114) (xm : ov_MI (h 96) (h 103) (h 97) (h 98) go wt sf sm (h141 105) (h141 106)) (q138 : 0 ≤ x8_ ∧ x8_ ≤ 60 ∧ x8_ ≤ v134 ∧ ov_g x6_ ∧ (h141 90 2) = (h 90 2) ∧ (h141 90 7) = (h 90 7) ∧ (h141 90 8) = (h 90 8) ∧ (h141 90 13) = (h 90 13) ∧ (h141 90 20) = (h 90 20) ∧ (h141 90 22) = (h 90 22) ∧ (h141 90 25) = (h 90 25) ∧ (h141 90 26) = (h 90 26) ∧ (h141 90 28) = (h 90 28) ∧ (h141 90 29) = (h 90 29) ∧ (h141 90 30) = (h 90 30) ∧ (h141 90 34) = (h 90 34)), 60 - x8_ < (n136 : Int) → ov_R u d ov_m287 102 [(0, ov_r 90), (1, ov_i x), (2, ov_i y), (3, ov_i tm), (4, ov_i ((1200 * ((6 * y) + x)) + tm)), (5, ov_i (Int.tmod ((h 90 34) + tm) (h 96 9))), (6, ov_i x6_), (7, ov_i v134), (8, ov_i x8_)] [] z140 h141 (P_Mo_chanceFrom_90 F z h go wt sf sm x y tm) := by
          intro n136
          induction n136 with
          | zero =>
            intro x6_ x8_ z140 h141 I142 E143 E144 E145 E146 E147 E148 E149 E150 E151 E152 E153 E154 E155 xm q138 hn156
            exact absurd hn156 (by omega)
          | succ n136 ih137 =>
            intro x6_ x8_ z140 h141 I142 E143 E144 E145 E146 E147 E148 E149 E150 E151 E152 E153 E154 E155 xm q138 hn156
            refine ov_blk (ls2 := [(0, ov_r 90), (1, ov_i x), (2, ov_i y), (3, ov_i tm), (4, ov_i ((1200 * ((6 * y) + x)) + tm)), (5, ov_i (Int.tmod ((h 90 34) + tm) (h 96 9))), (6, ov_i x6_), (7, ov_i v134), (8, ov_i x8_)]) (st2 := [ov_i v134, ov_i x8_]) (pc2 := 106) b_287_102_2 rfl rfl ?_
            refine ov_icge (tgt := 183) d_287_106 (by decide) (by omega) (by omega) (fun c157 => ?_) (fun c157 => ?_)
            · skip
              refine ov_blk (ls2 := [(0, ov_r 90), (1, ov_i x), (2, ov_i y), (3, ov_i tm), (4, ov_i ((1200 * ((6 * y) + x)) + tm)), (5, ov_i (Int.tmod ((h 90 34) + tm) (h 96 9))), (6, ov_i x6_), (7, ov_i v134), (8, ov_i x8_)]) (st2 := [ov_r 90]) (pc2 := 184) b_287_183_1 rfl rfl ?_
              refine ov_getf (v := ov_r 107) d_287_184 fl_Mo_122 (zb_90 I142) (zs_90 I142) (congrArg ov_r (rg_90_31 I142)) ?_
              refine ov_blk (ls2 := [(0, ov_r 90), (1, ov_i x), (2, ov_i y), (3, ov_i tm), (4, ov_i ((1200 * ((6 * y) + x)) + tm)), (5, ov_i (Int.tmod ((h 90 34) + tm) (h 96 9))), (6, ov_i x6_), (7, ov_i v134), (8, ov_i x8_)]) (st2 := [ov_i v134, ov_i x6_, ov_i ((1200 * ((6 * y) + x)) + tm), ov_r 107]) (pc2 := 193) b_287_187_3 rfl rfl ?_
              have xd := ov_tdt (a := x6_) (b := v134) (by omega)
              refine ov_idiv d_287_193 (by omega) (by omega) (by omega) ?_
              refine ov_iast d_287_194 (zb_107 I142) (zs_107 I142) (by omega) ?_
              have I158 := ua_107 (k := ((1200 * ((6 * y) + x)) + tm)) (x := (Int.tdiv x6_ v134)) I142 (by omega)
              refine ov_blk (ls2 := [(0, ov_r 90), (1, ov_i x), (2, ov_i y), (3, ov_i tm), (4, ov_i ((1200 * ((6 * y) + x)) + tm)), (5, ov_i (Int.tmod ((h 90 34) + tm) (h 96 9))), (6, ov_i x6_), (7, ov_i v134), (8, ov_i x8_)]) (st2 := [ov_r 90]) (pc2 := 196) b_287_195_1 rfl rfl ?_
              refine ov_getf (v := ov_r 108) d_287_196 fl_Mo_125 (zb_90 I158) (zs_90 I158) (congrArg ov_r (rg_90_32 I158)) ?_
              refine ov_blk (ls2 := [(0, ov_r 90), (1, ov_i x), (2, ov_i y), (3, ov_i tm), (4, ov_i ((1200 * ((6 * y) + x)) + tm)), (5, ov_i (Int.tmod ((h 90 34) + tm) (h 96 9))), (6, ov_i x6_), (7, ov_i v134), (8, ov_i x8_)]) (st2 := [ov_r 90, ov_i ((1200 * ((6 * y) + x)) + tm), ov_r 108]) (pc2 := 202) b_287_199_2 rfl rfl ?_
              refine ov_getf (v := ov_i (h141 90 33)) d_287_202 fl_Mo_405 (zb_90 I158) (zs_90 I158) rfl ?_
              have g159 := rg_90_33 I142
              refine ov_iast d_287_205 (zb_108 I158) (zs_108 I158) (by omega) ?_
              have I160 := ua_108 (k := ((1200 * ((6 * y) + x)) + tm)) (x := (h141 90 33)) I158 (by omega)
              refine ov_blk (ls2 := [(0, ov_r 90), (1, ov_i x), (2, ov_i y), (3, ov_i tm), (4, ov_i ((1200 * ((6 * y) + x)) + tm)), (5, ov_i (Int.tmod ((h 90 34) + tm) (h 96 9))), (6, ov_i x6_), (7, ov_i v134), (8, ov_i x8_)]) (st2 := [ov_r 90]) (pc2 := 207) b_287_206_1 rfl rfl ?_
              refine ov_getf (v := ov_r 107) d_287_207 fl_Mo_122 (zb_90 I160) (zs_90 I160) (congrArg ov_r (rg_90_31 I160)) ?_
              refine ov_blk (ls2 := [(0, ov_r 90), (1, ov_i x), (2, ov_i y), (3, ov_i tm), (4, ov_i ((1200 * ((6 * y) + x)) + tm)), (5, ov_i (Int.tmod ((h 90 34) + tm) (h 96 9))), (6, ov_i x6_), (7, ov_i v134), (8, ov_i x8_)]) (st2 := [ov_i ((1200 * ((6 * y) + x)) + tm), ov_r 107]) (pc2 := 212) b_287_210_1 rfl rfl ?_
              refine ov_iald d_287_212 (zb_107 I160) (zs_107 I160) (by omega) ?_
              show ov_R u d ov_m287 213 [(0, ov_r 90), (1, ov_i x), (2, ov_i y), (3, ov_i tm), (4, ov_i ((1200 * ((6 * y) + x)) + tm)), (5, ov_i (Int.tmod ((h 90 34) + tm) (h 96 9))), (6, ov_i x6_), (7, ov_i v134), (8, ov_i x8_)] [ov_i ((ov_up h141 107 ((1200 * ((6 * y) + x)) + tm) (Int.tdiv x6_ v134)) 107 ((1200 * ((6 * y) + x)) + tm))] z140 (ov_up (ov_up h141 107 ((1200 * ((6 * y) + x)) + tm) (Int.tdiv x6_ v134)) 108 ((1200 * ((6 * y) + x)) + tm) (h141 90 33)) (P_Mo_chanceFrom_90 F z h go wt sf sm x y tm)
              have g161 := ra_107 I160 ((1200 * ((6 * y) + x)) + tm)
              have gr : -2147483648 ≤ ((ov_up h141 107 ((1200 * ((6 * y) + x)) + tm) (Int.tdiv x6_ v134)) 107 ((1200 * ((6 * y) + x)) + tm)) ∧ ((ov_up h141 107 ((1200 * ((6 * y) + x)) + tm) (Int.tdiv x6_ v134)) 107 ((1200 * ((6 * y) + x)) + tm)) ≤ 2147483647 := ra_107 I160 ((1200 * ((6 * y) + x)) + tm)
              exact ov_reti (st := []) d_287_213 rfl ⟨_, rfl, I160, (by show (h141 90 2) = (h 90 2) ∧ (h141 90 7) = (h 90 7) ∧ (h141 90 8) = (h 90 8) ∧ (h141 90 13) = (h 90 13) ∧ (h141 90 20) = (h 90 20) ∧ (h141 90 22) = (h 90 22) ∧ (h141 90 25) = (h 90 25) ∧ (h141 90 26) = (h 90 26) ∧ (h141 90 28) = (h 90 28) ∧ (h141 90 29) = (h 90 29) ∧ (h141 90 30) = (h 90 30) ∧ (h141 90 34) = (h 90 34) ∧ -2147483648 ≤ ((ov_up h141 107 ((1200 * ((6 * y) + x)) + tm) (Int.tdiv x6_ v134)) 107 ((1200 * ((6 * y) + x)) + tm)) ∧ ((ov_up h141 107 ((1200 * ((6 * y) + x)) + tm) (Int.tdiv x6_ v134)) 107 ((1200 * ((6 * y) + x)) + tm)) ≤ 2147483647; omega), E143, E144, E145, E146, E147, E148, E149, E150, E151, E152, E153, E154, E155, xm⟩
            · skip
              refine ov_blk (ls2 := [(0, ov_r 90), (1, ov_i x), (2, ov_i y), (3, ov_i tm), (4, ov_i ((1200 * ((6 * y) + x)) + tm)), (5, ov_i (Int.tmod ((h 90 34) + tm) (h 96 9))), (6, ov_i x6_), (7, ov_i v134), (8, ov_i x8_)]) (st2 := [ov_i y, ov_i x, ov_r 90]) (pc2 := 112) b_287_109_3 rfl rfl ?_
              refine ov_cV (as := [ov_i x, ov_i y]) (st := []) (d2 := d - 1) d_287_112 lk_Mo_362 rfl (Nat.le_of_ble_eq_true rfl) (c := 1) (zb_90 I142) (zs_90 I142) ⟨by decide, rfl⟩ (by omega) (c_Mo_isUnknown_90 (d - 1) (by omega) U I142 x y (by omega) (by omega) (by omega)) ?_
              rintro _ _ _ ⟨v163, rfl, rfl, rfl, f162⟩
              show ov_R u d ov_m287 115 [(0, ov_r 90), (1, ov_i x), (2, ov_i y), (3, ov_i tm), (4, ov_i ((1200 * ((6 * y) + x)) + tm)), (5, ov_i (Int.tmod ((h 90 34) + tm) (h 96 9))), (6, ov_i x6_), (7, ov_i v134), (8, ov_i x8_)] [ov_i v163] z140 h141 (P_Mo_chanceFrom_90 F z h go wt sf sm x y tm)
              rw [show h141 103 = h 103 from E153] at f162
              rw [show h141 96 = h 96 from E148] at f162
              have f164 : (v163 = 0 ∨ v163 = 1) ∧ (v163 = 1 → ((h 96 (10 + 4 * (6 * y + x))) = 2 ∧ ¬ (h 103 (4 + 6 * y + x)) = 1 ∧ ¬ 6 * y + x = (h141 90 29))) ∧ (v163 = 0 → ¬ ((h 96 (10 + 4 * (6 * y + x))) = 2 ∧ ¬ (h 103 (4 + 6 * y + x)) = 1 ∧ ¬ 6 * y + x = (h141 90 29))) := f162
              clear f162
              refine ov_ifeq (tgt := 123) d_287_115 (by decide) (by omega) (fun c165 => ?_) (fun c165 => ?_)
              · skip
                have f164_ : v163 = 0 := by omega
                have f166 : ¬ ((h 96 (10 + 4 * (6 * y + x))) = 2 ∧ ¬ (h 103 (4 + 6 * y + x)) = 1 ∧ ¬ 6 * y + x = (h141 90 29)) := f164.2.2 (by omega)
                clear f164
                exfalso; omega
              · skip
                have f164_ : v163 = 1 := by omega
                have f167 : ((h 96 (10 + 4 * (6 * y + x))) = 2 ∧ ¬ (h 103 (4 + 6 * y + x)) = 1 ∧ ¬ 6 * y + x = (h141 90 29)) := f164.2.1 (by omega)
                clear f164
                refine ov_blk (ls2 := [(0, ov_r 90), (1, ov_i x), (2, ov_i y), (3, ov_i tm), (4, ov_i ((1200 * ((6 * y) + x)) + tm)), (5, ov_i (Int.tmod ((h 90 34) + tm) (h 96 9))), (6, ov_i x6_), (7, ov_i v134), (8, ov_i x8_)]) (st2 := [ov_i x8_]) (pc2 := 120) b_287_118_1 rfl rfl ?_
                refine ov_goto (tgt := 125) d_287_120 (by decide) ?_
                refine ov_blk (ls2 := [(0, ov_r 90), (1, ov_i x), (2, ov_i y), (3, ov_i tm), (4, ov_i ((1200 * ((6 * y) + x)) + tm)), (5, ov_i (Int.tmod ((h 90 34) + tm) (h 96 9))), (6, ov_i x6_), (7, ov_i v134), (8, ov_i x8_), (9, ov_i x8_)]) (st2 := []) (pc2 := 127) b_287_125_1 rfl rfl ?_
                have gq : ov_gs (h 96) (h 97) (h 98) (ov_go (h 96) (h 103) (h 97) (h 98) go wt sf) go x y (Int.tmod ((h 90 34) + tm) (h 96 9)) x8_ := (ov_go_h (by omega) (by omega) (by omega)).mpr go1 x8_ (by omega) (by omega)
                refine ov_blk (ls2 := [(0, ov_r 90), (1, ov_i x), (2, ov_i y), (3, ov_i tm), (4, ov_i ((1200 * ((6 * y) + x)) + tm)), (5, ov_i (Int.tmod ((h 90 34) + tm) (h 96 9))), (6, ov_i x6_), (7, ov_i v134), (8, ov_i x8_), (9, ov_i x8_)]) (st2 := [ov_i x8_, ov_i (Int.tmod ((h 90 34) + tm) (h 96 9)), ov_i y, ov_i x, ov_r 90]) (pc2 := 134) b_287_127_5 rfl rfl ?_
                have cf168 : h141 96 (0) = h 96 (0) := congrFun E148 (0)
                have cf169 : h141 96 (1) = h 96 (1) := congrFun E148 (1)
                have cf170 : h141 96 (9) = h 96 (9) := congrFun E148 (9)
                have cf171 : h141 96 (8) = h 96 (8) := congrFun E148 (8)
                refine ov_cV (as := [ov_i x, ov_i y, ov_i (Int.tmod ((h 90 34) + tm) (h 96 9)), ov_i x8_]) (st := []) (d2 := d - 1) d_287_134 lk_Mo_371 rfl (Nat.le_of_ble_eq_true rfl) (c := 1) (zb_90 I142) (zs_90 I142) ⟨by decide, rfl⟩ (by omega) (c_Mo_wayOf_90_all go wt sf sm (Int.toNat (13 - (x) - (y))) (d - 1) (by omega) U I142 x y (Int.tmod ((h 90 34) + tm) (h 96 9)) x8_ (by omega) (by omega) (by omega) (by omega) (by omega) (by show x < (h141 96 0) ∧ y < (h141 96 1); omega) (by omega) (by show 0 ≤ (Int.tmod ((h 90 34) + tm) (h 96 9)) ∧ (Int.tmod ((h 90 34) + tm) (h 96 9)) < (h141 96 9); omega) (by omega) (by show (h141 90 26) = go; omega) (by show (h141 90 29) = wt; omega) (by show (h141 90 30) = sf; omega) (by show (h141 90 25) = sm; omega) (by show 0 ≤ go ∧ go ≤ 3 + (h141 96 8); omega) (by rw [show h141 96 = h 96 from E148]; exact W) (by rw [show h141 96 = h 96 from E148, show h141 97 = h 97 from E149, show h141 98 = h 98 from E150]; exact CD) (by rw [show h141 96 = h 96 from E148, show h141 103 = h 103 from E153, show h141 97 = h 97 from E149, show h141 98 = h 98 from E150]; exact xm)) ?_
                rintro _ z189 h190 ⟨v173, rfl, I191, f172, e174, e175, e176, e177, e178, e179, e180, e181, e182, e183, e184, e185, e186, y187, y188⟩
                have E192 : h190 91 = h 91 := Eq.trans e174 E143
                have E193 : h190 92 = h 92 := Eq.trans e175 E144
                have E194 : h190 93 = h 93 := Eq.trans e176 E145
                have E195 : h190 94 = h 94 := Eq.trans e177 E146
                have E196 : h190 95 = h 95 := Eq.trans e178 E147
                have E197 : h190 96 = h 96 := Eq.trans e179 E148
                have E198 : h190 97 = h 97 := Eq.trans e180 E149
                have E199 : h190 98 = h 98 := Eq.trans e181 E150
                have E200 : h190 99 = h 99 := Eq.trans e182 E151
                have E201 : h190 100 = h 100 := Eq.trans e183 E152
                have E202 : h190 103 = h 103 := Eq.trans e184 E153
                have E203 : h190 109 = h 109 := Eq.trans e185 E154
                have E204 : h190 114 = h 114 := Eq.trans e186 E155
                show ov_R u d ov_m287 137 [(0, ov_r 90), (1, ov_i x), (2, ov_i y), (3, ov_i tm), (4, ov_i ((1200 * ((6 * y) + x)) + tm)), (5, ov_i (Int.tmod ((h 90 34) + tm) (h 96 9))), (6, ov_i x6_), (7, ov_i v134), (8, ov_i x8_), (9, ov_i x8_)] [ov_i v173] z189 h190 (P_Mo_chanceFrom_90 F z h go wt sf sm x y tm)
                have f205 : (h190 90 2) = (h141 90 2) ∧ (h190 90 7) = (h141 90 7) ∧ (h190 90 8) = (h141 90 8) ∧ (h190 90 13) = (h141 90 13) ∧ (h190 90 20) = (h141 90 20) ∧ (h190 90 22) = (h141 90 22) ∧ (h190 90 25) = (h141 90 25) ∧ (h190 90 26) = (h141 90 26) ∧ (h190 90 28) = (h141 90 28) ∧ (h190 90 29) = (h141 90 29) ∧ (h190 90 30) = (h141 90 30) ∧ (h190 90 34) = (h141 90 34) ∧ -1 ≤ v173 ∧ v173 ≤ 1 := f172
                clear f172
                rw [show h141 103 = h 103 from E153] at y187
                rw [show h141 96 = h 96 from E148] at y187
                rw [show h141 97 = h 97 from E149] at y187
                rw [show h141 98 = h 98 from E150] at y187
                have y187_ : ov_MI (h 96) (h 103) (h 97) (h 98) go wt sf sm (h190 105) (h190 106) := y187
                rw [show h141 103 = h 103 from E153] at y188
                rw [show h141 96 = h 96 from E148] at y188
                rw [show h141 97 = h 97 from E149] at y188
                rw [show h141 98 = h 98 from E150] at y188
                have y188_ : ov_wf (h 96) (h 97) (h 98) (ov_go (h 96) (h 103) (h 97) (h 98) go wt sf) go x y (Int.tmod ((h 90 34) + tm) (h 96 9)) x8_ v173 := y188
                have r0 : 0 ≤ v173 := if c : 0 ≤ v173 then c else absurd gq (ov_wf_no y188_ (by omega))
                have cg := (ov_cgi_sp (h 96) x y v173).2 (y188_.1 r0)
                have gn := (ov_wf_gs y188_ r0).mpr gq
                refine ov_blk (ls2 := [(0, ov_r 90), (1, ov_i x), (2, ov_i y), (3, ov_i tm), (4, ov_i ((1200 * ((6 * y) + x)) + tm)), (5, ov_i (Int.tmod ((h 90 34) + tm) (h 96 9))), (6, ov_i x6_), (7, ov_i v134), (8, ov_i x8_), (9, ov_i x8_), (10, ov_i v173)]) (st2 := [ov_i x8_, ov_i v173, ov_i y, ov_i x, ov_r 90, ov_i tm, ov_i (y + v173), ov_i ((x + 1) - v173), ov_r 90, ov_i x6_]) (pc2 := 160) b_287_137_17 rfl rfl ?_
                have cf206 : h190 96 (10 + 4 * (6 * y + x)) = h 96 (10 + 4 * (6 * y + x)) := congrFun E197 (10 + 4 * (6 * y + x))
                have cf207 : h190 96 (10 + 4 * (6 * y + x) + 3) = h 96 (10 + 4 * (6 * y + x) + 3) := congrFun E197 (10 + 4 * (6 * y + x) + 3)
                have cf208 : h190 96 (10 + 4 * (6 * y + x) + 1) = h 96 (10 + 4 * (6 * y + x) + 1) := congrFun E197 (10 + 4 * (6 * y + x) + 1)
                refine ov_cV (as := [ov_i x, ov_i y, ov_i v173, ov_i x8_]) (st := [ov_i tm, ov_i (y + v173), ov_i ((x + 1) - v173), ov_r 90, ov_i x6_]) (d2 := d - 1) d_287_160 lk_Mo_315 rfl (Nat.le_of_ble_eq_true rfl) (c := 1) (zb_90 I191) (zs_90 I191) ⟨by decide, rfl⟩ (by omega) (c_Mo_waitFor_90 (d - 1) (by omega) U I191 x y v173 x8_ (by omega) (by omega) (by omega) (by omega) (by omega) (by omega) (by omega) (by show (((h190 96 (10 + 4 * (6 * y + x))) = 1 ∨ (h190 96 (10 + 4 * (6 * y + x))) = 2) → (v173 = 0 → 0 < (h190 96 (10 + 4 * (6 * y + x) + 3))) ∧ (¬ v173 = 0 → (h190 96 (10 + 4 * (6 * y + x) + 3)) < (h190 96 (10 + 4 * (6 * y + x) + 1)))); omega) (by rw [show h190 96 = h 96 from E197]; exact W)) ?_
                rintro _ _ _ ⟨v210, rfl, rfl, rfl, f209⟩
                show ov_R u d ov_m287 163 [(0, ov_r 90), (1, ov_i x), (2, ov_i y), (3, ov_i tm), (4, ov_i ((1200 * ((6 * y) + x)) + tm)), (5, ov_i (Int.tmod ((h 90 34) + tm) (h 96 9))), (6, ov_i x6_), (7, ov_i v134), (8, ov_i x8_), (9, ov_i x8_), (10, ov_i v173)] [ov_i v210, ov_i tm, ov_i (y + v173), ov_i ((x + 1) - v173), ov_r 90, ov_i x6_] z189 h190 (P_Mo_chanceFrom_90 F z h go wt sf sm x y tm)
                rw [show h190 96 = h 96 from E197] at f209
                have f211 : 0 ≤ v210 ∧ v210 ≤ 59 ∧ v210 = ov_wm (h 96) (6 * y + x) v173 x8_ := f209
                clear f209
                refine ov_blk (ls2 := [(0, ov_r 90), (1, ov_i x), (2, ov_i y), (3, ov_i tm), (4, ov_i ((1200 * ((6 * y) + x)) + tm)), (5, ov_i (Int.tmod ((h 90 34) + tm) (h 96 9))), (6, ov_i x6_), (7, ov_i v134), (8, ov_i x8_), (9, ov_i x8_), (10, ov_i v173)]) (st2 := [ov_r 90, ov_i (tm + v210), ov_i (y + v173), ov_i ((x + 1) - v173), ov_r 90, ov_i x6_]) (pc2 := 165) b_287_163_2 rfl rfl ?_
                refine ov_getf (v := ov_r 96) d_287_165 fl_Mo_81 (zb_90 I191) (zs_90 I191) (congrArg ov_r (rg_90_10 I191)) ?_
                refine ov_blk (ls2 := [(0, ov_r 90), (1, ov_i x), (2, ov_i y), (3, ov_i tm), (4, ov_i ((1200 * ((6 * y) + x)) + tm)), (5, ov_i (Int.tmod ((h 90 34) + tm) (h 96 9))), (6, ov_i x6_), (7, ov_i v134), (8, ov_i x8_), (9, ov_i x8_), (10, ov_i v173)]) (st2 := [ov_i 2, ov_r 96, ov_i (tm + v210), ov_i (y + v173), ov_i ((x + 1) - v173), ov_r 90, ov_i x6_]) (pc2 := 169) b_287_168_1 rfl rfl ?_
                refine ov_iald d_287_169 (zb_96 I191) (zs_96 I191) (by omega) ?_
                rw [show h190 96 = h 96 from E197]
                have g212 := t96_2 I
                refine ov_blk (ls2 := [(0, ov_r 90), (1, ov_i x), (2, ov_i y), (3, ov_i tm), (4, ov_i ((1200 * ((6 * y) + x)) + tm)), (5, ov_i (Int.tmod ((h 90 34) + tm) (h 96 9))), (6, ov_i x6_), (7, ov_i v134), (8, ov_i x8_), (9, ov_i x8_), (10, ov_i v173)]) (st2 := [ov_i ((tm + v210) + (h 96 2)), ov_i (y + v173), ov_i ((x + 1) - v173), ov_r 90, ov_i x6_]) (pc2 := 171) b_287_170_1 rfl rfl ?_
                have ec : ((h190 90 34) + ((tm + v210) + (h 96 2))) % h 96 9 = ov_nx (h 96) (Int.tmod ((h 90 34) + tm) (h 96 9)) (ov_wm (h 96) (6 * y + x) v173 x8_) := by rw [show (h190 90 34) = h 90 34 by omega, show v210 = ov_wm (h 96) (6 * y + x) v173 x8_ by omega]; exact ov_nxa gt2
                have cf213 : h190 96 (0) = h 96 (0) := congrFun E197 (0)
                have cf214 : h190 96 (1) = h 96 (1) := congrFun E197 (1)
                have cf215 : h190 96 (8) = h 96 (8) := congrFun E197 (8)
                refine ov_cV (as := [ov_i ((x + 1) - v173), ov_i (y + v173), ov_i ((tm + v210) + (h 96 2))]) (st := [ov_i x6_]) (d2 := d - 1) d_287_171 lk_Mo_408 rfl (Nat.le_of_ble_eq_true rfl) (c := 1) (zb_90 I191) (zs_90 I191) ⟨by decide, rfl⟩ (by omega) (HV (Int.toNat (13 - (((x + 1) - v173)) - ((y + v173)))) (by omega) (d - 1) (by omega) U I191 ((x + 1) - v173) (y + v173) ((tm + v210) + (h 96 2)) (by omega) (by omega) (by omega) (by omega) (by show ((x + 1) - v173) < (h190 96 0) ∧ (y + v173) < (h190 96 1); omega) (by omega) (by omega) (by omega) (by show (h190 90 26) = go; omega) (by show (h190 90 29) = wt; omega) (by show (h190 90 30) = sf; omega) (by show (h190 90 25) = sm; omega) (by show 0 ≤ go ∧ go ≤ 3 + (h190 96 8); omega) (by rw [show h190 96 = h 96 from E197]; exact W) (by rw [show h190 96 = h 96 from E197, show h190 97 = h 97 from E198, show h190 98 = h 98 from E199]; exact CD) (by rw [show h190 96 = h 96 from E197, show h190 103 = h 103 from E202, show h190 97 = h 97 from E198, show h190 98 = h 98 from E199]; exact y187_) (by rw [show h190 96 = h 96 from E197, show h190 103 = h 103 from E202, show h190 97 = h 97 from E198, show h190 98 = h 98 from E199, ec]; exact gn)) ?_
                rintro _ z232 h233 ⟨v217, rfl, I234, f216, e218, e219, e220, e221, e222, e223, e224, e225, e226, e227, e228, e229, e230, y231⟩
                have E235 : h233 91 = h 91 := Eq.trans e218 E192
                have E236 : h233 92 = h 92 := Eq.trans e219 E193
                have E237 : h233 93 = h 93 := Eq.trans e220 E194
                have E238 : h233 94 = h 94 := Eq.trans e221 E195
                have E239 : h233 95 = h 95 := Eq.trans e222 E196
                have E240 : h233 96 = h 96 := Eq.trans e223 E197
                have E241 : h233 97 = h 97 := Eq.trans e224 E198
                have E242 : h233 98 = h 98 := Eq.trans e225 E199
                have E243 : h233 99 = h 99 := Eq.trans e226 E200
                have E244 : h233 100 = h 100 := Eq.trans e227 E201
                have E245 : h233 103 = h 103 := Eq.trans e228 E202
                have E246 : h233 109 = h 109 := Eq.trans e229 E203
                have E247 : h233 114 = h 114 := Eq.trans e230 E204
                show ov_R u d ov_m287 174 [(0, ov_r 90), (1, ov_i x), (2, ov_i y), (3, ov_i tm), (4, ov_i ((1200 * ((6 * y) + x)) + tm)), (5, ov_i (Int.tmod ((h 90 34) + tm) (h 96 9))), (6, ov_i x6_), (7, ov_i v134), (8, ov_i x8_), (9, ov_i x8_), (10, ov_i v173)] [ov_i v217, ov_i x6_] z232 h233 (P_Mo_chanceFrom_90 F z h go wt sf sm x y tm)
                have f248 : (h233 90 2) = (h190 90 2) ∧ (h233 90 7) = (h190 90 7) ∧ (h233 90 8) = (h190 90 8) ∧ (h233 90 13) = (h190 90 13) ∧ (h233 90 20) = (h190 90 20) ∧ (h233 90 22) = (h190 90 22) ∧ (h233 90 25) = (h190 90 25) ∧ (h233 90 26) = (h190 90 26) ∧ (h233 90 28) = (h190 90 28) ∧ (h233 90 29) = (h190 90 29) ∧ (h233 90 30) = (h190 90 30) ∧ (h233 90 34) = (h190 90 34) ∧ -2147483648 ≤ v217 ∧ v217 ≤ 2147483647 := f216
                clear f216
                rw [show h190 103 = h 103 from E202] at y231
                rw [show h190 96 = h 96 from E197] at y231
                rw [show h190 97 = h 97 from E198] at y231
                rw [show h190 98 = h 98 from E199] at y231
                have y231_ : ov_MI (h 96) (h 103) (h 97) (h 98) go wt sf sm (h233 105) (h233 106) := y231
                refine ov_blk (ls2 := [(0, ov_r 90), (1, ov_i x), (2, ov_i y), (3, ov_i tm), (4, ov_i ((1200 * ((6 * y) + x)) + tm)), (5, ov_i (Int.tmod ((h 90 34) + tm) (h 96 9))), (6, ov_i x6_), (7, ov_i v134), (8, ov_i x8_), (9, ov_i x8_), (10, ov_i v173)]) (st2 := [ov_i (x6_ + v217)]) (pc2 := 175) b_287_174_1 rfl rfl ?_
                refine ov_hav (fun w249 gw249 => ?_)
                refine ov_blk (ls2 := [(0, ov_r 90), (1, ov_i x), (2, ov_i y), (3, ov_i tm), (4, ov_i ((1200 * ((6 * y) + x)) + tm)), (5, ov_i (Int.tmod ((h 90 34) + tm) (h 96 9))), (6, ov_i w249), (7, ov_i v134), (8, ov_i (x8_ + 1)), (9, ov_i x8_), (10, ov_i v173)]) (st2 := []) (pc2 := 180) b_287_175_2 rfl rfl ?_
                refine ov_goto (tgt := 102) d_287_180 (by decide) ?_
                refine ov_sub (ls2 := [(0, ov_r 90), (1, ov_i x), (2, ov_i y), (3, ov_i tm), (4, ov_i ((1200 * ((6 * y) + x)) + tm)), (5, ov_i (Int.tmod ((h 90 34) + tm) (h 96 9))), (6, ov_i w249), (7, ov_i v134), (8, ov_i (x8_ + 1))]) (List.Sublist.subset (by repeat (first | exact List.Sublist.refl _ | apply List.Sublist.cons_cons | apply List.Sublist.cons))) ?_
                exact ih137 w249 (x8_ + 1) _ _ I234 E235 E236 E237 E238 E239 E240 E241 E242 E243 E244 E245 E246 E247 y231_ (by show 0 ≤ (x8_ + 1) ∧ (x8_ + 1) ≤ 60 ∧ (x8_ + 1) ≤ v134 ∧ ov_g w249 ∧ (h233 90 2) = (h 90 2) ∧ (h233 90 7) = (h 90 7) ∧ (h233 90 8) = (h 90 8) ∧ (h233 90 13) = (h 90 13) ∧ (h233 90 20) = (h 90 20) ∧ (h233 90 22) = (h 90 22) ∧ (h233 90 25) = (h 90 25) ∧ (h233 90 26) = (h 90 26) ∧ (h233 90 28) = (h 90 28) ∧ (h233 90 29) = (h 90 29) ∧ (h233 90 30) = (h 90 30) ∧ (h233 90 34) = (h 90 34); omega) (by omega)
        exact L139 61 0 0 _ _ I rfl rfl rfl rfl rfl rfl rfl rfl rfl rfl rfl rfl rfl MI (by show 0 ≤ 0 ∧ 0 ≤ 60 ∧ 0 ≤ v134 ∧ ov_g 0 ∧ (h 90 2) = (h 90 2) ∧ (h 90 7) = (h 90 7) ∧ (h 90 8) = (h 90 8) ∧ (h 90 13) = (h 90 13) ∧ (h 90 20) = (h 90 20) ∧ (h 90 22) = (h 90 22) ∧ (h 90 25) = (h 90 25) ∧ (h 90 26) = (h 90 26) ∧ (h 90 28) = (h 90 28) ∧ (h 90 29) = (h 90 29) ∧ (h 90 30) = (h 90 30) ∧ (h 90 34) = (h 90 34); omega) (by omega)
  · skip
    have f3_ : v2 = 1 := by omega
    have f250 : x = (h 96 0) - 1 ∧ y = (h 96 1) - 1 := f3.2.1 (by omega)
    clear f3
    refine ov_blk (ls2 := [(0, ov_r 90), (1, ov_i x), (2, ov_i y), (3, ov_i tm)]) (st2 := [ov_r 90]) (pc2 := 10) b_287_9_1 rfl rfl ?_
    refine ov_getf (v := ov_i (h 90 34)) d_287_10 fl_Mo_399 (zb_90 I) (zs_90 I) rfl ?_
    have g251 := rg_90_34 I
    refine ov_blk (ls2 := [(0, ov_r 90), (1, ov_i x), (2, ov_i y), (3, ov_i tm)]) (st2 := [ov_r 90, ov_i ((h 90 34) + tm)]) (pc2 := 16) b_287_13_3 rfl rfl ?_
    refine ov_getf (v := ov_i (h 90 35)) d_287_16 fl_Mo_402 (zb_90 I) (zs_90 I) rfl ?_
    have g252 := rg_90_35 I
    refine ov_icgt (tgt := 28) d_287_19 (by decide) (by omega) (by omega) (fun c253 => ?_) (fun c253 => ?_)
    · skip
      refine ov_blk (ls2 := [(0, ov_r 90), (1, ov_i x), (2, ov_i y), (3, ov_i tm)]) (st2 := [ov_i 0]) (pc2 := 29) b_287_28_1 rfl rfl ?_
      exact ov_reti (st := []) d_287_29 rfl ⟨_, rfl, I, ⟨rfl, rfl, rfl, rfl, rfl, rfl, rfl, rfl, rfl, rfl, rfl, rfl, (by show -2147483648 ≤ 0 ∧ 0 ≤ 2147483647; omega)⟩, rfl, rfl, rfl, rfl, rfl, rfl, rfl, rfl, rfl, rfl, rfl, rfl, rfl, MI⟩
    · skip
      refine ov_ldcw (n := 1000000) d_287_22 kc_Mo_305 ?_
      refine ov_goto (tgt := 29) d_287_25 (by decide) ?_
      exact ov_reti (st := []) d_287_29 rfl ⟨_, rfl, I, ⟨rfl, rfl, rfl, rfl, rfl, rfl, rfl, rfl, rfl, rfl, rfl, rfl, (by show -2147483648 ≤ 1000000 ∧ 1000000 ≤ 2147483647; omega)⟩, rfl, rfl, rfl, rfl, rfl, rfl, rfl, rfl, rfl, rfl, rfl, rfl, rfl, MI⟩
theorem c_Mo_chanceFrom_90_all {u : ov_U} {F : ov_H × ov_Z} (go : Int) (wt : Int) (sf : Int) (sm : Int) (k : Nat) : ∀ {z : ov_Z} {h : ov_H} (d : Nat) (hd : (90 + 1 * k + 0) ≤ d) (U : ov_cap u) (I : ov_N F z h) (x : Int) (y : Int) (tm : Int) (g_x : ov_g x) (g_y : ov_g y) (g_tm : ov_g tm) (p0 : 0 ≤ x ∧ x ≤ 5 ∧ 0 ≤ y ∧ y ≤ 8) (p1 : x < (h 96 0) ∧ y < (h 96 1)) (p2 : x + y + (k : Int) = 13) (p3 : 0 ≤ tm ∧ tm + 89 * (k : Int) ≤ 1157) (p4 : wt = -1) (p5 : (h 90 26) = go) (p6 : (h 90 29) = wt) (p7 : (h 90 30) = sf) (p8 : (h 90 25) = sm) (p9 : 0 ≤ go ∧ go ≤ 3 + (h 96 8)) (W : ov_WT (h 96)) (CD : ov_CD (h 96) (h 97) (h 98)) (MI : ov_MI (h 96) (h 103) (h 97) (h 98) go wt sf sm (h 105) (h 106)) (GH : ov_go (h 96) (h 103) (h 97) (h 98) go wt sf x y (((h 90 34) + tm) % (h 96 9))), ov_T u d ov_m287 [ov_r 90, ov_i x, ov_i y, ov_i tm] z h (P_Mo_chanceFrom_90 F z h go wt sf sm x y tm) := by
  induction k using Nat.strongRecOn with
  | ind k ih => exact fun {z} {h} => @c_Mo_chanceFrom_90 u F go wt sf sm k (fun k' hk => @ih k' hk) z h
abbrev P_Mo_odds_90 (F : ov_H × ov_Z) (z : ov_Z) (h : ov_H) (ge : Int) (s : Int) (b : Int) : Option ov_V → ov_Z → ov_H → Prop := fun r0 z' h' => ∃ r : Int, r0 = some (ov_i r) ∧ ov_N F z' h' ∧ ((h' 90 2) = (h 90 2) ∧ (h' 90 7) = (h 90 7) ∧ (h' 90 8) = (h 90 8) ∧ (h' 90 13) = (h 90 13) ∧ (h' 90 20) = (h 90 20) ∧ (h' 90 22) = (h 90 22) ∧ (h 90 25) ≤ (h' 90 25) ∧ (h' 90 25) ≤ (h 90 25) + 1 ∧ -2147483648 ≤ r ∧ r ≤ 2147483647) ∧ h' 91 = h 91 ∧ h' 92 = h 92 ∧ h' 93 = h 93 ∧ h' 94 = h 94 ∧ h' 95 = h 95 ∧ h' 96 = h 96 ∧ h' 97 = h 97 ∧ h' 98 = h 98 ∧ h' 99 = h 99 ∧ h' 100 = h 100 ∧ h' 103 = h 103 ∧ h' 109 = h 109 ∧ h' 114 = h 114 ∧ (ov_PM (h 96) (h 103) (h 97) (h 98) (h' 105) (h' 106) (h' 90 22) (h' 90 25) (h' 90 26) (h' 90 28) (h' 90 29) (h' 90 30))
set_option maxHeartbeats 4000000 in
theorem c_Mo_odds_90 {u : ov_U} {F : ov_H × ov_Z} {z : ov_Z} {h : ov_H} (d : Nat) (hd : 110 ≤ d) (U : ov_cap u) (I : ov_N F z h) (ge : Int) (s : Int) (b : Int) (g_ge : ov_g ge) (g_s : ov_g s) (g_b : ov_g b) (p0 : 0 ≤ (h 90 25) ∧ (h 90 25) ≤ 1000000000) (W : ov_WT (h 96)) (CD : ov_CD (h 96) (h 97) (h 98)) (PM : ov_PM (h 96) (h 103) (h 97) (h 98) (h 105) (h 106) (h 90 22) (h 90 25) (h 90 26) (h 90 28) (h 90 29) (h 90 30)) : ov_T u d ov_m286 [ov_r 90, ov_i ge, ov_i s, ov_i b] z h (P_Mo_odds_90 F z h ge s b) := by
  refine ov_en rfl (Nat.le_of_ble_eq_true rfl) ?_
  show ov_R u d ov_m286 0 [(0, ov_r 90), (1, ov_i ge), (2, ov_i s), (3, ov_i b)] [] z h (P_Mo_odds_90 F z h ge s b)
  have t0 := t96_0 I
  have t1 := t96_1 I
  have t8 := t96_8 I
  have t9 := t96_9 I
  refine ov_blk (ls2 := [(0, ov_r 90), (1, ov_i ge), (2, ov_i s), (3, ov_i b)]) (st2 := [ov_i 0, ov_r 90]) (pc2 := 2) b_286_0_2 rfl rfl ?_
  refine ov_putf (x := 0) d_286_2 fl_Mo_1 (zb_90 I) (zs_90 I) rfl nk_0 rfl ?_
  have I1 := up_90_0 (x := 0) I (by omega)
  refine ov_blk (ls2 := [(0, ov_r 90), (1, ov_i ge), (2, ov_i s), (3, ov_i b)]) (st2 := [ov_i ge, ov_r 90]) (pc2 := 7) b_286_5_2 rfl rfl ?_
  refine ov_cV (as := [ov_i ge]) (st := []) (d2 := d - 1) d_286_7 lk_Mo_383 rfl (Nat.le_of_ble_eq_true rfl) (c := 1) (zb_90 I1) (zs_90 I1) ⟨by decide, rfl⟩ (by omega) (c_Mo_isGoer_90 (d - 1) (by omega) U I1 ge (by omega)) ?_
  rintro _ _ _ ⟨v3, rfl, rfl, rfl, f2⟩
  show ov_R u d ov_m286 10 [(0, ov_r 90), (1, ov_i ge), (2, ov_i s), (3, ov_i b)] [ov_i v3] z (ov_up h 90 0 0) (P_Mo_odds_90 F z h ge s b)
  have f4 : (v3 = 0 ∨ v3 = 1) ∧ (v3 = 1 → 0 ≤ ge ∧ ge ≤ 3 + (h 96 8)) := f2
  clear f2
  refine ov_ifeq (tgt := 29) d_286_10 (by decide) (by omega) (fun c5 => ?_) (fun c5 => ?_)
  · skip
    have f4_ : v3 = 0 := by omega
    clear f4
    refine ov_blk (ls2 := [(0, ov_r 90), (1, ov_i ge), (2, ov_i s), (3, ov_i b)]) (st2 := [ov_i (-1)]) (pc2 := 30) b_286_29_1 rfl rfl ?_
    exact ov_reti (st := []) d_286_30 rfl ⟨_, rfl, I1, ⟨rfl, rfl, rfl, rfl, rfl, rfl, (by show (h 90 25) ≤ (h 90 25) ∧ (h 90 25) ≤ (h 90 25) + 1 ∧ -2147483648 ≤ (-1) ∧ (-1) ≤ 2147483647; omega)⟩, rfl, rfl, rfl, rfl, rfl, rfl, rfl, rfl, rfl, rfl, rfl, rfl, rfl, PM⟩
  · skip
    have f4_ : v3 = 1 := by omega
    have f6 : 0 ≤ ge ∧ ge ≤ 3 + (h 96 8) := f4.2 (by omega)
    clear f4
    refine ov_blk (ls2 := [(0, ov_r 90), (1, ov_i ge), (2, ov_i s), (3, ov_i b)]) (st2 := [ov_i s, ov_r 90]) (pc2 := 15) b_286_13_2 rfl rfl ?_
    refine ov_cV (as := [ov_i s]) (st := []) (d2 := d - 1) d_286_15 lk_Mo_306 rfl (Nat.le_of_ble_eq_true rfl) (c := 1) (zb_90 I1) (zs_90 I1) ⟨by decide, rfl⟩ (by omega) (c_Mo_isSecond_90 (d - 1) (by omega) U I1 s (by omega)) ?_
    rintro _ _ _ ⟨v8, rfl, rfl, rfl, f7⟩
    show ov_R u d ov_m286 18 [(0, ov_r 90), (1, ov_i ge), (2, ov_i s), (3, ov_i b)] [ov_i v8] z (ov_up h 90 0 0) (P_Mo_odds_90 F z h ge s b)
    have f9 : (v8 = 0 ∨ v8 = 1) ∧ (v8 = 1 → 0 ≤ s ∧ s ≤ 1000000) := f7
    clear f7
    refine ov_ifeq (tgt := 29) d_286_18 (by decide) (by omega) (fun c10 => ?_) (fun c10 => ?_)
    · skip
      have f9_ : v8 = 0 := by omega
      clear f9
      refine ov_blk (ls2 := [(0, ov_r 90), (1, ov_i ge), (2, ov_i s), (3, ov_i b)]) (st2 := [ov_i (-1)]) (pc2 := 30) b_286_29_1 rfl rfl ?_
      exact ov_reti (st := []) d_286_30 rfl ⟨_, rfl, I1, ⟨rfl, rfl, rfl, rfl, rfl, rfl, (by show (h 90 25) ≤ (h 90 25) ∧ (h 90 25) ≤ (h 90 25) + 1 ∧ -2147483648 ≤ (-1) ∧ (-1) ≤ 2147483647; omega)⟩, rfl, rfl, rfl, rfl, rfl, rfl, rfl, rfl, rfl, rfl, rfl, rfl, rfl, PM⟩
    · skip
      have f9_ : v8 = 1 := by omega
      have f11 : 0 ≤ s ∧ s ≤ 1000000 := f9.2 (by omega)
      clear f9
      refine ov_blk (ls2 := [(0, ov_r 90), (1, ov_i ge), (2, ov_i s), (3, ov_i b)]) (st2 := [ov_i b, ov_r 90]) (pc2 := 23) b_286_21_2 rfl rfl ?_
      refine ov_cV (as := [ov_i b]) (st := []) (d2 := d - 1) d_286_23 lk_Mo_306 rfl (Nat.le_of_ble_eq_true rfl) (c := 1) (zb_90 I1) (zs_90 I1) ⟨by decide, rfl⟩ (by omega) (c_Mo_isSecond_90 (d - 1) (by omega) U I1 b (by omega)) ?_
      rintro _ _ _ ⟨v13, rfl, rfl, rfl, f12⟩
      show ov_R u d ov_m286 26 [(0, ov_r 90), (1, ov_i ge), (2, ov_i s), (3, ov_i b)] [ov_i v13] z (ov_up h 90 0 0) (P_Mo_odds_90 F z h ge s b)
      have f14 : (v13 = 0 ∨ v13 = 1) ∧ (v13 = 1 → 0 ≤ b ∧ b ≤ 1000000) := f12
      clear f12
      refine ov_ifne (tgt := 31) d_286_26 (by decide) (by omega) (fun c15 => ?_) (fun c15 => ?_)
      · skip
        have f14_ : v13 = 1 := by omega
        have f16 : 0 ≤ b ∧ b ≤ 1000000 := f14.2 (by omega)
        clear f14
        refine ov_blk (ls2 := [(0, ov_r 90), (1, ov_i ge), (2, ov_i s), (3, ov_i b)]) (st2 := [ov_i 0, ov_i (-1), ov_i 0, ov_i ge, ov_r 90]) (pc2 := 36) b_286_31_5 rfl rfl ?_
        refine ov_cV (as := [ov_i ge, ov_i 0, ov_i (-1), ov_i 0]) (st := []) (d2 := d - 1) d_286_36 lk_Mo_389 rfl (Nat.le_of_ble_eq_true rfl) (c := 1) (zb_90 I1) (zs_90 I1) ⟨by decide, rfl⟩ (by omega) (c_Mo_asks_90 (d - 1) (by omega) U I1 ge 0 (-1) 0 (by omega) (by omega) (by omega) (by omega) (by omega) (by omega) (by omega) (by show 0 ≤ (h 90 25) ∧ (h 90 25) ≤ 2000000000; omega)) ?_
        rintro _ z33 h34 ⟨rfl, I35, f17, e18, e19, e20, e21, e22, e23, e24, e25, e26, e27, e28, e29, e30, e31, e32⟩
        have E36 : h34 91 = h 91 := e18
        have E37 : h34 92 = h 92 := e19
        have E38 : h34 93 = h 93 := e20
        have E39 : h34 94 = h 94 := e21
        have E40 : h34 95 = h 95 := e22
        have E41 : h34 96 = h 96 := e23
        have E42 : h34 97 = h 97 := e24
        have E43 : h34 98 = h 98 := e25
        have E44 : h34 99 = h 99 := e26
        have E45 : h34 100 = h 100 := e27
        have E46 : h34 103 = h 103 := e28
        have E47 : h34 105 = h 105 := e29
        have E48 : h34 106 = h 106 := e30
        have E49 : h34 109 = h 109 := e31
        have E50 : h34 114 = h 114 := e32
        show ov_R u d ov_m286 39 [(0, ov_r 90), (1, ov_i ge), (2, ov_i s), (3, ov_i b)] [] z33 h34 (P_Mo_odds_90 F z h ge s b)
        have f51 : (h34 90 2) = (h 90 2) ∧ (h34 90 7) = (h 90 7) ∧ (h34 90 8) = (h 90 8) ∧ (h34 90 13) = (h 90 13) ∧ (h34 90 20) = (h 90 20) ∧ (h34 90 22) = (h 90 22) ∧ (h34 90 34) = (h 90 34) ∧ (h34 90 26) = ge ∧ (h34 90 27) = (0 : Int) ∧ (h34 90 28) = (h 90 22) ∧ (h34 90 29) = ((-1) : Int) ∧ (h34 90 30) = (0 : Int) ∧ (((h34 90 25) = (h 90 25) + 1) ∨ ((h34 90 25) = (h 90 25) ∧ (h 90 26) = ge ∧ (h 90 27) = (0 : Int) ∧ (h 90 28) = (h 90 22) ∧ (h 90 29) = ((-1) : Int) ∧ (h 90 30) = (0 : Int))) := f17
        clear f17
        have mi52 : ov_MI (h 96) (h 103) (h 97) (h 98) ge (-1) 0 (h34 90 25) (h 105) (h 106) := ov_PM_ask PM (by omega)
        refine ov_blk (ls2 := [(0, ov_r 90), (1, ov_i ge), (2, ov_i s), (3, ov_i b)]) (st2 := [ov_i s, ov_i 0, ov_i 0, ov_r 90]) (pc2 := 43) b_286_39_4 rfl rfl ?_
        have cf53 : h34 96 (0) = h 96 (0) := congrFun E41 (0)
        have cf54 : h34 96 (1) = h 96 (1) := congrFun E41 (1)
        have cf55 : h34 96 (8) = h 96 (8) := congrFun E41 (8)
        refine ov_cV (as := [ov_i 0, ov_i 0, ov_i s]) (st := []) (d2 := d - 1) d_286_43 lk_Mo_377 rfl (Nat.le_of_ble_eq_true rfl) (c := 1) (zb_90 I35) (zs_90 I35) ⟨by decide, rfl⟩ (by omega) (c_Mo_worthFrom_90_all ge ((-1)) 0 ((h34 90 25)) (Int.toNat (13 - (0) - (0))) (d - 1) (by omega) U I35 0 0 s (by omega) (by omega) (by omega) (by omega) (by show (0 : Int) < (h34 96 0) ∧ (0 : Int) < (h34 96 1); omega) (by omega) (by omega) (by show (h34 90 26) = ge; omega) (by show (h34 90 29) = ((-1) : Int); omega) (by show (h34 90 30) = (0 : Int); omega) (by show (h34 90 25) = (h34 90 25); omega) (by show 0 ≤ ge ∧ ge ≤ 3 + (h34 96 8); omega) (by rw [show h34 96 = h 96 from E41]; exact W) (by rw [show h34 96 = h 96 from E41, show h34 97 = h 97 from E42, show h34 98 = h 98 from E43]; exact CD) (by rw [show h34 96 = h 96 from E41, show h34 103 = h 103 from E46, show h34 97 = h 97 from E42, show h34 98 = h 98 from E43, show h34 105 = h 105 from E47, show h34 106 = h 106 from E48]; exact mi52)) ?_
        rintro _ z73 h74 ⟨v57, rfl, I75, f56, e58, e59, e60, e61, e62, e63, e64, e65, e66, e67, e68, e69, e70, y71, y72⟩
        have E76 : h74 91 = h 91 := Eq.trans e58 E36
        have E77 : h74 92 = h 92 := Eq.trans e59 E37
        have E78 : h74 93 = h 93 := Eq.trans e60 E38
        have E79 : h74 94 = h 94 := Eq.trans e61 E39
        have E80 : h74 95 = h 95 := Eq.trans e62 E40
        have E81 : h74 96 = h 96 := Eq.trans e63 E41
        have E82 : h74 97 = h 97 := Eq.trans e64 E42
        have E83 : h74 98 = h 98 := Eq.trans e65 E43
        have E84 : h74 99 = h 99 := Eq.trans e66 E44
        have E85 : h74 100 = h 100 := Eq.trans e67 E45
        have E86 : h74 103 = h 103 := Eq.trans e68 E46
        have E87 : h74 109 = h 109 := Eq.trans e69 E49
        have E88 : h74 114 = h 114 := Eq.trans e70 E50
        show ov_R u d ov_m286 46 [(0, ov_r 90), (1, ov_i ge), (2, ov_i s), (3, ov_i b)] [ov_i v57] z73 h74 (P_Mo_odds_90 F z h ge s b)
        have f89 : (h74 90 2) = (h34 90 2) ∧ (h74 90 7) = (h34 90 7) ∧ (h74 90 8) = (h34 90 8) ∧ (h74 90 13) = (h34 90 13) ∧ (h74 90 20) = (h34 90 20) ∧ (h74 90 22) = (h34 90 22) ∧ (h74 90 25) = (h34 90 25) ∧ (h74 90 26) = (h34 90 26) ∧ (h74 90 28) = (h34 90 28) ∧ (h74 90 29) = (h34 90 29) ∧ (h74 90 30) = (h34 90 30) ∧ (h74 90 34) = (h34 90 34) ∧ -1 ≤ v57 ∧ v57 ≤ 89000 * (13 - (0 : Int) - (0 : Int)) := f56
        clear f56
        rw [show h34 103 = h 103 from E46] at y71
        rw [show h34 96 = h 96 from E41] at y71
        rw [show h34 97 = h 97 from E42] at y71
        rw [show h34 98 = h 98 from E43] at y71
        have y71_ : ov_MI (h 96) (h 103) (h 97) (h 98) ge ((-1) : Int) (0 : Int) (h34 90 25) (h74 105) (h74 106) := y71
        rw [show h34 103 = h 103 from E46] at y72
        rw [show h34 96 = h 96 from E41] at y72
        rw [show h34 97 = h 97 from E42] at y72
        rw [show h34 98 = h 98 from E43] at y72
        have y72_ : (0 ≤ v57 ↔ ov_go (h 96) (h 103) (h 97) (h 98) ge ((-1) : Int) (0 : Int) (0 : Int) (0 : Int) (s % (h 96 9))) := y72
        refine ov_ifge (tgt := 51) d_286_46 (by decide) (by omega) (fun c90 => ?_) (fun c90 => ?_)
        · skip
          refine ov_blk (ls2 := [(0, ov_r 90), (1, ov_i ge), (2, ov_i s), (3, ov_i b)]) (st2 := [ov_r 90, ov_r 90]) (pc2 := 53) b_286_51_2 rfl rfl ?_
          refine ov_getf (v := ov_i (h74 90 33)) d_286_53 fl_Mo_405 (zb_90 I75) (zs_90 I75) rfl ?_
          have g91 := rg_90_33 I75
          refine ov_blk (ls2 := [(0, ov_r 90), (1, ov_i ge), (2, ov_i s), (3, ov_i b)]) (st2 := [ov_i ((h74 90 33) + 1), ov_r 90]) (pc2 := 58) b_286_56_2 rfl rfl ?_
          refine ov_hav (fun w92 gw92 => ?_)
          refine ov_putf (x := w92) d_286_58 fl_Mo_405 (zb_90 I75) (zs_90 I75) rfl nk_0 rfl ?_
          have I93 := up_90_33 (x := w92) I75 (by omega)
          refine ov_blk (ls2 := [(0, ov_r 90), (1, ov_i ge), (2, ov_i s), (3, ov_i b)]) (st2 := [ov_i s, ov_r 90]) (pc2 := 63) b_286_61_2 rfl rfl ?_
          refine ov_putf (x := s) d_286_63 fl_Mo_399 (zb_90 I93) (zs_90 I93) rfl nk_0 rfl ?_
          have I94 := up_90_34 (x := s) I93 (by omega)
          refine ov_blk (ls2 := [(0, ov_r 90), (1, ov_i ge), (2, ov_i s), (3, ov_i b)]) (st2 := [ov_i b, ov_r 90]) (pc2 := 68) b_286_66_2 rfl rfl ?_
          refine ov_putf (x := b) d_286_68 fl_Mo_402 (zb_90 I94) (zs_90 I94) rfl nk_0 rfl ?_
          have I95 := up_90_35 (x := b) I94 (by omega)
          refine ov_blk (ls2 := [(0, ov_r 90), (1, ov_i ge), (2, ov_i s), (3, ov_i b)]) (st2 := [ov_i 0, ov_i 0, ov_i 0, ov_r 90]) (pc2 := 75) b_286_71_4 rfl rfl ?_
          have cf96 : h74 96 (0) = h 96 (0) := congrFun E81 (0)
          have cf97 : h74 96 (1) = h 96 (1) := congrFun E81 (1)
          have cf98 : h74 96 (8) = h 96 (8) := congrFun E81 (8)
          refine ov_cV (as := [ov_i 0, ov_i 0, ov_i 0]) (st := []) (d2 := d - 1) d_286_75 lk_Mo_408 rfl (Nat.le_of_ble_eq_true rfl) (c := 1) (zb_90 I95) (zs_90 I95) ⟨by decide, rfl⟩ (by omega) (c_Mo_chanceFrom_90_all ge ((-1)) 0 ((h34 90 25)) (Int.toNat (13 - (0) - (0))) (d - 1) (by omega) U I95 0 0 0 (by omega) (by omega) (by omega) (by omega) (by show (0 : Int) < (h74 96 0) ∧ (0 : Int) < (h74 96 1); omega) (by omega) (by omega) (by omega) (by show (h74 90 26) = ge; omega) (by show (h74 90 29) = ((-1) : Int); omega) (by show (h74 90 30) = (0 : Int); omega) (by show (h74 90 25) = (h34 90 25); omega) (by show 0 ≤ ge ∧ ge ≤ 3 + (h74 96 8); omega) (by rw [show (ov_up (ov_up (ov_up h74 90 33 w92) 90 34 s) 90 35 b) 96 = h 96 from E81]; exact W) (by rw [show (ov_up (ov_up (ov_up h74 90 33 w92) 90 34 s) 90 35 b) 96 = h 96 from E81, show (ov_up (ov_up (ov_up h74 90 33 w92) 90 34 s) 90 35 b) 97 = h 97 from E82, show (ov_up (ov_up (ov_up h74 90 33 w92) 90 34 s) 90 35 b) 98 = h 98 from E83]; exact CD) (by rw [show (ov_up (ov_up (ov_up h74 90 33 w92) 90 34 s) 90 35 b) 96 = h 96 from E81, show (ov_up (ov_up (ov_up h74 90 33 w92) 90 34 s) 90 35 b) 103 = h 103 from E86, show (ov_up (ov_up (ov_up h74 90 33 w92) 90 34 s) 90 35 b) 97 = h 97 from E82, show (ov_up (ov_up (ov_up h74 90 33 w92) 90 34 s) 90 35 b) 98 = h 98 from E83]; exact y71_) (by rw [show (ov_up (ov_up (ov_up h74 90 33 w92) 90 34 s) 90 35 b) 96 = h 96 from E81, show (ov_up (ov_up (ov_up h74 90 33 w92) 90 34 s) 90 35 b) 103 = h 103 from E86, show (ov_up (ov_up (ov_up h74 90 33 w92) 90 34 s) 90 35 b) 97 = h 97 from E82, show (ov_up (ov_up (ov_up h74 90 33 w92) 90 34 s) 90 35 b) 98 = h 98 from E83]; show ov_go (h 96) (h 103) (h 97) (h 98) ge (-1) 0 0 0 ((s + 0) % h 96 9); rw [Int.add_zero]; exact y72_.mp (by omega))) ?_
          rintro _ z115 h116 ⟨v100, rfl, I117, f99, e101, e102, e103, e104, e105, e106, e107, e108, e109, e110, e111, e112, e113, y114⟩
          have E118 : h116 91 = h 91 := Eq.trans e101 E76
          have E119 : h116 92 = h 92 := Eq.trans e102 E77
          have E120 : h116 93 = h 93 := Eq.trans e103 E78
          have E121 : h116 94 = h 94 := Eq.trans e104 E79
          have E122 : h116 95 = h 95 := Eq.trans e105 E80
          have E123 : h116 96 = h 96 := Eq.trans e106 E81
          have E124 : h116 97 = h 97 := Eq.trans e107 E82
          have E125 : h116 98 = h 98 := Eq.trans e108 E83
          have E126 : h116 99 = h 99 := Eq.trans e109 E84
          have E127 : h116 100 = h 100 := Eq.trans e110 E85
          have E128 : h116 103 = h 103 := Eq.trans e111 E86
          have E129 : h116 109 = h 109 := Eq.trans e112 E87
          have E130 : h116 114 = h 114 := Eq.trans e113 E88
          show ov_R u d ov_m286 78 [(0, ov_r 90), (1, ov_i ge), (2, ov_i s), (3, ov_i b)] [ov_i v100] z115 h116 (P_Mo_odds_90 F z h ge s b)
          have f131 : (h116 90 2) = (h74 90 2) ∧ (h116 90 7) = (h74 90 7) ∧ (h116 90 8) = (h74 90 8) ∧ (h116 90 13) = (h74 90 13) ∧ (h116 90 20) = (h74 90 20) ∧ (h116 90 22) = (h74 90 22) ∧ (h116 90 25) = (h74 90 25) ∧ (h116 90 26) = (h74 90 26) ∧ (h116 90 28) = (h74 90 28) ∧ (h116 90 29) = (h74 90 29) ∧ (h116 90 30) = (h74 90 30) ∧ (h116 90 34) = s ∧ -2147483648 ≤ v100 ∧ v100 ≤ 2147483647 := f99
          clear f99
          rw [show (ov_up (ov_up (ov_up h74 90 33 w92) 90 34 s) 90 35 b) 103 = h 103 from E86] at y114
          rw [show (ov_up (ov_up (ov_up h74 90 33 w92) 90 34 s) 90 35 b) 96 = h 96 from E81] at y114
          rw [show (ov_up (ov_up (ov_up h74 90 33 w92) 90 34 s) 90 35 b) 97 = h 97 from E82] at y114
          rw [show (ov_up (ov_up (ov_up h74 90 33 w92) 90 34 s) 90 35 b) 98 = h 98 from E83] at y114
          have y114_ : ov_MI (h 96) (h 103) (h 97) (h 98) ge ((-1) : Int) (0 : Int) (h34 90 25) (h116 105) (h116 106) := y114
          have pm132 : ov_PM (h 96) (h 103) (h 97) (h 98) (h116 105) (h116 106) (h116 90 22) (h116 90 25) (h116 90 26) (h116 90 28) (h116 90 29) (h116 90 30) := ov_PM_mi y114_ (by omega) (by omega) (by omega) (by omega) (by omega) (by omega)
          exact ov_reti (st := []) d_286_78 rfl ⟨_, rfl, I117, (by show (h116 90 2) = (h 90 2) ∧ (h116 90 7) = (h 90 7) ∧ (h116 90 8) = (h 90 8) ∧ (h116 90 13) = (h 90 13) ∧ (h116 90 20) = (h 90 20) ∧ (h116 90 22) = (h 90 22) ∧ (h 90 25) ≤ (h116 90 25) ∧ (h116 90 25) ≤ (h 90 25) + 1 ∧ -2147483648 ≤ v100 ∧ v100 ≤ 2147483647; omega), E118, E119, E120, E121, E122, E123, E124, E125, E126, E127, E128, E129, E130, pm132⟩
        · skip
          refine ov_blk (ls2 := [(0, ov_r 90), (1, ov_i ge), (2, ov_i s), (3, ov_i b)]) (st2 := [ov_i (-1)]) (pc2 := 50) b_286_49_1 rfl rfl ?_
          have pm133 : ov_PM (h 96) (h 103) (h 97) (h 98) (h74 105) (h74 106) (h74 90 22) (h74 90 25) (h74 90 26) (h74 90 28) (h74 90 29) (h74 90 30) := ov_PM_mi y71_ (by omega) (by omega) (by omega) (by omega) (by omega) (by omega)
          exact ov_reti (st := []) d_286_50 rfl ⟨_, rfl, I75, (by show (h74 90 2) = (h 90 2) ∧ (h74 90 7) = (h 90 7) ∧ (h74 90 8) = (h 90 8) ∧ (h74 90 13) = (h 90 13) ∧ (h74 90 20) = (h 90 20) ∧ (h74 90 22) = (h 90 22) ∧ (h 90 25) ≤ (h74 90 25) ∧ (h74 90 25) ≤ (h 90 25) + 1 ∧ -2147483648 ≤ (-1) ∧ (-1) ≤ 2147483647; omega), E76, E77, E78, E79, E80, E81, E82, E83, E84, E85, E86, E87, E88, pm133⟩
      · skip
        have f14_ : v13 = 0 := by omega
        clear f14
        refine ov_blk (ls2 := [(0, ov_r 90), (1, ov_i ge), (2, ov_i s), (3, ov_i b)]) (st2 := [ov_i (-1)]) (pc2 := 30) b_286_29_1 rfl rfl ?_
        exact ov_reti (st := []) d_286_30 rfl ⟨_, rfl, I1, ⟨rfl, rfl, rfl, rfl, rfl, rfl, (by show (h 90 25) ≤ (h 90 25) ∧ (h 90 25) ≤ (h 90 25) + 1 ∧ -2147483648 ≤ (-1) ∧ (-1) ≤ 2147483647; omega)⟩, rfl, rfl, rfl, rfl, rfl, rfl, rfl, rfl, rfl, rfl, rfl, rfl, rfl, PM⟩

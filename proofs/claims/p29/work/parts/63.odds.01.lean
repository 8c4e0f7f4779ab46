abbrev P_Mo_chanceFrom_90 (F : ov_H × ov_Z) (z : ov_Z) (h : ov_H) (go : Int) (wt : Int) (sf : Int) (sm : Int) (x : Int) (y : Int) (tm : Int) : Option ov_V → ov_Z → ov_H → Prop := fun r0 z' h' => ∃ r : Int, r0 = some (ov_i r) ∧ ov_N F z' h' ∧ ((h' 90 2) = (h 90 2) ∧ (h' 90 7) = (h 90 7) ∧ (h' 90 8) = (h 90 8) ∧ (h' 90 13) = (h 90 13) ∧ (h' 90 20) = (h 90 20) ∧ (h' 90 22) = (h 90 22) ∧ (h' 90 25) = (h 90 25) ∧ (h' 90 26) = (h 90 26) ∧ (h' 90 28) = (h 90 28) ∧ (h' 90 29) = (h 90 29) ∧ (h' 90 30) = (h 90 30) ∧ (h' 90 34) = (h 90 34) ∧ -2147483648 ≤ r ∧ r ≤ 2147483647) ∧ h' 91 = h 91 ∧ h' 92 = h 92 ∧ h' 93 = h 93 ∧ h' 94 = h 94 ∧ h' 95 = h 95 ∧ h' 96 = h 96 ∧ h' 97 = h 97 ∧ h' 98 = h 98 ∧ h' 99 = h 99 ∧ h' 100 = h 100 ∧ h' 103 = h 103 ∧ h' 104 = h 104 ∧ h' 109 = h 109 ∧ h' 114 = h 114 ∧ (ov_MI (h 96) (h 103) (h 97) (h 98) go wt sf sm (h' 105) (h' 106))
set_option maxHeartbeats 4000000 in
theorem c_Mo_chanceFrom_90 {u : ov_U} {F : ov_H × ov_Z} (go : Int) (wt : Int) (sf : Int) (sm : Int) (k : Nat) (HV : ∀ k' : Nat, k' < k → ∀ {z : ov_Z} {h : ov_H} (d : Nat) (hd : (90 + 1 * k' + 0) ≤ d) (U : ov_cap u) (I : ov_N F z h) (x : Int) (y : Int) (tm : Int) (g_x : ov_g x) (g_y : ov_g y) (g_tm : ov_g tm) (p0 : 0 ≤ x ∧ x ≤ 5 ∧ 0 ≤ y ∧ y ≤ 8) (p1 : x < (h 96 0) ∧ y < (h 96 1)) (p2 : x + y + (k' : Int) = 13) (p3 : 0 ≤ tm ∧ tm + 89 * (k' : Int) ≤ 1157) (p4 : wt = -1) (p5 : (h 90 26) = go) (p6 : (h 90 29) = wt) (p7 : (h 90 30) = sf) (p8 : (h 90 25) = sm) (p9 : 0 ≤ go ∧ go ≤ 3 + (h 96 8)) (W : ov_WT (h 96)) (CD : ov_CD (h 96) (h 97) (h 98)) (MI : ov_MI (h 96) (h 103) (h 97) (h 98) go wt sf sm (h 105) (h 106)) (GH : ov_go (h 96) (h 103) (h 97) (h 98) go wt sf x y (((h 90 34) + tm) % (h 96 9))), ov_T u d ov_m287 [ov_r 90, ov_i x, ov_i y, ov_i tm] z h (P_Mo_chanceFrom_90 F z h go wt sf sm x y tm)) {z : ov_Z} {h : ov_H} (d : Nat) (hd : (90 + 1 * k + 0) ≤ d) (U : ov_cap u) (I : ov_N F z h) (x : Int) (y : Int) (tm : Int) (g_x : ov_g x) (g_y : ov_g y) (g_tm : ov_g tm) (p0 : 0 ≤ x ∧ x ≤ 5 ∧ 0 ≤ y ∧ y ≤ 8) (p1 : x < (h 96 0) ∧ y < (h 96 1)) (p2 : x + y + (k : Int) = 13) (p3 : 0 ≤ tm ∧ tm + 89 * (k : Int) ≤ 1157) (p4 : wt = -1) (p5 : (h 90 26) = go) (p6 : (h 90 29) = wt) (p7 : (h 90 30) = sf) (p8 : (h 90 25) = sm) (p9 : 0 ≤ go ∧ go ≤ 3 + (h 96 8)) (W : ov_WT (h 96)) (CD : ov_CD (h 96) (h 97) (h 98)) (MI : ov_MI (h 96) (h 103) (h 97) (h 98) go wt sf sm (h 105) (h 106)) (GH : ov_go (h 96) (h 103) (h 97) (h 98) go wt sf x y (((h 90 34) + tm) % (h 96 9))) : ov_T u d ov_m287 [ov_r 90, ov_i x, ov_i y, ov_i tm] z h (P_Mo_chanceFrom_90 F z h go wt sf sm x y tm) := by
  refine ov_en rfl (Nat.le_of_ble_eq_true rfl) ?_
  show ov_R u d ov_m287 0 [(0, ov_r 90), (1, ov_i x), (2, ov_i y), (3, ov_i tm)] [] z h (P_Mo_chanceFrom_90 F z h go wt sf sm x y tm)
  have t0 := t96_0 I
  have t1 := t96_1 I
  have t9 := t96_9 I
  refine ov_blk (ls2 := [(0, ov_r 90), (1, ov_i x), (2, ov_i y), (3, ov_i tm)]) (st2 := [ov_i y, ov_i x, ov_r 90]) (pc2 := 3) b_287_0_3 rfl rfl ?_
  refine ov_cV (as := [ov_i x, ov_i y]) (st := []) (d2 := d - 1) d_287_3 lk_Mo_335 rfl (Nat.le_of_ble_eq_true rfl) (c := 1) (zb_90 I) (zs_90 I) ⟨by decide, rfl⟩ (by omega) (c_Mo_isHome_90 (d - 1) (by omega) U I x y (by omega) (by omega) (by omega)) ?_
  rintro _ _ _ ⟨v2, rfl, rfl, rfl, f1⟩
  show ov_R u d ov_m287 6 [(0, ov_r 90), (1, ov_i x), (2, ov_i y), (3, ov_i tm)] [ov_i v2] z h (P_Mo_chanceFrom_90 F z h go wt sf sm x y tm)
  have f3 : (v2 = 0 ∨ v2 = 1) ∧ (v2 = 1 → x = (h 96 0) - 1 ∧ y = (h 96 1) - 1) ∧ (v2 = 0 → ¬ (x = (h 96 0) - 1 ∧ y = (h 96 1) - 1)) := f1
  clear f1
  refine ov_ifeq (tgt := 30) d_287_6 (by decide) (by omega) (fun c4 => ?_) (fun c4 => ?_)
  · skip
    have f3_ : v2 = 0 := by omega
    have f5 : ¬ (x = (h 96 0) - 1 ∧ y = (h 96 1) - 1) := f3.2.2 (by omega)
    clear f3
    refine ov_blk (ls2 := [(0, ov_r 90), (1, ov_i x), (2, ov_i y), (3, ov_i tm), (4, ov_i ((1200 * ((6 * y) + x)) + tm))]) (st2 := [ov_r 90]) (pc2 := 45) b_287_30_11 rfl rfl ?_
    refine ov_getf (v := ov_r 108) d_287_45 fl_Mo_125 (zb_90 I) (zs_90 I) (congrArg ov_r (rg_90_32 I)) ?_
    refine ov_blk (ls2 := [(0, ov_r 90), (1, ov_i x), (2, ov_i y), (3, ov_i tm), (4, ov_i ((1200 * ((6 * y) + x)) + tm))]) (st2 := [ov_i ((1200 * ((6 * y) + x)) + tm), ov_r 108]) (pc2 := 50) b_287_48_1 rfl rfl ?_
    refine ov_iald d_287_50 (zb_108 I) (zs_108 I) (by omega) ?_
    have g6 := ra_108 I ((1200 * ((6 * y) + x)) + tm)
    refine ov_blk (ls2 := [(0, ov_r 90), (1, ov_i x), (2, ov_i y), (3, ov_i tm), (4, ov_i ((1200 * ((6 * y) + x)) + tm))]) (st2 := [ov_r 90, ov_i (h 108 ((1200 * ((6 * y) + x)) + tm))]) (pc2 := 52) b_287_51_1 rfl rfl ?_
    refine ov_getf (v := ov_i (h 90 33)) d_287_52 fl_Mo_405 (zb_90 I) (zs_90 I) rfl ?_
    have g7 := rg_90_33 I
    refine ov_iceq (tgt := 206) d_287_55 (by decide) (by omega) (by omega) (fun c8 => ?_) (fun c8 => ?_)
    · skip
      refine ov_blk (ls2 := [(0, ov_r 90), (1, ov_i x), (2, ov_i y), (3, ov_i tm), (4, ov_i ((1200 * ((6 * y) + x)) + tm))]) (st2 := [ov_r 90]) (pc2 := 207) b_287_206_1 rfl rfl ?_
      refine ov_getf (v := ov_r 107) d_287_207 fl_Mo_122 (zb_90 I) (zs_90 I) (congrArg ov_r (rg_90_31 I)) ?_
      refine ov_blk (ls2 := [(0, ov_r 90), (1, ov_i x), (2, ov_i y), (3, ov_i tm), (4, ov_i ((1200 * ((6 * y) + x)) + tm))]) (st2 := [ov_i ((1200 * ((6 * y) + x)) + tm), ov_r 107]) (pc2 := 212) b_287_210_1 rfl rfl ?_
      refine ov_iald d_287_212 (zb_107 I) (zs_107 I) (by omega) ?_
      have g9 := ra_107 I ((1200 * ((6 * y) + x)) + tm)
      exact ov_reti (st := []) d_287_213 rfl ⟨_, rfl, I, ⟨rfl, rfl, rfl, rfl, rfl, rfl, rfl, rfl, rfl, rfl, rfl, rfl, (by show -2147483648 ≤ (h 107 ((1200 * ((6 * y) + x)) + tm)) ∧ (h 107 ((1200 * ((6 * y) + x)) + tm)) ≤ 2147483647; omega)⟩, rfl, rfl, rfl, rfl, rfl, rfl, rfl, rfl, rfl, rfl, rfl, rfl, rfl, rfl, MI⟩
    · skip
      refine ov_blk (ls2 := [(0, ov_r 90), (1, ov_i x), (2, ov_i y), (3, ov_i tm), (4, ov_i ((1200 * ((6 * y) + x)) + tm))]) (st2 := [ov_r 90]) (pc2 := 59) b_287_58_1 rfl rfl ?_
      refine ov_getf (v := ov_i (h 90 34)) d_287_59 fl_Mo_399 (zb_90 I) (zs_90 I) rfl ?_
      have g10 := rg_90_34 I
      refine ov_blk (ls2 := [(0, ov_r 90), (1, ov_i x), (2, ov_i y), (3, ov_i tm), (4, ov_i ((1200 * ((6 * y) + x)) + tm))]) (st2 := [ov_r 90, ov_i ((h 90 34) + tm)]) (pc2 := 65) b_287_62_3 rfl rfl ?_
      refine ov_getf (v := ov_r 96) d_287_65 fl_Mo_81 (zb_90 I) (zs_90 I) (congrArg ov_r (rg_90_10 I)) ?_
      refine ov_blk (ls2 := [(0, ov_r 90), (1, ov_i x), (2, ov_i y), (3, ov_i tm), (4, ov_i ((1200 * ((6 * y) + x)) + tm))]) (st2 := [ov_i 9, ov_r 96, ov_i ((h 90 34) + tm)]) (pc2 := 70) b_287_68_1 rfl rfl ?_
      refine ov_iald d_287_70 (zb_96 I) (zs_96 I) (by omega) ?_
      have g11 := t96_9 I
      have gt1 := ov_tmv (x := ((h 90 34) + tm)) (y := (h 96 9)) (by omega) (by omega)
      have gt2 : Int.tmod ((h 90 34) + tm) (h 96 9) = ((h 90 34) + tm) % (h 96 9) := ov_tm (by omega)
      have go1 : ov_go (h 96) (h 103) (h 97) (h 98) go wt sf x y (Int.tmod ((h 90 34) + tm) (h 96 9)) := by rw [gt2]; exact GH
      have w1 := ov_WT_at W (c := 6 * y + x) (by omega)
      refine ov_irem d_287_71 (by omega) (by omega) (by omega) ?_
      have g12 := ov_tmg (a := ((h 90 34) + tm)) (b := (h 96 9)) (by omega) (by omega)
      refine ov_blk (ls2 := [(0, ov_r 90), (1, ov_i x), (2, ov_i y), (3, ov_i tm), (4, ov_i ((1200 * ((6 * y) + x)) + tm)), (5, ov_i (Int.tmod ((h 90 34) + tm) (h 96 9))), (6, ov_i 0)]) (st2 := [ov_i y, ov_i x, ov_r 90]) (pc2 := 80) b_287_72_6 rfl rfl ?_
      refine ov_cV (as := [ov_i x, ov_i y]) (st := []) (d2 := d - 1) d_287_80 lk_Mo_362 rfl (Nat.le_of_ble_eq_true rfl) (c := 1) (zb_90 I) (zs_90 I) ⟨by decide, rfl⟩ (by omega) (c_Mo_isUnknown_90 (d - 1) (by omega) U I x y (by omega) (by omega) (by omega)) ?_
      rintro _ _ _ ⟨v14, rfl, rfl, rfl, f13⟩
      show ov_R u d ov_m287 83 [(0, ov_r 90), (1, ov_i x), (2, ov_i y), (3, ov_i tm), (4, ov_i ((1200 * ((6 * y) + x)) + tm)), (5, ov_i (Int.tmod ((h 90 34) + tm) (h 96 9))), (6, ov_i 0)] [ov_i v14] z h (P_Mo_chanceFrom_90 F z h go wt sf sm x y tm)
      have f15 : (v14 = 0 ∨ v14 = 1) ∧ (v14 = 1 → ((h 96 (10 + 4 * (6 * y + x))) = 2 ∧ ¬ (h 103 (4 + 6 * y + x)) = 1 ∧ ¬ 6 * y + x = (h 90 29))) ∧ (v14 = 0 → ¬ ((h 96 (10 + 4 * (6 * y + x))) = 2 ∧ ¬ (h 103 (4 + 6 * y + x)) = 1 ∧ ¬ 6 * y + x = (h 90 29))) := f13
      clear f13
      refine ov_ifeq (tgt := 96) d_287_83 (by decide) (by omega) (fun c16 => ?_) (fun c16 => ?_)
      · skip
        have f15_ : v14 = 0 := by omega
        have f17 : ¬ ((h 96 (10 + 4 * (6 * y + x))) = 2 ∧ ¬ (h 103 (4 + 6 * y + x)) = 1 ∧ ¬ 6 * y + x = (h 90 29)) := f15.2.2 (by omega)
        clear f15
        refine ov_blk (ls2 := [(0, ov_r 90), (1, ov_i x), (2, ov_i y), (3, ov_i tm), (4, ov_i ((1200 * ((6 * y) + x)) + tm)), (5, ov_i (Int.tmod ((h 90 34) + tm) (h 96 9))), (6, ov_i 0), (7, ov_i 1), (8, ov_i 0)]) (st2 := []) (pc2 := 102) b_287_96_4 rfl rfl ?_
        have L21 : ∀ (n18 : Nat) (x6 : Int) (x8 : Int) (z22 : ov_Z) (h23 : ov_H) (I24 : ov_N F z22 h23) (E25 : h23 91 = h 91) (E26 : h23 92 = h 92) (E27 : h23 93 = h 93) (E28 : h23 94 = h 94) (E29 : h23 95 = h 95) (E30 : h23 96 = h 96) (E31 : h23 97 = h 97) (E32 : h23 98 = h 98) (E33 : h23 99 = h 99) (E34 : h23 100 = h 100) (E35 : h23 103 = h 103) (E36 : h23 104 = h 104) (E37 : h23 109 = h 109) (E38 : h23 114 = h 114) (xm : ov_MI (h 96) (h 103) (h 97) (h 98) go wt sf sm (h23 105) (h23 106)) (q20 : 0 ≤ x8 ∧ x8 ≤ 60 ∧ x8 ≤ 1 ∧ ov_g x6 ∧ (h23 90 2) = (h 90 2) ∧ (h23 90 7) = (h 90 7) ∧ (h23 90 8) = (h 90 8) ∧ (h23 90 13) = (h 90 13) ∧ (h23 90 20) = (h 90 20) ∧ (h23 90 22) = (h 90 22) ∧ (h23 90 25) = (h 90 25) ∧ (h23 90 26) = (h 90 26) ∧ (h23 90 28) = (h 90 28) ∧ (h23 90 29) = (h 90 29) ∧ (h23 90 30) = (h 90 30) ∧ (h23 90 34) = (h 90 34)), 60 - x8 < (n18 : Int) → ov_R u d ov_m287 102 [(0, ov_r 90), (1, ov_i x), (2, ov_i y), (3, ov_i tm), (4, ov_i ((1200 * ((6 * y) + x)) + tm)), (5, ov_i (Int.tmod ((h 90 34) + tm) (h 96 9))), (6, ov_i x6), (7, ov_i 1), (8, ov_i x8)] [] z22 h23 (P_Mo_chanceFrom_90 F z h go wt sf sm x y tm) := by
          intro n18
          induction n18 with
          | zero =>
            intro x6 x8 z22 h23 I24 E25 E26 E27 E28 E29 E30 E31 E32 E33 E34 E35 E36 E37 E38 xm q20 hn39
            exact absurd hn39 (by omega)
          | succ n18 ih19 =>
            intro x6 x8 z22 h23 I24 E25 E26 E27 E28 E29 E30 E31 E32 E33 E34 E35 E36 E37 E38 xm q20 hn39
            refine ov_blk (ls2 := [(0, ov_r 90), (1, ov_i x), (2, ov_i y), (3, ov_i tm), (4, ov_i ((1200 * ((6 * y) + x)) + tm)), (5, ov_i (Int.tmod ((h 90 34) + tm) (h 96 9))), (6, ov_i x6), (7, ov_i 1), (8, ov_i x8)]) (st2 := [ov_i 1, ov_i x8]) (pc2 := 106) b_287_102_2 rfl rfl ?_
            refine ov_icge (tgt := 183) d_287_106 (by decide) (by omega) (by omega) (fun c40 => ?_) (fun c40 => ?_)
            · skip
              refine ov_blk (ls2 := [(0, ov_r 90), (1, ov_i x), (2, ov_i y), (3, ov_i tm), (4, ov_i ((1200 * ((6 * y) + x)) + tm)), (5, ov_i (Int.tmod ((h 90 34) + tm) (h 96 9))), (6, ov_i x6), (7, ov_i 1), (8, ov_i x8)]) (st2 := [ov_r 90]) (pc2 := 184) b_287_183_1 rfl rfl ?_
              refine ov_getf (v := ov_r 107) d_287_184 fl_Mo_122 (zb_90 I24) (zs_90 I24) (congrArg ov_r (rg_90_31 I24)) ?_
              refine ov_blk (ls2 := [(0, ov_r 90), (1, ov_i x), (2, ov_i y), (3, ov_i tm), (4, ov_i ((1200 * ((6 * y) + x)) + tm)), (5, ov_i (Int.tmod ((h 90 34) + tm) (h 96 9))), (6, ov_i x6), (7, ov_i 1), (8, ov_i x8)]) (st2 := [ov_i 1, ov_i x6, ov_i ((1200 * ((6 * y) + x)) + tm), ov_r 107]) (pc2 := 193) b_287_187_3 rfl rfl ?_
              have xd := ov_tdt (a := x6) (b := 1) (by omega)
              refine ov_idiv d_287_193 (by omega) (by omega) (by omega) ?_
              refine ov_iast d_287_194 (zb_107 I24) (zs_107 I24) (by omega) ?_
              have I41 := ua_107 (k := ((1200 * ((6 * y) + x)) + tm)) (x := (Int.tdiv x6 1)) I24 (by omega)
              refine ov_blk (ls2 := [(0, ov_r 90), (1, ov_i x), (2, ov_i y), (3, ov_i tm), (4, ov_i ((1200 * ((6 * y) + x)) + tm)), (5, ov_i (Int.tmod ((h 90 34) + tm) (h 96 9))), (6, ov_i x6), (7, ov_i 1), (8, ov_i x8)]) (st2 := [ov_r 90]) (pc2 := 196) b_287_195_1 rfl rfl ?_
              refine ov_getf (v := ov_r 108) d_287_196 fl_Mo_125 (zb_90 I41) (zs_90 I41) (congrArg ov_r (rg_90_32 I41)) ?_
              refine ov_blk (ls2 := [(0, ov_r 90), (1, ov_i x), (2, ov_i y), (3, ov_i tm), (4, ov_i ((1200 * ((6 * y) + x)) + tm)), (5, ov_i (Int.tmod ((h 90 34) + tm) (h 96 9))), (6, ov_i x6), (7, ov_i 1), (8, ov_i x8)]) (st2 := [ov_r 90, ov_i ((1200 * ((6 * y) + x)) + tm), ov_r 108]) (pc2 := 202) b_287_199_2 rfl rfl ?_
              refine ov_getf (v := ov_i (h23 90 33)) d_287_202 fl_Mo_405 (zb_90 I41) (zs_90 I41) rfl ?_
              have g42 := rg_90_33 I24
              refine ov_iast d_287_205 (zb_108 I41) (zs_108 I41) (by omega) ?_
              have I43 := ua_108 (k := ((1200 * ((6 * y) + x)) + tm)) (x := (h23 90 33)) I41 (by omega)
              refine ov_blk (ls2 := [(0, ov_r 90), (1, ov_i x), (2, ov_i y), (3, ov_i tm), (4, ov_i ((1200 * ((6 * y) + x)) + tm)), (5, ov_i (Int.tmod ((h 90 34) + tm) (h 96 9))), (6, ov_i x6), (7, ov_i 1), (8, ov_i x8)]) (st2 := [ov_r 90]) (pc2 := 207) b_287_206_1 rfl rfl ?_
              refine ov_getf (v := ov_r 107) d_287_207 fl_Mo_122 (zb_90 I43) (zs_90 I43) (congrArg ov_r (rg_90_31 I43)) ?_
              refine ov_blk (ls2 := [(0, ov_r 90), (1, ov_i x), (2, ov_i y), (3, ov_i tm), (4, ov_i ((1200 * ((6 * y) + x)) + tm)), (5, ov_i (Int.tmod ((h 90 34) + tm) (h 96 9))), (6, ov_i x6), (7, ov_i 1), (8, ov_i x8)]) (st2 := [ov_i ((1200 * ((6 * y) + x)) + tm), ov_r 107]) (pc2 := 212) b_287_210_1 rfl rfl ?_
              refine ov_iald d_287_212 (zb_107 I43) (zs_107 I43) (by omega) ?_
              show ov_R u d ov_m287 213 [(0, ov_r 90), (1, ov_i x), (2, ov_i y), (3, ov_i tm), (4, ov_i ((1200 * ((6 * y) + x)) + tm)), (5, ov_i (Int.tmod ((h 90 34) + tm) (h 96 9))), (6, ov_i x6), (7, ov_i 1), (8, ov_i x8)] [ov_i ((ov_up h23 107 ((1200 * ((6 * y) + x)) + tm) (Int.tdiv x6 1)) 107 ((1200 * ((6 * y) + x)) + tm))] z22 (ov_up (ov_up h23 107 ((1200 * ((6 * y) + x)) + tm) (Int.tdiv x6 1)) 108 ((1200 * ((6 * y) + x)) + tm) (h23 90 33)) (P_Mo_chanceFrom_90 F z h go wt sf sm x y tm)
              have g44 := ra_107 I43 ((1200 * ((6 * y) + x)) + tm)
              have gr : -2147483648 ≤ ((ov_up h23 107 ((1200 * ((6 * y) + x)) + tm) (Int.tdiv x6 1)) 107 ((1200 * ((6 * y) + x)) + tm)) ∧ ((ov_up h23 107 ((1200 * ((6 * y) + x)) + tm) (Int.tdiv x6 1)) 107 ((1200 * ((6 * y) + x)) + tm)) ≤ 2147483647 := ra_107 I43 ((1200 * ((6 * y) + x)) + tm)
              exact ov_reti (st := []) d_287_213 rfl ⟨_, rfl, I43, (by show (h23 90 2) = (h 90 2) ∧ (h23 90 7) = (h 90 7) ∧ (h23 90 8) = (h 90 8) ∧ (h23 90 13) = (h 90 13) ∧ (h23 90 20) = (h 90 20) ∧ (h23 90 22) = (h 90 22) ∧ (h23 90 25) = (h 90 25) ∧ (h23 90 26) = (h 90 26) ∧ (h23 90 28) = (h 90 28) ∧ (h23 90 29) = (h 90 29) ∧ (h23 90 30) = (h 90 30) ∧ (h23 90 34) = (h 90 34) ∧ -2147483648 ≤ ((ov_up h23 107 ((1200 * ((6 * y) + x)) + tm) (Int.tdiv x6 1)) 107 ((1200 * ((6 * y) + x)) + tm)) ∧ ((ov_up h23 107 ((1200 * ((6 * y) + x)) + tm) (Int.tdiv x6 1)) 107 ((1200 * ((6 * y) + x)) + tm)) ≤ 2147483647; omega), E25, E26, E27, E28, E29, E30, E31, E32, E33, E34, E35, E36, E37, E38, xm⟩
            · skip
              refine ov_blk (ls2 := [(0, ov_r 90), (1, ov_i x), (2, ov_i y), (3, ov_i tm), (4, ov_i ((1200 * ((6 * y) + x)) + tm)), (5, ov_i (Int.tmod ((h 90 34) + tm) (h 96 9))), (6, ov_i x6), (7, ov_i 1), (8, ov_i x8)]) (st2 := [ov_i y, ov_i x, ov_r 90]) (pc2 := 112) b_287_109_3 rfl rfl ?_
              refine ov_cV (as := [ov_i x, ov_i y]) (st := []) (d2 := d - 1) d_287_112 lk_Mo_362 rfl (Nat.le_of_ble_eq_true rfl) (c := 1) (zb_90 I24) (zs_90 I24) ⟨by decide, rfl⟩ (by omega) (c_Mo_isUnknown_90 (d - 1) (by omega) U I24 x y (by omega) (by omega) (by omega)) ?_
              rintro _ _ _ ⟨v46, rfl, rfl, rfl, f45⟩
              show ov_R u d ov_m287 115 [(0, ov_r 90), (1, ov_i x), (2, ov_i y), (3, ov_i tm), (4, ov_i ((1200 * ((6 * y) + x)) + tm)), (5, ov_i (Int.tmod ((h 90 34) + tm) (h 96 9))), (6, ov_i x6), (7, ov_i 1), (8, ov_i x8)] [ov_i v46] z22 h23 (P_Mo_chanceFrom_90 F z h go wt sf sm x y tm)
              rw [show h23 103 = h 103 from E35] at f45
              rw [show h23 96 = h 96 from E30] at f45
              have f47 : (v46 = 0 ∨ v46 = 1) ∧ (v46 = 1 → ((h 96 (10 + 4 * (6 * y + x))) = 2 ∧ ¬ (h 103 (4 + 6 * y + x)) = 1 ∧ ¬ 6 * y + x = (h23 90 29))) ∧ (v46 = 0 → ¬ ((h 96 (10 + 4 * (6 * y + x))) = 2 ∧ ¬ (h 103 (4 + 6 * y + x)) = 1 ∧ ¬ 6 * y + x = (h23 90 29))) := f45
              clear f45
              refine ov_ifeq (tgt := 123) d_287_115 (by decide) (by omega) (fun c48 => ?_) (fun c48 => ?_)
              · skip
                have f47_ : v46 = 0 := by omega
                have f49 : ¬ ((h 96 (10 + 4 * (6 * y + x))) = 2 ∧ ¬ (h 103 (4 + 6 * y + x)) = 1 ∧ ¬ 6 * y + x = (h23 90 29)) := f47.2.2 (by omega)
                clear f47
                refine ov_blk (ls2 := [(0, ov_r 90), (1, ov_i x), (2, ov_i y), (3, ov_i tm), (4, ov_i ((1200 * ((6 * y) + x)) + tm)), (5, ov_i (Int.tmod ((h 90 34) + tm) (h 96 9))), (6, ov_i x6), (7, ov_i 1), (8, ov_i x8), (9, ov_i (Int.tmod ((h 90 34) + tm) (h 96 9)))]) (st2 := []) (pc2 := 127) b_287_123_2 rfl rfl ?_
                have gq : ov_gs (h 96) (h 97) (h 98) (ov_go (h 96) (h 103) (h 97) (h 98) go wt sf) go x y (Int.tmod ((h 90 34) + tm) (h 96 9)) (Int.tmod ((h 90 34) + tm) (h 96 9)) := (ov_go_s (by omega) (by omega) (by omega) (by omega)).mpr go1
                refine ov_blk (ls2 := [(0, ov_r 90), (1, ov_i x), (2, ov_i y), (3, ov_i tm), (4, ov_i ((1200 * ((6 * y) + x)) + tm)), (5, ov_i (Int.tmod ((h 90 34) + tm) (h 96 9))), (6, ov_i x6), (7, ov_i 1), (8, ov_i x8), (9, ov_i (Int.tmod ((h 90 34) + tm) (h 96 9)))]) (st2 := [ov_i (Int.tmod ((h 90 34) + tm) (h 96 9)), ov_i (Int.tmod ((h 90 34) + tm) (h 96 9)), ov_i y, ov_i x, ov_r 90]) (pc2 := 134) b_287_127_5 rfl rfl ?_
                have cf50 : h23 96 (0) = h 96 (0) := congrFun E30 (0)
                have cf51 : h23 96 (1) = h 96 (1) := congrFun E30 (1)
                have cf52 : h23 96 (9) = h 96 (9) := congrFun E30 (9)
                have cf53 : h23 96 (8) = h 96 (8) := congrFun E30 (8)
                refine ov_cV (as := [ov_i x, ov_i y, ov_i (Int.tmod ((h 90 34) + tm) (h 96 9)), ov_i (Int.tmod ((h 90 34) + tm) (h 96 9))]) (st := []) (d2 := d - 1) d_287_134 lk_Mo_371 rfl (Nat.le_of_ble_eq_true rfl) (c := 1) (zb_90 I24) (zs_90 I24) ⟨by decide, rfl⟩ (by omega) (c_Mo_wayOf_90_all go wt sf sm (Int.toNat (13 - (x) - (y))) (d - 1) (by omega) U I24 x y (Int.tmod ((h 90 34) + tm) (h 96 9)) (Int.tmod ((h 90 34) + tm) (h 96 9)) (by omega) (by omega) (by omega) (by omega) (by omega) (by show x < (h23 96 0) ∧ y < (h23 96 1); omega) (by omega) (by show 0 ≤ (Int.tmod ((h 90 34) + tm) (h 96 9)) ∧ (Int.tmod ((h 90 34) + tm) (h 96 9)) < (h23 96 9); omega) (by omega) (by show (h23 90 26) = go; omega) (by show (h23 90 29) = wt; omega) (by show (h23 90 30) = sf; omega) (by show (h23 90 25) = sm; omega) (by show 0 ≤ go ∧ go ≤ 3 + (h23 96 8); omega) (by rw [show h23 96 = h 96 from E30]; exact W) (by rw [show h23 96 = h 96 from E30, show h23 97 = h 97 from E31, show h23 98 = h 98 from E32]; exact CD) (by rw [show h23 96 = h 96 from E30, show h23 103 = h 103 from E35, show h23 97 = h 97 from E31, show h23 98 = h 98 from E32]; exact xm)) ?_
                rintro _ z72 h73 ⟨v55, rfl, I74, f54, e56, e57, e58, e59, e60, e61, e62, e63, e64, e65, e66, e67, e68, e69, y70, y71⟩
                have E75 : h73 91 = h 91 := Eq.trans e56 E25
                have E76 : h73 92 = h 92 := Eq.trans e57 E26
                have E77 : h73 93 = h 93 := Eq.trans e58 E27
                have E78 : h73 94 = h 94 := Eq.trans e59 E28
                have E79 : h73 95 = h 95 := Eq.trans e60 E29
                have E80 : h73 96 = h 96 := Eq.trans e61 E30
                have E81 : h73 97 = h 97 := Eq.trans e62 E31
                have E82 : h73 98 = h 98 := Eq.trans e63 E32
                have E83 : h73 99 = h 99 := Eq.trans e64 E33
                have E84 : h73 100 = h 100 := Eq.trans e65 E34
                have E85 : h73 103 = h 103 := Eq.trans e66 E35
                have E86 : h73 104 = h 104 := Eq.trans e67 E36
                have E87 : h73 109 = h 109 := Eq.trans e68 E37
                have E88 : h73 114 = h 114 := Eq.trans e69 E38
                show ov_R u d ov_m287 137 [(0, ov_r 90), (1, ov_i x), (2, ov_i y), (3, ov_i tm), (4, ov_i ((1200 * ((6 * y) + x)) + tm)), (5, ov_i (Int.tmod ((h 90 34) + tm) (h 96 9))), (6, ov_i x6), (7, ov_i 1), (8, ov_i x8), (9, ov_i (Int.tmod ((h 90 34) + tm) (h 96 9)))] [ov_i v55] z72 h73 (P_Mo_chanceFrom_90 F z h go wt sf sm x y tm)
                have f89 : (h73 90 2) = (h23 90 2) ∧ (h73 90 7) = (h23 90 7) ∧ (h73 90 8) = (h23 90 8) ∧ (h73 90 13) = (h23 90 13) ∧ (h73 90 20) = (h23 90 20) ∧ (h73 90 22) = (h23 90 22) ∧ (h73 90 25) = (h23 90 25) ∧ (h73 90 26) = (h23 90 26) ∧ (h73 90 28) = (h23 90 28) ∧ (h73 90 29) = (h23 90 29) ∧ (h73 90 30) = (h23 90 30) ∧ (h73 90 34) = (h23 90 34) ∧ -1 ≤ v55 ∧ v55 ≤ 1 := f54
                clear f54
                rw [show h23 103 = h 103 from E35] at y70
                rw [show h23 96 = h 96 from E30] at y70
                rw [show h23 97 = h 97 from E31] at y70
                rw [show h23 98 = h 98 from E32] at y70
                have y70_ : ov_MI (h 96) (h 103) (h 97) (h 98) go wt sf sm (h73 105) (h73 106) := y70
                rw [show h23 103 = h 103 from E35] at y71
                rw [show h23 96 = h 96 from E30] at y71
                rw [show h23 97 = h 97 from E31] at y71
                rw [show h23 98 = h 98 from E32] at y71
                have y71_ : ov_wf (h 96) (h 97) (h 98) (ov_go (h 96) (h 103) (h 97) (h 98) go wt sf) go x y (Int.tmod ((h 90 34) + tm) (h 96 9)) (Int.tmod ((h 90 34) + tm) (h 96 9)) v55 := y71
                have r0 : 0 ≤ v55 := if c : 0 ≤ v55 then c else absurd gq (ov_wf_no y71_ (by omega))
                have cg := (ov_cgi_sp (h 96) x y v55).2 (y71_.1 r0)
                have gn := (ov_wf_gs y71_ r0).mpr gq
                refine ov_blk (ls2 := [(0, ov_r 90), (1, ov_i x), (2, ov_i y), (3, ov_i tm), (4, ov_i ((1200 * ((6 * y) + x)) + tm)), (5, ov_i (Int.tmod ((h 90 34) + tm) (h 96 9))), (6, ov_i x6), (7, ov_i 1), (8, ov_i x8), (9, ov_i (Int.tmod ((h 90 34) + tm) (h 96 9))), (10, ov_i v55)]) (st2 := [ov_i (Int.tmod ((h 90 34) + tm) (h 96 9)), ov_i v55, ov_i y, ov_i x, ov_r 90, ov_i tm, ov_i (y + v55), ov_i ((x + 1) - v55), ov_r 90, ov_i x6]) (pc2 := 160) b_287_137_17 rfl rfl ?_
                have cf90 : h73 96 (10 + 4 * (6 * y + x)) = h 96 (10 + 4 * (6 * y + x)) := congrFun E80 (10 + 4 * (6 * y + x))
                have cf91 : h73 96 (10 + 4 * (6 * y + x) + 3) = h 96 (10 + 4 * (6 * y + x) + 3) := congrFun E80 (10 + 4 * (6 * y + x) + 3)
                have cf92 : h73 96 (10 + 4 * (6 * y + x) + 1) = h 96 (10 + 4 * (6 * y + x) + 1) := congrFun E80 (10 + 4 * (6 * y + x) + 1)
                refine ov_cV (as := [ov_i x, ov_i y, ov_i v55, ov_i (Int.tmod ((h 90 34) + tm) (h 96 9))]) (st := [ov_i tm, ov_i (y + v55), ov_i ((x + 1) - v55), ov_r 90, ov_i x6]) (d2 := d - 1) d_287_160 lk_Mo_315 rfl (Nat.le_of_ble_eq_true rfl) (c := 1) (zb_90 I74) (zs_90 I74) ⟨by decide, rfl⟩ (by omega) (c_Mo_waitFor_90 (d - 1) (by omega) U I74 x y v55 (Int.tmod ((h 90 34) + tm) (h 96 9)) (by omega) (by omega) (by omega) (by omega) (by omega) (by omega) (by omega) (by show (((h73 96 (10 + 4 * (6 * y + x))) = 1 ∨ (h73 96 (10 + 4 * (6 * y + x))) = 2) → (v55 = 0 → 0 < (h73 96 (10 + 4 * (6 * y + x) + 3))) ∧ (¬ v55 = 0 → (h73 96 (10 + 4 * (6 * y + x) + 3)) < (h73 96 (10 + 4 * (6 * y + x) + 1)))); omega) (by rw [show h73 96 = h 96 from E80]; exact W)) ?_
                rintro _ _ _ ⟨v94, rfl, rfl, rfl, f93⟩
                show ov_R u d ov_m287 163 [(0, ov_r 90), (1, ov_i x), (2, ov_i y), (3, ov_i tm), (4, ov_i ((1200 * ((6 * y) + x)) + tm)), (5, ov_i (Int.tmod ((h 90 34) + tm) (h 96 9))), (6, ov_i x6), (7, ov_i 1), (8, ov_i x8), (9, ov_i (Int.tmod ((h 90 34) + tm) (h 96 9))), (10, ov_i v55)] [ov_i v94, ov_i tm, ov_i (y + v55), ov_i ((x + 1) - v55), ov_r 90, ov_i x6] z72 h73 (P_Mo_chanceFrom_90 F z h go wt sf sm x y tm)
                rw [show h73 96 = h 96 from E80] at f93
                have f95 : 0 ≤ v94 ∧ v94 ≤ 59 ∧ v94 = ov_wm (h 96) (6 * y + x) v55 (Int.tmod ((h 90 34) + tm) (h 96 9)) := f93
                clear f93
                refine ov_blk (ls2 := [(0, ov_r 90), (1, ov_i x), (2, ov_i y), (3, ov_i tm), (4, ov_i ((1200 * ((6 * y) + x)) + tm)), (5, ov_i (Int.tmod ((h 90 34) + tm) (h 96 9))), (6, ov_i x6), (7, ov_i 1), (8, ov_i x8), (9, ov_i (Int.tmod ((h 90 34) + tm) (h 96 9))), (10, ov_i v55)]) (st2 := [ov_r 90, ov_i (tm + v94), ov_i (y + v55), ov_i ((x + 1) - v55), ov_r 90, ov_i x6]) (pc2 := 165) b_287_163_2 rfl rfl ?_
                refine ov_getf (v := ov_r 96) d_287_165 fl_Mo_81 (zb_90 I74) (zs_90 I74) (congrArg ov_r (rg_90_10 I74)) ?_
                refine ov_blk (ls2 := [(0, ov_r 90), (1, ov_i x), (2, ov_i y), (3, ov_i tm), (4, ov_i ((1200 * ((6 * y) + x)) + tm)), (5, ov_i (Int.tmod ((h 90 34) + tm) (h 96 9))), (6, ov_i x6), (7, ov_i 1), (8, ov_i x8), (9, ov_i (Int.tmod ((h 90 34) + tm) (h 96 9))), (10, ov_i v55)]) (st2 := [ov_i 2, ov_r 96, ov_i (tm + v94), ov_i (y + v55), ov_i ((x + 1) - v55), ov_r 90, ov_i x6]) (pc2 := 169) b_287_168_1 rfl rfl ?_
                refine ov_iald d_287_169 (zb_96 I74) (zs_96 I74) (by omega) ?_
                rw [show h73 96 = h 96 from E80]
                have g96 := t96_2 I
                refine ov_blk (ls2 := [(0, ov_r 90), (1, ov_i x), (2, ov_i y), (3, ov_i tm), (4, ov_i ((1200 * ((6 * y) + x)) + tm)), (5, ov_i (Int.tmod ((h 90 34) + tm) (h 96 9))), (6, ov_i x6), (7, ov_i 1), (8, ov_i x8), (9, ov_i (Int.tmod ((h 90 34) + tm) (h 96 9))), (10, ov_i v55)]) (st2 := [ov_i ((tm + v94) + (h 96 2)), ov_i (y + v55), ov_i ((x + 1) - v55), ov_r 90, ov_i x6]) (pc2 := 171) b_287_170_1 rfl rfl ?_
                have ec : ((h73 90 34) + ((tm + v94) + (h 96 2))) % h 96 9 = ov_nx (h 96) (Int.tmod ((h 90 34) + tm) (h 96 9)) (ov_wm (h 96) (6 * y + x) v55 (Int.tmod ((h 90 34) + tm) (h 96 9))) := by rw [show (h73 90 34) = h 90 34 by omega, show v94 = ov_wm (h 96) (6 * y + x) v55 (Int.tmod ((h 90 34) + tm) (h 96 9)) by omega]; exact ov_nxa gt2
                have cf97 : h73 96 (0) = h 96 (0) := congrFun E80 (0)
                have cf98 : h73 96 (1) = h 96 (1) := congrFun E80 (1)
                have cf99 : h73 96 (8) = h 96 (8) := congrFun E80 (8)
                refine ov_cV (as := [ov_i ((x + 1) - v55), ov_i (y + v55), ov_i ((tm + v94) + (h 96 2))]) (st := [ov_i x6]) (d2 := d - 1) d_287_171 lk_Mo_408 rfl (Nat.le_of_ble_eq_true rfl) (c := 1) (zb_90 I74) (zs_90 I74) ⟨by decide, rfl⟩ (by omega) (HV (Int.toNat (13 - (((x + 1) - v55)) - ((y + v55)))) (by omega) (d - 1) (by omega) U I74 ((x + 1) - v55) (y + v55) ((tm + v94) + (h 96 2)) (by omega) (by omega) (by omega) (by omega) (by show ((x + 1) - v55) < (h73 96 0) ∧ (y + v55) < (h73 96 1); omega) (by omega) (by omega) (by omega) (by show (h73 90 26) = go; omega) (by show (h73 90 29) = wt; omega) (by show (h73 90 30) = sf; omega) (by show (h73 90 25) = sm; omega) (by show 0 ≤ go ∧ go ≤ 3 + (h73 96 8); omega) (by rw [show h73 96 = h 96 from E80]; exact W) (by rw [show h73 96 = h 96 from E80, show h73 97 = h 97 from E81, show h73 98 = h 98 from E82]; exact CD) (by rw [show h73 96 = h 96 from E80, show h73 103 = h 103 from E85, show h73 97 = h 97 from E81, show h73 98 = h 98 from E82]; exact y70_) (by rw [show h73 96 = h 96 from E80, show h73 103 = h 103 from E85, show h73 97 = h 97 from E81, show h73 98 = h 98 from E82, ec]; exact gn)) ?_
                rintro _ z117 h118 ⟨v101, rfl, I119, f100, e102, e103, e104, e105, e106, e107, e108, e109, e110, e111, e112, e113, e114, e115, y116⟩
                have E120 : h118 91 = h 91 := Eq.trans e102 E75
                have E121 : h118 92 = h 92 := Eq.trans e103 E76
                have E122 : h118 93 = h 93 := Eq.trans e104 E77
                have E123 : h118 94 = h 94 := Eq.trans e105 E78
                have E124 : h118 95 = h 95 := Eq.trans e106 E79
                have E125 : h118 96 = h 96 := Eq.trans e107 E80
                have E126 : h118 97 = h 97 := Eq.trans e108 E81
                have E127 : h118 98 = h 98 := Eq.trans e109 E82
                have E128 : h118 99 = h 99 := Eq.trans e110 E83
                have E129 : h118 100 = h 100 := Eq.trans e111 E84
                have E130 : h118 103 = h 103 := Eq.trans e112 E85
                have E131 : h118 104 = h 104 := Eq.trans e113 E86
                have E132 : h118 109 = h 109 := Eq.trans e114 E87
                have E133 : h118 114 = h 114 := Eq.trans e115 E88
                show ov_R u d ov_m287 174 [(0, ov_r 90), (1, ov_i x), (2, ov_i y), (3, ov_i tm), (4, ov_i ((1200 * ((6 * y) + x)) + tm)), (5, ov_i (Int.tmod ((h 90 34) + tm) (h 96 9))), (6, ov_i x6), (7, ov_i 1), (8, ov_i x8), (9, ov_i (Int.tmod ((h 90 34) + tm) (h 96 9))), (10, ov_i v55)] [ov_i v101, ov_i x6] z117 h118 (P_Mo_chanceFrom_90 F z h go wt sf sm x y tm)
                have f134 : (h118 90 2) = (h73 90 2) ∧ (h118 90 7) = (h73 90 7) ∧ (h118 90 8) = (h73 90 8) ∧ (h118 90 13) = (h73 90 13) ∧ (h118 90 20) = (h73 90 20) ∧ (h118 90 22) = (h73 90 22) ∧ (h118 90 25) = (h73 90 25) ∧ (h118 90 26) = (h73 90 26) ∧ (h118 90 28) = (h73 90 28) ∧ (h118 90 29) = (h73 90 29) ∧ (h118 90 30) = (h73 90 30) ∧ (h118 90 34) = (h73 90 34) ∧ -2147483648 ≤ v101 ∧ v101 ≤ 2147483647 := f100
                clear f100
                rw [show h73 103 = h 103 from E85] at y116
                rw [show h73 96 = h 96 from E80] at y116
                rw [show h73 97 = h 97 from E81] at y116
                rw [show h73 98 = h 98 from E82] at y116
                have y116_ : ov_MI (h 96) (h 103) (h 97) (h 98) go wt sf sm (h118 105) (h118 106) := y116
                refine ov_blk (ls2 := [(0, ov_r 90), (1, ov_i x), (2, ov_i y), (3, ov_i tm), (4, ov_i ((1200 * ((6 * y) + x)) + tm)), (5, ov_i (Int.tmod ((h 90 34) + tm) (h 96 9))), (6, ov_i x6), (7, ov_i 1), (8, ov_i x8), (9, ov_i (Int.tmod ((h 90 34) + tm) (h 96 9))), (10, ov_i v55)]) (st2 := [ov_i (x6 + v101)]) (pc2 := 175) b_287_174_1 rfl rfl ?_
                refine ov_hav (fun w135 gw135 => ?_)
                refine ov_blk (ls2 := [(0, ov_r 90), (1, ov_i x), (2, ov_i y), (3, ov_i tm), (4, ov_i ((1200 * ((6 * y) + x)) + tm)), (5, ov_i (Int.tmod ((h 90 34) + tm) (h 96 9))), (6, ov_i w135), (7, ov_i 1), (8, ov_i (x8 + 1)), (9, ov_i (Int.tmod ((h 90 34) + tm) (h 96 9))), (10, ov_i v55)]) (st2 := []) (pc2 := 180) b_287_175_2 rfl rfl ?_
                refine ov_goto (tgt := 102) d_287_180 (by decide) ?_
                refine ov_sub (ls2 := [(0, ov_r 90), (1, ov_i x), (2, ov_i y), (3, ov_i tm), (4, ov_i ((1200 * ((6 * y) + x)) + tm)), (5, ov_i (Int.tmod ((h 90 34) + tm) (h 96 9))), (6, ov_i w135), (7, ov_i 1), (8, ov_i (x8 + 1))]) (List.Sublist.subset (by repeat (first | exact List.Sublist.refl _ | apply List.Sublist.cons_cons | apply List.Sublist.cons))) ?_
                exact ih19 w135 (x8 + 1) _ _ I119 E120 E121 E122 E123 E124 E125 E126 E127 E128 E129 E130 E131 E132 E133 y116_ (by show 0 ≤ (x8 + 1) ∧ (x8 + 1) ≤ 60 ∧ (x8 + 1) ≤ 1 ∧ ov_g w135 ∧ (h118 90 2) = (h 90 2) ∧ (h118 90 7) = (h 90 7) ∧ (h118 90 8) = (h 90 8) ∧ (h118 90 13) = (h 90 13) ∧ (h118 90 20) = (h 90 20) ∧ (h118 90 22) = (h 90 22) ∧ (h118 90 25) = (h 90 25) ∧ (h118 90 26) = (h 90 26) ∧ (h118 90 28) = (h 90 28) ∧ (h118 90 29) = (h 90 29) ∧ (h118 90 30) = (h 90 30) ∧ (h118 90 34) = (h 90 34); omega) (by omega)
              · skip
                have f47_ : v46 = 1 := by omega
                have f136 : ((h 96 (10 + 4 * (6 * y + x))) = 2 ∧ ¬ (h 103 (4 + 6 * y + x)) = 1 ∧ ¬ 6 * y + x = (h23 90 29)) := f47.2.1 (by omega)
                clear f47
                exfalso; omega
        exact L21 61 0 0 _ _ I rfl rfl rfl rfl rfl rfl rfl rfl rfl rfl rfl rfl rfl rfl MI (by show 0 ≤ 0 ∧ 0 ≤ 60 ∧ 0 ≤ 1 ∧ ov_g 0 ∧ (h 90 2) = (h 90 2) ∧ (h 90 7) = (h 90 7) ∧ (h 90 8) = (h 90 8) ∧ (h 90 13) = (h 90 13) ∧ (h 90 20) = (h 90 20) ∧ (h 90 22) = (h 90 22) ∧ (h 90 25) = (h 90 25) ∧ (h 90 26) = (h 90 26) ∧ (h 90 28) = (h 90 28) ∧ (h 90 29) = (h 90 29) ∧ (h 90 30) = (h 90 30) ∧ (h 90 34) = (h 90 34); omega) (by omega)
      · skip
        have f15_ : v14 = 1 := by omega
        have f137 : ((h 96 (10 + 4 * (6 * y + x))) = 2 ∧ ¬ (h 103 (4 + 6 * y + x)) = 1 ∧ ¬ 6 * y + x = (h 90 29)) := f15.2.1 (by omega)
        clear f15
        refine ov_blk (ls2 := [(0, ov_r 90), (1, ov_i x), (2, ov_i y), (3, ov_i tm), (4, ov_i ((1200 * ((6 * y) + x)) + tm)), (5, ov_i (Int.tmod ((h 90 34) + tm) (h 96 9))), (6, ov_i 0)]) (st2 := [ov_i 1, ov_i y, ov_i x, ov_r 90]) (pc2 := 90) b_287_86_4 rfl rfl ?_
        refine ov_cV (as := [ov_i x, ov_i y, ov_i 1]) (st := []) (d2 := d - 1) d_287_90 lk_Mo_289 rfl (Nat.le_of_ble_eq_true rfl) (c := 1) (zb_90 I) (zs_90 I) ⟨by decide, rfl⟩ (by omega) (c_Mo_lightAt_90 (d - 1) (by omega) U I x y 1 (by omega) (by omega) (by omega) (by omega) (by omega)) ?_
        rintro _ _ _ ⟨v139, rfl, rfl, rfl, f138⟩
        show ov_R u d ov_m287 93 [(0, ov_r 90), (1, ov_i x), (2, ov_i y), (3, ov_i tm), (4, ov_i ((1200 * ((6 * y) + x)) + tm)), (5, ov_i (Int.tmod ((h 90 34) + tm) (h 96 9))), (6, ov_i 0)] [ov_i v139] z h (P_Mo_chanceFrom_90 F z h go wt sf sm x y tm)
        have f140 : v139 = (h 96 (10 + 4 * (6 * y + x) + (1 : Int))) ∧ ((1 : Int) = 1 → 0 ≤ v139 ∧ v139 ≤ 60) ∧ ((1 : Int) = 2 → 0 ≤ v139 ∧ v139 ≤ 59) ∧ ((1 : Int) = 3 → 0 ≤ v139 ∧ v139 ≤ 60) := f138
        clear f138
        refine ov_goto (tgt := 97) d_287_93 (by decide) ?_
        refine ov_blk (ls2 := [(0, ov_r 90), (1, ov_i x), (2, ov_i y), (3, ov_i tm), (4, ov_i ((1200 * ((6 * y) + x)) + tm)), (5, ov_i (Int.tmod ((h 90 34) + tm) (h 96 9))), (6, ov_i 0), (7, ov_i v139), (8, ov_i 0)]) (st2 := []) (pc2 := 102) b_287_97_3 rfl rfl ?_
        have L144 : ∀ (n141 : Nat) (x6_ : Int) (x8_ : Int) (z145 : ov_Z) (h146 : ov_H) (I147 : ov_N F z145 h146) (E148 : h146 91 = h 91) (E149 : h146 92 = h 92) (E150 : h146 93 = h 93) (E151 : h146 94 = h 94) (E152 : h146 95 = h 95) (E153 : h146 96 = h 96) (E154 : h146 97 = h 97) (E155 : h146 98 = h 98) (E156 : h146 99 = h 99) (E157 : h146 100 = h 100) (E158 : h146 103 = h 103) (E159 : h146 104 = h 104) (E160 : h146 109 = h 109) (E161 : h146 114 = h 114) (xm : ov_MI (h 96) (h 103) (h 97) (h 98) go wt sf sm (h146 105) (h146 106)) (q143 : 0 ≤ x8_ ∧ x8_ ≤ 60 ∧ x8_ ≤ v139 ∧ ov_g x6_ ∧ (h146 90 2) = (h 90 2) ∧ (h146 90 7) = (h 90 7) ∧ (h146 90 8) = (h 90 8) ∧ (h146 90 13) = (h 90 13) ∧ (h146 90 20) = (h 90 20) ∧ (h146 90 22) = (h 90 22) ∧ (h146 90 25) = (h 90 25) ∧ (h146 90 26) = (h 90 26) ∧ (h146 90 28) = (h 90 28) ∧ (h146 90 29) = (h 90 29) ∧ (h146 90 30) = (h 90 30) ∧ (h146 90 34) = (h 90 34)), 60 - x8_ < (n141 : Int) → ov_R u d ov_m287 102 [(0, ov_r 90), (1, ov_i x), (2, ov_i y), (3, ov_i tm), (4, ov_i ((1200 * ((6 * y) + x)) + tm)), (5, ov_i (Int.tmod ((h 90 34) + tm) (h 96 9))), (6, ov_i x6_), (7, ov_i v139), (8, ov_i x8_)] [] z145 h146 (P_Mo_chanceFrom_90 F z h go wt sf sm x y tm) := by
          intro n141
          induction n141 with
          | zero =>
            intro x6_ x8_ z145 h146 I147 E148 E149 E150 E151 E152 E153 E154 E155 E156 E157 E158 E159 E160 E161 xm q143 hn162
            exact absurd hn162 (by omega)
          | succ n141 ih142 =>
            intro x6_ x8_ z145 h146 I147 E148 E149 E150 E151 E152 E153 E154 E155 E156 E157 E158 E159 E160 E161 xm q143 hn162
            refine ov_blk (ls2 := [(0, ov_r 90), (1, ov_i x), (2, ov_i y), (3, ov_i tm), (4, ov_i ((1200 * ((6 * y) + x)) + tm)), (5, ov_i (Int.tmod ((h 90 34) + tm) (h 96 9))), (6, ov_i x6_), (7, ov_i v139), (8, ov_i x8_)]) (st2 := [ov_i v139, ov_i x8_]) (pc2 := 106) b_287_102_2 rfl rfl ?_
            refine ov_icge (tgt := 183) d_287_106 (by decide) (by omega) (by omega) (fun c163 => ?_) (fun c163 => ?_)
            · skip
              refine ov_blk (ls2 := [(0, ov_r 90), (1, ov_i x), (2, ov_i y), (3, ov_i tm), (4, ov_i ((1200 * ((6 * y) + x)) + tm)), (5, ov_i (Int.tmod ((h 90 34) + tm) (h 96 9))), (6, ov_i x6_), (7, ov_i v139), (8, ov_i x8_)]) (st2 := [ov_r 90]) (pc2 := 184) b_287_183_1 rfl rfl ?_
              refine ov_getf (v := ov_r 107) d_287_184 fl_Mo_122 (zb_90 I147) (zs_90 I147) (congrArg ov_r (rg_90_31 I147)) ?_
              refine ov_blk (ls2 := [(0, ov_r 90), (1, ov_i x), (2, ov_i y), (3, ov_i tm), (4, ov_i ((1200 * ((6 * y) + x)) + tm)), (5, ov_i (Int.tmod ((h 90 34) + tm) (h 96 9))), (6, ov_i x6_), (7, ov_i v139), (8, ov_i x8_)]) (st2 := [ov_i v139, ov_i x6_, ov_i ((1200 * ((6 * y) + x)) + tm), ov_r 107]) (pc2 := 193) b_287_187_3 rfl rfl ?_
              have xd := ov_tdt (a := x6_) (b := v139) (by omega)
              refine ov_idiv d_287_193 (by omega) (by omega) (by omega) ?_
              refine ov_iast d_287_194 (zb_107 I147) (zs_107 I147) (by omega) ?_
              have I164 := ua_107 (k := ((1200 * ((6 * y) + x)) + tm)) (x := (Int.tdiv x6_ v139)) I147 (by omega)
              refine ov_blk (ls2 := [(0, ov_r 90), (1, ov_i x), (2, ov_i y), (3, ov_i tm), (4, ov_i ((1200 * ((6 * y) + x)) + tm)), (5, ov_i (Int.tmod ((h 90 34) + tm) (h 96 9))), (6, ov_i x6_), (7, ov_i v139), (8, ov_i x8_)]) (st2 := [ov_r 90]) (pc2 := 196) b_287_195_1 rfl rfl ?_
              refine ov_getf (v := ov_r 108) d_287_196 fl_Mo_125 (zb_90 I164) (zs_90 I164) (congrArg ov_r (rg_90_32 I164)) ?_
              refine ov_blk (ls2 := [(0, ov_r 90), (1, ov_i x), (2, ov_i y), (3, ov_i tm), (4, ov_i ((1200 * ((6 * y) + x)) + tm)), (5, ov_i (Int.tmod ((h 90 34) + tm) (h 96 9))), (6, ov_i x6_), (7, ov_i v139), (8, ov_i x8_)]) (st2 := [ov_r 90, ov_i ((1200 * ((6 * y) + x)) + tm), ov_r 108]) (pc2 := 202) b_287_199_2 rfl rfl ?_
              refine ov_getf (v := ov_i (h146 90 33)) d_287_202 fl_Mo_405 (zb_90 I164) (zs_90 I164) rfl ?_
              have g165 := rg_90_33 I147
              refine ov_iast d_287_205 (zb_108 I164) (zs_108 I164) (by omega) ?_
              have I166 := ua_108 (k := ((1200 * ((6 * y) + x)) + tm)) (x := (h146 90 33)) I164 (by omega)
              refine ov_blk (ls2 := [(0, ov_r 90), (1, ov_i x), (2, ov_i y), (3, ov_i tm), (4, ov_i ((1200 * ((6 * y) + x)) + tm)), (5, ov_i (Int.tmod ((h 90 34) + tm) (h 96 9))), (6, ov_i x6_), (7, ov_i v139), (8, ov_i x8_)]) (st2 := [ov_r 90]) (pc2 := 207) b_287_206_1 rfl rfl ?_
              refine ov_getf (v := ov_r 107) d_287_207 fl_Mo_122 (zb_90 I166) (zs_90 I166) (congrArg ov_r (rg_90_31 I166)) ?_
              refine ov_blk (ls2 := [(0, ov_r 90), (1, ov_i x), (2, ov_i y), (3, ov_i tm), (4, ov_i ((1200 * ((6 * y) + x)) + tm)), (5, ov_i (Int.tmod ((h 90 34) + tm) (h 96 9))), (6, ov_i x6_), (7, ov_i v139), (8, ov_i x8_)]) (st2 := [ov_i ((1200 * ((6 * y) + x)) + tm), ov_r 107]) (pc2 := 212) b_287_210_1 rfl rfl ?_
              refine ov_iald d_287_212 (zb_107 I166) (zs_107 I166) (by omega) ?_
              show ov_R u d ov_m287 213 [(0, ov_r 90), (1, ov_i x), (2, ov_i y), (3, ov_i tm), (4, ov_i ((1200 * ((6 * y) + x)) + tm)), (5, ov_i (Int.tmod ((h 90 34) + tm) (h 96 9))), (6, ov_i x6_), (7, ov_i v139), (8, ov_i x8_)] [ov_i ((ov_up h146 107 ((1200 * ((6 * y) + x)) + tm) (Int.tdiv x6_ v139)) 107 ((1200 * ((6 * y) + x)) + tm))] z145 (ov_up (ov_up h146 107 ((1200 * ((6 * y) + x)) + tm) (Int.tdiv x6_ v139)) 108 ((1200 * ((6 * y) + x)) + tm) (h146 90 33)) (P_Mo_chanceFrom_90 F z h go wt sf sm x y tm)
              have g167 := ra_107 I166 ((1200 * ((6 * y) + x)) + tm)
              have gr : -2147483648 ≤ ((ov_up h146 107 ((1200 * ((6 * y) + x)) + tm) (Int.tdiv x6_ v139)) 107 ((1200 * ((6 * y) + x)) + tm)) ∧ ((ov_up h146 107 ((1200 * ((6 * y) + x)) + tm) (Int.tdiv x6_ v139)) 107 ((1200 * ((6 * y) + x)) + tm)) ≤ 2147483647 := ra_107 I166 ((1200 * ((6 * y) + x)) + tm)
              exact ov_reti (st := []) d_287_213 rfl ⟨_, rfl, I166, (by show (h146 90 2) = (h 90 2) ∧ (h146 90 7) = (h 90 7) ∧ (h146 90 8) = (h 90 8) ∧ (h146 90 13) = (h 90 13) ∧ (h146 90 20) = (h 90 20) ∧ (h146 90 22) = (h 90 22) ∧ (h146 90 25) = (h 90 25) ∧ (h146 90 26) = (h 90 26) ∧ (h146 90 28) = (h 90 28) ∧ (h146 90 29) = (h 90 29) ∧ (h146 90 30) = (h 90 30) ∧ (h146 90 34) = (h 90 34) ∧ -2147483648 ≤ ((ov_up h146 107 ((1200 * ((6 * y) + x)) + tm) (Int.tdiv x6_ v139)) 107 ((1200 * ((6 * y) + x)) + tm)) ∧ ((ov_up h146 107 ((1200 * ((6 * y) + x)) + tm) (Int.tdiv x6_ v139)) 107 ((1200 * ((6 * y) + x)) + tm)) ≤ 2147483647; omega), E148, E149, E150, E151, E152, E153, E154, E155, E156, E157, E158, E159, E160, E161, xm⟩
            · skip
              refine ov_blk (ls2 := [(0, ov_r 90), (1, ov_i x), (2, ov_i y), (3, ov_i tm), (4, ov_i ((1200 * ((6 * y) + x)) + tm)), (5, ov_i (Int.tmod ((h 90 34) + tm) (h 96 9))), (6, ov_i x6_), (7, ov_i v139), (8, ov_i x8_)]) (st2 := [ov_i y, ov_i x, ov_r 90]) (pc2 := 112) b_287_109_3 rfl rfl ?_
              refine ov_cV (as := [ov_i x, ov_i y]) (st := []) (d2 := d - 1) d_287_112 lk_Mo_362 rfl (Nat.le_of_ble_eq_true rfl) (c := 1) (zb_90 I147) (zs_90 I147) ⟨by decide, rfl⟩ (by omega) (c_Mo_isUnknown_90 (d - 1) (by omega) U I147 x y (by omega) (by omega) (by omega)) ?_
              rintro _ _ _ ⟨v169, rfl, rfl, rfl, f168⟩
              show ov_R u d ov_m287 115 [(0, ov_r 90), (1, ov_i x), (2, ov_i y), (3, ov_i tm), (4, ov_i ((1200 * ((6 * y) + x)) + tm)), (5, ov_i (Int.tmod ((h 90 34) + tm) (h 96 9))), (6, ov_i x6_), (7, ov_i v139), (8, ov_i x8_)] [ov_i v169] z145 h146 (P_Mo_chanceFrom_90 F z h go wt sf sm x y tm)
              rw [show h146 103 = h 103 from E158] at f168
              rw [show h146 96 = h 96 from E153] at f168
              have f170 : (v169 = 0 ∨ v169 = 1) ∧ (v169 = 1 → ((h 96 (10 + 4 * (6 * y + x))) = 2 ∧ ¬ (h 103 (4 + 6 * y + x)) = 1 ∧ ¬ 6 * y + x = (h146 90 29))) ∧ (v169 = 0 → ¬ ((h 96 (10 + 4 * (6 * y + x))) = 2 ∧ ¬ (h 103 (4 + 6 * y + x)) = 1 ∧ ¬ 6 * y + x = (h146 90 29))) := f168
              clear f168
              refine ov_ifeq (tgt := 123) d_287_115 (by decide) (by omega) (fun c171 => ?_) (fun c171 => ?_)
              · skip
                have f170_ : v169 = 0 := by omega
                have f172 : ¬ ((h 96 (10 + 4 * (6 * y + x))) = 2 ∧ ¬ (h 103 (4 + 6 * y + x)) = 1 ∧ ¬ 6 * y + x = (h146 90 29)) := f170.2.2 (by omega)
                clear f170
                exfalso; omega
              · skip
                have f170_ : v169 = 1 := by omega
                have f173 : ((h 96 (10 + 4 * (6 * y + x))) = 2 ∧ ¬ (h 103 (4 + 6 * y + x)) = 1 ∧ ¬ 6 * y + x = (h146 90 29)) := f170.2.1 (by omega)
                clear f170
                refine ov_blk (ls2 := [(0, ov_r 90), (1, ov_i x), (2, ov_i y), (3, ov_i tm), (4, ov_i ((1200 * ((6 * y) + x)) + tm)), (5, ov_i (Int.tmod ((h 90 34) + tm) (h 96 9))), (6, ov_i x6_), (7, ov_i v139), (8, ov_i x8_)]) (st2 := [ov_i x8_]) (pc2 := 120) b_287_118_1 rfl rfl ?_
                refine ov_goto (tgt := 125) d_287_120 (by decide) ?_
                refine ov_blk (ls2 := [(0, ov_r 90), (1, ov_i x), (2, ov_i y), (3, ov_i tm), (4, ov_i ((1200 * ((6 * y) + x)) + tm)), (5, ov_i (Int.tmod ((h 90 34) + tm) (h 96 9))), (6, ov_i x6_), (7, ov_i v139), (8, ov_i x8_), (9, ov_i x8_)]) (st2 := []) (pc2 := 127) b_287_125_1 rfl rfl ?_
                have gq : ov_gs (h 96) (h 97) (h 98) (ov_go (h 96) (h 103) (h 97) (h 98) go wt sf) go x y (Int.tmod ((h 90 34) + tm) (h 96 9)) x8_ := (ov_go_h (by omega) (by omega) (by omega)).mpr go1 x8_ (by omega) (by omega)
                refine ov_blk (ls2 := [(0, ov_r 90), (1, ov_i x), (2, ov_i y), (3, ov_i tm), (4, ov_i ((1200 * ((6 * y) + x)) + tm)), (5, ov_i (Int.tmod ((h 90 34) + tm) (h 96 9))), (6, ov_i x6_), (7, ov_i v139), (8, ov_i x8_), (9, ov_i x8_)]) (st2 := [ov_i x8_, ov_i (Int.tmod ((h 90 34) + tm) (h 96 9)), ov_i y, ov_i x, ov_r 90]) (pc2 := 134) b_287_127_5 rfl rfl ?_
                have cf174 : h146 96 (0) = h 96 (0) := congrFun E153 (0)
                have cf175 : h146 96 (1) = h 96 (1) := congrFun E153 (1)
                have cf176 : h146 96 (9) = h 96 (9) := congrFun E153 (9)
                have cf177 : h146 96 (8) = h 96 (8) := congrFun E153 (8)
                refine ov_cV (as := [ov_i x, ov_i y, ov_i (Int.tmod ((h 90 34) + tm) (h 96 9)), ov_i x8_]) (st := []) (d2 := d - 1) d_287_134 lk_Mo_371 rfl (Nat.le_of_ble_eq_true rfl) (c := 1) (zb_90 I147) (zs_90 I147) ⟨by decide, rfl⟩ (by omega) (c_Mo_wayOf_90_all go wt sf sm (Int.toNat (13 - (x) - (y))) (d - 1) (by omega) U I147 x y (Int.tmod ((h 90 34) + tm) (h 96 9)) x8_ (by omega) (by omega) (by omega) (by omega) (by omega) (by show x < (h146 96 0) ∧ y < (h146 96 1); omega) (by omega) (by show 0 ≤ (Int.tmod ((h 90 34) + tm) (h 96 9)) ∧ (Int.tmod ((h 90 34) + tm) (h 96 9)) < (h146 96 9); omega) (by omega) (by show (h146 90 26) = go; omega) (by show (h146 90 29) = wt; omega) (by show (h146 90 30) = sf; omega) (by show (h146 90 25) = sm; omega) (by show 0 ≤ go ∧ go ≤ 3 + (h146 96 8); omega) (by rw [show h146 96 = h 96 from E153]; exact W) (by rw [show h146 96 = h 96 from E153, show h146 97 = h 97 from E154, show h146 98 = h 98 from E155]; exact CD) (by rw [show h146 96 = h 96 from E153, show h146 103 = h 103 from E158, show h146 97 = h 97 from E154, show h146 98 = h 98 from E155]; exact xm)) ?_
                rintro _ z196 h197 ⟨v179, rfl, I198, f178, e180, e181, e182, e183, e184, e185, e186, e187, e188, e189, e190, e191, e192, e193, y194, y195⟩
                have E199 : h197 91 = h 91 := Eq.trans e180 E148
                have E200 : h197 92 = h 92 := Eq.trans e181 E149
                have E201 : h197 93 = h 93 := Eq.trans e182 E150
                have E202 : h197 94 = h 94 := Eq.trans e183 E151
                have E203 : h197 95 = h 95 := Eq.trans e184 E152
                have E204 : h197 96 = h 96 := Eq.trans e185 E153
                have E205 : h197 97 = h 97 := Eq.trans e186 E154
                have E206 : h197 98 = h 98 := Eq.trans e187 E155
                have E207 : h197 99 = h 99 := Eq.trans e188 E156
                have E208 : h197 100 = h 100 := Eq.trans e189 E157
                have E209 : h197 103 = h 103 := Eq.trans e190 E158
                have E210 : h197 104 = h 104 := Eq.trans e191 E159
                have E211 : h197 109 = h 109 := Eq.trans e192 E160
                have E212 : h197 114 = h 114 := Eq.trans e193 E161
                show ov_R u d ov_m287 137 [(0, ov_r 90), (1, ov_i x), (2, ov_i y), (3, ov_i tm), (4, ov_i ((1200 * ((6 * y) + x)) + tm)), (5, ov_i (Int.tmod ((h 90 34) + tm) (h 96 9))), (6, ov_i x6_), (7, ov_i v139), (8, ov_i x8_), (9, ov_i x8_)] [ov_i v179] z196 h197 (P_Mo_chanceFrom_90 F z h go wt sf sm x y tm)
                have f213 : (h197 90 2) = (h146 90 2) ∧ (h197 90 7) = (h146 90 7) ∧ (h197 90 8) = (h146 90 8) ∧ (h197 90 13) = (h146 90 13) ∧ (h197 90 20) = (h146 90 20) ∧ (h197 90 22) = (h146 90 22) ∧ (h197 90 25) = (h146 90 25) ∧ (h197 90 26) = (h146 90 26) ∧ (h197 90 28) = (h146 90 28) ∧ (h197 90 29) = (h146 90 29) ∧ (h197 90 30) = (h146 90 30) ∧ (h197 90 34) = (h146 90 34) ∧ -1 ≤ v179 ∧ v179 ≤ 1 := f178
                clear f178
                rw [show h146 103 = h 103 from E158] at y194
                rw [show h146 96 = h 96 from E153] at y194
                rw [show h146 97 = h 97 from E154] at y194
                rw [show h146 98 = h 98 from E155] at y194
                have y194_ : ov_MI (h 96) (h 103) (h 97) (h 98) go wt sf sm (h197 105) (h197 106) := y194
                rw [show h146 103 = h 103 from E158] at y195
                rw [show h146 96 = h 96 from E153] at y195
                rw [show h146 97 = h 97 from E154] at y195
                rw [show h146 98 = h 98 from E155] at y195
                have y195_ : ov_wf (h 96) (h 97) (h 98) (ov_go (h 96) (h 103) (h 97) (h 98) go wt sf) go x y (Int.tmod ((h 90 34) + tm) (h 96 9)) x8_ v179 := y195
                have r0 : 0 ≤ v179 := if c : 0 ≤ v179 then c else absurd gq (ov_wf_no y195_ (by omega))
                have cg := (ov_cgi_sp (h 96) x y v179).2 (y195_.1 r0)
                have gn := (ov_wf_gs y195_ r0).mpr gq
                refine ov_blk (ls2 := [(0, ov_r 90), (1, ov_i x), (2, ov_i y), (3, ov_i tm), (4, ov_i ((1200 * ((6 * y) + x)) + tm)), (5, ov_i (Int.tmod ((h 90 34) + tm) (h 96 9))), (6, ov_i x6_), (7, ov_i v139), (8, ov_i x8_), (9, ov_i x8_), (10, ov_i v179)]) (st2 := [ov_i x8_, ov_i v179, ov_i y, ov_i x, ov_r 90, ov_i tm, ov_i (y + v179), ov_i ((x + 1) - v179), ov_r 90, ov_i x6_]) (pc2 := 160) b_287_137_17 rfl rfl ?_
                have cf214 : h197 96 (10 + 4 * (6 * y + x)) = h 96 (10 + 4 * (6 * y + x)) := congrFun E204 (10 + 4 * (6 * y + x))
                have cf215 : h197 96 (10 + 4 * (6 * y + x) + 3) = h 96 (10 + 4 * (6 * y + x) + 3) := congrFun E204 (10 + 4 * (6 * y + x) + 3)
                have cf216 : h197 96 (10 + 4 * (6 * y + x) + 1) = h 96 (10 + 4 * (6 * y + x) + 1) := congrFun E204 (10 + 4 * (6 * y + x) + 1)
                refine ov_cV (as := [ov_i x, ov_i y, ov_i v179, ov_i x8_]) (st := [ov_i tm, ov_i (y + v179), ov_i ((x + 1) - v179), ov_r 90, ov_i x6_]) (d2 := d - 1) d_287_160 lk_Mo_315 rfl (Nat.le_of_ble_eq_true rfl) (c := 1) (zb_90 I198) (zs_90 I198) ⟨by decide, rfl⟩ (by omega) (c_Mo_waitFor_90 (d - 1) (by omega) U I198 x y v179 x8_ (by omega) (by omega) (by omega) (by omega) (by omega) (by omega) (by omega) (by show (((h197 96 (10 + 4 * (6 * y + x))) = 1 ∨ (h197 96 (10 + 4 * (6 * y + x))) = 2) → (v179 = 0 → 0 < (h197 96 (10 + 4 * (6 * y + x) + 3))) ∧ (¬ v179 = 0 → (h197 96 (10 + 4 * (6 * y + x) + 3)) < (h197 96 (10 + 4 * (6 * y + x) + 1)))); omega) (by rw [show h197 96 = h 96 from E204]; exact W)) ?_
                rintro _ _ _ ⟨v218, rfl, rfl, rfl, f217⟩
                show ov_R u d ov_m287 163 [(0, ov_r 90), (1, ov_i x), (2, ov_i y), (3, ov_i tm), (4, ov_i ((1200 * ((6 * y) + x)) + tm)), (5, ov_i (Int.tmod ((h 90 34) + tm) (h 96 9))), (6, ov_i x6_), (7, ov_i v139), (8, ov_i x8_), (9, ov_i x8_), (10, ov_i v179)] [ov_i v218, ov_i tm, ov_i (y + v179), ov_i ((x + 1) - v179), ov_r 90, ov_i x6_] z196 h197 (P_Mo_chanceFrom_90 F z h go wt sf sm x y tm)
                rw [show h197 96 = h 96 from E204] at f217
                have f219 : 0 ≤ v218 ∧ v218 ≤ 59 ∧ v218 = ov_wm (h 96) (6 * y + x) v179 x8_ := f217
                clear f217
                refine ov_blk (ls2 := [(0, ov_r 90), (1, ov_i x), (2, ov_i y), (3, ov_i tm), (4, ov_i ((1200 * ((6 * y) + x)) + tm)), (5, ov_i (Int.tmod ((h 90 34) + tm) (h 96 9))), (6, ov_i x6_), (7, ov_i v139), (8, ov_i x8_), (9, ov_i x8_), (10, ov_i v179)]) (st2 := [ov_r 90, ov_i (tm + v218), ov_i (y + v179), ov_i ((x + 1) - v179), ov_r 90, ov_i x6_]) (pc2 := 165) b_287_163_2 rfl rfl ?_
                refine ov_getf (v := ov_r 96) d_287_165 fl_Mo_81 (zb_90 I198) (zs_90 I198) (congrArg ov_r (rg_90_10 I198)) ?_
                refine ov_blk (ls2 := [(0, ov_r 90), (1, ov_i x), (2, ov_i y), (3, ov_i tm), (4, ov_i ((1200 * ((6 * y) + x)) + tm)), (5, ov_i (Int.tmod ((h 90 34) + tm) (h 96 9))), (6, ov_i x6_), (7, ov_i v139), (8, ov_i x8_), (9, ov_i x8_), (10, ov_i v179)]) (st2 := [ov_i 2, ov_r 96, ov_i (tm + v218), ov_i (y + v179), ov_i ((x + 1) - v179), ov_r 90, ov_i x6_]) (pc2 := 169) b_287_168_1 rfl rfl ?_
                refine ov_iald d_287_169 (zb_96 I198) (zs_96 I198) (by omega) ?_
                rw [show h197 96 = h 96 from E204]
                have g220 := t96_2 I
                refine ov_blk (ls2 := [(0, ov_r 90), (1, ov_i x), (2, ov_i y), (3, ov_i tm), (4, ov_i ((1200 * ((6 * y) + x)) + tm)), (5, ov_i (Int.tmod ((h 90 34) + tm) (h 96 9))), (6, ov_i x6_), (7, ov_i v139), (8, ov_i x8_), (9, ov_i x8_), (10, ov_i v179)]) (st2 := [ov_i ((tm + v218) + (h 96 2)), ov_i (y + v179), ov_i ((x + 1) - v179), ov_r 90, ov_i x6_]) (pc2 := 171) b_287_170_1 rfl rfl ?_
                have ec : ((h197 90 34) + ((tm + v218) + (h 96 2))) % h 96 9 = ov_nx (h 96) (Int.tmod ((h 90 34) + tm) (h 96 9)) (ov_wm (h 96) (6 * y + x) v179 x8_) := by rw [show (h197 90 34) = h 90 34 by omega, show v218 = ov_wm (h 96) (6 * y + x) v179 x8_ by omega]; exact ov_nxa gt2
                have cf221 : h197 96 (0) = h 96 (0) := congrFun E204 (0)
                have cf222 : h197 96 (1) = h 96 (1) := congrFun E204 (1)
                have cf223 : h197 96 (8) = h 96 (8) := congrFun E204 (8)
                refine ov_cV (as := [ov_i ((x + 1) - v179), ov_i (y + v179), ov_i ((tm + v218) + (h 96 2))]) (st := [ov_i x6_]) (d2 := d - 1) d_287_171 lk_Mo_408 rfl (Nat.le_of_ble_eq_true rfl) (c := 1) (zb_90 I198) (zs_90 I198) ⟨by decide, rfl⟩ (by omega) (HV (Int.toNat (13 - (((x + 1) - v179)) - ((y + v179)))) (by omega) (d - 1) (by omega) U I198 ((x + 1) - v179) (y + v179) ((tm + v218) + (h 96 2)) (by omega) (by omega) (by omega) (by omega) (by show ((x + 1) - v179) < (h197 96 0) ∧ (y + v179) < (h197 96 1); omega) (by omega) (by omega) (by omega) (by show (h197 90 26) = go; omega) (by show (h197 90 29) = wt; omega) (by show (h197 90 30) = sf; omega) (by show (h197 90 25) = sm; omega) (by show 0 ≤ go ∧ go ≤ 3 + (h197 96 8); omega) (by rw [show h197 96 = h 96 from E204]; exact W) (by rw [show h197 96 = h 96 from E204, show h197 97 = h 97 from E205, show h197 98 = h 98 from E206]; exact CD) (by rw [show h197 96 = h 96 from E204, show h197 103 = h 103 from E209, show h197 97 = h 97 from E205, show h197 98 = h 98 from E206]; exact y194_) (by rw [show h197 96 = h 96 from E204, show h197 103 = h 103 from E209, show h197 97 = h 97 from E205, show h197 98 = h 98 from E206, ec]; exact gn)) ?_
                rintro _ z241 h242 ⟨v225, rfl, I243, f224, e226, e227, e228, e229, e230, e231, e232, e233, e234, e235, e236, e237, e238, e239, y240⟩
                have E244 : h242 91 = h 91 := Eq.trans e226 E199
                have E245 : h242 92 = h 92 := Eq.trans e227 E200
                have E246 : h242 93 = h 93 := Eq.trans e228 E201
                have E247 : h242 94 = h 94 := Eq.trans e229 E202
                have E248 : h242 95 = h 95 := Eq.trans e230 E203
                have E249 : h242 96 = h 96 := Eq.trans e231 E204
                have E250 : h242 97 = h 97 := Eq.trans e232 E205
                have E251 : h242 98 = h 98 := Eq.trans e233 E206
                have E252 : h242 99 = h 99 := Eq.trans e234 E207
                have E253 : h242 100 = h 100 := Eq.trans e235 E208
                have E254 : h242 103 = h 103 := Eq.trans e236 E209
                have E255 : h242 104 = h 104 := Eq.trans e237 E210
                have E256 : h242 109 = h 109 := Eq.trans e238 E211
                have E257 : h242 114 = h 114 := Eq.trans e239 E212
                show ov_R u d ov_m287 174 [(0, ov_r 90), (1, ov_i x), (2, ov_i y), (3, ov_i tm), (4, ov_i ((1200 * ((6 * y) + x)) + tm)), (5, ov_i (Int.tmod ((h 90 34) + tm) (h 96 9))), (6, ov_i x6_), (7, ov_i v139), (8, ov_i x8_), (9, ov_i x8_), (10, ov_i v179)] [ov_i v225, ov_i x6_] z241 h242 (P_Mo_chanceFrom_90 F z h go wt sf sm x y tm)
                have f258 : (h242 90 2) = (h197 90 2) ∧ (h242 90 7) = (h197 90 7) ∧ (h242 90 8) = (h197 90 8) ∧ (h242 90 13) = (h197 90 13) ∧ (h242 90 20) = (h197 90 20) ∧ (h242 90 22) = (h197 90 22) ∧ (h242 90 25) = (h197 90 25) ∧ (h242 90 26) = (h197 90 26) ∧ (h242 90 28) = (h197 90 28) ∧ (h242 90 29) = (h197 90 29) ∧ (h242 90 30) = (h197 90 30) ∧ (h242 90 34) = (h197 90 34) ∧ -2147483648 ≤ v225 ∧ v225 ≤ 2147483647 := f224
                clear f224
                rw [show h197 103 = h 103 from E209] at y240
                rw [show h197 96 = h 96 from E204] at y240
                rw [show h197 97 = h 97 from E205] at y240
                rw [show h197 98 = h 98 from E206] at y240
                have y240_ : ov_MI (h 96) (h 103) (h 97) (h 98) go wt sf sm (h242 105) (h242 106) := y240
                refine ov_blk (ls2 := [(0, ov_r 90), (1, ov_i x), (2, ov_i y), (3, ov_i tm), (4, ov_i ((1200 * ((6 * y) + x)) + tm)), (5, ov_i (Int.tmod ((h 90 34) + tm) (h 96 9))), (6, ov_i x6_), (7, ov_i v139), (8, ov_i x8_), (9, ov_i x8_), (10, ov_i v179)]) (st2 := [ov_i (x6_ + v225)]) (pc2 := 175) b_287_174_1 rfl rfl ?_
                refine ov_hav (fun w259 gw259 => ?_)
                refine ov_blk (ls2 := [(0, ov_r 90), (1, ov_i x), (2, ov_i y), (3, ov_i tm), (4, ov_i ((1200 * ((6 * y) + x)) + tm)), (5, ov_i (Int.tmod ((h 90 34) + tm) (h 96 9))), (6, ov_i w259), (7, ov_i v139), (8, ov_i (x8_ + 1)), (9, ov_i x8_), (10, ov_i v179)]) (st2 := []) (pc2 := 180) b_287_175_2 rfl rfl ?_
                refine ov_goto (tgt := 102) d_287_180 (by decide) ?_
                refine ov_sub (ls2 := [(0, ov_r 90), (1, ov_i x), (2, ov_i y), (3, ov_i tm), (4, ov_i ((1200 * ((6 * y) + x)) + tm)), (5, ov_i (Int.tmod ((h 90 34) + tm) (h 96 9))), (6, ov_i w259), (7, ov_i v139), (8, ov_i (x8_ + 1))]) (List.Sublist.subset (by repeat (first | exact List.Sublist.refl _ | apply List.Sublist.cons_cons | apply List.Sublist.cons))) ?_
                exact ih142 w259 (x8_ + 1) _ _ I243 E244 E245 E246 E247 E248 E249 E250 E251 E252 E253 E254 E255 E256 E257 y240_ (by show 0 ≤ (x8_ + 1) ∧ (x8_ + 1) ≤ 60 ∧ (x8_ + 1) ≤ v139 ∧ ov_g w259 ∧ (h242 90 2) = (h 90 2) ∧ (h242 90 7) = (h 90 7) ∧ (h242 90 8) = (h 90 8) ∧ (h242 90 13) = (h 90 13) ∧ (h242 90 20) = (h 90 20) ∧ (h242 90 22) = (h 90 22) ∧ (h242 90 25) = (h 90 25) ∧ (h242 90 26) = (h 90 26) ∧ (h242 90 28) = (h 90 28) ∧ (h242 90 29) = (h 90 29) ∧ (h242 90 30) = (h 90 30) ∧ (h242 90 34) = (h 90 34); omega) (by omega)
        exact L144 61 0 0 _ _ I rfl rfl rfl rfl rfl rfl rfl rfl rfl rfl rfl rfl rfl rfl MI (by show 0 ≤ 0 ∧ 0 ≤ 60 ∧ 0 ≤ v139 ∧ ov_g 0 ∧ (h 90 2) = (h 90 2) ∧ (h 90 7) = (h 90 7) ∧ (h 90 8) = (h 90 8) ∧ (h 90 13) = (h 90 13) ∧ (h 90 20) = (h 90 20) ∧ (h 90 22) = (h 90 22) ∧ (h 90 25) = (h 90 25) ∧ (h 90 26) = (h 90 26) ∧ (h 90 28) = (h 90 28) ∧ (h 90 29) = (h 90 29) ∧ (h 90 30) = (h 90 30) ∧ (h 90 34) = (h 90 34); omega) (by omega)
  · skip
    have f3_ : v2 = 1 := by omega
    have f260 : x = (h 96 0) - 1 ∧ y = (h 96 1) - 1 := f3.2.1 (by omega)
    clear f3
    refine ov_blk (ls2 := [(0, ov_r 90), (1, ov_i x), (2, ov_i y), (3, ov_i tm)]) (st2 := [ov_r 90]) (pc2 := 10) b_287_9_1 rfl rfl ?_
    refine ov_getf (v := ov_i (h 90 34)) d_287_10 fl_Mo_399 (zb_90 I) (zs_90 I) rfl ?_
    have g261 := rg_90_34 I
    refine ov_blk (ls2 := [(0, ov_r 90), (1, ov_i x), (2, ov_i y), (3, ov_i tm)]) (st2 := [ov_r 90, ov_i ((h 90 34) + tm)]) (pc2 := 16) b_287_13_3 rfl rfl ?_
    refine ov_getf (v := ov_i (h 90 35)) d_287_16 fl_Mo_402 (zb_90 I) (zs_90 I) rfl ?_
    have g262 := rg_90_35 I
    refine ov_icgt (tgt := 28) d_287_19 (by decide) (by omega) (by omega) (fun c263 => ?_) (fun c263 => ?_)
    · skip
      refine ov_blk (ls2 := [(0, ov_r 90), (1, ov_i x), (2, ov_i y), (3, ov_i tm)]) (st2 := [ov_i 0]) (pc2 := 29) b_287_28_1 rfl rfl ?_
      exact ov_reti (st := []) d_287_29 rfl ⟨_, rfl, I, ⟨rfl, rfl, rfl, rfl, rfl, rfl, rfl, rfl, rfl, rfl, rfl, rfl, (by show -2147483648 ≤ 0 ∧ 0 ≤ 2147483647; omega)⟩, rfl, rfl, rfl, rfl, rfl, rfl, rfl, rfl, rfl, rfl, rfl, rfl, rfl, rfl, MI⟩
    · skip
      refine ov_ldcw (n := 1000000) d_287_22 kc_Mo_305 ?_
      refine ov_goto (tgt := 29) d_287_25 (by decide) ?_
      exact ov_reti (st := []) d_287_29 rfl ⟨_, rfl, I, ⟨rfl, rfl, rfl, rfl, rfl, rfl, rfl, rfl, rfl, rfl, rfl, rfl, (by show -2147483648 ≤ 1000000 ∧ 1000000 ≤ 2147483647; omega)⟩, rfl, rfl, rfl, rfl, rfl, rfl, rfl, rfl, rfl, rfl, rfl, rfl, rfl, rfl, MI⟩
theorem c_Mo_chanceFrom_90_all {u : ov_U} {F : ov_H × ov_Z} (go : Int) (wt : Int) (sf : Int) (sm : Int) (k : Nat) : ∀ {z : ov_Z} {h : ov_H} (d : Nat) (hd : (90 + 1 * k + 0) ≤ d) (U : ov_cap u) (I : ov_N F z h) (x : Int) (y : Int) (tm : Int) (g_x : ov_g x) (g_y : ov_g y) (g_tm : ov_g tm) (p0 : 0 ≤ x ∧ x ≤ 5 ∧ 0 ≤ y ∧ y ≤ 8) (p1 : x < (h 96 0) ∧ y < (h 96 1)) (p2 : x + y + (k : Int) = 13) (p3 : 0 ≤ tm ∧ tm + 89 * (k : Int) ≤ 1157) (p4 : wt = -1) (p5 : (h 90 26) = go) (p6 : (h 90 29) = wt) (p7 : (h 90 30) = sf) (p8 : (h 90 25) = sm) (p9 : 0 ≤ go ∧ go ≤ 3 + (h 96 8)) (W : ov_WT (h 96)) (CD : ov_CD (h 96) (h 97) (h 98)) (MI : ov_MI (h 96) (h 103) (h 97) (h 98) go wt sf sm (h 105) (h 106)) (GH : ov_go (h 96) (h 103) (h 97) (h 98) go wt sf x y (((h 90 34) + tm) % (h 96 9))), ov_T u d ov_m287 [ov_r 90, ov_i x, ov_i y, ov_i tm] z h (P_Mo_chanceFrom_90 F z h go wt sf sm x y tm) := by
  induction k using Nat.strongRecOn with
  | ind k ih => exact fun {z} {h} => @c_Mo_chanceFrom_90 u F go wt sf sm k (fun k' hk => @ih k' hk) z h
abbrev P_Mo_odds_90 (F : ov_H × ov_Z) (z : ov_Z) (h : ov_H) (ge : Int) (s : Int) (b : Int) : Option ov_V → ov_Z → ov_H → Prop := fun r0 z' h' => ∃ r : Int, r0 = some (ov_i r) ∧ ov_N F z' h' ∧ ((h' 90 2) = (h 90 2) ∧ (h' 90 7) = (h 90 7) ∧ (h' 90 8) = (h 90 8) ∧ (h' 90 13) = (h 90 13) ∧ (h' 90 20) = (h 90 20) ∧ (h' 90 22) = (h 90 22) ∧ (h 90 25) ≤ (h' 90 25) ∧ (h' 90 25) ≤ (h 90 25) + 1 ∧ -2147483648 ≤ r ∧ r ≤ 2147483647) ∧ h' 91 = h 91 ∧ h' 92 = h 92 ∧ h' 93 = h 93 ∧ h' 94 = h 94 ∧ h' 95 = h 95 ∧ h' 96 = h 96 ∧ h' 97 = h 97 ∧ h' 98 = h 98 ∧ h' 99 = h 99 ∧ h' 100 = h 100 ∧ h' 103 = h 103 ∧ h' 104 = h 104 ∧ h' 109 = h 109 ∧ h' 114 = h 114 ∧ (ov_PM (h 96) (h 103) (h 97) (h 98) (h' 105) (h' 106) (h' 90 22) (h' 90 25) (h' 90 26) (h' 90 28) (h' 90 29) (h' 90 30))
set_option maxHeartbeats 4000000 in
theorem c_Mo_odds_90 {u : ov_U} {F : ov_H × ov_Z} {z : ov_Z} {h : ov_H} (d : Nat) (hd : 110 ≤ d) (U : ov_cap u) (I : ov_N F z h) (ge : Int) (s : Int) (b : Int) (g_ge : ov_g ge) (g_s : ov_g s) (g_b : ov_g b) (p0 : 0 ≤ (h 90 25) ∧ (h 90 25) ≤ 1000000000) (W : ov_WT (h 96)) (CD : ov_CD (h 96) (h 97) (h 98)) (PM : ov_PM (h 96) (h 103) (h 97) (h 98) (h 105) (h 106) (h 90 22) (h 90 25) (h 90 26) (h 90 28) (h 90 29) (h 90 30)) : ov_T u d ov_m286 [ov_r 90, ov_i ge, ov_i s, ov_i b] z h (P_Mo_odds_90 F z h ge s b) := by
  refine ov_en rfl (Nat.le_of_ble_eq_true rfl) ?_
  show ov_R u d ov_m286 0 [(0, ov_r 90), (1, ov_i ge), (2, ov_i s), (3, ov_i b)] [] z h (P_Mo_odds_90 F z h ge s b)
  have t0 := t96_0 I
  have t1 := t96_1 I
  have t8 := t96_8 I
  have t9 := t96_9 I
  refine ov_blk (ls2 := [(0, ov_r 90), (1, ov_i ge), (2, ov_i s), (3, ov_i b)]) (st2 := [ov_i 0, ov_r 90]) (pc2 := 2) b_286_0_2 rfl rfl ?_
  refine ov_putf (x := 0) d_286_2 fl_Mo_1 (zb_90 I) (zs_90 I) rfl nk_0 rfl ?_
  have I1 := up_90_0 (x := 0) I (by omega)
  refine ov_blk (ls2 := [(0, ov_r 90), (1, ov_i ge), (2, ov_i s), (3, ov_i b)]) (st2 := [ov_i ge, ov_r 90]) (pc2 := 7) b_286_5_2 rfl rfl ?_
  refine ov_cV (as := [ov_i ge]) (st := []) (d2 := d - 1) d_286_7 lk_Mo_383 rfl (Nat.le_of_ble_eq_true rfl) (c := 1) (zb_90 I1) (zs_90 I1) ⟨by decide, rfl⟩ (by omega) (c_Mo_isGoer_90 (d - 1) (by omega) U I1 ge (by omega)) ?_
  rintro _ _ _ ⟨v3, rfl, rfl, rfl, f2⟩
  show ov_R u d ov_m286 10 [(0, ov_r 90), (1, ov_i ge), (2, ov_i s), (3, ov_i b)] [ov_i v3] z (ov_up h 90 0 0) (P_Mo_odds_90 F z h ge s b)
  have f4 : (v3 = 0 ∨ v3 = 1) ∧ (v3 = 1 → 0 ≤ ge ∧ ge ≤ 3 + (h 96 8)) := f2
  clear f2
  refine ov_ifeq (tgt := 29) d_286_10 (by decide) (by omega) (fun c5 => ?_) (fun c5 => ?_)
  · skip
    have f4_ : v3 = 0 := by omega
    clear f4
    refine ov_blk (ls2 := [(0, ov_r 90), (1, ov_i ge), (2, ov_i s), (3, ov_i b)]) (st2 := [ov_i (-1)]) (pc2 := 30) b_286_29_1 rfl rfl ?_
    exact ov_reti (st := []) d_286_30 rfl ⟨_, rfl, I1, ⟨rfl, rfl, rfl, rfl, rfl, rfl, (by show (h 90 25) ≤ (h 90 25) ∧ (h 90 25) ≤ (h 90 25) + 1 ∧ -2147483648 ≤ (-1) ∧ (-1) ≤ 2147483647; omega)⟩, rfl, rfl, rfl, rfl, rfl, rfl, rfl, rfl, rfl, rfl, rfl, rfl, rfl, rfl, PM⟩
  · skip
    have f4_ : v3 = 1 := by omega
    have f6 : 0 ≤ ge ∧ ge ≤ 3 + (h 96 8) := f4.2 (by omega)
    clear f4
    refine ov_blk (ls2 := [(0, ov_r 90), (1, ov_i ge), (2, ov_i s), (3, ov_i b)]) (st2 := [ov_i s, ov_r 90]) (pc2 := 15) b_286_13_2 rfl rfl ?_
    refine ov_cV (as := [ov_i s]) (st := []) (d2 := d - 1) d_286_15 lk_Mo_306 rfl (Nat.le_of_ble_eq_true rfl) (c := 1) (zb_90 I1) (zs_90 I1) ⟨by decide, rfl⟩ (by omega) (c_Mo_isSecond_90 (d - 1) (by omega) U I1 s (by omega)) ?_
    rintro _ _ _ ⟨v8, rfl, rfl, rfl, f7⟩
    show ov_R u d ov_m286 18 [(0, ov_r 90), (1, ov_i ge), (2, ov_i s), (3, ov_i b)] [ov_i v8] z (ov_up h 90 0 0) (P_Mo_odds_90 F z h ge s b)
    have f9 : (v8 = 0 ∨ v8 = 1) ∧ (v8 = 1 → 0 ≤ s ∧ s ≤ 1000000) := f7
    clear f7
    refine ov_ifeq (tgt := 29) d_286_18 (by decide) (by omega) (fun c10 => ?_) (fun c10 => ?_)
    · skip
      have f9_ : v8 = 0 := by omega
      clear f9
      refine ov_blk (ls2 := [(0, ov_r 90), (1, ov_i ge), (2, ov_i s), (3, ov_i b)]) (st2 := [ov_i (-1)]) (pc2 := 30) b_286_29_1 rfl rfl ?_
      exact ov_reti (st := []) d_286_30 rfl ⟨_, rfl, I1, ⟨rfl, rfl, rfl, rfl, rfl, rfl, (by show (h 90 25) ≤ (h 90 25) ∧ (h 90 25) ≤ (h 90 25) + 1 ∧ -2147483648 ≤ (-1) ∧ (-1) ≤ 2147483647; omega)⟩, rfl, rfl, rfl, rfl, rfl, rfl, rfl, rfl, rfl, rfl, rfl, rfl, rfl, rfl, PM⟩
    · skip
      have f9_ : v8 = 1 := by omega
      have f11 : 0 ≤ s ∧ s ≤ 1000000 := f9.2 (by omega)
      clear f9
      refine ov_blk (ls2 := [(0, ov_r 90), (1, ov_i ge), (2, ov_i s), (3, ov_i b)]) (st2 := [ov_i b, ov_r 90]) (pc2 := 23) b_286_21_2 rfl rfl ?_
      refine ov_cV (as := [ov_i b]) (st := []) (d2 := d - 1) d_286_23 lk_Mo_306 rfl (Nat.le_of_ble_eq_true rfl) (c := 1) (zb_90 I1) (zs_90 I1) ⟨by decide, rfl⟩ (by omega) (c_Mo_isSecond_90 (d - 1) (by omega) U I1 b (by omega)) ?_
      rintro _ _ _ ⟨v13, rfl, rfl, rfl, f12⟩
      show ov_R u d ov_m286 26 [(0, ov_r 90), (1, ov_i ge), (2, ov_i s), (3, ov_i b)] [ov_i v13] z (ov_up h 90 0 0) (P_Mo_odds_90 F z h ge s b)
      have f14 : (v13 = 0 ∨ v13 = 1) ∧ (v13 = 1 → 0 ≤ b ∧ b ≤ 1000000) := f12
      clear f12
      refine ov_ifne (tgt := 31) d_286_26 (by decide) (by omega) (fun c15 => ?_) (fun c15 => ?_)
      · skip
        have f14_ : v13 = 1 := by omega
        have f16 : 0 ≤ b ∧ b ≤ 1000000 := f14.2 (by omega)
        clear f14
        refine ov_blk (ls2 := [(0, ov_r 90), (1, ov_i ge), (2, ov_i s), (3, ov_i b)]) (st2 := [ov_i 0, ov_i (-1), ov_i 0, ov_i ge, ov_r 90]) (pc2 := 36) b_286_31_5 rfl rfl ?_
        refine ov_cV (as := [ov_i ge, ov_i 0, ov_i (-1), ov_i 0]) (st := []) (d2 := d - 1) d_286_36 lk_Mo_389 rfl (Nat.le_of_ble_eq_true rfl) (c := 1) (zb_90 I1) (zs_90 I1) ⟨by decide, rfl⟩ (by omega) (c_Mo_asks_90 (d - 1) (by omega) U I1 ge 0 (-1) 0 (by omega) (by omega) (by omega) (by omega) (by omega) (by omega) (by omega) (by show 0 ≤ (h 90 25) ∧ (h 90 25) ≤ 2000000000; omega)) ?_
        rintro _ z34 h35 ⟨rfl, I36, f17, e18, e19, e20, e21, e22, e23, e24, e25, e26, e27, e28, e29, e30, e31, e32, e33⟩
        have E37 : h35 91 = h 91 := e18
        have E38 : h35 92 = h 92 := e19
        have E39 : h35 93 = h 93 := e20
        have E40 : h35 94 = h 94 := e21
        have E41 : h35 95 = h 95 := e22
        have E42 : h35 96 = h 96 := e23
        have E43 : h35 97 = h 97 := e24
        have E44 : h35 98 = h 98 := e25
        have E45 : h35 99 = h 99 := e26
        have E46 : h35 100 = h 100 := e27
        have E47 : h35 103 = h 103 := e28
        have E48 : h35 104 = h 104 := e29
        have E49 : h35 105 = h 105 := e30
        have E50 : h35 106 = h 106 := e31
        have E51 : h35 109 = h 109 := e32
        have E52 : h35 114 = h 114 := e33
        show ov_R u d ov_m286 39 [(0, ov_r 90), (1, ov_i ge), (2, ov_i s), (3, ov_i b)] [] z34 h35 (P_Mo_odds_90 F z h ge s b)
        have f53 : (h35 90 2) = (h 90 2) ∧ (h35 90 7) = (h 90 7) ∧ (h35 90 8) = (h 90 8) ∧ (h35 90 13) = (h 90 13) ∧ (h35 90 20) = (h 90 20) ∧ (h35 90 22) = (h 90 22) ∧ (h35 90 34) = (h 90 34) ∧ (h35 90 26) = ge ∧ (h35 90 27) = (0 : Int) ∧ (h35 90 28) = (h 90 22) ∧ (h35 90 29) = ((-1) : Int) ∧ (h35 90 30) = (0 : Int) ∧ (((h35 90 25) = (h 90 25) + 1) ∨ ((h35 90 25) = (h 90 25) ∧ (h 90 26) = ge ∧ (h 90 27) = (0 : Int) ∧ (h 90 28) = (h 90 22) ∧ (h 90 29) = ((-1) : Int) ∧ (h 90 30) = (0 : Int))) := f17
        clear f17
        have mi54 : ov_MI (h 96) (h 103) (h 97) (h 98) ge (-1) 0 (h35 90 25) (h 105) (h 106) := ov_PM_ask PM (by omega)
        refine ov_blk (ls2 := [(0, ov_r 90), (1, ov_i ge), (2, ov_i s), (3, ov_i b)]) (st2 := [ov_i s, ov_i 0, ov_i 0, ov_r 90]) (pc2 := 43) b_286_39_4 rfl rfl ?_
        have cf55 : h35 96 (0) = h 96 (0) := congrFun E42 (0)
        have cf56 : h35 96 (1) = h 96 (1) := congrFun E42 (1)
        have cf57 : h35 96 (8) = h 96 (8) := congrFun E42 (8)
        refine ov_cV (as := [ov_i 0, ov_i 0, ov_i s]) (st := []) (d2 := d - 1) d_286_43 lk_Mo_377 rfl (Nat.le_of_ble_eq_true rfl) (c := 1) (zb_90 I36) (zs_90 I36) ⟨by decide, rfl⟩ (by omega) (c_Mo_worthFrom_90_all ge ((-1)) 0 ((h35 90 25)) (Int.toNat (13 - (0) - (0))) (d - 1) (by omega) U I36 0 0 s (by omega) (by omega) (by omega) (by omega) (by show (0 : Int) < (h35 96 0) ∧ (0 : Int) < (h35 96 1); omega) (by omega) (by omega) (by show (h35 90 26) = ge; omega) (by show (h35 90 29) = ((-1) : Int); omega) (by show (h35 90 30) = (0 : Int); omega) (by show (h35 90 25) = (h35 90 25); omega) (by show 0 ≤ ge ∧ ge ≤ 3 + (h35 96 8); omega) (by rw [show h35 96 = h 96 from E42]; exact W) (by rw [show h35 96 = h 96 from E42, show h35 97 = h 97 from E43, show h35 98 = h 98 from E44]; exact CD) (by rw [show h35 96 = h 96 from E42, show h35 103 = h 103 from E47, show h35 97 = h 97 from E43, show h35 98 = h 98 from E44, show h35 105 = h 105 from E49, show h35 106 = h 106 from E50]; exact mi54)) ?_
        rintro _ z76 h77 ⟨v59, rfl, I78, f58, e60, e61, e62, e63, e64, e65, e66, e67, e68, e69, e70, e71, e72, e73, y74, y75⟩
        have E79 : h77 91 = h 91 := Eq.trans e60 E37
        have E80 : h77 92 = h 92 := Eq.trans e61 E38
        have E81 : h77 93 = h 93 := Eq.trans e62 E39
        have E82 : h77 94 = h 94 := Eq.trans e63 E40
        have E83 : h77 95 = h 95 := Eq.trans e64 E41
        have E84 : h77 96 = h 96 := Eq.trans e65 E42
        have E85 : h77 97 = h 97 := Eq.trans e66 E43
        have E86 : h77 98 = h 98 := Eq.trans e67 E44
        have E87 : h77 99 = h 99 := Eq.trans e68 E45
        have E88 : h77 100 = h 100 := Eq.trans e69 E46
        have E89 : h77 103 = h 103 := Eq.trans e70 E47
        have E90 : h77 104 = h 104 := Eq.trans e71 E48
        have E91 : h77 109 = h 109 := Eq.trans e72 E51
        have E92 : h77 114 = h 114 := Eq.trans e73 E52
        show ov_R u d ov_m286 46 [(0, ov_r 90), (1, ov_i ge), (2, ov_i s), (3, ov_i b)] [ov_i v59] z76 h77 (P_Mo_odds_90 F z h ge s b)
        have f93 : (h77 90 2) = (h35 90 2) ∧ (h77 90 7) = (h35 90 7) ∧ (h77 90 8) = (h35 90 8) ∧ (h77 90 13) = (h35 90 13) ∧ (h77 90 20) = (h35 90 20) ∧ (h77 90 22) = (h35 90 22) ∧ (h77 90 25) = (h35 90 25) ∧ (h77 90 26) = (h35 90 26) ∧ (h77 90 28) = (h35 90 28) ∧ (h77 90 29) = (h35 90 29) ∧ (h77 90 30) = (h35 90 30) ∧ (h77 90 34) = (h35 90 34) ∧ -1 ≤ v59 ∧ v59 ≤ 89000 * (13 - (0 : Int) - (0 : Int)) := f58
        clear f58
        rw [show h35 103 = h 103 from E47] at y74
        rw [show h35 96 = h 96 from E42] at y74
        rw [show h35 97 = h 97 from E43] at y74
        rw [show h35 98 = h 98 from E44] at y74
        have y74_ : ov_MI (h 96) (h 103) (h 97) (h 98) ge ((-1) : Int) (0 : Int) (h35 90 25) (h77 105) (h77 106) := y74
        rw [show h35 103 = h 103 from E47] at y75
        rw [show h35 96 = h 96 from E42] at y75
        rw [show h35 97 = h 97 from E43] at y75
        rw [show h35 98 = h 98 from E44] at y75
        have y75_ : (0 ≤ v59 ↔ ov_go (h 96) (h 103) (h 97) (h 98) ge ((-1) : Int) (0 : Int) (0 : Int) (0 : Int) (s % (h 96 9))) := y75
        refine ov_ifge (tgt := 51) d_286_46 (by decide) (by omega) (fun c94 => ?_) (fun c94 => ?_)
        · skip
          refine ov_blk (ls2 := [(0, ov_r 90), (1, ov_i ge), (2, ov_i s), (3, ov_i b)]) (st2 := [ov_r 90, ov_r 90]) (pc2 := 53) b_286_51_2 rfl rfl ?_
          refine ov_getf (v := ov_i (h77 90 33)) d_286_53 fl_Mo_405 (zb_90 I78) (zs_90 I78) rfl ?_
          have g95 := rg_90_33 I78
          refine ov_blk (ls2 := [(0, ov_r 90), (1, ov_i ge), (2, ov_i s), (3, ov_i b)]) (st2 := [ov_i ((h77 90 33) + 1), ov_r 90]) (pc2 := 58) b_286_56_2 rfl rfl ?_
          refine ov_hav (fun w96 gw96 => ?_)
          refine ov_putf (x := w96) d_286_58 fl_Mo_405 (zb_90 I78) (zs_90 I78) rfl nk_0 rfl ?_
          have I97 := up_90_33 (x := w96) I78 (by omega)
          refine ov_blk (ls2 := [(0, ov_r 90), (1, ov_i ge), (2, ov_i s), (3, ov_i b)]) (st2 := [ov_i s, ov_r 90]) (pc2 := 63) b_286_61_2 rfl rfl ?_
          refine ov_putf (x := s) d_286_63 fl_Mo_399 (zb_90 I97) (zs_90 I97) rfl nk_0 rfl ?_
          have I98 := up_90_34 (x := s) I97 (by omega)
          refine ov_blk (ls2 := [(0, ov_r 90), (1, ov_i ge), (2, ov_i s), (3, ov_i b)]) (st2 := [ov_i b, ov_r 90]) (pc2 := 68) b_286_66_2 rfl rfl ?_
          refine ov_putf (x := b) d_286_68 fl_Mo_402 (zb_90 I98) (zs_90 I98) rfl nk_0 rfl ?_
          have I99 := up_90_35 (x := b) I98 (by omega)
          refine ov_blk (ls2 := [(0, ov_r 90), (1, ov_i ge), (2, ov_i s), (3, ov_i b)]) (st2 := [ov_i 0, ov_i 0, ov_i 0, ov_r 90]) (pc2 := 75) b_286_71_4 rfl rfl ?_
          have cf100 : h77 96 (0) = h 96 (0) := congrFun E84 (0)
          have cf101 : h77 96 (1) = h 96 (1) := congrFun E84 (1)
          have cf102 : h77 96 (8) = h 96 (8) := congrFun E84 (8)
          refine ov_cV (as := [ov_i 0, ov_i 0, ov_i 0]) (st := []) (d2 := d - 1) d_286_75 lk_Mo_408 rfl (Nat.le_of_ble_eq_true rfl) (c := 1) (zb_90 I99) (zs_90 I99) ⟨by decide, rfl⟩ (by omega) (c_Mo_chanceFrom_90_all ge ((-1)) 0 ((h35 90 25)) (Int.toNat (13 - (0) - (0))) (d - 1) (by omega) U I99 0 0 0 (by omega) (by omega) (by omega) (by omega) (by show (0 : Int) < (h77 96 0) ∧ (0 : Int) < (h77 96 1); omega) (by omega) (by omega) (by omega) (by show (h77 90 26) = ge; omega) (by show (h77 90 29) = ((-1) : Int); omega) (by show (h77 90 30) = (0 : Int); omega) (by show (h77 90 25) = (h35 90 25); omega) (by show 0 ≤ ge ∧ ge ≤ 3 + (h77 96 8); omega) (by rw [show (ov_up (ov_up (ov_up h77 90 33 w96) 90 34 s) 90 35 b) 96 = h 96 from E84]; exact W) (by rw [show (ov_up (ov_up (ov_up h77 90 33 w96) 90 34 s) 90 35 b) 96 = h 96 from E84, show (ov_up (ov_up (ov_up h77 90 33 w96) 90 34 s) 90 35 b) 97 = h 97 from E85, show (ov_up (ov_up (ov_up h77 90 33 w96) 90 34 s) 90 35 b) 98 = h 98 from E86]; exact CD) (by rw [show (ov_up (ov_up (ov_up h77 90 33 w96) 90 34 s) 90 35 b) 96 = h 96 from E84, show (ov_up (ov_up (ov_up h77 90 33 w96) 90 34 s) 90 35 b) 103 = h 103 from E89, show (ov_up (ov_up (ov_up h77 90 33 w96) 90 34 s) 90 35 b) 97 = h 97 from E85, show (ov_up (ov_up (ov_up h77 90 33 w96) 90 34 s) 90 35 b) 98 = h 98 from E86]; exact y74_) (by rw [show (ov_up (ov_up (ov_up h77 90 33 w96) 90 34 s) 90 35 b) 96 = h 96 from E84, show (ov_up (ov_up (ov_up h77 90 33 w96) 90 34 s) 90 35 b) 103 = h 103 from E89, show (ov_up (ov_up (ov_up h77 90 33 w96) 90 34 s) 90 35 b) 97 = h 97 from E85, show (ov_up (ov_up (ov_up h77 90 33 w96) 90 34 s) 90 35 b) 98 = h 98 from E86]; show ov_go (h 96) (h 103) (h 97) (h 98) ge (-1) 0 0 0 ((s + 0) % h 96 9); rw [Int.add_zero]; exact y75_.mp (by omega))) ?_
          rintro _ z120 h121 ⟨v104, rfl, I122, f103, e105, e106, e107, e108, e109, e110, e111, e112, e113, e114, e115, e116, e117, e118, y119⟩
          have E123 : h121 91 = h 91 := Eq.trans e105 E79
          have E124 : h121 92 = h 92 := Eq.trans e106 E80
          have E125 : h121 93 = h 93 := Eq.trans e107 E81
          have E126 : h121 94 = h 94 := Eq.trans e108 E82
          have E127 : h121 95 = h 95 := Eq.trans e109 E83
          have E128 : h121 96 = h 96 := Eq.trans e110 E84
          have E129 : h121 97 = h 97 := Eq.trans e111 E85
          have E130 : h121 98 = h 98 := Eq.trans e112 E86
          have E131 : h121 99 = h 99 := Eq.trans e113 E87
          have E132 : h121 100 = h 100 := Eq.trans e114 E88
          have E133 : h121 103 = h 103 := Eq.trans e115 E89
          have E134 : h121 104 = h 104 := Eq.trans e116 E90
          have E135 : h121 109 = h 109 := Eq.trans e117 E91
          have E136 : h121 114 = h 114 := Eq.trans e118 E92
          show ov_R u d ov_m286 78 [(0, ov_r 90), (1, ov_i ge), (2, ov_i s), (3, ov_i b)] [ov_i v104] z120 h121 (P_Mo_odds_90 F z h ge s b)
          have f137 : (h121 90 2) = (h77 90 2) ∧ (h121 90 7) = (h77 90 7) ∧ (h121 90 8) = (h77 90 8) ∧ (h121 90 13) = (h77 90 13) ∧ (h121 90 20) = (h77 90 20) ∧ (h121 90 22) = (h77 90 22) ∧ (h121 90 25) = (h77 90 25) ∧ (h121 90 26) = (h77 90 26) ∧ (h121 90 28) = (h77 90 28) ∧ (h121 90 29) = (h77 90 29) ∧ (h121 90 30) = (h77 90 30) ∧ (h121 90 34) = s ∧ -2147483648 ≤ v104 ∧ v104 ≤ 2147483647 := f103
          clear f103
          rw [show (ov_up (ov_up (ov_up h77 90 33 w96) 90 34 s) 90 35 b) 103 = h 103 from E89] at y119
          rw [show (ov_up (ov_up (ov_up h77 90 33 w96) 90 34 s) 90 35 b) 96 = h 96 from E84] at y119
          rw [show (ov_up (ov_up (ov_up h77 90 33 w96) 90 34 s) 90 35 b) 97 = h 97 from E85] at y119
          rw [show (ov_up (ov_up (ov_up h77 90 33 w96) 90 34 s) 90 35 b) 98 = h 98 from E86] at y119
          have y119_ : ov_MI (h 96) (h 103) (h 97) (h 98) ge ((-1) : Int) (0 : Int) (h35 90 25) (h121 105) (h121 106) := y119
          have pm138 : ov_PM (h 96) (h 103) (h 97) (h 98) (h121 105) (h121 106) (h121 90 22) (h121 90 25) (h121 90 26) (h121 90 28) (h121 90 29) (h121 90 30) := ov_PM_mi y119_ (by omega) (by omega) (by omega) (by omega) (by omega) (by omega)
          exact ov_reti (st := []) d_286_78 rfl ⟨_, rfl, I122, (by show (h121 90 2) = (h 90 2) ∧ (h121 90 7) = (h 90 7) ∧ (h121 90 8) = (h 90 8) ∧ (h121 90 13) = (h 90 13) ∧ (h121 90 20) = (h 90 20) ∧ (h121 90 22) = (h 90 22) ∧ (h 90 25) ≤ (h121 90 25) ∧ (h121 90 25) ≤ (h 90 25) + 1 ∧ -2147483648 ≤ v104 ∧ v104 ≤ 2147483647; omega), E123, E124, E125, E126, E127, E128, E129, E130, E131, E132, E133, E134, E135, E136, pm138⟩
        · skip
          refine ov_blk (ls2 := [(0, ov_r 90), (1, ov_i ge), (2, ov_i s), (3, ov_i b)]) (st2 := [ov_i (-1)]) (pc2 := 50) b_286_49_1 rfl rfl ?_
          have pm139 : ov_PM (h 96) (h 103) (h 97) (h 98) (h77 105) (h77 106) (h77 90 22) (h77 90 25) (h77 90 26) (h77 90 28) (h77 90 29) (h77 90 30) := ov_PM_mi y74_ (by omega) (by omega) (by omega) (by omega) (by omega) (by omega)
          exact ov_reti (st := []) d_286_50 rfl ⟨_, rfl, I78, (by show (h77 90 2) = (h 90 2) ∧ (h77 90 7) = (h 90 7) ∧ (h77 90 8) = (h 90 8) ∧ (h77 90 13) = (h 90 13) ∧ (h77 90 20) = (h 90 20) ∧ (h77 90 22) = (h 90 22) ∧ (h 90 25) ≤ (h77 90 25) ∧ (h77 90 25) ≤ (h 90 25) + 1 ∧ -2147483648 ≤ (-1) ∧ (-1) ≤ 2147483647; omega), E79, E80, E81, E82, E83, E84, E85, E86, E87, E88, E89, E90, E91, E92, pm139⟩
      · skip
        have f14_ : v13 = 0 := by omega
        clear f14
        refine ov_blk (ls2 := [(0, ov_r 90), (1, ov_i ge), (2, ov_i s), (3, ov_i b)]) (st2 := [ov_i (-1)]) (pc2 := 30) b_286_29_1 rfl rfl ?_
        exact ov_reti (st := []) d_286_30 rfl ⟨_, rfl, I1, ⟨rfl, rfl, rfl, rfl, rfl, rfl, (by show (h 90 25) ≤ (h 90 25) ∧ (h 90 25) ≤ (h 90 25) + 1 ∧ -2147483648 ≤ (-1) ∧ (-1) ≤ 2147483647; omega)⟩, rfl, rfl, rfl, rfl, rfl, rfl, rfl, rfl, rfl, rfl, rfl, rfl, rfl, rfl, PM⟩

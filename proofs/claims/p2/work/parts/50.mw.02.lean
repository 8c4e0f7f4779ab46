abbrev P_Mo_wave_90 (F : ov_H × ov_Z) (z : ov_Z) (h : ov_H) (x : Int) (y : Int) (m : Int) (bo : Int) (w : Int) : Option ov_V → ov_Z → ov_H → Prop := fun r0 z' h' => ∃ r : Int, r0 = some (ov_i r) ∧ ov_N F z' h' ∧ (-2147483648 ≤ r ∧ r ≤ 2147483647 ∧ (h' 90 2) = (h 90 2) ∧ (h' 90 3) = (h 90 3) ∧ (h' 90 7) = (h 90 7) ∧ (h' 90 8) = (h 90 8) ∧ (h' 90 13) = (h 90 13) ∧ (h' 90 20) = (h 90 20) ∧ (h' 90 22) = (h 90 22) ∧ (h' 90 25) = (h 90 25) ∧ (h' 90 26) = (h 90 26) ∧ (h' 90 27) = (h 90 27) ∧ (h' 90 28) = (h 90 28) ∧ (h' 90 29) = (h 90 29) ∧ (h' 90 30) = (h 90 30) ∧ (h' 90 34) = (h 90 34) ∧ (h' 90 35) = (h 90 35) ∧ (h' 90 37) = (h 90 37)) ∧ h' 92 = h 92 ∧ h' 93 = h 93 ∧ h' 94 = h 94 ∧ h' 95 = h 95 ∧ h' 96 = h 96 ∧ h' 97 = h 97 ∧ h' 98 = h 98 ∧ h' 99 = h 99 ∧ h' 100 = h 100 ∧ h' 103 = h 103 ∧ h' 105 = h 105 ∧ h' 106 = h 106 ∧ h' 109 = h 109 ∧ h' 114 = h 114
set_option maxHeartbeats 4000000 in
theorem c_Mo_wave_90 {u : ov_U} {F : ov_H × ov_Z} {z : ov_Z} {h : ov_H} (d : Nat) (hd : 40 ≤ d) (U : ov_cap u) (I : ov_N F z h) (x : Int) (y : Int) (m : Int) (bo : Int) (w : Int) (g_x : ov_g x) (g_y : ov_g y) (g_m : ov_g m) (g_bo : bo = 0 ∨ bo = 1) (g_w : ov_g w) (W : ov_WT (h 96)) : ov_T u d ov_m297 [ov_r 90, ov_i x, ov_i y, ov_i m, ov_i bo, ov_i w] z h (P_Mo_wave_90 F z h x y m bo w) := by
  refine ov_en rfl (Nat.le_of_ble_eq_true rfl) ?_
  show ov_R u d ov_m297 0 [(0, ov_r 90), (1, ov_i x), (2, ov_i y), (3, ov_i m), (4, ov_i bo), (5, ov_i w)] [] z h (P_Mo_wave_90 F z h x y m bo w)
  refine ov_blk (ls2 := [(0, ov_r 90), (1, ov_i x), (2, ov_i y), (3, ov_i m), (4, ov_i bo), (5, ov_i w)]) (st2 := [ov_i 0, ov_r 90]) (pc2 := 2) b_297_0_2 rfl rfl ?_
  refine ov_putf (x := 0) d_297_2 fl_Mo_1 (zb_90 I) (zs_90 I) rfl nk_0 rfl ?_
  have I1 := up_90_0 (x := 0) I (by omega)
  refine ov_blk (ls2 := [(0, ov_r 90), (1, ov_i x), (2, ov_i y), (3, ov_i m), (4, ov_i bo), (5, ov_i w)]) (st2 := [ov_i y, ov_i x, ov_r 90]) (pc2 := 8) b_297_5_3 rfl rfl ?_
  refine ov_cV (as := [ov_i x, ov_i y]) (st := []) (d2 := d - 1) d_297_8 lk_Mo_296 rfl (Nat.le_of_ble_eq_true rfl) (c := 1) (zb_90 I1) (zs_90 I1) ⟨by decide, rfl⟩ (by omega) (c_Mo_isCorner_90 (d - 1) (by omega) U I1 x y (by omega) (by omega)) ?_
  rintro _ _ _ ⟨v3, rfl, rfl, rfl, f2⟩
  show ov_R u d ov_m297 11 [(0, ov_r 90), (1, ov_i x), (2, ov_i y), (3, ov_i m), (4, ov_i bo), (5, ov_i w)] [ov_i v3] z (ov_up h 90 0 0) (P_Mo_wave_90 F z h x y m bo w)
  have f4 : (v3 = 0 ∨ v3 = 1) ∧ (v3 = 1 → 0 ≤ x ∧ x ≤ 5 ∧ 0 ≤ y ∧ y ≤ 8 ∧ x < (h 96 0) ∧ y < (h 96 1)) := f2
  clear f2
  refine ov_ifeq (tgt := 49) d_297_11 (by decide) (by omega) (fun c5 => ?_) (fun c5 => ?_)
  · skip
    refine ov_blk (ls2 := [(0, ov_r 90), (1, ov_i x), (2, ov_i y), (3, ov_i m), (4, ov_i bo), (5, ov_i w), (6, ov_i 0), (7, ov_i 0)]) (st2 := []) (pc2 := 55) b_297_49_4 rfl rfl ?_
    have L9 : ∀ (n6 : Nat) (x6 : Int) (x7 : Int) (q8 : (x6 = 0 ∨ x6 = 1) ∧ 0 ≤ x7 ∧ x7 ≤ 4 ∧ (x6 = 1 → 0 ≤ x ∧ x ≤ 5 ∧ 0 ≤ y ∧ y ≤ 8 ∧ 2 ≤ m ∧ m ≤ 4 ∧ y + m ≤ 9 ∧ 0 ≤ w ∧ w ≤ m - 1 ∧ (1 ≤ x7 → ((h 96 (10 + 4 * (6 * y + x))) = 1 ∨ (h 96 (10 + 4 * (6 * y + x))) = 2)))), 4 - x7 < (n6 : Int) → ov_R u d ov_m297 55 [(0, ov_r 90), (1, ov_i x), (2, ov_i y), (3, ov_i m), (4, ov_i bo), (5, ov_i w), (6, ov_i x6), (7, ov_i x7)] [] z (ov_up h 90 0 0) (P_Mo_wave_90 F z h x y m bo w) := by
      intro n6
      induction n6 with
      | zero =>
        intro x6 x7 q8 hn10
        exact absurd hn10 (by omega)
      | succ n6 ih7 =>
        intro x6 x7 q8 hn10
        refine ov_blk (ls2 := [(0, ov_r 90), (1, ov_i x), (2, ov_i y), (3, ov_i m), (4, ov_i bo), (5, ov_i w), (6, ov_i x6), (7, ov_i x7)]) (st2 := [ov_i m, ov_i x7]) (pc2 := 58) b_297_55_2 rfl rfl ?_
        refine ov_icge (tgt := 111) d_297_58 (by decide) (by omega) (by omega) (fun c11 => ?_) (fun c11 => ?_)
        · skip
          refine ov_blk (ls2 := [(0, ov_r 90), (1, ov_i x), (2, ov_i y), (3, ov_i m), (4, ov_i bo), (5, ov_i w), (6, ov_i x6), (7, ov_i x7)]) (st2 := [ov_i x6]) (pc2 := 113) b_297_111_1 rfl rfl ?_
          refine ov_ifne (tgt := 118) d_297_113 (by decide) (by omega) (fun c12 => ?_) (fun c12 => ?_)
          · skip
            have w1 := ov_WT_at W (c := 6 * y + x) (by omega)
            refine ov_blk (ls2 := [(0, ov_r 90), (1, ov_i x), (2, ov_i y), (3, ov_i m), (4, ov_i bo), (5, ov_i w), (6, ov_i x6), (7, ov_i x7)]) (st2 := [ov_i 1, ov_i y, ov_i x, ov_r 90]) (pc2 := 122) b_297_118_4 rfl rfl ?_
            refine ov_cV (as := [ov_i x, ov_i y, ov_i 1]) (st := []) (d2 := d - 1) d_297_122 lk_Mo_289 rfl (Nat.le_of_ble_eq_true rfl) (c := 1) (zb_90 I1) (zs_90 I1) ⟨by decide, rfl⟩ (by omega) (c_Mo_lightAt_90 (d - 1) (by omega) U I1 x y 1 (by omega) (by omega) (by omega) (by omega) (by omega)) ?_
            rintro _ _ _ ⟨v14, rfl, rfl, rfl, f13⟩
            show ov_R u d ov_m297 125 [(0, ov_r 90), (1, ov_i x), (2, ov_i y), (3, ov_i m), (4, ov_i bo), (5, ov_i w), (6, ov_i x6), (7, ov_i x7)] [ov_i v14] z (ov_up h 90 0 0) (P_Mo_wave_90 F z h x y m bo w)
            have f15 : v14 = (h 96 (10 + 4 * (6 * y + x) + (1 : Int))) ∧ ((1 : Int) = 1 → 0 ≤ v14 ∧ v14 ≤ 60) ∧ ((1 : Int) = 2 → 0 ≤ v14 ∧ v14 ≤ 59) ∧ ((1 : Int) = 3 → 0 ≤ v14 ∧ v14 ≤ 60) := f13
            clear f13
            refine ov_blk (ls2 := [(0, ov_r 90), (1, ov_i x), (2, ov_i y), (3, ov_i m), (4, ov_i bo), (5, ov_i w), (6, ov_i x6), (7, ov_i v14), (8, ov_i 0)]) (st2 := []) (pc2 := 130) b_297_125_3 rfl rfl ?_
            have L19 : ∀ (n16 : Nat) (x8 : Int) (z20 : ov_Z) (h21 : ov_H) (I22 : ov_N F z20 h21) (E23 : h21 92 = h 92) (E24 : h21 93 = h 93) (E25 : h21 94 = h 94) (E26 : h21 95 = h 95) (E27 : h21 96 = h 96) (E28 : h21 97 = h 97) (E29 : h21 98 = h 98) (E30 : h21 99 = h 99) (E31 : h21 100 = h 100) (E32 : h21 103 = h 103) (E33 : h21 105 = h 105) (E34 : h21 106 = h 106) (E35 : h21 109 = h 109) (E36 : h21 114 = h 114) (q18 : 0 ≤ x8 ∧ x8 ≤ 4 ∧ (h21 90 2) = (h 90 2) ∧ (h21 90 3) = (h 90 3) ∧ (h21 90 7) = (h 90 7) ∧ (h21 90 8) = (h 90 8) ∧ (h21 90 13) = (h 90 13) ∧ (h21 90 20) = (h 90 20) ∧ (h21 90 22) = (h 90 22) ∧ (h21 90 25) = (h 90 25) ∧ (h21 90 26) = (h 90 26) ∧ (h21 90 27) = (h 90 27) ∧ (h21 90 28) = (h 90 28) ∧ (h21 90 29) = (h 90 29) ∧ (h21 90 30) = (h 90 30) ∧ (h21 90 34) = (h 90 34) ∧ (h21 90 35) = (h 90 35) ∧ (h21 90 37) = (h 90 37)), 4 - x8 < (n16 : Int) → ov_R u d ov_m297 130 [(0, ov_r 90), (1, ov_i x), (2, ov_i y), (3, ov_i m), (4, ov_i bo), (5, ov_i w), (6, ov_i x6), (7, ov_i v14), (8, ov_i x8)] [] z20 h21 (P_Mo_wave_90 F z h x y m bo w) := by
              intro n16
              induction n16 with
              | zero =>
                intro x8 z20 h21 I22 E23 E24 E25 E26 E27 E28 E29 E30 E31 E32 E33 E34 E35 E36 q18 hn37
                exact absurd hn37 (by omega)
              | succ n16 ih17 =>
                intro x8 z20 h21 I22 E23 E24 E25 E26 E27 E28 E29 E30 E31 E32 E33 E34 E35 E36 q18 hn37
                refine ov_blk (ls2 := [(0, ov_r 90), (1, ov_i x), (2, ov_i y), (3, ov_i m), (4, ov_i bo), (5, ov_i w), (6, ov_i x6), (7, ov_i v14), (8, ov_i x8)]) (st2 := [ov_i m, ov_i x8]) (pc2 := 133) b_297_130_2 rfl rfl ?_
                refine ov_icge (tgt := 241) d_297_133 (by decide) (by omega) (by omega) (fun c38 => ?_) (fun c38 => ?_)
                · skip
                  refine ov_blk (ls2 := [(0, ov_r 90), (1, ov_i x), (2, ov_i y), (3, ov_i m), (4, ov_i bo), (5, ov_i w), (6, ov_i x6), (7, ov_i v14), (8, ov_i x8)]) (st2 := [ov_i (-1), ov_r 90]) (pc2 := 243) b_297_241_2 rfl rfl ?_
                  refine ov_putf (x := (-1)) d_297_243 fl_Mo_439 (zb_90 I22) (zs_90 I22) rfl nk_0 rfl ?_
                  have I39 := up_90_42 (x := (-1)) I22 (by omega)
                  refine ov_blk (ls2 := [(0, ov_r 90), (1, ov_i x), (2, ov_i y), (3, ov_i m), (4, ov_i bo), (5, ov_i w), (6, ov_i x6), (7, ov_i v14), (8, ov_i x8)]) (st2 := [ov_i 2, ov_i y, ov_i x, ov_r 90]) (pc2 := 250) b_297_246_4 rfl rfl ?_
                  refine ov_cV (as := [ov_i x, ov_i y, ov_i 2]) (st := []) (d2 := d - 1) d_297_250 lk_Mo_289 rfl (Nat.le_of_ble_eq_true rfl) (c := 1) (zb_90 I39) (zs_90 I39) ⟨by decide, rfl⟩ (by omega) (c_Mo_lightAt_90 (d - 1) (by omega) U I39 x y 2 (by omega) (by omega) (by omega) (by omega) (by omega)) ?_
                  rintro _ _ _ ⟨v41, rfl, rfl, rfl, f40⟩
                  show ov_R u d ov_m297 253 [(0, ov_r 90), (1, ov_i x), (2, ov_i y), (3, ov_i m), (4, ov_i bo), (5, ov_i w), (6, ov_i x6), (7, ov_i v14), (8, ov_i x8)] [ov_i v41] z20 (ov_up h21 90 42 (-1)) (P_Mo_wave_90 F z h x y m bo w)
                  rw [show (ov_up h21 90 42 (-1)) 96 = h 96 from E27] at f40
                  have f42 : v41 = (h 96 (10 + 4 * (6 * y + x) + (2 : Int))) ∧ ((2 : Int) = 1 → 0 ≤ v41 ∧ v41 ≤ 60) ∧ ((2 : Int) = 2 → 0 ≤ v41 ∧ v41 ≤ 59) ∧ ((2 : Int) = 3 → 0 ≤ v41 ∧ v41 ≤ 60) := f40
                  clear f40
                  refine ov_blk (ls2 := [(0, ov_r 90), (1, ov_i x), (2, ov_i y), (3, ov_i m), (4, ov_i bo), (5, ov_i w), (6, ov_i x6), (7, ov_i v14), (8, ov_i x8)]) (st2 := [ov_i 3, ov_i y, ov_i x, ov_r 90, ov_i v41]) (pc2 := 257) b_297_253_4 rfl rfl ?_
                  refine ov_cV (as := [ov_i x, ov_i y, ov_i 3]) (st := [ov_i v41]) (d2 := d - 1) d_297_257 lk_Mo_289 rfl (Nat.le_of_ble_eq_true rfl) (c := 1) (zb_90 I39) (zs_90 I39) ⟨by decide, rfl⟩ (by omega) (c_Mo_lightAt_90 (d - 1) (by omega) U I39 x y 3 (by omega) (by omega) (by omega) (by omega) (by omega)) ?_
                  rintro _ _ _ ⟨v44, rfl, rfl, rfl, f43⟩
                  show ov_R u d ov_m297 260 [(0, ov_r 90), (1, ov_i x), (2, ov_i y), (3, ov_i m), (4, ov_i bo), (5, ov_i w), (6, ov_i x6), (7, ov_i v14), (8, ov_i x8)] [ov_i v44, ov_i v41] z20 (ov_up h21 90 42 (-1)) (P_Mo_wave_90 F z h x y m bo w)
                  rw [show (ov_up h21 90 42 (-1)) 96 = h 96 from E27] at f43
                  have f45 : v44 = (h 96 (10 + 4 * (6 * y + x) + (3 : Int))) ∧ ((3 : Int) = 1 → 0 ≤ v44 ∧ v44 ≤ 60) ∧ ((3 : Int) = 2 → 0 ≤ v44 ∧ v44 ≤ 59) ∧ ((3 : Int) = 3 → 0 ≤ v44 ∧ v44 ≤ 60) := f43
                  clear f43
                  refine ov_blk (ls2 := [(0, ov_r 90), (1, ov_i x), (2, ov_i y), (3, ov_i m), (4, ov_i bo), (5, ov_i w), (6, ov_i x6), (7, ov_i v14), (8, ov_i x8)]) (st2 := [ov_i v14, ov_i (v41 + v44)]) (pc2 := 263) b_297_260_2 rfl rfl ?_
                  refine ov_irem d_297_263 (by omega) (by omega) (by omega) ?_
                  have g46 := ov_tmg (a := (v41 + v44)) (b := v14) (by omega) (by omega)
                  refine ov_havw (fun w47 gw47 qw47 => ?_)
                  refine ov_blk (ls2 := [(0, ov_r 90), (1, ov_i x), (2, ov_i y), (3, ov_i m), (4, ov_i bo), (5, ov_i w), (6, ov_i x6), (7, ov_i v14), (8, ov_i w47)]) (st2 := [ov_r 90]) (pc2 := 267) b_297_264_2 rfl rfl ?_
                  refine ov_getf (v := ov_r 112) d_297_267 fl_Mo_138 (zb_90 I39) (zs_90 I39) (congrArg ov_r (rg_90_40 I39)) ?_
                  refine ov_blk (ls2 := [(0, ov_r 90), (1, ov_i x), (2, ov_i y), (3, ov_i m), (4, ov_i bo), (5, ov_i w), (6, ov_i x6), (7, ov_i v14), (8, ov_i w47)]) (st2 := [ov_i w47, ov_i 0, ov_r 112]) (pc2 := 273) b_297_270_2 rfl rfl ?_
                  refine ov_iast d_297_273 (zb_112 I39) (zs_112 I39) (by omega) ?_
                  have I48 := ua_112 (k := 0) (x := w47) I39 (by omega)
                  refine ov_blk (ls2 := [(0, ov_r 90), (1, ov_i x), (2, ov_i y), (3, ov_i m), (4, ov_i bo), (5, ov_i w), (6, ov_i x6), (7, ov_i v14), (8, ov_i w47)]) (st2 := [ov_r 90, ov_i v14, ov_i m, ov_i 1, ov_r 90]) (pc2 := 280) b_297_274_5 rfl rfl ?_
                  refine ov_getf (v := ov_r 110) d_297_280 fl_Mo_132 (zb_90 I48) (zs_90 I48) (congrArg ov_r (rg_90_38 I48)) ?_
                  refine ov_blk (ls2 := [(0, ov_r 90), (1, ov_i x), (2, ov_i y), (3, ov_i m), (4, ov_i bo), (5, ov_i w), (6, ov_i x6), (7, ov_i v14), (8, ov_i w47)]) (st2 := [ov_i w47, ov_r 110, ov_i v14, ov_i m, ov_i 1, ov_r 90]) (pc2 := 285) b_297_283_1 rfl rfl ?_
                  refine ov_lald d_297_285 (zb_110 I48) (zs_110 I48) (by omega) ?_
                  show ov_R u d ov_m297 286 [(0, ov_r 90), (1, ov_i x), (2, ov_i y), (3, ov_i m), (4, ov_i bo), (5, ov_i w), (6, ov_i x6), (7, ov_i v14), (8, ov_i w47)] [ov_l (h21 110 w47), ov_i v14, ov_i m, ov_i 1, ov_r 90] z20 (ov_up (ov_up h21 90 42 (-1)) 112 0 w47) (P_Mo_wave_90 F z h x y m bo w)
                  refine ov_blk (ls2 := [(0, ov_r 90), (1, ov_i x), (2, ov_i y), (3, ov_i m), (4, ov_i bo), (5, ov_i w), (6, ov_i x6), (7, ov_i v14), (8, ov_i w47)]) (st2 := [ov_r 90, ov_l (h21 110 w47), ov_i v14, ov_i m, ov_i 1, ov_r 90]) (pc2 := 287) b_297_286_1 rfl rfl ?_
                  refine ov_getf (v := ov_r 111) d_297_287 fl_Mo_135 (zb_90 I48) (zs_90 I48) (congrArg ov_r (rg_90_39 I48)) ?_
                  refine ov_blk (ls2 := [(0, ov_r 90), (1, ov_i x), (2, ov_i y), (3, ov_i m), (4, ov_i bo), (5, ov_i w), (6, ov_i x6), (7, ov_i v14), (8, ov_i w47)]) (st2 := [ov_i w47, ov_r 111, ov_l (h21 110 w47), ov_i v14, ov_i m, ov_i 1, ov_r 90]) (pc2 := 292) b_297_290_1 rfl rfl ?_
                  refine ov_lald d_297_292 (zb_111 I48) (zs_111 I48) (by omega) ?_
                  show ov_R u d ov_m297 293 [(0, ov_r 90), (1, ov_i x), (2, ov_i y), (3, ov_i m), (4, ov_i bo), (5, ov_i w), (6, ov_i x6), (7, ov_i v14), (8, ov_i w47)] [ov_l (h21 111 w47), ov_l (h21 110 w47), ov_i v14, ov_i m, ov_i 1, ov_r 90] z20 (ov_up (ov_up h21 90 42 (-1)) 112 0 w47) (P_Mo_wave_90 F z h x y m bo w)
                  refine ov_blk (ls2 := [(0, ov_r 90), (1, ov_i x), (2, ov_i y), (3, ov_i m), (4, ov_i bo), (5, ov_i w), (6, ov_i x6), (7, ov_i v14), (8, ov_i w47)]) (st2 := [ov_i bo, ov_l (h21 111 w47), ov_l (h21 110 w47), ov_i v14, ov_i m, ov_i 1, ov_r 90]) (pc2 := 295) b_297_293_1 rfl rfl ?_
                  refine ov_cV (as := [ov_i 1, ov_i m, ov_i v14, ov_l (h21 110 w47), ov_l (h21 111 w47), ov_i bo]) (st := []) (d2 := d - 1) d_297_295 lk_Mo_442 rfl (Nat.le_of_ble_eq_true rfl) (c := 1) (zb_90 I48) (zs_90 I48) ⟨by decide, rfl⟩ (by omega) (c_Mo_triesWave_90_all (Int.toNat ((m) - (1))) (d - 1) (by omega) U I48 1 m v14 (h21 110 w47) (h21 111 w47) bo (by omega) (by omega) (by omega) (by omega) (by omega) (by omega) (by omega)) ?_
                  rintro _ z64 h65 ⟨rfl, I66, f49, e50, e51, e52, e53, e54, e55, e56, e57, e58, e59, e60, e61, e62, e63⟩
                  have E67 : h65 92 = h 92 := Eq.trans e50 E23
                  have E68 : h65 93 = h 93 := Eq.trans e51 E24
                  have E69 : h65 94 = h 94 := Eq.trans e52 E25
                  have E70 : h65 95 = h 95 := Eq.trans e53 E26
                  have E71 : h65 96 = h 96 := Eq.trans e54 E27
                  have E72 : h65 97 = h 97 := Eq.trans e55 E28
                  have E73 : h65 98 = h 98 := Eq.trans e56 E29
                  have E74 : h65 99 = h 99 := Eq.trans e57 E30
                  have E75 : h65 100 = h 100 := Eq.trans e58 E31
                  have E76 : h65 103 = h 103 := Eq.trans e59 E32
                  have E77 : h65 105 = h 105 := Eq.trans e60 E33
                  have E78 : h65 106 = h 106 := Eq.trans e61 E34
                  have E79 : h65 109 = h 109 := Eq.trans e62 E35
                  have E80 : h65 114 = h 114 := Eq.trans e63 E36
                  show ov_R u d ov_m297 298 [(0, ov_r 90), (1, ov_i x), (2, ov_i y), (3, ov_i m), (4, ov_i bo), (5, ov_i w), (6, ov_i x6), (7, ov_i v14), (8, ov_i w47)] [] z64 h65 (P_Mo_wave_90 F z h x y m bo w)
                  have f81 : (h65 90 2) = (h21 90 2) ∧ (h65 90 3) = (h21 90 3) ∧ (h65 90 7) = (h21 90 7) ∧ (h65 90 8) = (h21 90 8) ∧ (h65 90 13) = (h21 90 13) ∧ (h65 90 20) = (h21 90 20) ∧ (h65 90 22) = (h21 90 22) ∧ (h65 90 25) = (h21 90 25) ∧ (h65 90 26) = (h21 90 26) ∧ (h65 90 27) = (h21 90 27) ∧ (h65 90 28) = (h21 90 28) ∧ (h65 90 29) = (h21 90 29) ∧ (h65 90 30) = (h21 90 30) ∧ (h65 90 34) = (h21 90 34) ∧ (h65 90 35) = (h21 90 35) ∧ (h65 90 37) = (h21 90 37) := f49
                  clear f49
                  refine ov_blk (ls2 := [(0, ov_r 90), (1, ov_i x), (2, ov_i y), (3, ov_i m), (4, ov_i bo), (5, ov_i w), (6, ov_i x6), (7, ov_i v14), (8, ov_i w47)]) (st2 := [ov_i w]) (pc2 := 300) b_297_298_1 rfl rfl ?_
                  refine ov_ifne (tgt := 310) d_297_300 (by decide) (by omega) (fun c82 => ?_) (fun c82 => ?_)
                  · skip
                    refine ov_blk (ls2 := [(0, ov_r 90), (1, ov_i x), (2, ov_i y), (3, ov_i m), (4, ov_i bo), (5, ov_i w), (6, ov_i x6), (7, ov_i v14), (8, ov_i w47)]) (st2 := [ov_r 90]) (pc2 := 311) b_297_310_1 rfl rfl ?_
                    refine ov_getf (v := ov_r 113) d_297_311 fl_Mo_141 (zb_90 I66) (zs_90 I66) (congrArg ov_r (rg_90_41 I66)) ?_
                    refine ov_blk (ls2 := [(0, ov_r 90), (1, ov_i x), (2, ov_i y), (3, ov_i m), (4, ov_i bo), (5, ov_i w), (6, ov_i x6), (7, ov_i v14), (8, ov_i w47)]) (st2 := [ov_i w, ov_r 113]) (pc2 := 316) b_297_314_1 rfl rfl ?_
                    refine ov_iald d_297_316 (zb_113 I66) (zs_113 I66) (by omega) ?_
                    have g83 := ra_113 I66 w
                    exact ov_reti (st := []) d_297_317 rfl ⟨_, rfl, I66, (by show -2147483648 ≤ (h65 113 w) ∧ (h65 113 w) ≤ 2147483647 ∧ (h65 90 2) = (h 90 2) ∧ (h65 90 3) = (h 90 3) ∧ (h65 90 7) = (h 90 7) ∧ (h65 90 8) = (h 90 8) ∧ (h65 90 13) = (h 90 13) ∧ (h65 90 20) = (h 90 20) ∧ (h65 90 22) = (h 90 22) ∧ (h65 90 25) = (h 90 25) ∧ (h65 90 26) = (h 90 26) ∧ (h65 90 27) = (h 90 27) ∧ (h65 90 28) = (h 90 28) ∧ (h65 90 29) = (h 90 29) ∧ (h65 90 30) = (h 90 30) ∧ (h65 90 34) = (h 90 34) ∧ (h65 90 35) = (h 90 35) ∧ (h65 90 37) = (h 90 37); omega), E67, E68, E69, E70, E71, E72, E73, E74, E75, E76, E77, E78, E79, E80⟩
                  · skip
                    refine ov_blk (ls2 := [(0, ov_r 90), (1, ov_i x), (2, ov_i y), (3, ov_i m), (4, ov_i bo), (5, ov_i w), (6, ov_i x6), (7, ov_i v14), (8, ov_i w47)]) (st2 := [ov_r 90]) (pc2 := 304) b_297_303_1 rfl rfl ?_
                    refine ov_getf (v := ov_i (h65 90 42)) d_297_304 fl_Mo_439 (zb_90 I66) (zs_90 I66) rfl ?_
                    have g84 := rg_90_42 I66
                    refine ov_goto (tgt := 317) d_297_307 (by decide) ?_
                    exact ov_reti (st := []) d_297_317 rfl ⟨_, rfl, I66, (by show -2147483648 ≤ (h65 90 42) ∧ (h65 90 42) ≤ 2147483647 ∧ (h65 90 2) = (h 90 2) ∧ (h65 90 3) = (h 90 3) ∧ (h65 90 7) = (h 90 7) ∧ (h65 90 8) = (h 90 8) ∧ (h65 90 13) = (h 90 13) ∧ (h65 90 20) = (h 90 20) ∧ (h65 90 22) = (h 90 22) ∧ (h65 90 25) = (h 90 25) ∧ (h65 90 26) = (h 90 26) ∧ (h65 90 27) = (h 90 27) ∧ (h65 90 28) = (h 90 28) ∧ (h65 90 29) = (h 90 29) ∧ (h65 90 30) = (h 90 30) ∧ (h65 90 34) = (h 90 34) ∧ (h65 90 35) = (h 90 35) ∧ (h65 90 37) = (h 90 37); omega), E67, E68, E69, E70, E71, E72, E73, E74, E75, E76, E77, E78, E79, E80⟩
                · skip
                  refine ov_blk (ls2 := [(0, ov_r 90), (1, ov_i x), (2, ov_i y), (3, ov_i m), (4, ov_i bo), (5, ov_i w), (6, ov_i x6), (7, ov_i v14), (8, ov_i x8)]) (st2 := [ov_i 3, ov_i (y + x8), ov_i x, ov_r 90, ov_i v14]) (pc2 := 145) b_297_136_7 rfl rfl ?_
                  refine ov_cV (as := [ov_i x, ov_i (y + x8), ov_i 3]) (st := [ov_i v14]) (d2 := d - 1) d_297_145 lk_Mo_289 rfl (Nat.le_of_ble_eq_true rfl) (c := 1) (zb_90 I22) (zs_90 I22) ⟨by decide, rfl⟩ (by omega) (c_Mo_lightAt_90 (d - 1) (by omega) U I22 x (y + x8) 3 (by omega) (by omega) (by omega) (by omega) (by omega)) ?_
                  rintro _ _ _ ⟨v86, rfl, rfl, rfl, f85⟩
                  show ov_R u d ov_m297 148 [(0, ov_r 90), (1, ov_i x), (2, ov_i y), (3, ov_i m), (4, ov_i bo), (5, ov_i w), (6, ov_i x6), (7, ov_i v14), (8, ov_i x8)] [ov_i v86, ov_i v14] z20 h21 (P_Mo_wave_90 F z h x y m bo w)
                  rw [show h21 96 = h 96 from E27] at f85
                  have f87 : v86 = (h 96 (10 + 4 * (6 * (y + x8) + x) + (3 : Int))) ∧ ((3 : Int) = 1 → 0 ≤ v86 ∧ v86 ≤ 60) ∧ ((3 : Int) = 2 → 0 ≤ v86 ∧ v86 ≤ 59) ∧ ((3 : Int) = 3 → 0 ≤ v86 ∧ v86 ≤ 60) := f85
                  clear f85
                  refine ov_blk (ls2 := [(0, ov_r 90), (1, ov_i x), (2, ov_i y), (3, ov_i m), (4, ov_i bo), (5, ov_i w), (6, ov_i x6), (7, ov_i v14), (8, ov_i x8), (9, ov_i (v14 - v86)), (10, ov_i 0)]) (st2 := []) (pc2 := 154) b_297_148_4 rfl rfl ?_
                  have L91 : ∀ (n88 : Nat) (x10 : Int) (z92 : ov_Z) (h93 : ov_H) (I94 : ov_N F z92 h93) (E95 : h93 92 = h 92) (E96 : h93 93 = h 93) (E97 : h93 94 = h 94) (E98 : h93 95 = h 95) (E99 : h93 96 = h 96) (E100 : h93 97 = h 97) (E101 : h93 98 = h 98) (E102 : h93 99 = h 99) (E103 : h93 100 = h 100) (E104 : h93 103 = h 103) (E105 : h93 105 = h 105) (E106 : h93 106 = h 106) (E107 : h93 109 = h 109) (E108 : h93 114 = h 114) (q90 : 0 ≤ x10 ∧ x10 ≤ 60 ∧ (h93 90 2) = (h21 90 2) ∧ (h93 90 3) = (h21 90 3) ∧ (h93 90 7) = (h21 90 7) ∧ (h93 90 8) = (h21 90 8) ∧ (h93 90 13) = (h21 90 13) ∧ (h93 90 20) = (h21 90 20) ∧ (h93 90 22) = (h21 90 22) ∧ (h93 90 25) = (h21 90 25) ∧ (h93 90 26) = (h21 90 26) ∧ (h93 90 27) = (h21 90 27) ∧ (h93 90 28) = (h21 90 28) ∧ (h93 90 29) = (h21 90 29) ∧ (h93 90 30) = (h21 90 30) ∧ (h93 90 34) = (h21 90 34) ∧ (h93 90 35) = (h21 90 35) ∧ (h93 90 37) = (h21 90 37)), 60 - x10 < (n88 : Int) → ov_R u d ov_m297 154 [(0, ov_r 90), (1, ov_i x), (2, ov_i y), (3, ov_i m), (4, ov_i bo), (5, ov_i w), (6, ov_i x6), (7, ov_i v14), (8, ov_i x8), (9, ov_i (v14 - v86)), (10, ov_i x10)] [] z92 h93 (P_Mo_wave_90 F z h x y m bo w) := by
                    intro n88
                    induction n88 with
                    | zero =>
                      intro x10 z92 h93 I94 E95 E96 E97 E98 E99 E100 E101 E102 E103 E104 E105 E106 E107 E108 q90 hn109
                      exact absurd hn109 (by omega)
                    | succ n88 ih89 =>
                      intro x10 z92 h93 I94 E95 E96 E97 E98 E99 E100 E101 E102 E103 E104 E105 E106 E107 E108 q90 hn109
                      refine ov_blk (ls2 := [(0, ov_r 90), (1, ov_i x), (2, ov_i y), (3, ov_i m), (4, ov_i bo), (5, ov_i w), (6, ov_i x6), (7, ov_i v14), (8, ov_i x8), (9, ov_i (v14 - v86)), (10, ov_i x10)]) (st2 := [ov_i v14, ov_i x10]) (pc2 := 158) b_297_154_2 rfl rfl ?_
                      refine ov_icge (tgt := 235) d_297_158 (by decide) (by omega) (by omega) (fun c110 => ?_) (fun c110 => ?_)
                      · skip
                        refine ov_blk (ls2 := [(0, ov_r 90), (1, ov_i x), (2, ov_i y), (3, ov_i m), (4, ov_i bo), (5, ov_i w), (6, ov_i x6), (7, ov_i v14), (8, ov_i (x8 + 1)), (9, ov_i (v14 - v86)), (10, ov_i x10)]) (st2 := []) (pc2 := 238) b_297_235_1 rfl rfl ?_
                        refine ov_goto (tgt := 130) d_297_238 (by decide) ?_
                        refine ov_sub (ls2 := [(0, ov_r 90), (1, ov_i x), (2, ov_i y), (3, ov_i m), (4, ov_i bo), (5, ov_i w), (6, ov_i x6), (7, ov_i v14), (8, ov_i (x8 + 1))]) (List.Sublist.subset (by repeat (first | exact List.Sublist.refl _ | apply List.Sublist.cons_cons | apply List.Sublist.cons))) ?_
                        exact ih17 (x8 + 1) _ _ I94 E95 E96 E97 E98 E99 E100 E101 E102 E103 E104 E105 E106 E107 E108 (by show 0 ≤ (x8 + 1) ∧ (x8 + 1) ≤ 4 ∧ (h93 90 2) = (h 90 2) ∧ (h93 90 3) = (h 90 3) ∧ (h93 90 7) = (h 90 7) ∧ (h93 90 8) = (h 90 8) ∧ (h93 90 13) = (h 90 13) ∧ (h93 90 20) = (h 90 20) ∧ (h93 90 22) = (h 90 22) ∧ (h93 90 25) = (h 90 25) ∧ (h93 90 26) = (h 90 26) ∧ (h93 90 27) = (h 90 27) ∧ (h93 90 28) = (h 90 28) ∧ (h93 90 29) = (h 90 29) ∧ (h93 90 30) = (h 90 30) ∧ (h93 90 34) = (h 90 34) ∧ (h93 90 35) = (h 90 35) ∧ (h93 90 37) = (h 90 37); omega) (by omega)
                      · skip
                        refine ov_blk (ls2 := [(0, ov_r 90), (1, ov_i x), (2, ov_i y), (3, ov_i m), (4, ov_i bo), (5, ov_i w), (6, ov_i x6), (7, ov_i v14), (8, ov_i x8), (9, ov_i (v14 - v86)), (10, ov_i x10)]) (st2 := [ov_r 90]) (pc2 := 162) b_297_161_1 rfl rfl ?_
                        refine ov_getf (v := ov_r 110) d_297_162 fl_Mo_132 (zb_90 I94) (zs_90 I94) (congrArg ov_r (rg_90_38 I94)) ?_
                        refine ov_blk (ls2 := [(0, ov_r 90), (1, ov_i x), (2, ov_i y), (3, ov_i m), (4, ov_i bo), (5, ov_i w), (6, ov_i x6), (7, ov_i v14), (8, ov_i x8), (9, ov_i (v14 - v86)), (10, ov_i x10)]) (st2 := [ov_r 90, ov_i x8, ov_i x10, ov_i ((60 * x8) + x10), ov_r 110]) (pc2 := 178) b_297_165_8 rfl rfl ?_
                        refine ov_getf (v := ov_r 96) d_297_178 fl_Mo_81 (zb_90 I94) (zs_90 I94) (congrArg ov_r (rg_90_10 I94)) ?_
                        refine ov_blk (ls2 := [(0, ov_r 90), (1, ov_i x), (2, ov_i y), (3, ov_i m), (4, ov_i bo), (5, ov_i w), (6, ov_i x6), (7, ov_i v14), (8, ov_i x8), (9, ov_i (v14 - v86)), (10, ov_i x10)]) (st2 := [ov_i 2, ov_r 96, ov_i x8, ov_i x10, ov_i ((60 * x8) + x10), ov_r 110]) (pc2 := 182) b_297_181_1 rfl rfl ?_
                        refine ov_iald d_297_182 (zb_96 I94) (zs_96 I94) (by omega) ?_
                        rw [show h93 96 = h 96 from E99]
                        have g111 := t96_2 I
                        have gm112 := ov_mulb (q := x8) (b := (h 96 2)) (A := 4) (B := 30) (by omega) (by omega) (by omega) (by omega)
                        refine ov_blk (ls2 := [(0, ov_r 90), (1, ov_i x), (2, ov_i y), (3, ov_i m), (4, ov_i bo), (5, ov_i w), (6, ov_i x6), (7, ov_i v14), (8, ov_i x8), (9, ov_i (v14 - v86)), (10, ov_i x10)]) (st2 := [ov_i v14, ov_i (v14 - v86), ov_i (x10 - (x8 * (h 96 2))), ov_i ((60 * x8) + x10), ov_r 110]) (pc2 := 189) b_297_183_4 rfl rfl ?_
                        refine ov_cS (as := [ov_i (x10 - (x8 * (h 96 2))), ov_i (v14 - v86), ov_i v14]) (st := [ov_i ((60 * x8) + x10), ov_r 110]) (d2 := d - 1) d_297_189 lk_Mo_446 rfl (Nat.le_of_ble_eq_true rfl) (by omega) (c_Mo_turned (d - 1) (by omega) U I94 (x10 - (x8 * (h 96 2))) (v14 - v86) v14 (by omega) (by omega) (by omega) (by omega) (by omega)) ?_
                        rintro _ _ _ ⟨v114, rfl, rfl, rfl, f113⟩
                        show ov_R u d ov_m297 192 [(0, ov_r 90), (1, ov_i x), (2, ov_i y), (3, ov_i m), (4, ov_i bo), (5, ov_i w), (6, ov_i x6), (7, ov_i v14), (8, ov_i x8), (9, ov_i (v14 - v86)), (10, ov_i x10)] [ov_l v114, ov_i ((60 * x8) + x10), ov_r 110] z92 h93 (P_Mo_wave_90 F z h x y m bo w)
                        clear f113
                        refine ov_last d_297_192 (zb_110 I94) (zs_110 I94) (by omega) ?_
                        have I115 := ua_110 (k := ((60 * x8) + x10)) (x := v114) I94
                        refine ov_blk (ls2 := [(0, ov_r 90), (1, ov_i x), (2, ov_i y), (3, ov_i m), (4, ov_i bo), (5, ov_i w), (6, ov_i x6), (7, ov_i v14), (8, ov_i x8), (9, ov_i (v14 - v86)), (10, ov_i x10)]) (st2 := [ov_r 90]) (pc2 := 194) b_297_193_1 rfl rfl ?_
                        refine ov_getf (v := ov_r 111) d_297_194 fl_Mo_135 (zb_90 I115) (zs_90 I115) (congrArg ov_r (rg_90_39 I115)) ?_
                        refine ov_blk (ls2 := [(0, ov_r 90), (1, ov_i x), (2, ov_i y), (3, ov_i m), (4, ov_i bo), (5, ov_i w), (6, ov_i x6), (7, ov_i v14), (8, ov_i x8), (9, ov_i (v14 - v86)), (10, ov_i x10)]) (st2 := [ov_r 90, ov_i ((m - 1) - x8), ov_i x10, ov_i ((60 * x8) + x10), ov_r 111]) (pc2 := 214) b_297_197_12 rfl rfl ?_
                        refine ov_getf (v := ov_r 96) d_297_214 fl_Mo_81 (zb_90 I115) (zs_90 I115) (congrArg ov_r (rg_90_10 I115)) ?_
                        refine ov_blk (ls2 := [(0, ov_r 90), (1, ov_i x), (2, ov_i y), (3, ov_i m), (4, ov_i bo), (5, ov_i w), (6, ov_i x6), (7, ov_i v14), (8, ov_i x8), (9, ov_i (v14 - v86)), (10, ov_i x10)]) (st2 := [ov_i 2, ov_r 96, ov_i ((m - 1) - x8), ov_i x10, ov_i ((60 * x8) + x10), ov_r 111]) (pc2 := 218) b_297_217_1 rfl rfl ?_
                        refine ov_iald d_297_218 (zb_96 I115) (zs_96 I115) (by omega) ?_
                        rw [show (ov_up h93 110 ((60 * x8) + x10) v114) 96 = h 96 from E99]
                        have gm117 := ov_mulb (q := ((m - 1) - x8)) (b := (h 96 2)) (A := 4) (B := 30) (by omega) (by omega) (by omega) (by omega)
                        refine ov_blk (ls2 := [(0, ov_r 90), (1, ov_i x), (2, ov_i y), (3, ov_i m), (4, ov_i bo), (5, ov_i w), (6, ov_i x6), (7, ov_i v14), (8, ov_i x8), (9, ov_i (v14 - v86)), (10, ov_i x10)]) (st2 := [ov_i v14, ov_i (v14 - v86), ov_i (x10 - (((m - 1) - x8) * (h 96 2))), ov_i ((60 * x8) + x10), ov_r 111]) (pc2 := 225) b_297_219_4 rfl rfl ?_
                        refine ov_cS (as := [ov_i (x10 - (((m - 1) - x8) * (h 96 2))), ov_i (v14 - v86), ov_i v14]) (st := [ov_i ((60 * x8) + x10), ov_r 111]) (d2 := d - 1) d_297_225 lk_Mo_446 rfl (Nat.le_of_ble_eq_true rfl) (by omega) (c_Mo_turned (d - 1) (by omega) U I115 (x10 - (((m - 1) - x8) * (h 96 2))) (v14 - v86) v14 (by omega) (by omega) (by omega) (by omega) (by omega)) ?_
                        rintro _ _ _ ⟨v119, rfl, rfl, rfl, f118⟩
                        show ov_R u d ov_m297 228 [(0, ov_r 90), (1, ov_i x), (2, ov_i y), (3, ov_i m), (4, ov_i bo), (5, ov_i w), (6, ov_i x6), (7, ov_i v14), (8, ov_i x8), (9, ov_i (v14 - v86)), (10, ov_i x10)] [ov_l v119, ov_i ((60 * x8) + x10), ov_r 111] z92 (ov_up h93 110 ((60 * x8) + x10) v114) (P_Mo_wave_90 F z h x y m bo w)
                        clear f118
                        refine ov_last d_297_228 (zb_111 I115) (zs_111 I115) (by omega) ?_
                        have I120 := ua_111 (k := ((60 * x8) + x10)) (x := v119) I115
                        refine ov_blk (ls2 := [(0, ov_r 90), (1, ov_i x), (2, ov_i y), (3, ov_i m), (4, ov_i bo), (5, ov_i w), (6, ov_i x6), (7, ov_i v14), (8, ov_i x8), (9, ov_i (v14 - v86)), (10, ov_i (x10 + 1))]) (st2 := []) (pc2 := 232) b_297_229_1 rfl rfl ?_
                        refine ov_goto (tgt := 154) d_297_232 (by decide) ?_
                        exact ih89 (x10 + 1) _ _ I120 E95 E96 E97 E98 E99 E100 E101 E102 E103 E104 E105 E106 E107 E108 (by show 0 ≤ (x10 + 1) ∧ (x10 + 1) ≤ 60 ∧ (h93 90 2) = (h21 90 2) ∧ (h93 90 3) = (h21 90 3) ∧ (h93 90 7) = (h21 90 7) ∧ (h93 90 8) = (h21 90 8) ∧ (h93 90 13) = (h21 90 13) ∧ (h93 90 20) = (h21 90 20) ∧ (h93 90 22) = (h21 90 22) ∧ (h93 90 25) = (h21 90 25) ∧ (h93 90 26) = (h21 90 26) ∧ (h93 90 27) = (h21 90 27) ∧ (h93 90 28) = (h21 90 28) ∧ (h93 90 29) = (h21 90 29) ∧ (h93 90 30) = (h21 90 30) ∧ (h93 90 34) = (h21 90 34) ∧ (h93 90 35) = (h21 90 35) ∧ (h93 90 37) = (h21 90 37); omega) (by omega)
                  exact L91 61 0 _ _ I22 E23 E24 E25 E26 E27 E28 E29 E30 E31 E32 E33 E34 E35 E36 (by show 0 ≤ 0 ∧ 0 ≤ 60 ∧ (h21 90 2) = (h21 90 2) ∧ (h21 90 3) = (h21 90 3) ∧ (h21 90 7) = (h21 90 7) ∧ (h21 90 8) = (h21 90 8) ∧ (h21 90 13) = (h21 90 13) ∧ (h21 90 20) = (h21 90 20) ∧ (h21 90 22) = (h21 90 22) ∧ (h21 90 25) = (h21 90 25) ∧ (h21 90 26) = (h21 90 26) ∧ (h21 90 27) = (h21 90 27) ∧ (h21 90 28) = (h21 90 28) ∧ (h21 90 29) = (h21 90 29) ∧ (h21 90 30) = (h21 90 30) ∧ (h21 90 34) = (h21 90 34) ∧ (h21 90 35) = (h21 90 35) ∧ (h21 90 37) = (h21 90 37); omega) (by omega)
            exact L19 5 0 _ _ I1 rfl rfl rfl rfl rfl rfl rfl rfl rfl rfl rfl rfl rfl rfl (by show 0 ≤ 0 ∧ 0 ≤ 4 ∧ (h 90 2) = (h 90 2) ∧ (h 90 3) = (h 90 3) ∧ (h 90 7) = (h 90 7) ∧ (h 90 8) = (h 90 8) ∧ (h 90 13) = (h 90 13) ∧ (h 90 20) = (h 90 20) ∧ (h 90 22) = (h 90 22) ∧ (h 90 25) = (h 90 25) ∧ (h 90 26) = (h 90 26) ∧ (h 90 27) = (h 90 27) ∧ (h 90 28) = (h 90 28) ∧ (h 90 29) = (h 90 29) ∧ (h 90 30) = (h 90 30) ∧ (h 90 34) = (h 90 34) ∧ (h 90 35) = (h 90 35) ∧ (h 90 37) = (h 90 37); omega) (by omega)
          · skip
            refine ov_blk (ls2 := [(0, ov_r 90), (1, ov_i x), (2, ov_i y), (3, ov_i m), (4, ov_i bo), (5, ov_i w), (6, ov_i x6), (7, ov_i x7)]) (st2 := [ov_i (-1)]) (pc2 := 117) b_297_116_1 rfl rfl ?_
            exact ov_reti (st := []) d_297_117 rfl ⟨_, rfl, I1, (by show -2147483648 ≤ (-1) ∧ (-1) ≤ 2147483647 ∧ (h 90 2) = (h 90 2) ∧ (h 90 3) = (h 90 3) ∧ (h 90 7) = (h 90 7) ∧ (h 90 8) = (h 90 8) ∧ (h 90 13) = (h 90 13) ∧ (h 90 20) = (h 90 20) ∧ (h 90 22) = (h 90 22) ∧ (h 90 25) = (h 90 25) ∧ (h 90 26) = (h 90 26) ∧ (h 90 27) = (h 90 27) ∧ (h 90 28) = (h 90 28) ∧ (h 90 29) = (h 90 29) ∧ (h 90 30) = (h 90 30) ∧ (h 90 34) = (h 90 34) ∧ (h 90 35) = (h 90 35) ∧ (h 90 37) = (h 90 37); omega), rfl, rfl, rfl, rfl, rfl, rfl, rfl, rfl, rfl, rfl, rfl, rfl, rfl, rfl⟩
        · skip
          refine ov_blk (ls2 := [(0, ov_r 90), (1, ov_i x), (2, ov_i y), (3, ov_i m), (4, ov_i bo), (5, ov_i w), (6, ov_i x6), (7, ov_i x7)]) (st2 := [ov_i x6]) (pc2 := 63) b_297_61_1 rfl rfl ?_
          refine ov_ifeq (tgt := 111) d_297_63 (by decide) (by omega) (fun c121 => ?_) (fun c121 => ?_)
          · skip
            refine ov_blk (ls2 := [(0, ov_r 90), (1, ov_i x), (2, ov_i y), (3, ov_i m), (4, ov_i bo), (5, ov_i w), (6, ov_i x6), (7, ov_i x7)]) (st2 := [ov_i x6]) (pc2 := 113) b_297_111_1 rfl rfl ?_
            refine ov_ifne (tgt := 118) d_297_113 (by decide) (by omega) (fun c122 => ?_) (fun c122 => ?_)
            · omega
            · skip
              refine ov_blk (ls2 := [(0, ov_r 90), (1, ov_i x), (2, ov_i y), (3, ov_i m), (4, ov_i bo), (5, ov_i w), (6, ov_i x6), (7, ov_i x7)]) (st2 := [ov_i (-1)]) (pc2 := 117) b_297_116_1 rfl rfl ?_
              exact ov_reti (st := []) d_297_117 rfl ⟨_, rfl, I1, (by show -2147483648 ≤ (-1) ∧ (-1) ≤ 2147483647 ∧ (h 90 2) = (h 90 2) ∧ (h 90 3) = (h 90 3) ∧ (h 90 7) = (h 90 7) ∧ (h 90 8) = (h 90 8) ∧ (h 90 13) = (h 90 13) ∧ (h 90 20) = (h 90 20) ∧ (h 90 22) = (h 90 22) ∧ (h 90 25) = (h 90 25) ∧ (h 90 26) = (h 90 26) ∧ (h 90 27) = (h 90 27) ∧ (h 90 28) = (h 90 28) ∧ (h 90 29) = (h 90 29) ∧ (h 90 30) = (h 90 30) ∧ (h 90 34) = (h 90 34) ∧ (h 90 35) = (h 90 35) ∧ (h 90 37) = (h 90 37); omega), rfl, rfl, rfl, rfl, rfl, rfl, rfl, rfl, rfl, rfl, rfl, rfl, rfl, rfl⟩
          · skip
            refine ov_blk (ls2 := [(0, ov_r 90), (1, ov_i x), (2, ov_i y), (3, ov_i m), (4, ov_i bo), (5, ov_i w), (6, ov_i x6), (7, ov_i x7)]) (st2 := [ov_i (y + x7), ov_i x, ov_r 90]) (pc2 := 72) b_297_66_5 rfl rfl ?_
            refine ov_cV (as := [ov_i x, ov_i (y + x7)]) (st := []) (d2 := d - 1) d_297_72 lk_Mo_285 rfl (Nat.le_of_ble_eq_true rfl) (c := 1) (zb_90 I1) (zs_90 I1) ⟨by decide, rfl⟩ (by omega) (c_Mo_isTimed_90 (d - 1) (by omega) U I1 x (y + x7) (by omega) (by omega) (by omega)) ?_
            rintro _ _ _ ⟨v124, rfl, rfl, rfl, f123⟩
            show ov_R u d ov_m297 75 [(0, ov_r 90), (1, ov_i x), (2, ov_i y), (3, ov_i m), (4, ov_i bo), (5, ov_i w), (6, ov_i x6), (7, ov_i x7)] [ov_i v124] z (ov_up h 90 0 0) (P_Mo_wave_90 F z h x y m bo w)
            have f125 : (v124 = 0 ∨ v124 = 1) ∧ (v124 = 1 → ((h 96 (10 + 4 * (6 * (y + x7) + x))) = 1 ∨ (h 96 (10 + 4 * (6 * (y + x7) + x))) = 2)) ∧ (v124 = 0 → ¬ ((h 96 (10 + 4 * (6 * (y + x7) + x))) = 1 ∨ (h 96 (10 + 4 * (6 * (y + x7) + x))) = 2)) := f123
            clear f123
            refine ov_ifeq (tgt := 102) d_297_75 (by decide) (by omega) (fun c126 => ?_) (fun c126 => ?_)
            · skip
              refine ov_blk (ls2 := [(0, ov_r 90), (1, ov_i x), (2, ov_i y), (3, ov_i m), (4, ov_i bo), (5, ov_i w), (6, ov_i 0), (7, ov_i (x7 + 1))]) (st2 := []) (pc2 := 108) b_297_102_3 rfl rfl ?_
              refine ov_goto (tgt := 55) d_297_108 (by decide) ?_
              exact ih7 0 (x7 + 1) (by show (0 = 0 ∨ 0 = 1) ∧ 0 ≤ (x7 + 1) ∧ (x7 + 1) ≤ 4 ∧ (0 = 1 → 0 ≤ x ∧ x ≤ 5 ∧ 0 ≤ y ∧ y ≤ 8 ∧ 2 ≤ m ∧ m ≤ 4 ∧ y + m ≤ 9 ∧ 0 ≤ w ∧ w ≤ m - 1 ∧ (1 ≤ (x7 + 1) → ((h 96 (10 + 4 * (6 * y + x))) = 1 ∨ (h 96 (10 + 4 * (6 * y + x))) = 2))); omega) (by omega)
            · skip
              refine ov_blk (ls2 := [(0, ov_r 90), (1, ov_i x), (2, ov_i y), (3, ov_i m), (4, ov_i bo), (5, ov_i w), (6, ov_i x6), (7, ov_i x7)]) (st2 := [ov_i 1, ov_i (y + x7), ov_i x, ov_r 90]) (pc2 := 85) b_297_78_6 rfl rfl ?_
              refine ov_cV (as := [ov_i x, ov_i (y + x7), ov_i 1]) (st := []) (d2 := d - 1) d_297_85 lk_Mo_289 rfl (Nat.le_of_ble_eq_true rfl) (c := 1) (zb_90 I1) (zs_90 I1) ⟨by decide, rfl⟩ (by omega) (c_Mo_lightAt_90 (d - 1) (by omega) U I1 x (y + x7) 1 (by omega) (by omega) (by omega) (by omega) (by omega)) ?_
              rintro _ _ _ ⟨v128, rfl, rfl, rfl, f127⟩
              show ov_R u d ov_m297 88 [(0, ov_r 90), (1, ov_i x), (2, ov_i y), (3, ov_i m), (4, ov_i bo), (5, ov_i w), (6, ov_i x6), (7, ov_i x7)] [ov_i v128] z (ov_up h 90 0 0) (P_Mo_wave_90 F z h x y m bo w)
              have f129 : v128 = (h 96 (10 + 4 * (6 * (y + x7) + x) + (1 : Int))) ∧ ((1 : Int) = 1 → 0 ≤ v128 ∧ v128 ≤ 60) ∧ ((1 : Int) = 2 → 0 ≤ v128 ∧ v128 ≤ 59) ∧ ((1 : Int) = 3 → 0 ≤ v128 ∧ v128 ≤ 60) := f127
              clear f127
              refine ov_blk (ls2 := [(0, ov_r 90), (1, ov_i x), (2, ov_i y), (3, ov_i m), (4, ov_i bo), (5, ov_i w), (6, ov_i x6), (7, ov_i x7)]) (st2 := [ov_i 1, ov_i y, ov_i x, ov_r 90, ov_i v128]) (pc2 := 92) b_297_88_4 rfl rfl ?_
              refine ov_cV (as := [ov_i x, ov_i y, ov_i 1]) (st := [ov_i v128]) (d2 := d - 1) d_297_92 lk_Mo_289 rfl (Nat.le_of_ble_eq_true rfl) (c := 1) (zb_90 I1) (zs_90 I1) ⟨by decide, rfl⟩ (by omega) (c_Mo_lightAt_90 (d - 1) (by omega) U I1 x y 1 (by omega) (by omega) (by omega) (by omega) (by omega)) ?_
              rintro _ _ _ ⟨v131, rfl, rfl, rfl, f130⟩
              show ov_R u d ov_m297 95 [(0, ov_r 90), (1, ov_i x), (2, ov_i y), (3, ov_i m), (4, ov_i bo), (5, ov_i w), (6, ov_i x6), (7, ov_i x7)] [ov_i v131, ov_i v128] z (ov_up h 90 0 0) (P_Mo_wave_90 F z h x y m bo w)
              have f132 : v131 = (h 96 (10 + 4 * (6 * y + x) + (1 : Int))) ∧ ((1 : Int) = 1 → 0 ≤ v131 ∧ v131 ≤ 60) ∧ ((1 : Int) = 2 → 0 ≤ v131 ∧ v131 ≤ 59) ∧ ((1 : Int) = 3 → 0 ≤ v131 ∧ v131 ≤ 60) := f130
              clear f130
              refine ov_icne (tgt := 102) d_297_95 (by decide) (by omega) (by omega) (fun c133 => ?_) (fun c133 => ?_)
              · skip
                refine ov_blk (ls2 := [(0, ov_r 90), (1, ov_i x), (2, ov_i y), (3, ov_i m), (4, ov_i bo), (5, ov_i w), (6, ov_i 0), (7, ov_i (x7 + 1))]) (st2 := []) (pc2 := 108) b_297_102_3 rfl rfl ?_
                refine ov_goto (tgt := 55) d_297_108 (by decide) ?_
                exact ih7 0 (x7 + 1) (by show (0 = 0 ∨ 0 = 1) ∧ 0 ≤ (x7 + 1) ∧ (x7 + 1) ≤ 4 ∧ (0 = 1 → 0 ≤ x ∧ x ≤ 5 ∧ 0 ≤ y ∧ y ≤ 8 ∧ 2 ≤ m ∧ m ≤ 4 ∧ y + m ≤ 9 ∧ 0 ≤ w ∧ w ≤ m - 1 ∧ (1 ≤ (x7 + 1) → ((h 96 (10 + 4 * (6 * y + x))) = 1 ∨ (h 96 (10 + 4 * (6 * y + x))) = 2))); omega) (by omega)
              · skip
                refine ov_blk (ls2 := [(0, ov_r 90), (1, ov_i x), (2, ov_i y), (3, ov_i m), (4, ov_i bo), (5, ov_i w), (6, ov_i x6), (7, ov_i x7)]) (st2 := [ov_i 1]) (pc2 := 99) b_297_98_1 rfl rfl ?_
                refine ov_goto (tgt := 103) d_297_99 (by decide) ?_
                refine ov_blk (ls2 := [(0, ov_r 90), (1, ov_i x), (2, ov_i y), (3, ov_i m), (4, ov_i bo), (5, ov_i w), (6, ov_i 1), (7, ov_i (x7 + 1))]) (st2 := []) (pc2 := 108) b_297_103_2 rfl rfl ?_
                refine ov_goto (tgt := 55) d_297_108 (by decide) ?_
                exact ih7 1 (x7 + 1) (by show (1 = 0 ∨ 1 = 1) ∧ 0 ≤ (x7 + 1) ∧ (x7 + 1) ≤ 4 ∧ (1 = 1 → 0 ≤ x ∧ x ≤ 5 ∧ 0 ≤ y ∧ y ≤ 8 ∧ 2 ≤ m ∧ m ≤ 4 ∧ y + m ≤ 9 ∧ 0 ≤ w ∧ w ≤ m - 1 ∧ (1 ≤ (x7 + 1) → ((h 96 (10 + 4 * (6 * y + x))) = 1 ∨ (h 96 (10 + 4 * (6 * y + x))) = 2))); omega) (by omega)
    exact L9 5 0 0 (by show (0 = 0 ∨ 0 = 1) ∧ 0 ≤ 0 ∧ 0 ≤ 4 ∧ (0 = 1 → 0 ≤ x ∧ x ≤ 5 ∧ 0 ≤ y ∧ y ≤ 8 ∧ 2 ≤ m ∧ m ≤ 4 ∧ y + m ≤ 9 ∧ 0 ≤ w ∧ w ≤ m - 1 ∧ (1 ≤ 0 → ((h 96 (10 + 4 * (6 * y + x))) = 1 ∨ (h 96 (10 + 4 * (6 * y + x))) = 2))); omega) (by omega)
  · skip
    refine ov_blk (ls2 := [(0, ov_r 90), (1, ov_i x), (2, ov_i y), (3, ov_i m), (4, ov_i bo), (5, ov_i w)]) (st2 := [ov_i 4, ov_i 2, ov_i m]) (pc2 := 17) b_297_14_3 rfl rfl ?_
    refine ov_cS (as := [ov_i m, ov_i 2, ov_i 4]) (st := []) (d2 := d - 1) d_297_17 lk_Mo_299 rfl (Nat.le_of_ble_eq_true rfl) (by omega) (c_Mo_within (d - 1) (by omega) U I1 m 2 4 (by omega) (by omega) (by omega)) ?_
    rintro _ _ _ ⟨v135, rfl, rfl, rfl, f134⟩
    show ov_R u d ov_m297 20 [(0, ov_r 90), (1, ov_i x), (2, ov_i y), (3, ov_i m), (4, ov_i bo), (5, ov_i w)] [ov_i v135] z (ov_up h 90 0 0) (P_Mo_wave_90 F z h x y m bo w)
    have f136 : (v135 = 0 ∨ v135 = 1) ∧ (v135 = 1 → (2 : Int) ≤ m ∧ m ≤ (4 : Int)) ∧ (v135 = 0 → m < (2 : Int) ∨ (4 : Int) < m) := f134
    clear f134
    refine ov_ifeq (tgt := 49) d_297_20 (by decide) (by omega) (fun c137 => ?_) (fun c137 => ?_)
    · skip
      refine ov_blk (ls2 := [(0, ov_r 90), (1, ov_i x), (2, ov_i y), (3, ov_i m), (4, ov_i bo), (5, ov_i w), (6, ov_i 0), (7, ov_i 0)]) (st2 := []) (pc2 := 55) b_297_49_4 rfl rfl ?_
      have L141 : ∀ (n138 : Nat) (x6_ : Int) (x7_ : Int) (q140 : (x6_ = 0 ∨ x6_ = 1) ∧ 0 ≤ x7_ ∧ x7_ ≤ 4 ∧ (x6_ = 1 → 0 ≤ x ∧ x ≤ 5 ∧ 0 ≤ y ∧ y ≤ 8 ∧ 2 ≤ m ∧ m ≤ 4 ∧ y + m ≤ 9 ∧ 0 ≤ w ∧ w ≤ m - 1 ∧ (1 ≤ x7_ → ((h 96 (10 + 4 * (6 * y + x))) = 1 ∨ (h 96 (10 + 4 * (6 * y + x))) = 2)))), 4 - x7_ < (n138 : Int) → ov_R u d ov_m297 55 [(0, ov_r 90), (1, ov_i x), (2, ov_i y), (3, ov_i m), (4, ov_i bo), (5, ov_i w), (6, ov_i x6_), (7, ov_i x7_)] [] z (ov_up h 90 0 0) (P_Mo_wave_90 F z h x y m bo w) := by
        intro n138
        induction n138 with
        | zero =>
          intro x6_ x7_ q140 hn142
          exact absurd hn142 (by omega)
        | succ n138 ih139 =>
          intro x6_ x7_ q140 hn142
          refine ov_blk (ls2 := [(0, ov_r 90), (1, ov_i x), (2, ov_i y), (3, ov_i m), (4, ov_i bo), (5, ov_i w), (6, ov_i x6_), (7, ov_i x7_)]) (st2 := [ov_i m, ov_i x7_]) (pc2 := 58) b_297_55_2 rfl rfl ?_
          refine ov_icge (tgt := 111) d_297_58 (by decide) (by omega) (by omega) (fun c143 => ?_) (fun c143 => ?_)
          · skip
            refine ov_blk (ls2 := [(0, ov_r 90), (1, ov_i x), (2, ov_i y), (3, ov_i m), (4, ov_i bo), (5, ov_i w), (6, ov_i x6_), (7, ov_i x7_)]) (st2 := [ov_i x6_]) (pc2 := 113) b_297_111_1 rfl rfl ?_
            refine ov_ifne (tgt := 118) d_297_113 (by decide) (by omega) (fun c144 => ?_) (fun c144 => ?_)
            · skip
              have w1 := ov_WT_at W (c := 6 * y + x) (by omega)
              refine ov_blk (ls2 := [(0, ov_r 90), (1, ov_i x), (2, ov_i y), (3, ov_i m), (4, ov_i bo), (5, ov_i w), (6, ov_i x6_), (7, ov_i x7_)]) (st2 := [ov_i 1, ov_i y, ov_i x, ov_r 90]) (pc2 := 122) b_297_118_4 rfl rfl ?_
              refine ov_cV (as := [ov_i x, ov_i y, ov_i 1]) (st := []) (d2 := d - 1) d_297_122 lk_Mo_289 rfl (Nat.le_of_ble_eq_true rfl) (c := 1) (zb_90 I1) (zs_90 I1) ⟨by decide, rfl⟩ (by omega) (c_Mo_lightAt_90 (d - 1) (by omega) U I1 x y 1 (by omega) (by omega) (by omega) (by omega) (by omega)) ?_
              rintro _ _ _ ⟨v146, rfl, rfl, rfl, f145⟩
              show ov_R u d ov_m297 125 [(0, ov_r 90), (1, ov_i x), (2, ov_i y), (3, ov_i m), (4, ov_i bo), (5, ov_i w), (6, ov_i x6_), (7, ov_i x7_)] [ov_i v146] z (ov_up h 90 0 0) (P_Mo_wave_90 F z h x y m bo w)
              have f147 : v146 = (h 96 (10 + 4 * (6 * y + x) + (1 : Int))) ∧ ((1 : Int) = 1 → 0 ≤ v146 ∧ v146 ≤ 60) ∧ ((1 : Int) = 2 → 0 ≤ v146 ∧ v146 ≤ 59) ∧ ((1 : Int) = 3 → 0 ≤ v146 ∧ v146 ≤ 60) := f145
              clear f145
              refine ov_blk (ls2 := [(0, ov_r 90), (1, ov_i x), (2, ov_i y), (3, ov_i m), (4, ov_i bo), (5, ov_i w), (6, ov_i x6_), (7, ov_i v146), (8, ov_i 0)]) (st2 := []) (pc2 := 130) b_297_125_3 rfl rfl ?_
              have L151 : ∀ (n148 : Nat) (x8_ : Int) (z152 : ov_Z) (h153 : ov_H) (I154 : ov_N F z152 h153) (E155 : h153 92 = h 92) (E156 : h153 93 = h 93) (E157 : h153 94 = h 94) (E158 : h153 95 = h 95) (E159 : h153 96 = h 96) (E160 : h153 97 = h 97) (E161 : h153 98 = h 98) (E162 : h153 99 = h 99) (E163 : h153 100 = h 100) (E164 : h153 103 = h 103) (E165 : h153 105 = h 105) (E166 : h153 106 = h 106) (E167 : h153 109 = h 109) (E168 : h153 114 = h 114) (q150 : 0 ≤ x8_ ∧ x8_ ≤ 4 ∧ (h153 90 2) = (h 90 2) ∧ (h153 90 3) = (h 90 3) ∧ (h153 90 7) = (h 90 7) ∧ (h153 90 8) = (h 90 8) ∧ (h153 90 13) = (h 90 13) ∧ (h153 90 20) = (h 90 20) ∧ (h153 90 22) = (h 90 22) ∧ (h153 90 25) = (h 90 25) ∧ (h153 90 26) = (h 90 26) ∧ (h153 90 27) = (h 90 27) ∧ (h153 90 28) = (h 90 28) ∧ (h153 90 29) = (h 90 29) ∧ (h153 90 30) = (h 90 30) ∧ (h153 90 34) = (h 90 34) ∧ (h153 90 35) = (h 90 35) ∧ (h153 90 37) = (h 90 37)), 4 - x8_ < (n148 : Int) → ov_R u d ov_m297 130 [(0, ov_r 90), (1, ov_i x), (2, ov_i y), (3, ov_i m), (4, ov_i bo), (5, ov_i w), (6, ov_i x6_), (7, ov_i v146), (8, ov_i x8_)] [] z152 h153 (P_Mo_wave_90 F z h x y m bo w) := by
                intro n148
                induction n148 with
                | zero =>
                  intro x8_ z152 h153 I154 E155 E156 E157 E158 E159 E160 E161 E162 E163 E164 E165 E166 E167 E168 q150 hn169
                  exact absurd hn169 (by omega)
                | succ n148 ih149 =>
                  intro x8_ z152 h153 I154 E155 E156 E157 E158 E159 E160 E161 E162 E163 E164 E165 E166 E167 E168 q150 hn169
                  refine ov_blk (ls2 := [(0, ov_r 90), (1, ov_i x), (2, ov_i y), (3, ov_i m), (4, ov_i bo), (5, ov_i w), (6, ov_i x6_), (7, ov_i v146), (8, ov_i x8_)]) (st2 := [ov_i m, ov_i x8_]) (pc2 := 133) b_297_130_2 rfl rfl ?_
                  refine ov_icge (tgt := 241) d_297_133 (by decide) (by omega) (by omega) (fun c170 => ?_) (fun c170 => ?_)
                  · skip
                    refine ov_blk (ls2 := [(0, ov_r 90), (1, ov_i x), (2, ov_i y), (3, ov_i m), (4, ov_i bo), (5, ov_i w), (6, ov_i x6_), (7, ov_i v146), (8, ov_i x8_)]) (st2 := [ov_i (-1), ov_r 90]) (pc2 := 243) b_297_241_2 rfl rfl ?_
                    refine ov_putf (x := (-1)) d_297_243 fl_Mo_439 (zb_90 I154) (zs_90 I154) rfl nk_0 rfl ?_
                    have I171 := up_90_42 (x := (-1)) I154 (by omega)
                    refine ov_blk (ls2 := [(0, ov_r 90), (1, ov_i x), (2, ov_i y), (3, ov_i m), (4, ov_i bo), (5, ov_i w), (6, ov_i x6_), (7, ov_i v146), (8, ov_i x8_)]) (st2 := [ov_i 2, ov_i y, ov_i x, ov_r 90]) (pc2 := 250) b_297_246_4 rfl rfl ?_
                    refine ov_cV (as := [ov_i x, ov_i y, ov_i 2]) (st := []) (d2 := d - 1) d_297_250 lk_Mo_289 rfl (Nat.le_of_ble_eq_true rfl) (c := 1) (zb_90 I171) (zs_90 I171) ⟨by decide, rfl⟩ (by omega) (c_Mo_lightAt_90 (d - 1) (by omega) U I171 x y 2 (by omega) (by omega) (by omega) (by omega) (by omega)) ?_
                    rintro _ _ _ ⟨v173, rfl, rfl, rfl, f172⟩
                    show ov_R u d ov_m297 253 [(0, ov_r 90), (1, ov_i x), (2, ov_i y), (3, ov_i m), (4, ov_i bo), (5, ov_i w), (6, ov_i x6_), (7, ov_i v146), (8, ov_i x8_)] [ov_i v173] z152 (ov_up h153 90 42 (-1)) (P_Mo_wave_90 F z h x y m bo w)
                    rw [show (ov_up h153 90 42 (-1)) 96 = h 96 from E159] at f172
                    have f174 : v173 = (h 96 (10 + 4 * (6 * y + x) + (2 : Int))) ∧ ((2 : Int) = 1 → 0 ≤ v173 ∧ v173 ≤ 60) ∧ ((2 : Int) = 2 → 0 ≤ v173 ∧ v173 ≤ 59) ∧ ((2 : Int) = 3 → 0 ≤ v173 ∧ v173 ≤ 60) := f172
                    clear f172
                    refine ov_blk (ls2 := [(0, ov_r 90), (1, ov_i x), (2, ov_i y), (3, ov_i m), (4, ov_i bo), (5, ov_i w), (6, ov_i x6_), (7, ov_i v146), (8, ov_i x8_)]) (st2 := [ov_i 3, ov_i y, ov_i x, ov_r 90, ov_i v173]) (pc2 := 257) b_297_253_4 rfl rfl ?_
                    refine ov_cV (as := [ov_i x, ov_i y, ov_i 3]) (st := [ov_i v173]) (d2 := d - 1) d_297_257 lk_Mo_289 rfl (Nat.le_of_ble_eq_true rfl) (c := 1) (zb_90 I171) (zs_90 I171) ⟨by decide, rfl⟩ (by omega) (c_Mo_lightAt_90 (d - 1) (by omega) U I171 x y 3 (by omega) (by omega) (by omega) (by omega) (by omega)) ?_
                    rintro _ _ _ ⟨v176, rfl, rfl, rfl, f175⟩
                    show ov_R u d ov_m297 260 [(0, ov_r 90), (1, ov_i x), (2, ov_i y), (3, ov_i m), (4, ov_i bo), (5, ov_i w), (6, ov_i x6_), (7, ov_i v146), (8, ov_i x8_)] [ov_i v176, ov_i v173] z152 (ov_up h153 90 42 (-1)) (P_Mo_wave_90 F z h x y m bo w)
                    rw [show (ov_up h153 90 42 (-1)) 96 = h 96 from E159] at f175
                    have f177 : v176 = (h 96 (10 + 4 * (6 * y + x) + (3 : Int))) ∧ ((3 : Int) = 1 → 0 ≤ v176 ∧ v176 ≤ 60) ∧ ((3 : Int) = 2 → 0 ≤ v176 ∧ v176 ≤ 59) ∧ ((3 : Int) = 3 → 0 ≤ v176 ∧ v176 ≤ 60) := f175
                    clear f175
                    refine ov_blk (ls2 := [(0, ov_r 90), (1, ov_i x), (2, ov_i y), (3, ov_i m), (4, ov_i bo), (5, ov_i w), (6, ov_i x6_), (7, ov_i v146), (8, ov_i x8_)]) (st2 := [ov_i v146, ov_i (v173 + v176)]) (pc2 := 263) b_297_260_2 rfl rfl ?_
                    refine ov_irem d_297_263 (by omega) (by omega) (by omega) ?_
                    have g178 := ov_tmg (a := (v173 + v176)) (b := v146) (by omega) (by omega)
                    refine ov_havw (fun w179 gw179 qw179 => ?_)
                    refine ov_blk (ls2 := [(0, ov_r 90), (1, ov_i x), (2, ov_i y), (3, ov_i m), (4, ov_i bo), (5, ov_i w), (6, ov_i x6_), (7, ov_i v146), (8, ov_i w179)]) (st2 := [ov_r 90]) (pc2 := 267) b_297_264_2 rfl rfl ?_
                    refine ov_getf (v := ov_r 112) d_297_267 fl_Mo_138 (zb_90 I171) (zs_90 I171) (congrArg ov_r (rg_90_40 I171)) ?_
                    refine ov_blk (ls2 := [(0, ov_r 90), (1, ov_i x), (2, ov_i y), (3, ov_i m), (4, ov_i bo), (5, ov_i w), (6, ov_i x6_), (7, ov_i v146), (8, ov_i w179)]) (st2 := [ov_i w179, ov_i 0, ov_r 112]) (pc2 := 273) b_297_270_2 rfl rfl ?_
                    refine ov_iast d_297_273 (zb_112 I171) (zs_112 I171) (by omega) ?_
                    have I180 := ua_112 (k := 0) (x := w179) I171 (by omega)
                    refine ov_blk (ls2 := [(0, ov_r 90), (1, ov_i x), (2, ov_i y), (3, ov_i m), (4, ov_i bo), (5, ov_i w), (6, ov_i x6_), (7, ov_i v146), (8, ov_i w179)]) (st2 := [ov_r 90, ov_i v146, ov_i m, ov_i 1, ov_r 90]) (pc2 := 280) b_297_274_5 rfl rfl ?_
                    refine ov_getf (v := ov_r 110) d_297_280 fl_Mo_132 (zb_90 I180) (zs_90 I180) (congrArg ov_r (rg_90_38 I180)) ?_
                    refine ov_blk (ls2 := [(0, ov_r 90), (1, ov_i x), (2, ov_i y), (3, ov_i m), (4, ov_i bo), (5, ov_i w), (6, ov_i x6_), (7, ov_i v146), (8, ov_i w179)]) (st2 := [ov_i w179, ov_r 110, ov_i v146, ov_i m, ov_i 1, ov_r 90]) (pc2 := 285) b_297_283_1 rfl rfl ?_
                    refine ov_lald d_297_285 (zb_110 I180) (zs_110 I180) (by omega) ?_
                    show ov_R u d ov_m297 286 [(0, ov_r 90), (1, ov_i x), (2, ov_i y), (3, ov_i m), (4, ov_i bo), (5, ov_i w), (6, ov_i x6_), (7, ov_i v146), (8, ov_i w179)] [ov_l (h153 110 w179), ov_i v146, ov_i m, ov_i 1, ov_r 90] z152 (ov_up (ov_up h153 90 42 (-1)) 112 0 w179) (P_Mo_wave_90 F z h x y m bo w)
                    refine ov_blk (ls2 := [(0, ov_r 90), (1, ov_i x), (2, ov_i y), (3, ov_i m), (4, ov_i bo), (5, ov_i w), (6, ov_i x6_), (7, ov_i v146), (8, ov_i w179)]) (st2 := [ov_r 90, ov_l (h153 110 w179), ov_i v146, ov_i m, ov_i 1, ov_r 90]) (pc2 := 287) b_297_286_1 rfl rfl ?_
                    refine ov_getf (v := ov_r 111) d_297_287 fl_Mo_135 (zb_90 I180) (zs_90 I180) (congrArg ov_r (rg_90_39 I180)) ?_
                    refine ov_blk (ls2 := [(0, ov_r 90), (1, ov_i x), (2, ov_i y), (3, ov_i m), (4, ov_i bo), (5, ov_i w), (6, ov_i x6_), (7, ov_i v146), (8, ov_i w179)]) (st2 := [ov_i w179, ov_r 111, ov_l (h153 110 w179), ov_i v146, ov_i m, ov_i 1, ov_r 90]) (pc2 := 292) b_297_290_1 rfl rfl ?_
                    refine ov_lald d_297_292 (zb_111 I180) (zs_111 I180) (by omega) ?_
                    show ov_R u d ov_m297 293 [(0, ov_r 90), (1, ov_i x), (2, ov_i y), (3, ov_i m), (4, ov_i bo), (5, ov_i w), (6, ov_i x6_), (7, ov_i v146), (8, ov_i w179)] [ov_l (h153 111 w179), ov_l (h153 110 w179), ov_i v146, ov_i m, ov_i 1, ov_r 90] z152 (ov_up (ov_up h153 90 42 (-1)) 112 0 w179) (P_Mo_wave_90 F z h x y m bo w)
                    refine ov_blk (ls2 := [(0, ov_r 90), (1, ov_i x), (2, ov_i y), (3, ov_i m), (4, ov_i bo), (5, ov_i w), (6, ov_i x6_), (7, ov_i v146), (8, ov_i w179)]) (st2 := [ov_i bo, ov_l (h153 111 w179), ov_l (h153 110 w179), ov_i v146, ov_i m, ov_i 1, ov_r 90]) (pc2 := 295) b_297_293_1 rfl rfl ?_
                    refine ov_cV (as := [ov_i 1, ov_i m, ov_i v146, ov_l (h153 110 w179), ov_l (h153 111 w179), ov_i bo]) (st := []) (d2 := d - 1) d_297_295 lk_Mo_442 rfl (Nat.le_of_ble_eq_true rfl) (c := 1) (zb_90 I180) (zs_90 I180) ⟨by decide, rfl⟩ (by omega) (c_Mo_triesWave_90_all (Int.toNat ((m) - (1))) (d - 1) (by omega) U I180 1 m v146 (h153 110 w179) (h153 111 w179) bo (by omega) (by omega) (by omega) (by omega) (by omega) (by omega) (by omega)) ?_
                    rintro _ z196 h197 ⟨rfl, I198, f181, e182, e183, e184, e185, e186, e187, e188, e189, e190, e191, e192, e193, e194, e195⟩
                    have E199 : h197 92 = h 92 := Eq.trans e182 E155
                    have E200 : h197 93 = h 93 := Eq.trans e183 E156
                    have E201 : h197 94 = h 94 := Eq.trans e184 E157
                    have E202 : h197 95 = h 95 := Eq.trans e185 E158
                    have E203 : h197 96 = h 96 := Eq.trans e186 E159
                    have E204 : h197 97 = h 97 := Eq.trans e187 E160
                    have E205 : h197 98 = h 98 := Eq.trans e188 E161
                    have E206 : h197 99 = h 99 := Eq.trans e189 E162
                    have E207 : h197 100 = h 100 := Eq.trans e190 E163
                    have E208 : h197 103 = h 103 := Eq.trans e191 E164
                    have E209 : h197 105 = h 105 := Eq.trans e192 E165
                    have E210 : h197 106 = h 106 := Eq.trans e193 E166
                    have E211 : h197 109 = h 109 := Eq.trans e194 E167
                    have E212 : h197 114 = h 114 := Eq.trans e195 E168
                    show ov_R u d ov_m297 298 [(0, ov_r 90), (1, ov_i x), (2, ov_i y), (3, ov_i m), (4, ov_i bo), (5, ov_i w), (6, ov_i x6_), (7, ov_i v146), (8, ov_i w179)] [] z196 h197 (P_Mo_wave_90 F z h x y m bo w)
                    have f213 : (h197 90 2) = (h153 90 2) ∧ (h197 90 3) = (h153 90 3) ∧ (h197 90 7) = (h153 90 7) ∧ (h197 90 8) = (h153 90 8) ∧ (h197 90 13) = (h153 90 13) ∧ (h197 90 20) = (h153 90 20) ∧ (h197 90 22) = (h153 90 22) ∧ (h197 90 25) = (h153 90 25) ∧ (h197 90 26) = (h153 90 26) ∧ (h197 90 27) = (h153 90 27) ∧ (h197 90 28) = (h153 90 28) ∧ (h197 90 29) = (h153 90 29) ∧ (h197 90 30) = (h153 90 30) ∧ (h197 90 34) = (h153 90 34) ∧ (h197 90 35) = (h153 90 35) ∧ (h197 90 37) = (h153 90 37) := f181
                    clear f181
                    refine ov_blk (ls2 := [(0, ov_r 90), (1, ov_i x), (2, ov_i y), (3, ov_i m), (4, ov_i bo), (5, ov_i w), (6, ov_i x6_), (7, ov_i v146), (8, ov_i w179)]) (st2 := [ov_i w]) (pc2 := 300) b_297_298_1 rfl rfl ?_
                    refine ov_ifne (tgt := 310) d_297_300 (by decide) (by omega) (fun c214 => ?_) (fun c214 => ?_)
                    · skip
                      refine ov_blk (ls2 := [(0, ov_r 90), (1, ov_i x), (2, ov_i y), (3, ov_i m), (4, ov_i bo), (5, ov_i w), (6, ov_i x6_), (7, ov_i v146), (8, ov_i w179)]) (st2 := [ov_r 90]) (pc2 := 311) b_297_310_1 rfl rfl ?_
                      refine ov_getf (v := ov_r 113) d_297_311 fl_Mo_141 (zb_90 I198) (zs_90 I198) (congrArg ov_r (rg_90_41 I198)) ?_
                      refine ov_blk (ls2 := [(0, ov_r 90), (1, ov_i x), (2, ov_i y), (3, ov_i m), (4, ov_i bo), (5, ov_i w), (6, ov_i x6_), (7, ov_i v146), (8, ov_i w179)]) (st2 := [ov_i w, ov_r 113]) (pc2 := 316) b_297_314_1 rfl rfl ?_
                      refine ov_iald d_297_316 (zb_113 I198) (zs_113 I198) (by omega) ?_
                      have g215 := ra_113 I198 w
                      exact ov_reti (st := []) d_297_317 rfl ⟨_, rfl, I198, (by show -2147483648 ≤ (h197 113 w) ∧ (h197 113 w) ≤ 2147483647 ∧ (h197 90 2) = (h 90 2) ∧ (h197 90 3) = (h 90 3) ∧ (h197 90 7) = (h 90 7) ∧ (h197 90 8) = (h 90 8) ∧ (h197 90 13) = (h 90 13) ∧ (h197 90 20) = (h 90 20) ∧ (h197 90 22) = (h 90 22) ∧ (h197 90 25) = (h 90 25) ∧ (h197 90 26) = (h 90 26) ∧ (h197 90 27) = (h 90 27) ∧ (h197 90 28) = (h 90 28) ∧ (h197 90 29) = (h 90 29) ∧ (h197 90 30) = (h 90 30) ∧ (h197 90 34) = (h 90 34) ∧ (h197 90 35) = (h 90 35) ∧ (h197 90 37) = (h 90 37); omega), E199, E200, E201, E202, E203, E204, E205, E206, E207, E208, E209, E210, E211, E212⟩
                    · skip
                      refine ov_blk (ls2 := [(0, ov_r 90), (1, ov_i x), (2, ov_i y), (3, ov_i m), (4, ov_i bo), (5, ov_i w), (6, ov_i x6_), (7, ov_i v146), (8, ov_i w179)]) (st2 := [ov_r 90]) (pc2 := 304) b_297_303_1 rfl rfl ?_
                      refine ov_getf (v := ov_i (h197 90 42)) d_297_304 fl_Mo_439 (zb_90 I198) (zs_90 I198) rfl ?_
                      have g216 := rg_90_42 I198
                      refine ov_goto (tgt := 317) d_297_307 (by decide) ?_
                      exact ov_reti (st := []) d_297_317 rfl ⟨_, rfl, I198, (by show -2147483648 ≤ (h197 90 42) ∧ (h197 90 42) ≤ 2147483647 ∧ (h197 90 2) = (h 90 2) ∧ (h197 90 3) = (h 90 3) ∧ (h197 90 7) = (h 90 7) ∧ (h197 90 8) = (h 90 8) ∧ (h197 90 13) = (h 90 13) ∧ (h197 90 20) = (h 90 20) ∧ (h197 90 22) = (h 90 22) ∧ (h197 90 25) = (h 90 25) ∧ (h197 90 26) = (h 90 26) ∧ (h197 90 27) = (h 90 27) ∧ (h197 90 28) = (h 90 28) ∧ (h197 90 29) = (h 90 29) ∧ (h197 90 30) = (h 90 30) ∧ (h197 90 34) = (h 90 34) ∧ (h197 90 35) = (h 90 35) ∧ (h197 90 37) = (h 90 37); omega), E199, E200, E201, E202, E203, E204, E205, E206, E207, E208, E209, E210, E211, E212⟩
                  · skip
                    refine ov_blk (ls2 := [(0, ov_r 90), (1, ov_i x), (2, ov_i y), (3, ov_i m), (4, ov_i bo), (5, ov_i w), (6, ov_i x6_), (7, ov_i v146), (8, ov_i x8_)]) (st2 := [ov_i 3, ov_i (y + x8_), ov_i x, ov_r 90, ov_i v146]) (pc2 := 145) b_297_136_7 rfl rfl ?_
                    refine ov_cV (as := [ov_i x, ov_i (y + x8_), ov_i 3]) (st := [ov_i v146]) (d2 := d - 1) d_297_145 lk_Mo_289 rfl (Nat.le_of_ble_eq_true rfl) (c := 1) (zb_90 I154) (zs_90 I154) ⟨by decide, rfl⟩ (by omega) (c_Mo_lightAt_90 (d - 1) (by omega) U I154 x (y + x8_) 3 (by omega) (by omega) (by omega) (by omega) (by omega)) ?_
                    rintro _ _ _ ⟨v218, rfl, rfl, rfl, f217⟩
                    show ov_R u d ov_m297 148 [(0, ov_r 90), (1, ov_i x), (2, ov_i y), (3, ov_i m), (4, ov_i bo), (5, ov_i w), (6, ov_i x6_), (7, ov_i v146), (8, ov_i x8_)] [ov_i v218, ov_i v146] z152 h153 (P_Mo_wave_90 F z h x y m bo w)
                    rw [show h153 96 = h 96 from E159] at f217
                    have f219 : v218 = (h 96 (10 + 4 * (6 * (y + x8_) + x) + (3 : Int))) ∧ ((3 : Int) = 1 → 0 ≤ v218 ∧ v218 ≤ 60) ∧ ((3 : Int) = 2 → 0 ≤ v218 ∧ v218 ≤ 59) ∧ ((3 : Int) = 3 → 0 ≤ v218 ∧ v218 ≤ 60) := f217
                    clear f217
                    refine ov_blk (ls2 := [(0, ov_r 90), (1, ov_i x), (2, ov_i y), (3, ov_i m), (4, ov_i bo), (5, ov_i w), (6, ov_i x6_), (7, ov_i v146), (8, ov_i x8_), (9, ov_i (v146 - v218)), (10, ov_i 0)]) (st2 := []) (pc2 := 154) b_297_148_4 rfl rfl ?_
                    have L223 : ∀ (n220 : Nat) (x10_ : Int) (z224 : ov_Z) (h225 : ov_H) (I226 : ov_N F z224 h225) (E227 : h225 92 = h 92) (E228 : h225 93 = h 93) (E229 : h225 94 = h 94) (E230 : h225 95 = h 95) (E231 : h225 96 = h 96) (E232 : h225 97 = h 97) (E233 : h225 98 = h 98) (E234 : h225 99 = h 99) (E235 : h225 100 = h 100) (E236 : h225 103 = h 103) (E237 : h225 105 = h 105) (E238 : h225 106 = h 106) (E239 : h225 109 = h 109) (E240 : h225 114 = h 114) (q222 : 0 ≤ x10_ ∧ x10_ ≤ 60 ∧ (h225 90 2) = (h153 90 2) ∧ (h225 90 3) = (h153 90 3) ∧ (h225 90 7) = (h153 90 7) ∧ (h225 90 8) = (h153 90 8) ∧ (h225 90 13) = (h153 90 13) ∧ (h225 90 20) = (h153 90 20) ∧ (h225 90 22) = (h153 90 22) ∧ (h225 90 25) = (h153 90 25) ∧ (h225 90 26) = (h153 90 26) ∧ (h225 90 27) = (h153 90 27) ∧ (h225 90 28) = (h153 90 28) ∧ (h225 90 29) = (h153 90 29) ∧ (h225 90 30) = (h153 90 30) ∧ (h225 90 34) = (h153 90 34) ∧ (h225 90 35) = (h153 90 35) ∧ (h225 90 37) = (h153 90 37)), 60 - x10_ < (n220 : Int) → ov_R u d ov_m297 154 [(0, ov_r 90), (1, ov_i x), (2, ov_i y), (3, ov_i m), (4, ov_i bo), (5, ov_i w), (6, ov_i x6_), (7, ov_i v146), (8, ov_i x8_), (9, ov_i (v146 - v218)), (10, ov_i x10_)] [] z224 h225 (P_Mo_wave_90 F z h x y m bo w) := by
                      intro n220
                      induction n220 with
                      | zero =>
                        intro x10_ z224 h225 I226 E227 E228 E229 E230 E231 E232 E233 E234 E235 E236 E237 E238 E239 E240 q222 hn241
                        exact absurd hn241 (by omega)
                      | succ n220 ih221 =>
                        intro x10_ z224 h225 I226 E227 E228 E229 E230 E231 E232 E233 E234 E235 E236 E237 E238 E239 E240 q222 hn241
                        refine ov_blk (ls2 := [(0, ov_r 90), (1, ov_i x), (2, ov_i y), (3, ov_i m), (4, ov_i bo), (5, ov_i w), (6, ov_i x6_), (7, ov_i v146), (8, ov_i x8_), (9, ov_i (v146 - v218)), (10, ov_i x10_)]) (st2 := [ov_i v146, ov_i x10_]) (pc2 := 158) b_297_154_2 rfl rfl ?_
                        refine ov_icge (tgt := 235) d_297_158 (by decide) (by omega) (by omega) (fun c242 => ?_) (fun c242 => ?_)
                        · skip
                          refine ov_blk (ls2 := [(0, ov_r 90), (1, ov_i x), (2, ov_i y), (3, ov_i m), (4, ov_i bo), (5, ov_i w), (6, ov_i x6_), (7, ov_i v146), (8, ov_i (x8_ + 1)), (9, ov_i (v146 - v218)), (10, ov_i x10_)]) (st2 := []) (pc2 := 238) b_297_235_1 rfl rfl ?_
                          refine ov_goto (tgt := 130) d_297_238 (by decide) ?_
                          refine ov_sub (ls2 := [(0, ov_r 90), (1, ov_i x), (2, ov_i y), (3, ov_i m), (4, ov_i bo), (5, ov_i w), (6, ov_i x6_), (7, ov_i v146), (8, ov_i (x8_ + 1))]) (List.Sublist.subset (by repeat (first | exact List.Sublist.refl _ | apply List.Sublist.cons_cons | apply List.Sublist.cons))) ?_
                          exact ih149 (x8_ + 1) _ _ I226 E227 E228 E229 E230 E231 E232 E233 E234 E235 E236 E237 E238 E239 E240 (by show 0 ≤ (x8_ + 1) ∧ (x8_ + 1) ≤ 4 ∧ (h225 90 2) = (h 90 2) ∧ (h225 90 3) = (h 90 3) ∧ (h225 90 7) = (h 90 7) ∧ (h225 90 8) = (h 90 8) ∧ (h225 90 13) = (h 90 13) ∧ (h225 90 20) = (h 90 20) ∧ (h225 90 22) = (h 90 22) ∧ (h225 90 25) = (h 90 25) ∧ (h225 90 26) = (h 90 26) ∧ (h225 90 27) = (h 90 27) ∧ (h225 90 28) = (h 90 28) ∧ (h225 90 29) = (h 90 29) ∧ (h225 90 30) = (h 90 30) ∧ (h225 90 34) = (h 90 34) ∧ (h225 90 35) = (h 90 35) ∧ (h225 90 37) = (h 90 37); omega) (by omega)
                        · skip
                          refine ov_blk (ls2 := [(0, ov_r 90), (1, ov_i x), (2, ov_i y), (3, ov_i m), (4, ov_i bo), (5, ov_i w), (6, ov_i x6_), (7, ov_i v146), (8, ov_i x8_), (9, ov_i (v146 - v218)), (10, ov_i x10_)]) (st2 := [ov_r 90]) (pc2 := 162) b_297_161_1 rfl rfl ?_
                          refine ov_getf (v := ov_r 110) d_297_162 fl_Mo_132 (zb_90 I226) (zs_90 I226) (congrArg ov_r (rg_90_38 I226)) ?_
                          refine ov_blk (ls2 := [(0, ov_r 90), (1, ov_i x), (2, ov_i y), (3, ov_i m), (4, ov_i bo), (5, ov_i w), (6, ov_i x6_), (7, ov_i v146), (8, ov_i x8_), (9, ov_i (v146 - v218)), (10, ov_i x10_)]) (st2 := [ov_r 90, ov_i x8_, ov_i x10_, ov_i ((60 * x8_) + x10_), ov_r 110]) (pc2 := 178) b_297_165_8 rfl rfl ?_
                          refine ov_getf (v := ov_r 96) d_297_178 fl_Mo_81 (zb_90 I226) (zs_90 I226) (congrArg ov_r (rg_90_10 I226)) ?_
                          refine ov_blk (ls2 := [(0, ov_r 90), (1, ov_i x), (2, ov_i y), (3, ov_i m), (4, ov_i bo), (5, ov_i w), (6, ov_i x6_), (7, ov_i v146), (8, ov_i x8_), (9, ov_i (v146 - v218)), (10, ov_i x10_)]) (st2 := [ov_i 2, ov_r 96, ov_i x8_, ov_i x10_, ov_i ((60 * x8_) + x10_), ov_r 110]) (pc2 := 182) b_297_181_1 rfl rfl ?_
                          refine ov_iald d_297_182 (zb_96 I226) (zs_96 I226) (by omega) ?_
                          rw [show h225 96 = h 96 from E231]
                          have g243 := t96_2 I
                          have gm244 := ov_mulb (q := x8_) (b := (h 96 2)) (A := 4) (B := 30) (by omega) (by omega) (by omega) (by omega)
                          refine ov_blk (ls2 := [(0, ov_r 90), (1, ov_i x), (2, ov_i y), (3, ov_i m), (4, ov_i bo), (5, ov_i w), (6, ov_i x6_), (7, ov_i v146), (8, ov_i x8_), (9, ov_i (v146 - v218)), (10, ov_i x10_)]) (st2 := [ov_i v146, ov_i (v146 - v218), ov_i (x10_ - (x8_ * (h 96 2))), ov_i ((60 * x8_) + x10_), ov_r 110]) (pc2 := 189) b_297_183_4 rfl rfl ?_
                          refine ov_cS (as := [ov_i (x10_ - (x8_ * (h 96 2))), ov_i (v146 - v218), ov_i v146]) (st := [ov_i ((60 * x8_) + x10_), ov_r 110]) (d2 := d - 1) d_297_189 lk_Mo_446 rfl (Nat.le_of_ble_eq_true rfl) (by omega) (c_Mo_turned (d - 1) (by omega) U I226 (x10_ - (x8_ * (h 96 2))) (v146 - v218) v146 (by omega) (by omega) (by omega) (by omega) (by omega)) ?_
                          rintro _ _ _ ⟨v246, rfl, rfl, rfl, f245⟩
                          show ov_R u d ov_m297 192 [(0, ov_r 90), (1, ov_i x), (2, ov_i y), (3, ov_i m), (4, ov_i bo), (5, ov_i w), (6, ov_i x6_), (7, ov_i v146), (8, ov_i x8_), (9, ov_i (v146 - v218)), (10, ov_i x10_)] [ov_l v246, ov_i ((60 * x8_) + x10_), ov_r 110] z224 h225 (P_Mo_wave_90 F z h x y m bo w)
                          clear f245
                          refine ov_last d_297_192 (zb_110 I226) (zs_110 I226) (by omega) ?_
                          have I247 := ua_110 (k := ((60 * x8_) + x10_)) (x := v246) I226
                          refine ov_blk (ls2 := [(0, ov_r 90), (1, ov_i x), (2, ov_i y), (3, ov_i m), (4, ov_i bo), (5, ov_i w), (6, ov_i x6_), (7, ov_i v146), (8, ov_i x8_), (9, ov_i (v146 - v218)), (10, ov_i x10_)]) (st2 := [ov_r 90]) (pc2 := 194) b_297_193_1 rfl rfl ?_
                          refine ov_getf (v := ov_r 111) d_297_194 fl_Mo_135 (zb_90 I247) (zs_90 I247) (congrArg ov_r (rg_90_39 I247)) ?_
                          refine ov_blk (ls2 := [(0, ov_r 90), (1, ov_i x), (2, ov_i y), (3, ov_i m), (4, ov_i bo), (5, ov_i w), (6, ov_i x6_), (7, ov_i v146), (8, ov_i x8_), (9, ov_i (v146 - v218)), (10, ov_i x10_)]) (st2 := [ov_r 90, ov_i ((m - 1) - x8_), ov_i x10_, ov_i ((60 * x8_) + x10_), ov_r 111]) (pc2 := 214) b_297_197_12 rfl rfl ?_
                          refine ov_getf (v := ov_r 96) d_297_214 fl_Mo_81 (zb_90 I247) (zs_90 I247) (congrArg ov_r (rg_90_10 I247)) ?_
                          refine ov_blk (ls2 := [(0, ov_r 90), (1, ov_i x), (2, ov_i y), (3, ov_i m), (4, ov_i bo), (5, ov_i w), (6, ov_i x6_), (7, ov_i v146), (8, ov_i x8_), (9, ov_i (v146 - v218)), (10, ov_i x10_)]) (st2 := [ov_i 2, ov_r 96, ov_i ((m - 1) - x8_), ov_i x10_, ov_i ((60 * x8_) + x10_), ov_r 111]) (pc2 := 218) b_297_217_1 rfl rfl ?_
                          refine ov_iald d_297_218 (zb_96 I247) (zs_96 I247) (by omega) ?_
                          rw [show (ov_up h225 110 ((60 * x8_) + x10_) v246) 96 = h 96 from E231]
                          have gm249 := ov_mulb (q := ((m - 1) - x8_)) (b := (h 96 2)) (A := 4) (B := 30) (by omega) (by omega) (by omega) (by omega)
                          refine ov_blk (ls2 := [(0, ov_r 90), (1, ov_i x), (2, ov_i y), (3, ov_i m), (4, ov_i bo), (5, ov_i w), (6, ov_i x6_), (7, ov_i v146), (8, ov_i x8_), (9, ov_i (v146 - v218)), (10, ov_i x10_)]) (st2 := [ov_i v146, ov_i (v146 - v218), ov_i (x10_ - (((m - 1) - x8_) * (h 96 2))), ov_i ((60 * x8_) + x10_), ov_r 111]) (pc2 := 225) b_297_219_4 rfl rfl ?_
                          refine ov_cS (as := [ov_i (x10_ - (((m - 1) - x8_) * (h 96 2))), ov_i (v146 - v218), ov_i v146]) (st := [ov_i ((60 * x8_) + x10_), ov_r 111]) (d2 := d - 1) d_297_225 lk_Mo_446 rfl (Nat.le_of_ble_eq_true rfl) (by omega) (c_Mo_turned (d - 1) (by omega) U I247 (x10_ - (((m - 1) - x8_) * (h 96 2))) (v146 - v218) v146 (by omega) (by omega) (by omega) (by omega) (by omega)) ?_
                          rintro _ _ _ ⟨v251, rfl, rfl, rfl, f250⟩
                          show ov_R u d ov_m297 228 [(0, ov_r 90), (1, ov_i x), (2, ov_i y), (3, ov_i m), (4, ov_i bo), (5, ov_i w), (6, ov_i x6_), (7, ov_i v146), (8, ov_i x8_), (9, ov_i (v146 - v218)), (10, ov_i x10_)] [ov_l v251, ov_i ((60 * x8_) + x10_), ov_r 111] z224 (ov_up h225 110 ((60 * x8_) + x10_) v246) (P_Mo_wave_90 F z h x y m bo w)
                          clear f250
                          refine ov_last d_297_228 (zb_111 I247) (zs_111 I247) (by omega) ?_
                          have I252 := ua_111 (k := ((60 * x8_) + x10_)) (x := v251) I247
                          refine ov_blk (ls2 := [(0, ov_r 90), (1, ov_i x), (2, ov_i y), (3, ov_i m), (4, ov_i bo), (5, ov_i w), (6, ov_i x6_), (7, ov_i v146), (8, ov_i x8_), (9, ov_i (v146 - v218)), (10, ov_i (x10_ + 1))]) (st2 := []) (pc2 := 232) b_297_229_1 rfl rfl ?_
                          refine ov_goto (tgt := 154) d_297_232 (by decide) ?_
                          exact ih221 (x10_ + 1) _ _ I252 E227 E228 E229 E230 E231 E232 E233 E234 E235 E236 E237 E238 E239 E240 (by show 0 ≤ (x10_ + 1) ∧ (x10_ + 1) ≤ 60 ∧ (h225 90 2) = (h153 90 2) ∧ (h225 90 3) = (h153 90 3) ∧ (h225 90 7) = (h153 90 7) ∧ (h225 90 8) = (h153 90 8) ∧ (h225 90 13) = (h153 90 13) ∧ (h225 90 20) = (h153 90 20) ∧ (h225 90 22) = (h153 90 22) ∧ (h225 90 25) = (h153 90 25) ∧ (h225 90 26) = (h153 90 26) ∧ (h225 90 27) = (h153 90 27) ∧ (h225 90 28) = (h153 90 28) ∧ (h225 90 29) = (h153 90 29) ∧ (h225 90 30) = (h153 90 30) ∧ (h225 90 34) = (h153 90 34) ∧ (h225 90 35) = (h153 90 35) ∧ (h225 90 37) = (h153 90 37); omega) (by omega)
                    exact L223 61 0 _ _ I154 E155 E156 E157 E158 E159 E160 E161 E162 E163 E164 E165 E166 E167 E168 (by show 0 ≤ 0 ∧ 0 ≤ 60 ∧ (h153 90 2) = (h153 90 2) ∧ (h153 90 3) = (h153 90 3) ∧ (h153 90 7) = (h153 90 7) ∧ (h153 90 8) = (h153 90 8) ∧ (h153 90 13) = (h153 90 13) ∧ (h153 90 20) = (h153 90 20) ∧ (h153 90 22) = (h153 90 22) ∧ (h153 90 25) = (h153 90 25) ∧ (h153 90 26) = (h153 90 26) ∧ (h153 90 27) = (h153 90 27) ∧ (h153 90 28) = (h153 90 28) ∧ (h153 90 29) = (h153 90 29) ∧ (h153 90 30) = (h153 90 30) ∧ (h153 90 34) = (h153 90 34) ∧ (h153 90 35) = (h153 90 35) ∧ (h153 90 37) = (h153 90 37); omega) (by omega)
              exact L151 5 0 _ _ I1 rfl rfl rfl rfl rfl rfl rfl rfl rfl rfl rfl rfl rfl rfl (by show 0 ≤ 0 ∧ 0 ≤ 4 ∧ (h 90 2) = (h 90 2) ∧ (h 90 3) = (h 90 3) ∧ (h 90 7) = (h 90 7) ∧ (h 90 8) = (h 90 8) ∧ (h 90 13) = (h 90 13) ∧ (h 90 20) = (h 90 20) ∧ (h 90 22) = (h 90 22) ∧ (h 90 25) = (h 90 25) ∧ (h 90 26) = (h 90 26) ∧ (h 90 27) = (h 90 27) ∧ (h 90 28) = (h 90 28) ∧ (h 90 29) = (h 90 29) ∧ (h 90 30) = (h 90 30) ∧ (h 90 34) = (h 90 34) ∧ (h 90 35) = (h 90 35) ∧ (h 90 37) = (h 90 37); omega) (by omega)
            · skip
              refine ov_blk (ls2 := [(0, ov_r 90), (1, ov_i x), (2, ov_i y), (3, ov_i m), (4, ov_i bo), (5, ov_i w), (6, ov_i x6_), (7, ov_i x7_)]) (st2 := [ov_i (-1)]) (pc2 := 117) b_297_116_1 rfl rfl ?_
              exact ov_reti (st := []) d_297_117 rfl ⟨_, rfl, I1, (by show -2147483648 ≤ (-1) ∧ (-1) ≤ 2147483647 ∧ (h 90 2) = (h 90 2) ∧ (h 90 3) = (h 90 3) ∧ (h 90 7) = (h 90 7) ∧ (h 90 8) = (h 90 8) ∧ (h 90 13) = (h 90 13) ∧ (h 90 20) = (h 90 20) ∧ (h 90 22) = (h 90 22) ∧ (h 90 25) = (h 90 25) ∧ (h 90 26) = (h 90 26) ∧ (h 90 27) = (h 90 27) ∧ (h 90 28) = (h 90 28) ∧ (h 90 29) = (h 90 29) ∧ (h 90 30) = (h 90 30) ∧ (h 90 34) = (h 90 34) ∧ (h 90 35) = (h 90 35) ∧ (h 90 37) = (h 90 37); omega), rfl, rfl, rfl, rfl, rfl, rfl, rfl, rfl, rfl, rfl, rfl, rfl, rfl, rfl⟩
          · skip
            refine ov_blk (ls2 := [(0, ov_r 90), (1, ov_i x), (2, ov_i y), (3, ov_i m), (4, ov_i bo), (5, ov_i w), (6, ov_i x6_), (7, ov_i x7_)]) (st2 := [ov_i x6_]) (pc2 := 63) b_297_61_1 rfl rfl ?_
            refine ov_ifeq (tgt := 111) d_297_63 (by decide) (by omega) (fun c253 => ?_) (fun c253 => ?_)
            · skip
              refine ov_blk (ls2 := [(0, ov_r 90), (1, ov_i x), (2, ov_i y), (3, ov_i m), (4, ov_i bo), (5, ov_i w), (6, ov_i x6_), (7, ov_i x7_)]) (st2 := [ov_i x6_]) (pc2 := 113) b_297_111_1 rfl rfl ?_
              refine ov_ifne (tgt := 118) d_297_113 (by decide) (by omega) (fun c254 => ?_) (fun c254 => ?_)
              · omega
              · skip
                refine ov_blk (ls2 := [(0, ov_r 90), (1, ov_i x), (2, ov_i y), (3, ov_i m), (4, ov_i bo), (5, ov_i w), (6, ov_i x6_), (7, ov_i x7_)]) (st2 := [ov_i (-1)]) (pc2 := 117) b_297_116_1 rfl rfl ?_
                exact ov_reti (st := []) d_297_117 rfl ⟨_, rfl, I1, (by show -2147483648 ≤ (-1) ∧ (-1) ≤ 2147483647 ∧ (h 90 2) = (h 90 2) ∧ (h 90 3) = (h 90 3) ∧ (h 90 7) = (h 90 7) ∧ (h 90 8) = (h 90 8) ∧ (h 90 13) = (h 90 13) ∧ (h 90 20) = (h 90 20) ∧ (h 90 22) = (h 90 22) ∧ (h 90 25) = (h 90 25) ∧ (h 90 26) = (h 90 26) ∧ (h 90 27) = (h 90 27) ∧ (h 90 28) = (h 90 28) ∧ (h 90 29) = (h 90 29) ∧ (h 90 30) = (h 90 30) ∧ (h 90 34) = (h 90 34) ∧ (h 90 35) = (h 90 35) ∧ (h 90 37) = (h 90 37); omega), rfl, rfl, rfl, rfl, rfl, rfl, rfl, rfl, rfl, rfl, rfl, rfl, rfl, rfl⟩
            · skip
              refine ov_blk (ls2 := [(0, ov_r 90), (1, ov_i x), (2, ov_i y), (3, ov_i m), (4, ov_i bo), (5, ov_i w), (6, ov_i x6_), (7, ov_i x7_)]) (st2 := [ov_i (y + x7_), ov_i x, ov_r 90]) (pc2 := 72) b_297_66_5 rfl rfl ?_
              refine ov_cV (as := [ov_i x, ov_i (y + x7_)]) (st := []) (d2 := d - 1) d_297_72 lk_Mo_285 rfl (Nat.le_of_ble_eq_true rfl) (c := 1) (zb_90 I1) (zs_90 I1) ⟨by decide, rfl⟩ (by omega) (c_Mo_isTimed_90 (d - 1) (by omega) U I1 x (y + x7_) (by omega) (by omega) (by omega)) ?_
              rintro _ _ _ ⟨v256, rfl, rfl, rfl, f255⟩
              show ov_R u d ov_m297 75 [(0, ov_r 90), (1, ov_i x), (2, ov_i y), (3, ov_i m), (4, ov_i bo), (5, ov_i w), (6, ov_i x6_), (7, ov_i x7_)] [ov_i v256] z (ov_up h 90 0 0) (P_Mo_wave_90 F z h x y m bo w)
              have f257 : (v256 = 0 ∨ v256 = 1) ∧ (v256 = 1 → ((h 96 (10 + 4 * (6 * (y + x7_) + x))) = 1 ∨ (h 96 (10 + 4 * (6 * (y + x7_) + x))) = 2)) ∧ (v256 = 0 → ¬ ((h 96 (10 + 4 * (6 * (y + x7_) + x))) = 1 ∨ (h 96 (10 + 4 * (6 * (y + x7_) + x))) = 2)) := f255
              clear f255
              refine ov_ifeq (tgt := 102) d_297_75 (by decide) (by omega) (fun c258 => ?_) (fun c258 => ?_)
              · skip
                refine ov_blk (ls2 := [(0, ov_r 90), (1, ov_i x), (2, ov_i y), (3, ov_i m), (4, ov_i bo), (5, ov_i w), (6, ov_i 0), (7, ov_i (x7_ + 1))]) (st2 := []) (pc2 := 108) b_297_102_3 rfl rfl ?_
                refine ov_goto (tgt := 55) d_297_108 (by decide) ?_
                exact ih139 0 (x7_ + 1) (by show (0 = 0 ∨ 0 = 1) ∧ 0 ≤ (x7_ + 1) ∧ (x7_ + 1) ≤ 4 ∧ (0 = 1 → 0 ≤ x ∧ x ≤ 5 ∧ 0 ≤ y ∧ y ≤ 8 ∧ 2 ≤ m ∧ m ≤ 4 ∧ y + m ≤ 9 ∧ 0 ≤ w ∧ w ≤ m - 1 ∧ (1 ≤ (x7_ + 1) → ((h 96 (10 + 4 * (6 * y + x))) = 1 ∨ (h 96 (10 + 4 * (6 * y + x))) = 2))); omega) (by omega)
              · skip
                refine ov_blk (ls2 := [(0, ov_r 90), (1, ov_i x), (2, ov_i y), (3, ov_i m), (4, ov_i bo), (5, ov_i w), (6, ov_i x6_), (7, ov_i x7_)]) (st2 := [ov_i 1, ov_i (y + x7_), ov_i x, ov_r 90]) (pc2 := 85) b_297_78_6 rfl rfl ?_
                refine ov_cV (as := [ov_i x, ov_i (y + x7_), ov_i 1]) (st := []) (d2 := d - 1) d_297_85 lk_Mo_289 rfl (Nat.le_of_ble_eq_true rfl) (c := 1) (zb_90 I1) (zs_90 I1) ⟨by decide, rfl⟩ (by omega) (c_Mo_lightAt_90 (d - 1) (by omega) U I1 x (y + x7_) 1 (by omega) (by omega) (by omega) (by omega) (by omega)) ?_
                rintro _ _ _ ⟨v260, rfl, rfl, rfl, f259⟩
                show ov_R u d ov_m297 88 [(0, ov_r 90), (1, ov_i x), (2, ov_i y), (3, ov_i m), (4, ov_i bo), (5, ov_i w), (6, ov_i x6_), (7, ov_i x7_)] [ov_i v260] z (ov_up h 90 0 0) (P_Mo_wave_90 F z h x y m bo w)
                have f261 : v260 = (h 96 (10 + 4 * (6 * (y + x7_) + x) + (1 : Int))) ∧ ((1 : Int) = 1 → 0 ≤ v260 ∧ v260 ≤ 60) ∧ ((1 : Int) = 2 → 0 ≤ v260 ∧ v260 ≤ 59) ∧ ((1 : Int) = 3 → 0 ≤ v260 ∧ v260 ≤ 60) := f259
                clear f259
                refine ov_blk (ls2 := [(0, ov_r 90), (1, ov_i x), (2, ov_i y), (3, ov_i m), (4, ov_i bo), (5, ov_i w), (6, ov_i x6_), (7, ov_i x7_)]) (st2 := [ov_i 1, ov_i y, ov_i x, ov_r 90, ov_i v260]) (pc2 := 92) b_297_88_4 rfl rfl ?_
                refine ov_cV (as := [ov_i x, ov_i y, ov_i 1]) (st := [ov_i v260]) (d2 := d - 1) d_297_92 lk_Mo_289 rfl (Nat.le_of_ble_eq_true rfl) (c := 1) (zb_90 I1) (zs_90 I1) ⟨by decide, rfl⟩ (by omega) (c_Mo_lightAt_90 (d - 1) (by omega) U I1 x y 1 (by omega) (by omega) (by omega) (by omega) (by omega)) ?_
                rintro _ _ _ ⟨v263, rfl, rfl, rfl, f262⟩
                show ov_R u d ov_m297 95 [(0, ov_r 90), (1, ov_i x), (2, ov_i y), (3, ov_i m), (4, ov_i bo), (5, ov_i w), (6, ov_i x6_), (7, ov_i x7_)] [ov_i v263, ov_i v260] z (ov_up h 90 0 0) (P_Mo_wave_90 F z h x y m bo w)
                have f264 : v263 = (h 96 (10 + 4 * (6 * y + x) + (1 : Int))) ∧ ((1 : Int) = 1 → 0 ≤ v263 ∧ v263 ≤ 60) ∧ ((1 : Int) = 2 → 0 ≤ v263 ∧ v263 ≤ 59) ∧ ((1 : Int) = 3 → 0 ≤ v263 ∧ v263 ≤ 60) := f262
                clear f262
                refine ov_icne (tgt := 102) d_297_95 (by decide) (by omega) (by omega) (fun c265 => ?_) (fun c265 => ?_)
                · skip
                  refine ov_blk (ls2 := [(0, ov_r 90), (1, ov_i x), (2, ov_i y), (3, ov_i m), (4, ov_i bo), (5, ov_i w), (6, ov_i 0), (7, ov_i (x7_ + 1))]) (st2 := []) (pc2 := 108) b_297_102_3 rfl rfl ?_
                  refine ov_goto (tgt := 55) d_297_108 (by decide) ?_
                  exact ih139 0 (x7_ + 1) (by show (0 = 0 ∨ 0 = 1) ∧ 0 ≤ (x7_ + 1) ∧ (x7_ + 1) ≤ 4 ∧ (0 = 1 → 0 ≤ x ∧ x ≤ 5 ∧ 0 ≤ y ∧ y ≤ 8 ∧ 2 ≤ m ∧ m ≤ 4 ∧ y + m ≤ 9 ∧ 0 ≤ w ∧ w ≤ m - 1 ∧ (1 ≤ (x7_ + 1) → ((h 96 (10 + 4 * (6 * y + x))) = 1 ∨ (h 96 (10 + 4 * (6 * y + x))) = 2))); omega) (by omega)
                · skip
                  refine ov_blk (ls2 := [(0, ov_r 90), (1, ov_i x), (2, ov_i y), (3, ov_i m), (4, ov_i bo), (5, ov_i w), (6, ov_i x6_), (7, ov_i x7_)]) (st2 := [ov_i 1]) (pc2 := 99) b_297_98_1 rfl rfl ?_
                  refine ov_goto (tgt := 103) d_297_99 (by decide) ?_
                  refine ov_blk (ls2 := [(0, ov_r 90), (1, ov_i x), (2, ov_i y), (3, ov_i m), (4, ov_i bo), (5, ov_i w), (6, ov_i 1), (7, ov_i (x7_ + 1))]) (st2 := []) (pc2 := 108) b_297_103_2 rfl rfl ?_
                  refine ov_goto (tgt := 55) d_297_108 (by decide) ?_
                  exact ih139 1 (x7_ + 1) (by show (1 = 0 ∨ 1 = 1) ∧ 0 ≤ (x7_ + 1) ∧ (x7_ + 1) ≤ 4 ∧ (1 = 1 → 0 ≤ x ∧ x ≤ 5 ∧ 0 ≤ y ∧ y ≤ 8 ∧ 2 ≤ m ∧ m ≤ 4 ∧ y + m ≤ 9 ∧ 0 ≤ w ∧ w ≤ m - 1 ∧ (1 ≤ (x7_ + 1) → ((h 96 (10 + 4 * (6 * y + x))) = 1 ∨ (h 96 (10 + 4 * (6 * y + x))) = 2))); omega) (by omega)
      exact L141 5 0 0 (by show (0 = 0 ∨ 0 = 1) ∧ 0 ≤ 0 ∧ 0 ≤ 4 ∧ (0 = 1 → 0 ≤ x ∧ x ≤ 5 ∧ 0 ≤ y ∧ y ≤ 8 ∧ 2 ≤ m ∧ m ≤ 4 ∧ y + m ≤ 9 ∧ 0 ≤ w ∧ w ≤ m - 1 ∧ (1 ≤ 0 → ((h 96 (10 + 4 * (6 * y + x))) = 1 ∨ (h 96 (10 + 4 * (6 * y + x))) = 2))); omega) (by omega)
    · skip
      refine ov_blk (ls2 := [(0, ov_r 90), (1, ov_i x), (2, ov_i y), (3, ov_i m), (4, ov_i bo), (5, ov_i w)]) (st2 := [ov_r 90, ov_i (y + m)]) (pc2 := 27) b_297_23_4 rfl rfl ?_
      refine ov_cV (as := []) (st := [ov_i (y + m)]) (d2 := d - 1) d_297_27 lk_Mo_279 rfl (Nat.le_of_ble_eq_true rfl) (c := 1) (zb_90 I1) (zs_90 I1) ⟨by decide, rfl⟩ (by omega) (c_Mo_deep_90 (d - 1) (by omega) U I1) ?_
      rintro _ _ _ ⟨v267, rfl, rfl, rfl, f266⟩
      show ov_R u d ov_m297 30 [(0, ov_r 90), (1, ov_i x), (2, ov_i y), (3, ov_i m), (4, ov_i bo), (5, ov_i w)] [ov_i v267, ov_i (y + m)] z (ov_up h 90 0 0) (P_Mo_wave_90 F z h x y m bo w)
      have f268 : v267 = (h 96 1) ∧ 1 ≤ v267 ∧ v267 ≤ 9 := f266
      clear f266
      refine ov_icgt (tgt := 49) d_297_30 (by decide) (by omega) (by omega) (fun c269 => ?_) (fun c269 => ?_)
      · skip
        refine ov_blk (ls2 := [(0, ov_r 90), (1, ov_i x), (2, ov_i y), (3, ov_i m), (4, ov_i bo), (5, ov_i w), (6, ov_i 0), (7, ov_i 0)]) (st2 := []) (pc2 := 55) b_297_49_4 rfl rfl ?_
        have L273 : ∀ (n270 : Nat) (x6__ : Int) (x7__ : Int) (q272 : (x6__ = 0 ∨ x6__ = 1) ∧ 0 ≤ x7__ ∧ x7__ ≤ 4 ∧ (x6__ = 1 → 0 ≤ x ∧ x ≤ 5 ∧ 0 ≤ y ∧ y ≤ 8 ∧ 2 ≤ m ∧ m ≤ 4 ∧ y + m ≤ 9 ∧ 0 ≤ w ∧ w ≤ m - 1 ∧ (1 ≤ x7__ → ((h 96 (10 + 4 * (6 * y + x))) = 1 ∨ (h 96 (10 + 4 * (6 * y + x))) = 2)))), 4 - x7__ < (n270 : Int) → ov_R u d ov_m297 55 [(0, ov_r 90), (1, ov_i x), (2, ov_i y), (3, ov_i m), (4, ov_i bo), (5, ov_i w), (6, ov_i x6__), (7, ov_i x7__)] [] z (ov_up h 90 0 0) (P_Mo_wave_90 F z h x y m bo w) := by
          intro n270
          induction n270 with
          | zero =>
            intro x6__ x7__ q272 hn274
            exact absurd hn274 (by omega)
          | succ n270 ih271 =>
            intro x6__ x7__ q272 hn274
            refine ov_blk (ls2 := [(0, ov_r 90), (1, ov_i x), (2, ov_i y), (3, ov_i m), (4, ov_i bo), (5, ov_i w), (6, ov_i x6__), (7, ov_i x7__)]) (st2 := [ov_i m, ov_i x7__]) (pc2 := 58) b_297_55_2 rfl rfl ?_
            refine ov_icge (tgt := 111) d_297_58 (by decide) (by omega) (by omega) (fun c275 => ?_) (fun c275 => ?_)
            · skip
              refine ov_blk (ls2 := [(0, ov_r 90), (1, ov_i x), (2, ov_i y), (3, ov_i m), (4, ov_i bo), (5, ov_i w), (6, ov_i x6__), (7, ov_i x7__)]) (st2 := [ov_i x6__]) (pc2 := 113) b_297_111_1 rfl rfl ?_
              refine ov_ifne (tgt := 118) d_297_113 (by decide) (by omega) (fun c276 => ?_) (fun c276 => ?_)
              · skip
                have w1 := ov_WT_at W (c := 6 * y + x) (by omega)
                refine ov_blk (ls2 := [(0, ov_r 90), (1, ov_i x), (2, ov_i y), (3, ov_i m), (4, ov_i bo), (5, ov_i w), (6, ov_i x6__), (7, ov_i x7__)]) (st2 := [ov_i 1, ov_i y, ov_i x, ov_r 90]) (pc2 := 122) b_297_118_4 rfl rfl ?_
                refine ov_cV (as := [ov_i x, ov_i y, ov_i 1]) (st := []) (d2 := d - 1) d_297_122 lk_Mo_289 rfl (Nat.le_of_ble_eq_true rfl) (c := 1) (zb_90 I1) (zs_90 I1) ⟨by decide, rfl⟩ (by omega) (c_Mo_lightAt_90 (d - 1) (by omega) U I1 x y 1 (by omega) (by omega) (by omega) (by omega) (by omega)) ?_
                rintro _ _ _ ⟨v278, rfl, rfl, rfl, f277⟩
                show ov_R u d ov_m297 125 [(0, ov_r 90), (1, ov_i x), (2, ov_i y), (3, ov_i m), (4, ov_i bo), (5, ov_i w), (6, ov_i x6__), (7, ov_i x7__)] [ov_i v278] z (ov_up h 90 0 0) (P_Mo_wave_90 F z h x y m bo w)
                have f279 : v278 = (h 96 (10 + 4 * (6 * y + x) + (1 : Int))) ∧ ((1 : Int) = 1 → 0 ≤ v278 ∧ v278 ≤ 60) ∧ ((1 : Int) = 2 → 0 ≤ v278 ∧ v278 ≤ 59) ∧ ((1 : Int) = 3 → 0 ≤ v278 ∧ v278 ≤ 60) := f277
                clear f277
                refine ov_blk (ls2 := [(0, ov_r 90), (1, ov_i x), (2, ov_i y), (3, ov_i m), (4, ov_i bo), (5, ov_i w), (6, ov_i x6__), (7, ov_i v278), (8, ov_i 0)]) (st2 := []) (pc2 := 130) b_297_125_3 rfl rfl ?_
                have L283 : ∀ (n280 : Nat) (x8__ : Int) (z284 : ov_Z) (h285 : ov_H) (I286 : ov_N F z284 h285) (E287 : h285 92 = h 92) (E288 : h285 93 = h 93) (E289 : h285 94 = h 94) (E290 : h285 95 = h 95) (E291 : h285 96 = h 96) (E292 : h285 97 = h 97) (E293 : h285 98 = h 98) (E294 : h285 99 = h 99) (E295 : h285 100 = h 100) (E296 : h285 103 = h 103) (E297 : h285 105 = h 105) (E298 : h285 106 = h 106) (E299 : h285 109 = h 109) (E300 : h285 114 = h 114) (q282 : 0 ≤ x8__ ∧ x8__ ≤ 4 ∧ (h285 90 2) = (h 90 2) ∧ (h285 90 3) = (h 90 3) ∧ (h285 90 7) = (h 90 7) ∧ (h285 90 8) = (h 90 8) ∧ (h285 90 13) = (h 90 13) ∧ (h285 90 20) = (h 90 20) ∧ (h285 90 22) = (h 90 22) ∧ (h285 90 25) = (h 90 25) ∧ (h285 90 26) = (h 90 26) ∧ (h285 90 27) = (h 90 27) ∧ (h285 90 28) = (h 90 28) ∧ (h285 90 29) = (h 90 29) ∧ (h285 90 30) = (h 90 30) ∧ (h285 90 34) = (h 90 34) ∧ (h285 90 35) = (h 90 35) ∧ (h285 90 37) = (h 90 37)), 4 - x8__ < (n280 : Int) → ov_R u d ov_m297 130 [(0, ov_r 90), (1, ov_i x), (2, ov_i y), (3, ov_i m), (4, ov_i bo), (5, ov_i w), (6, ov_i x6__), (7, ov_i v278), (8, ov_i x8__)] [] z284 h285 (P_Mo_wave_90 F z h x y m bo w) := by
                  intro n280
                  induction n280 with
                  | zero =>
                    intro x8__ z284 h285 I286 E287 E288 E289 E290 E291 E292 E293 E294 E295 E296 E297 E298 E299 E300 q282 hn301
                    exact absurd hn301 (by omega)
                  | succ n280 ih281 =>
                    intro x8__ z284 h285 I286 E287 E288 E289 E290 E291 E292 E293 E294 E295 E296 E297 E298 E299 E300 q282 hn301
                    refine ov_blk (ls2 := [(0, ov_r 90), (1, ov_i x), (2, ov_i y), (3, ov_i m), (4, ov_i bo), (5, ov_i w), (6, ov_i x6__), (7, ov_i v278), (8, ov_i x8__)]) (st2 := [ov_i m, ov_i x8__]) (pc2 := 133) b_297_130_2 rfl rfl ?_
                    refine ov_icge (tgt := 241) d_297_133 (by decide) (by omega) (by omega) (fun c302 => ?_) (fun c302 => ?_)
                    · skip
                      refine ov_blk (ls2 := [(0, ov_r 90), (1, ov_i x), (2, ov_i y), (3, ov_i m), (4, ov_i bo), (5, ov_i w), (6, ov_i x6__), (7, ov_i v278), (8, ov_i x8__)]) (st2 := [ov_i (-1), ov_r 90]) (pc2 := 243) b_297_241_2 rfl rfl ?_
                      refine ov_putf (x := (-1)) d_297_243 fl_Mo_439 (zb_90 I286) (zs_90 I286) rfl nk_0 rfl ?_
                      have I303 := up_90_42 (x := (-1)) I286 (by omega)
                      refine ov_blk (ls2 := [(0, ov_r 90), (1, ov_i x), (2, ov_i y), (3, ov_i m), (4, ov_i bo), (5, ov_i w), (6, ov_i x6__), (7, ov_i v278), (8, ov_i x8__)]) (st2 := [ov_i 2, ov_i y, ov_i x, ov_r 90]) (pc2 := 250) b_297_246_4 rfl rfl ?_
                      refine ov_cV (as := [ov_i x, ov_i y, ov_i 2]) (st := []) (d2 := d - 1) d_297_250 lk_Mo_289 rfl (Nat.le_of_ble_eq_true rfl) (c := 1) (zb_90 I303) (zs_90 I303) ⟨by decide, rfl⟩ (by omega) (c_Mo_lightAt_90 (d - 1) (by omega) U I303 x y 2 (by omega) (by omega) (by omega) (by omega) (by omega)) ?_
                      rintro _ _ _ ⟨v305, rfl, rfl, rfl, f304⟩
                      show ov_R u d ov_m297 253 [(0, ov_r 90), (1, ov_i x), (2, ov_i y), (3, ov_i m), (4, ov_i bo), (5, ov_i w), (6, ov_i x6__), (7, ov_i v278), (8, ov_i x8__)] [ov_i v305] z284 (ov_up h285 90 42 (-1)) (P_Mo_wave_90 F z h x y m bo w)
                      rw [show (ov_up h285 90 42 (-1)) 96 = h 96 from E291] at f304
                      have f306 : v305 = (h 96 (10 + 4 * (6 * y + x) + (2 : Int))) ∧ ((2 : Int) = 1 → 0 ≤ v305 ∧ v305 ≤ 60) ∧ ((2 : Int) = 2 → 0 ≤ v305 ∧ v305 ≤ 59) ∧ ((2 : Int) = 3 → 0 ≤ v305 ∧ v305 ≤ 60) := f304
                      clear f304
                      refine ov_blk (ls2 := [(0, ov_r 90), (1, ov_i x), (2, ov_i y), (3, ov_i m), (4, ov_i bo), (5, ov_i w), (6, ov_i x6__), (7, ov_i v278), (8, ov_i x8__)]) (st2 := [ov_i 3, ov_i y, ov_i x, ov_r 90, ov_i v305]) (pc2 := 257) b_297_253_4 rfl rfl ?_
                      refine ov_cV (as := [ov_i x, ov_i y, ov_i 3]) (st := [ov_i v305]) (d2 := d - 1) d_297_257 lk_Mo_289 rfl (Nat.le_of_ble_eq_true rfl) (c := 1) (zb_90 I303) (zs_90 I303) ⟨by decide, rfl⟩ (by omega) (c_Mo_lightAt_90 (d - 1) (by omega) U I303 x y 3 (by omega) (by omega) (by omega) (by omega) (by omega)) ?_
                      rintro _ _ _ ⟨v308, rfl, rfl, rfl, f307⟩
                      show ov_R u d ov_m297 260 [(0, ov_r 90), (1, ov_i x), (2, ov_i y), (3, ov_i m), (4, ov_i bo), (5, ov_i w), (6, ov_i x6__), (7, ov_i v278), (8, ov_i x8__)] [ov_i v308, ov_i v305] z284 (ov_up h285 90 42 (-1)) (P_Mo_wave_90 F z h x y m bo w)
                      rw [show (ov_up h285 90 42 (-1)) 96 = h 96 from E291] at f307
                      have f309 : v308 = (h 96 (10 + 4 * (6 * y + x) + (3 : Int))) ∧ ((3 : Int) = 1 → 0 ≤ v308 ∧ v308 ≤ 60) ∧ ((3 : Int) = 2 → 0 ≤ v308 ∧ v308 ≤ 59) ∧ ((3 : Int) = 3 → 0 ≤ v308 ∧ v308 ≤ 60) := f307
                      clear f307
                      refine ov_blk (ls2 := [(0, ov_r 90), (1, ov_i x), (2, ov_i y), (3, ov_i m), (4, ov_i bo), (5, ov_i w), (6, ov_i x6__), (7, ov_i v278), (8, ov_i x8__)]) (st2 := [ov_i v278, ov_i (v305 + v308)]) (pc2 := 263) b_297_260_2 rfl rfl ?_
                      refine ov_irem d_297_263 (by omega) (by omega) (by omega) ?_
                      have g310 := ov_tmg (a := (v305 + v308)) (b := v278) (by omega) (by omega)
                      refine ov_havw (fun w311 gw311 qw311 => ?_)
                      refine ov_blk (ls2 := [(0, ov_r 90), (1, ov_i x), (2, ov_i y), (3, ov_i m), (4, ov_i bo), (5, ov_i w), (6, ov_i x6__), (7, ov_i v278), (8, ov_i w311)]) (st2 := [ov_r 90]) (pc2 := 267) b_297_264_2 rfl rfl ?_
                      refine ov_getf (v := ov_r 112) d_297_267 fl_Mo_138 (zb_90 I303) (zs_90 I303) (congrArg ov_r (rg_90_40 I303)) ?_
                      refine ov_blk (ls2 := [(0, ov_r 90), (1, ov_i x), (2, ov_i y), (3, ov_i m), (4, ov_i bo), (5, ov_i w), (6, ov_i x6__), (7, ov_i v278), (8, ov_i w311)]) (st2 := [ov_i w311, ov_i 0, ov_r 112]) (pc2 := 273) b_297_270_2 rfl rfl ?_
                      refine ov_iast d_297_273 (zb_112 I303) (zs_112 I303) (by omega) ?_
                      have I312 := ua_112 (k := 0) (x := w311) I303 (by omega)
                      refine ov_blk (ls2 := [(0, ov_r 90), (1, ov_i x), (2, ov_i y), (3, ov_i m), (4, ov_i bo), (5, ov_i w), (6, ov_i x6__), (7, ov_i v278), (8, ov_i w311)]) (st2 := [ov_r 90, ov_i v278, ov_i m, ov_i 1, ov_r 90]) (pc2 := 280) b_297_274_5 rfl rfl ?_
                      refine ov_getf (v := ov_r 110) d_297_280 fl_Mo_132 (zb_90 I312) (zs_90 I312) (congrArg ov_r (rg_90_38 I312)) ?_
                      refine ov_blk (ls2 := [(0, ov_r 90), (1, ov_i x), (2, ov_i y), (3, ov_i m), (4, ov_i bo), (5, ov_i w), (6, ov_i x6__), (7, ov_i v278), (8, ov_i w311)]) (st2 := [ov_i w311, ov_r 110, ov_i v278, ov_i m, ov_i 1, ov_r 90]) (pc2 := 285) b_297_283_1 rfl rfl ?_
                      refine ov_lald d_297_285 (zb_110 I312) (zs_110 I312) (by omega) ?_
                      show ov_R u d ov_m297 286 [(0, ov_r 90), (1, ov_i x), (2, ov_i y), (3, ov_i m), (4, ov_i bo), (5, ov_i w), (6, ov_i x6__), (7, ov_i v278), (8, ov_i w311)] [ov_l (h285 110 w311), ov_i v278, ov_i m, ov_i 1, ov_r 90] z284 (ov_up (ov_up h285 90 42 (-1)) 112 0 w311) (P_Mo_wave_90 F z h x y m bo w)
                      refine ov_blk (ls2 := [(0, ov_r 90), (1, ov_i x), (2, ov_i y), (3, ov_i m), (4, ov_i bo), (5, ov_i w), (6, ov_i x6__), (7, ov_i v278), (8, ov_i w311)]) (st2 := [ov_r 90, ov_l (h285 110 w311), ov_i v278, ov_i m, ov_i 1, ov_r 90]) (pc2 := 287) b_297_286_1 rfl rfl ?_
                      refine ov_getf (v := ov_r 111) d_297_287 fl_Mo_135 (zb_90 I312) (zs_90 I312) (congrArg ov_r (rg_90_39 I312)) ?_
                      refine ov_blk (ls2 := [(0, ov_r 90), (1, ov_i x), (2, ov_i y), (3, ov_i m), (4, ov_i bo), (5, ov_i w), (6, ov_i x6__), (7, ov_i v278), (8, ov_i w311)]) (st2 := [ov_i w311, ov_r 111, ov_l (h285 110 w311), ov_i v278, ov_i m, ov_i 1, ov_r 90]) (pc2 := 292) b_297_290_1 rfl rfl ?_
                      refine ov_lald d_297_292 (zb_111 I312) (zs_111 I312) (by omega) ?_
                      show ov_R u d ov_m297 293 [(0, ov_r 90), (1, ov_i x), (2, ov_i y), (3, ov_i m), (4, ov_i bo), (5, ov_i w), (6, ov_i x6__), (7, ov_i v278), (8, ov_i w311)] [ov_l (h285 111 w311), ov_l (h285 110 w311), ov_i v278, ov_i m, ov_i 1, ov_r 90] z284 (ov_up (ov_up h285 90 42 (-1)) 112 0 w311) (P_Mo_wave_90 F z h x y m bo w)
                      refine ov_blk (ls2 := [(0, ov_r 90), (1, ov_i x), (2, ov_i y), (3, ov_i m), (4, ov_i bo), (5, ov_i w), (6, ov_i x6__), (7, ov_i v278), (8, ov_i w311)]) (st2 := [ov_i bo, ov_l (h285 111 w311), ov_l (h285 110 w311), ov_i v278, ov_i m, ov_i 1, ov_r 90]) (pc2 := 295) b_297_293_1 rfl rfl ?_
                      refine ov_cV (as := [ov_i 1, ov_i m, ov_i v278, ov_l (h285 110 w311), ov_l (h285 111 w311), ov_i bo]) (st := []) (d2 := d - 1) d_297_295 lk_Mo_442 rfl (Nat.le_of_ble_eq_true rfl) (c := 1) (zb_90 I312) (zs_90 I312) ⟨by decide, rfl⟩ (by omega) (c_Mo_triesWave_90_all (Int.toNat ((m) - (1))) (d - 1) (by omega) U I312 1 m v278 (h285 110 w311) (h285 111 w311) bo (by omega) (by omega) (by omega) (by omega) (by omega) (by omega) (by omega)) ?_
                      rintro _ z328 h329 ⟨rfl, I330, f313, e314, e315, e316, e317, e318, e319, e320, e321, e322, e323, e324, e325, e326, e327⟩
                      have E331 : h329 92 = h 92 := Eq.trans e314 E287
                      have E332 : h329 93 = h 93 := Eq.trans e315 E288
                      have E333 : h329 94 = h 94 := Eq.trans e316 E289
                      have E334 : h329 95 = h 95 := Eq.trans e317 E290
                      have E335 : h329 96 = h 96 := Eq.trans e318 E291
                      have E336 : h329 97 = h 97 := Eq.trans e319 E292
                      have E337 : h329 98 = h 98 := Eq.trans e320 E293
                      have E338 : h329 99 = h 99 := Eq.trans e321 E294
                      have E339 : h329 100 = h 100 := Eq.trans e322 E295
                      have E340 : h329 103 = h 103 := Eq.trans e323 E296
                      have E341 : h329 105 = h 105 := Eq.trans e324 E297
                      have E342 : h329 106 = h 106 := Eq.trans e325 E298
                      have E343 : h329 109 = h 109 := Eq.trans e326 E299
                      have E344 : h329 114 = h 114 := Eq.trans e327 E300
                      show ov_R u d ov_m297 298 [(0, ov_r 90), (1, ov_i x), (2, ov_i y), (3, ov_i m), (4, ov_i bo), (5, ov_i w), (6, ov_i x6__), (7, ov_i v278), (8, ov_i w311)] [] z328 h329 (P_Mo_wave_90 F z h x y m bo w)
                      have f345 : (h329 90 2) = (h285 90 2) ∧ (h329 90 3) = (h285 90 3) ∧ (h329 90 7) = (h285 90 7) ∧ (h329 90 8) = (h285 90 8) ∧ (h329 90 13) = (h285 90 13) ∧ (h329 90 20) = (h285 90 20) ∧ (h329 90 22) = (h285 90 22) ∧ (h329 90 25) = (h285 90 25) ∧ (h329 90 26) = (h285 90 26) ∧ (h329 90 27) = (h285 90 27) ∧ (h329 90 28) = (h285 90 28) ∧ (h329 90 29) = (h285 90 29) ∧ (h329 90 30) = (h285 90 30) ∧ (h329 90 34) = (h285 90 34) ∧ (h329 90 35) = (h285 90 35) ∧ (h329 90 37) = (h285 90 37) := f313
                      clear f313
                      refine ov_blk (ls2 := [(0, ov_r 90), (1, ov_i x), (2, ov_i y), (3, ov_i m), (4, ov_i bo), (5, ov_i w), (6, ov_i x6__), (7, ov_i v278), (8, ov_i w311)]) (st2 := [ov_i w]) (pc2 := 300) b_297_298_1 rfl rfl ?_
                      refine ov_ifne (tgt := 310) d_297_300 (by decide) (by omega) (fun c346 => ?_) (fun c346 => ?_)
                      · skip
                        refine ov_blk (ls2 := [(0, ov_r 90), (1, ov_i x), (2, ov_i y), (3, ov_i m), (4, ov_i bo), (5, ov_i w), (6, ov_i x6__), (7, ov_i v278), (8, ov_i w311)]) (st2 := [ov_r 90]) (pc2 := 311) b_297_310_1 rfl rfl ?_
                        refine ov_getf (v := ov_r 113) d_297_311 fl_Mo_141 (zb_90 I330) (zs_90 I330) (congrArg ov_r (rg_90_41 I330)) ?_
                        refine ov_blk (ls2 := [(0, ov_r 90), (1, ov_i x), (2, ov_i y), (3, ov_i m), (4, ov_i bo), (5, ov_i w), (6, ov_i x6__), (7, ov_i v278), (8, ov_i w311)]) (st2 := [ov_i w, ov_r 113]) (pc2 := 316) b_297_314_1 rfl rfl ?_
                        refine ov_iald d_297_316 (zb_113 I330) (zs_113 I330) (by omega) ?_
                        have g347 := ra_113 I330 w
                        exact ov_reti (st := []) d_297_317 rfl ⟨_, rfl, I330, (by show -2147483648 ≤ (h329 113 w) ∧ (h329 113 w) ≤ 2147483647 ∧ (h329 90 2) = (h 90 2) ∧ (h329 90 3) = (h 90 3) ∧ (h329 90 7) = (h 90 7) ∧ (h329 90 8) = (h 90 8) ∧ (h329 90 13) = (h 90 13) ∧ (h329 90 20) = (h 90 20) ∧ (h329 90 22) = (h 90 22) ∧ (h329 90 25) = (h 90 25) ∧ (h329 90 26) = (h 90 26) ∧ (h329 90 27) = (h 90 27) ∧ (h329 90 28) = (h 90 28) ∧ (h329 90 29) = (h 90 29) ∧ (h329 90 30) = (h 90 30) ∧ (h329 90 34) = (h 90 34) ∧ (h329 90 35) = (h 90 35) ∧ (h329 90 37) = (h 90 37); omega), E331, E332, E333, E334, E335, E336, E337, E338, E339, E340, E341, E342, E343, E344⟩
                      · skip
                        refine ov_blk (ls2 := [(0, ov_r 90), (1, ov_i x), (2, ov_i y), (3, ov_i m), (4, ov_i bo), (5, ov_i w), (6, ov_i x6__), (7, ov_i v278), (8, ov_i w311)]) (st2 := [ov_r 90]) (pc2 := 304) b_297_303_1 rfl rfl ?_
                        refine ov_getf (v := ov_i (h329 90 42)) d_297_304 fl_Mo_439 (zb_90 I330) (zs_90 I330) rfl ?_
                        have g348 := rg_90_42 I330
                        refine ov_goto (tgt := 317) d_297_307 (by decide) ?_
                        exact ov_reti (st := []) d_297_317 rfl ⟨_, rfl, I330, (by show -2147483648 ≤ (h329 90 42) ∧ (h329 90 42) ≤ 2147483647 ∧ (h329 90 2) = (h 90 2) ∧ (h329 90 3) = (h 90 3) ∧ (h329 90 7) = (h 90 7) ∧ (h329 90 8) = (h 90 8) ∧ (h329 90 13) = (h 90 13) ∧ (h329 90 20) = (h 90 20) ∧ (h329 90 22) = (h 90 22) ∧ (h329 90 25) = (h 90 25) ∧ (h329 90 26) = (h 90 26) ∧ (h329 90 27) = (h 90 27) ∧ (h329 90 28) = (h 90 28) ∧ (h329 90 29) = (h 90 29) ∧ (h329 90 30) = (h 90 30) ∧ (h329 90 34) = (h 90 34) ∧ (h329 90 35) = (h 90 35) ∧ (h329 90 37) = (h 90 37); omega), E331, E332, E333, E334, E335, E336, E337, E338, E339, E340, E341, E342, E343, E344⟩
                    · skip
                      refine ov_blk (ls2 := [(0, ov_r 90), (1, ov_i x), (2, ov_i y), (3, ov_i m), (4, ov_i bo), (5, ov_i w), (6, ov_i x6__), (7, ov_i v278), (8, ov_i x8__)]) (st2 := [ov_i 3, ov_i (y + x8__), ov_i x, ov_r 90, ov_i v278]) (pc2 := 145) b_297_136_7 rfl rfl ?_
                      refine ov_cV (as := [ov_i x, ov_i (y + x8__), ov_i 3]) (st := [ov_i v278]) (d2 := d - 1) d_297_145 lk_Mo_289 rfl (Nat.le_of_ble_eq_true rfl) (c := 1) (zb_90 I286) (zs_90 I286) ⟨by decide, rfl⟩ (by omega) (c_Mo_lightAt_90 (d - 1) (by omega) U I286 x (y + x8__) 3 (by omega) (by omega) (by omega) (by omega) (by omega)) ?_
                      rintro _ _ _ ⟨v350, rfl, rfl, rfl, f349⟩
                      show ov_R u d ov_m297 148 [(0, ov_r 90), (1, ov_i x), (2, ov_i y), (3, ov_i m), (4, ov_i bo), (5, ov_i w), (6, ov_i x6__), (7, ov_i v278), (8, ov_i x8__)] [ov_i v350, ov_i v278] z284 h285 (P_Mo_wave_90 F z h x y m bo w)
                      rw [show h285 96 = h 96 from E291] at f349
                      have f351 : v350 = (h 96 (10 + 4 * (6 * (y + x8__) + x) + (3 : Int))) ∧ ((3 : Int) = 1 → 0 ≤ v350 ∧ v350 ≤ 60) ∧ ((3 : Int) = 2 → 0 ≤ v350 ∧ v350 ≤ 59) ∧ ((3 : Int) = 3 → 0 ≤ v350 ∧ v350 ≤ 60) := f349
                      clear f349
                      refine ov_blk (ls2 := [(0, ov_r 90), (1, ov_i x), (2, ov_i y), (3, ov_i m), (4, ov_i bo), (5, ov_i w), (6, ov_i x6__), (7, ov_i v278), (8, ov_i x8__), (9, ov_i (v278 - v350)), (10, ov_i 0)]) (st2 := []) (pc2 := 154) b_297_148_4 rfl rfl ?_
                      have L355 : ∀ (n352 : Nat) (x10__ : Int) (z356 : ov_Z) (h357 : ov_H) (I358 : ov_N F z356 h357) (E359 : h357 92 = h 92) (E360 : h357 93 = h 93) (E361 : h357 94 = h 94) (E362 : h357 95 = h 95) (E363 : h357 96 = h 96) (E364 : h357 97 = h 97) (E365 : h357 98 = h 98) (E366 : h357 99 = h 99) (E367 : h357 100 = h 100) (E368 : h357 103 = h 103) (E369 : h357 105 = h 105) (E370 : h357 106 = h 106) (E371 : h357 109 = h 109) (E372 : h357 114 = h 114) (q354 : 0 ≤ x10__ ∧ x10__ ≤ 60 ∧ (h357 90 2) = (h285 90 2) ∧ (h357 90 3) = (h285 90 3) ∧ (h357 90 7) = (h285 90 7) ∧ (h357 90 8) = (h285 90 8) ∧ (h357 90 13) = (h285 90 13) ∧ (h357 90 20) = (h285 90 20) ∧ (h357 90 22) = (h285 90 22) ∧ (h357 90 25) = (h285 90 25) ∧ (h357 90 26) = (h285 90 26) ∧ (h357 90 27) = (h285 90 27) ∧ (h357 90 28) = (h285 90 28) ∧ (h357 90 29) = (h285 90 29) ∧ (h357 90 30) = (h285 90 30) ∧ (h357 90 34) = (h285 90 34) ∧ (h357 90 35) = (h285 90 35) ∧ (h357 90 37) = (h285 90 37)), 60 - x10__ < (n352 : Int) → ov_R u d ov_m297 154 [(0, ov_r 90), (1, ov_i x), (2, ov_i y), (3, ov_i m), (4, ov_i bo), (5, ov_i w), (6, ov_i x6__), (7, ov_i v278), (8, ov_i x8__), (9, ov_i (v278 - v350)), (10, ov_i x10__)] [] z356 h357 (P_Mo_wave_90 F z h x y m bo w) := by
                        intro n352
                        induction n352 with
                        | zero =>
                          intro x10__ z356 h357 I358 E359 E360 E361 E362 E363 E364 E365 E366 E367 E368 E369 E370 E371 E372 q354 hn373
                          exact absurd hn373 (by omega)
                        | succ n352 ih353 =>
                          intro x10__ z356 h357 I358 E359 E360 E361 E362 E363 E364 E365 E366 E367 E368 E369 E370 E371 E372 q354 hn373
                          refine ov_blk (ls2 := [(0, ov_r 90), (1, ov_i x), (2, ov_i y), (3, ov_i m), (4, ov_i bo), (5, ov_i w), (6, ov_i x6__), (7, ov_i v278), (8, ov_i x8__), (9, ov_i (v278 - v350)), (10, ov_i x10__)]) (st2 := [ov_i v278, ov_i x10__]) (pc2 := 158) b_297_154_2 rfl rfl ?_
                          refine ov_icge (tgt := 235) d_297_158 (by decide) (by omega) (by omega) (fun c374 => ?_) (fun c374 => ?_)
                          · skip
                            refine ov_blk (ls2 := [(0, ov_r 90), (1, ov_i x), (2, ov_i y), (3, ov_i m), (4, ov_i bo), (5, ov_i w), (6, ov_i x6__), (7, ov_i v278), (8, ov_i (x8__ + 1)), (9, ov_i (v278 - v350)), (10, ov_i x10__)]) (st2 := []) (pc2 := 238) b_297_235_1 rfl rfl ?_
                            refine ov_goto (tgt := 130) d_297_238 (by decide) ?_
                            refine ov_sub (ls2 := [(0, ov_r 90), (1, ov_i x), (2, ov_i y), (3, ov_i m), (4, ov_i bo), (5, ov_i w), (6, ov_i x6__), (7, ov_i v278), (8, ov_i (x8__ + 1))]) (List.Sublist.subset (by repeat (first | exact List.Sublist.refl _ | apply List.Sublist.cons_cons | apply List.Sublist.cons))) ?_
                            exact ih281 (x8__ + 1) _ _ I358 E359 E360 E361 E362 E363 E364 E365 E366 E367 E368 E369 E370 E371 E372 (by show 0 ≤ (x8__ + 1) ∧ (x8__ + 1) ≤ 4 ∧ (h357 90 2) = (h 90 2) ∧ (h357 90 3) = (h 90 3) ∧ (h357 90 7) = (h 90 7) ∧ (h357 90 8) = (h 90 8) ∧ (h357 90 13) = (h 90 13) ∧ (h357 90 20) = (h 90 20) ∧ (h357 90 22) = (h 90 22) ∧ (h357 90 25) = (h 90 25) ∧ (h357 90 26) = (h 90 26) ∧ (h357 90 27) = (h 90 27) ∧ (h357 90 28) = (h 90 28) ∧ (h357 90 29) = (h 90 29) ∧ (h357 90 30) = (h 90 30) ∧ (h357 90 34) = (h 90 34) ∧ (h357 90 35) = (h 90 35) ∧ (h357 90 37) = (h 90 37); omega) (by omega)
                          · skip
                            refine ov_blk (ls2 := [(0, ov_r 90), (1, ov_i x), (2, ov_i y), (3, ov_i m), (4, ov_i bo), (5, ov_i w), (6, ov_i x6__), (7, ov_i v278), (8, ov_i x8__), (9, ov_i (v278 - v350)), (10, ov_i x10__)]) (st2 := [ov_r 90]) (pc2 := 162) b_297_161_1 rfl rfl ?_
                            refine ov_getf (v := ov_r 110) d_297_162 fl_Mo_132 (zb_90 I358) (zs_90 I358) (congrArg ov_r (rg_90_38 I358)) ?_
                            refine ov_blk (ls2 := [(0, ov_r 90), (1, ov_i x), (2, ov_i y), (3, ov_i m), (4, ov_i bo), (5, ov_i w), (6, ov_i x6__), (7, ov_i v278), (8, ov_i x8__), (9, ov_i (v278 - v350)), (10, ov_i x10__)]) (st2 := [ov_r 90, ov_i x8__, ov_i x10__, ov_i ((60 * x8__) + x10__), ov_r 110]) (pc2 := 178) b_297_165_8 rfl rfl ?_
                            refine ov_getf (v := ov_r 96) d_297_178 fl_Mo_81 (zb_90 I358) (zs_90 I358) (congrArg ov_r (rg_90_10 I358)) ?_
                            refine ov_blk (ls2 := [(0, ov_r 90), (1, ov_i x), (2, ov_i y), (3, ov_i m), (4, ov_i bo), (5, ov_i w), (6, ov_i x6__), (7, ov_i v278), (8, ov_i x8__), (9, ov_i (v278 - v350)), (10, ov_i x10__)]) (st2 := [ov_i 2, ov_r 96, ov_i x8__, ov_i x10__, ov_i ((60 * x8__) + x10__), ov_r 110]) (pc2 := 182) b_297_181_1 rfl rfl ?_
                            refine ov_iald d_297_182 (zb_96 I358) (zs_96 I358) (by omega) ?_
                            rw [show h357 96 = h 96 from E363]
                            have g375 := t96_2 I
                            have gm376 := ov_mulb (q := x8__) (b := (h 96 2)) (A := 4) (B := 30) (by omega) (by omega) (by omega) (by omega)
                            refine ov_blk (ls2 := [(0, ov_r 90), (1, ov_i x), (2, ov_i y), (3, ov_i m), (4, ov_i bo), (5, ov_i w), (6, ov_i x6__), (7, ov_i v278), (8, ov_i x8__), (9, ov_i (v278 - v350)), (10, ov_i x10__)]) (st2 := [ov_i v278, ov_i (v278 - v350), ov_i (x10__ - (x8__ * (h 96 2))), ov_i ((60 * x8__) + x10__), ov_r 110]) (pc2 := 189) b_297_183_4 rfl rfl ?_
                            refine ov_cS (as := [ov_i (x10__ - (x8__ * (h 96 2))), ov_i (v278 - v350), ov_i v278]) (st := [ov_i ((60 * x8__) + x10__), ov_r 110]) (d2 := d - 1) d_297_189 lk_Mo_446 rfl (Nat.le_of_ble_eq_true rfl) (by omega) (c_Mo_turned (d - 1) (by omega) U I358 (x10__ - (x8__ * (h 96 2))) (v278 - v350) v278 (by omega) (by omega) (by omega) (by omega) (by omega)) ?_
                            rintro _ _ _ ⟨v378, rfl, rfl, rfl, f377⟩
                            show ov_R u d ov_m297 192 [(0, ov_r 90), (1, ov_i x), (2, ov_i y), (3, ov_i m), (4, ov_i bo), (5, ov_i w), (6, ov_i x6__), (7, ov_i v278), (8, ov_i x8__), (9, ov_i (v278 - v350)), (10, ov_i x10__)] [ov_l v378, ov_i ((60 * x8__) + x10__), ov_r 110] z356 h357 (P_Mo_wave_90 F z h x y m bo w)
                            clear f377
                            refine ov_last d_297_192 (zb_110 I358) (zs_110 I358) (by omega) ?_
                            have I379 := ua_110 (k := ((60 * x8__) + x10__)) (x := v378) I358
                            refine ov_blk (ls2 := [(0, ov_r 90), (1, ov_i x), (2, ov_i y), (3, ov_i m), (4, ov_i bo), (5, ov_i w), (6, ov_i x6__), (7, ov_i v278), (8, ov_i x8__), (9, ov_i (v278 - v350)), (10, ov_i x10__)]) (st2 := [ov_r 90]) (pc2 := 194) b_297_193_1 rfl rfl ?_
                            refine ov_getf (v := ov_r 111) d_297_194 fl_Mo_135 (zb_90 I379) (zs_90 I379) (congrArg ov_r (rg_90_39 I379)) ?_
                            refine ov_blk (ls2 := [(0, ov_r 90), (1, ov_i x), (2, ov_i y), (3, ov_i m), (4, ov_i bo), (5, ov_i w), (6, ov_i x6__), (7, ov_i v278), (8, ov_i x8__), (9, ov_i (v278 - v350)), (10, ov_i x10__)]) (st2 := [ov_r 90, ov_i ((m - 1) - x8__), ov_i x10__, ov_i ((60 * x8__) + x10__), ov_r 111]) (pc2 := 214) b_297_197_12 rfl rfl ?_
                            refine ov_getf (v := ov_r 96) d_297_214 fl_Mo_81 (zb_90 I379) (zs_90 I379) (congrArg ov_r (rg_90_10 I379)) ?_
                            refine ov_blk (ls2 := [(0, ov_r 90), (1, ov_i x), (2, ov_i y), (3, ov_i m), (4, ov_i bo), (5, ov_i w), (6, ov_i x6__), (7, ov_i v278), (8, ov_i x8__), (9, ov_i (v278 - v350)), (10, ov_i x10__)]) (st2 := [ov_i 2, ov_r 96, ov_i ((m - 1) - x8__), ov_i x10__, ov_i ((60 * x8__) + x10__), ov_r 111]) (pc2 := 218) b_297_217_1 rfl rfl ?_
                            refine ov_iald d_297_218 (zb_96 I379) (zs_96 I379) (by omega) ?_
                            rw [show (ov_up h357 110 ((60 * x8__) + x10__) v378) 96 = h 96 from E363]
                            have gm381 := ov_mulb (q := ((m - 1) - x8__)) (b := (h 96 2)) (A := 4) (B := 30) (by omega) (by omega) (by omega) (by omega)
                            refine ov_blk (ls2 := [(0, ov_r 90), (1, ov_i x), (2, ov_i y), (3, ov_i m), (4, ov_i bo), (5, ov_i w), (6, ov_i x6__), (7, ov_i v278), (8, ov_i x8__), (9, ov_i (v278 - v350)), (10, ov_i x10__)]) (st2 := [ov_i v278, ov_i (v278 - v350), ov_i (x10__ - (((m - 1) - x8__) * (h 96 2))), ov_i ((60 * x8__) + x10__), ov_r 111]) (pc2 := 225) b_297_219_4 rfl rfl ?_
                            refine ov_cS (as := [ov_i (x10__ - (((m - 1) - x8__) * (h 96 2))), ov_i (v278 - v350), ov_i v278]) (st := [ov_i ((60 * x8__) + x10__), ov_r 111]) (d2 := d - 1) d_297_225 lk_Mo_446 rfl (Nat.le_of_ble_eq_true rfl) (by omega) (c_Mo_turned (d - 1) (by omega) U I379 (x10__ - (((m - 1) - x8__) * (h 96 2))) (v278 - v350) v278 (by omega) (by omega) (by omega) (by omega) (by omega)) ?_
                            rintro _ _ _ ⟨v383, rfl, rfl, rfl, f382⟩
                            show ov_R u d ov_m297 228 [(0, ov_r 90), (1, ov_i x), (2, ov_i y), (3, ov_i m), (4, ov_i bo), (5, ov_i w), (6, ov_i x6__), (7, ov_i v278), (8, ov_i x8__), (9, ov_i (v278 - v350)), (10, ov_i x10__)] [ov_l v383, ov_i ((60 * x8__) + x10__), ov_r 111] z356 (ov_up h357 110 ((60 * x8__) + x10__) v378) (P_Mo_wave_90 F z h x y m bo w)
                            clear f382
                            refine ov_last d_297_228 (zb_111 I379) (zs_111 I379) (by omega) ?_
                            have I384 := ua_111 (k := ((60 * x8__) + x10__)) (x := v383) I379
                            refine ov_blk (ls2 := [(0, ov_r 90), (1, ov_i x), (2, ov_i y), (3, ov_i m), (4, ov_i bo), (5, ov_i w), (6, ov_i x6__), (7, ov_i v278), (8, ov_i x8__), (9, ov_i (v278 - v350)), (10, ov_i (x10__ + 1))]) (st2 := []) (pc2 := 232) b_297_229_1 rfl rfl ?_
                            refine ov_goto (tgt := 154) d_297_232 (by decide) ?_
                            exact ih353 (x10__ + 1) _ _ I384 E359 E360 E361 E362 E363 E364 E365 E366 E367 E368 E369 E370 E371 E372 (by show 0 ≤ (x10__ + 1) ∧ (x10__ + 1) ≤ 60 ∧ (h357 90 2) = (h285 90 2) ∧ (h357 90 3) = (h285 90 3) ∧ (h357 90 7) = (h285 90 7) ∧ (h357 90 8) = (h285 90 8) ∧ (h357 90 13) = (h285 90 13) ∧ (h357 90 20) = (h285 90 20) ∧ (h357 90 22) = (h285 90 22) ∧ (h357 90 25) = (h285 90 25) ∧ (h357 90 26) = (h285 90 26) ∧ (h357 90 27) = (h285 90 27) ∧ (h357 90 28) = (h285 90 28) ∧ (h357 90 29) = (h285 90 29) ∧ (h357 90 30) = (h285 90 30) ∧ (h357 90 34) = (h285 90 34) ∧ (h357 90 35) = (h285 90 35) ∧ (h357 90 37) = (h285 90 37); omega) (by omega)
                      exact L355 61 0 _ _ I286 E287 E288 E289 E290 E291 E292 E293 E294 E295 E296 E297 E298 E299 E300 (by show 0 ≤ 0 ∧ 0 ≤ 60 ∧ (h285 90 2) = (h285 90 2) ∧ (h285 90 3) = (h285 90 3) ∧ (h285 90 7) = (h285 90 7) ∧ (h285 90 8) = (h285 90 8) ∧ (h285 90 13) = (h285 90 13) ∧ (h285 90 20) = (h285 90 20) ∧ (h285 90 22) = (h285 90 22) ∧ (h285 90 25) = (h285 90 25) ∧ (h285 90 26) = (h285 90 26) ∧ (h285 90 27) = (h285 90 27) ∧ (h285 90 28) = (h285 90 28) ∧ (h285 90 29) = (h285 90 29) ∧ (h285 90 30) = (h285 90 30) ∧ (h285 90 34) = (h285 90 34) ∧ (h285 90 35) = (h285 90 35) ∧ (h285 90 37) = (h285 90 37); omega) (by omega)
                exact L283 5 0 _ _ I1 rfl rfl rfl rfl rfl rfl rfl rfl rfl rfl rfl rfl rfl rfl (by show 0 ≤ 0 ∧ 0 ≤ 4 ∧ (h 90 2) = (h 90 2) ∧ (h 90 3) = (h 90 3) ∧ (h 90 7) = (h 90 7) ∧ (h 90 8) = (h 90 8) ∧ (h 90 13) = (h 90 13) ∧ (h 90 20) = (h 90 20) ∧ (h 90 22) = (h 90 22) ∧ (h 90 25) = (h 90 25) ∧ (h 90 26) = (h 90 26) ∧ (h 90 27) = (h 90 27) ∧ (h 90 28) = (h 90 28) ∧ (h 90 29) = (h 90 29) ∧ (h 90 30) = (h 90 30) ∧ (h 90 34) = (h 90 34) ∧ (h 90 35) = (h 90 35) ∧ (h 90 37) = (h 90 37); omega) (by omega)
              · skip
                refine ov_blk (ls2 := [(0, ov_r 90), (1, ov_i x), (2, ov_i y), (3, ov_i m), (4, ov_i bo), (5, ov_i w), (6, ov_i x6__), (7, ov_i x7__)]) (st2 := [ov_i (-1)]) (pc2 := 117) b_297_116_1 rfl rfl ?_
                exact ov_reti (st := []) d_297_117 rfl ⟨_, rfl, I1, (by show -2147483648 ≤ (-1) ∧ (-1) ≤ 2147483647 ∧ (h 90 2) = (h 90 2) ∧ (h 90 3) = (h 90 3) ∧ (h 90 7) = (h 90 7) ∧ (h 90 8) = (h 90 8) ∧ (h 90 13) = (h 90 13) ∧ (h 90 20) = (h 90 20) ∧ (h 90 22) = (h 90 22) ∧ (h 90 25) = (h 90 25) ∧ (h 90 26) = (h 90 26) ∧ (h 90 27) = (h 90 27) ∧ (h 90 28) = (h 90 28) ∧ (h 90 29) = (h 90 29) ∧ (h 90 30) = (h 90 30) ∧ (h 90 34) = (h 90 34) ∧ (h 90 35) = (h 90 35) ∧ (h 90 37) = (h 90 37); omega), rfl, rfl, rfl, rfl, rfl, rfl, rfl, rfl, rfl, rfl, rfl, rfl, rfl, rfl⟩
            · skip
              refine ov_blk (ls2 := [(0, ov_r 90), (1, ov_i x), (2, ov_i y), (3, ov_i m), (4, ov_i bo), (5, ov_i w), (6, ov_i x6__), (7, ov_i x7__)]) (st2 := [ov_i x6__]) (pc2 := 63) b_297_61_1 rfl rfl ?_
              refine ov_ifeq (tgt := 111) d_297_63 (by decide) (by omega) (fun c385 => ?_) (fun c385 => ?_)
              · skip
                refine ov_blk (ls2 := [(0, ov_r 90), (1, ov_i x), (2, ov_i y), (3, ov_i m), (4, ov_i bo), (5, ov_i w), (6, ov_i x6__), (7, ov_i x7__)]) (st2 := [ov_i x6__]) (pc2 := 113) b_297_111_1 rfl rfl ?_
                refine ov_ifne (tgt := 118) d_297_113 (by decide) (by omega) (fun c386 => ?_) (fun c386 => ?_)
                · omega
                · skip
                  refine ov_blk (ls2 := [(0, ov_r 90), (1, ov_i x), (2, ov_i y), (3, ov_i m), (4, ov_i bo), (5, ov_i w), (6, ov_i x6__), (7, ov_i x7__)]) (st2 := [ov_i (-1)]) (pc2 := 117) b_297_116_1 rfl rfl ?_
                  exact ov_reti (st := []) d_297_117 rfl ⟨_, rfl, I1, (by show -2147483648 ≤ (-1) ∧ (-1) ≤ 2147483647 ∧ (h 90 2) = (h 90 2) ∧ (h 90 3) = (h 90 3) ∧ (h 90 7) = (h 90 7) ∧ (h 90 8) = (h 90 8) ∧ (h 90 13) = (h 90 13) ∧ (h 90 20) = (h 90 20) ∧ (h 90 22) = (h 90 22) ∧ (h 90 25) = (h 90 25) ∧ (h 90 26) = (h 90 26) ∧ (h 90 27) = (h 90 27) ∧ (h 90 28) = (h 90 28) ∧ (h 90 29) = (h 90 29) ∧ (h 90 30) = (h 90 30) ∧ (h 90 34) = (h 90 34) ∧ (h 90 35) = (h 90 35) ∧ (h 90 37) = (h 90 37); omega), rfl, rfl, rfl, rfl, rfl, rfl, rfl, rfl, rfl, rfl, rfl, rfl, rfl, rfl⟩
              · skip
                refine ov_blk (ls2 := [(0, ov_r 90), (1, ov_i x), (2, ov_i y), (3, ov_i m), (4, ov_i bo), (5, ov_i w), (6, ov_i x6__), (7, ov_i x7__)]) (st2 := [ov_i (y + x7__), ov_i x, ov_r 90]) (pc2 := 72) b_297_66_5 rfl rfl ?_
                refine ov_cV (as := [ov_i x, ov_i (y + x7__)]) (st := []) (d2 := d - 1) d_297_72 lk_Mo_285 rfl (Nat.le_of_ble_eq_true rfl) (c := 1) (zb_90 I1) (zs_90 I1) ⟨by decide, rfl⟩ (by omega) (c_Mo_isTimed_90 (d - 1) (by omega) U I1 x (y + x7__) (by omega) (by omega) (by omega)) ?_
                rintro _ _ _ ⟨v388, rfl, rfl, rfl, f387⟩
                show ov_R u d ov_m297 75 [(0, ov_r 90), (1, ov_i x), (2, ov_i y), (3, ov_i m), (4, ov_i bo), (5, ov_i w), (6, ov_i x6__), (7, ov_i x7__)] [ov_i v388] z (ov_up h 90 0 0) (P_Mo_wave_90 F z h x y m bo w)
                have f389 : (v388 = 0 ∨ v388 = 1) ∧ (v388 = 1 → ((h 96 (10 + 4 * (6 * (y + x7__) + x))) = 1 ∨ (h 96 (10 + 4 * (6 * (y + x7__) + x))) = 2)) ∧ (v388 = 0 → ¬ ((h 96 (10 + 4 * (6 * (y + x7__) + x))) = 1 ∨ (h 96 (10 + 4 * (6 * (y + x7__) + x))) = 2)) := f387
                clear f387
                refine ov_ifeq (tgt := 102) d_297_75 (by decide) (by omega) (fun c390 => ?_) (fun c390 => ?_)
                · skip
                  refine ov_blk (ls2 := [(0, ov_r 90), (1, ov_i x), (2, ov_i y), (3, ov_i m), (4, ov_i bo), (5, ov_i w), (6, ov_i 0), (7, ov_i (x7__ + 1))]) (st2 := []) (pc2 := 108) b_297_102_3 rfl rfl ?_
                  refine ov_goto (tgt := 55) d_297_108 (by decide) ?_
                  exact ih271 0 (x7__ + 1) (by show (0 = 0 ∨ 0 = 1) ∧ 0 ≤ (x7__ + 1) ∧ (x7__ + 1) ≤ 4 ∧ (0 = 1 → 0 ≤ x ∧ x ≤ 5 ∧ 0 ≤ y ∧ y ≤ 8 ∧ 2 ≤ m ∧ m ≤ 4 ∧ y + m ≤ 9 ∧ 0 ≤ w ∧ w ≤ m - 1 ∧ (1 ≤ (x7__ + 1) → ((h 96 (10 + 4 * (6 * y + x))) = 1 ∨ (h 96 (10 + 4 * (6 * y + x))) = 2))); omega) (by omega)
                · skip
                  refine ov_blk (ls2 := [(0, ov_r 90), (1, ov_i x), (2, ov_i y), (3, ov_i m), (4, ov_i bo), (5, ov_i w), (6, ov_i x6__), (7, ov_i x7__)]) (st2 := [ov_i 1, ov_i (y + x7__), ov_i x, ov_r 90]) (pc2 := 85) b_297_78_6 rfl rfl ?_
                  refine ov_cV (as := [ov_i x, ov_i (y + x7__), ov_i 1]) (st := []) (d2 := d - 1) d_297_85 lk_Mo_289 rfl (Nat.le_of_ble_eq_true rfl) (c := 1) (zb_90 I1) (zs_90 I1) ⟨by decide, rfl⟩ (by omega) (c_Mo_lightAt_90 (d - 1) (by omega) U I1 x (y + x7__) 1 (by omega) (by omega) (by omega) (by omega) (by omega)) ?_
                  rintro _ _ _ ⟨v392, rfl, rfl, rfl, f391⟩
                  show ov_R u d ov_m297 88 [(0, ov_r 90), (1, ov_i x), (2, ov_i y), (3, ov_i m), (4, ov_i bo), (5, ov_i w), (6, ov_i x6__), (7, ov_i x7__)] [ov_i v392] z (ov_up h 90 0 0) (P_Mo_wave_90 F z h x y m bo w)
                  have f393 : v392 = (h 96 (10 + 4 * (6 * (y + x7__) + x) + (1 : Int))) ∧ ((1 : Int) = 1 → 0 ≤ v392 ∧ v392 ≤ 60) ∧ ((1 : Int) = 2 → 0 ≤ v392 ∧ v392 ≤ 59) ∧ ((1 : Int) = 3 → 0 ≤ v392 ∧ v392 ≤ 60) := f391
                  clear f391
                  refine ov_blk (ls2 := [(0, ov_r 90), (1, ov_i x), (2, ov_i y), (3, ov_i m), (4, ov_i bo), (5, ov_i w), (6, ov_i x6__), (7, ov_i x7__)]) (st2 := [ov_i 1, ov_i y, ov_i x, ov_r 90, ov_i v392]) (pc2 := 92) b_297_88_4 rfl rfl ?_
                  refine ov_cV (as := [ov_i x, ov_i y, ov_i 1]) (st := [ov_i v392]) (d2 := d - 1) d_297_92 lk_Mo_289 rfl (Nat.le_of_ble_eq_true rfl) (c := 1) (zb_90 I1) (zs_90 I1) ⟨by decide, rfl⟩ (by omega) (c_Mo_lightAt_90 (d - 1) (by omega) U I1 x y 1 (by omega) (by omega) (by omega) (by omega) (by omega)) ?_
                  rintro _ _ _ ⟨v395, rfl, rfl, rfl, f394⟩
                  show ov_R u d ov_m297 95 [(0, ov_r 90), (1, ov_i x), (2, ov_i y), (3, ov_i m), (4, ov_i bo), (5, ov_i w), (6, ov_i x6__), (7, ov_i x7__)] [ov_i v395, ov_i v392] z (ov_up h 90 0 0) (P_Mo_wave_90 F z h x y m bo w)
                  have f396 : v395 = (h 96 (10 + 4 * (6 * y + x) + (1 : Int))) ∧ ((1 : Int) = 1 → 0 ≤ v395 ∧ v395 ≤ 60) ∧ ((1 : Int) = 2 → 0 ≤ v395 ∧ v395 ≤ 59) ∧ ((1 : Int) = 3 → 0 ≤ v395 ∧ v395 ≤ 60) := f394
                  clear f394
                  refine ov_icne (tgt := 102) d_297_95 (by decide) (by omega) (by omega) (fun c397 => ?_) (fun c397 => ?_)
                  · skip
                    refine ov_blk (ls2 := [(0, ov_r 90), (1, ov_i x), (2, ov_i y), (3, ov_i m), (4, ov_i bo), (5, ov_i w), (6, ov_i 0), (7, ov_i (x7__ + 1))]) (st2 := []) (pc2 := 108) b_297_102_3 rfl rfl ?_
                    refine ov_goto (tgt := 55) d_297_108 (by decide) ?_
                    exact ih271 0 (x7__ + 1) (by show (0 = 0 ∨ 0 = 1) ∧ 0 ≤ (x7__ + 1) ∧ (x7__ + 1) ≤ 4 ∧ (0 = 1 → 0 ≤ x ∧ x ≤ 5 ∧ 0 ≤ y ∧ y ≤ 8 ∧ 2 ≤ m ∧ m ≤ 4 ∧ y + m ≤ 9 ∧ 0 ≤ w ∧ w ≤ m - 1 ∧ (1 ≤ (x7__ + 1) → ((h 96 (10 + 4 * (6 * y + x))) = 1 ∨ (h 96 (10 + 4 * (6 * y + x))) = 2))); omega) (by omega)
                  · skip
                    refine ov_blk (ls2 := [(0, ov_r 90), (1, ov_i x), (2, ov_i y), (3, ov_i m), (4, ov_i bo), (5, ov_i w), (6, ov_i x6__), (7, ov_i x7__)]) (st2 := [ov_i 1]) (pc2 := 99) b_297_98_1 rfl rfl ?_
                    refine ov_goto (tgt := 103) d_297_99 (by decide) ?_
                    refine ov_blk (ls2 := [(0, ov_r 90), (1, ov_i x), (2, ov_i y), (3, ov_i m), (4, ov_i bo), (5, ov_i w), (6, ov_i 1), (7, ov_i (x7__ + 1))]) (st2 := []) (pc2 := 108) b_297_103_2 rfl rfl ?_
                    refine ov_goto (tgt := 55) d_297_108 (by decide) ?_
                    exact ih271 1 (x7__ + 1) (by show (1 = 0 ∨ 1 = 1) ∧ 0 ≤ (x7__ + 1) ∧ (x7__ + 1) ≤ 4 ∧ (1 = 1 → 0 ≤ x ∧ x ≤ 5 ∧ 0 ≤ y ∧ y ≤ 8 ∧ 2 ≤ m ∧ m ≤ 4 ∧ y + m ≤ 9 ∧ 0 ≤ w ∧ w ≤ m - 1 ∧ (1 ≤ (x7__ + 1) → ((h 96 (10 + 4 * (6 * y + x))) = 1 ∨ (h 96 (10 + 4 * (6 * y + x))) = 2))); omega) (by omega)
        exact L273 5 0 0 (by show (0 = 0 ∨ 0 = 1) ∧ 0 ≤ 0 ∧ 0 ≤ 4 ∧ (0 = 1 → 0 ≤ x ∧ x ≤ 5 ∧ 0 ≤ y ∧ y ≤ 8 ∧ 2 ≤ m ∧ m ≤ 4 ∧ y + m ≤ 9 ∧ 0 ≤ w ∧ w ≤ m - 1 ∧ (1 ≤ 0 → ((h 96 (10 + 4 * (6 * y + x))) = 1 ∨ (h 96 (10 + 4 * (6 * y + x))) = 2))); omega) (by omega)
      · skip
        refine ov_blk (ls2 := [(0, ov_r 90), (1, ov_i x), (2, ov_i y), (3, ov_i m), (4, ov_i bo), (5, ov_i w)]) (st2 := [ov_i (m - 1), ov_i 0, ov_i w]) (pc2 := 39) b_297_33_5 rfl rfl ?_
        refine ov_cS (as := [ov_i w, ov_i 0, ov_i (m - 1)]) (st := []) (d2 := d - 1) d_297_39 lk_Mo_299 rfl (Nat.le_of_ble_eq_true rfl) (by omega) (c_Mo_within (d - 1) (by omega) U I1 w 0 (m - 1) (by omega) (by omega) (by omega)) ?_
        rintro _ _ _ ⟨v399, rfl, rfl, rfl, f398⟩
        show ov_R u d ov_m297 42 [(0, ov_r 90), (1, ov_i x), (2, ov_i y), (3, ov_i m), (4, ov_i bo), (5, ov_i w)] [ov_i v399] z (ov_up h 90 0 0) (P_Mo_wave_90 F z h x y m bo w)
        have f400 : (v399 = 0 ∨ v399 = 1) ∧ (v399 = 1 → (0 : Int) ≤ w ∧ w ≤ (m - 1)) ∧ (v399 = 0 → w < (0 : Int) ∨ (m - 1) < w) := f398
        clear f398
        refine ov_ifeq (tgt := 49) d_297_42 (by decide) (by omega) (fun c401 => ?_) (fun c401 => ?_)
        · skip
          refine ov_blk (ls2 := [(0, ov_r 90), (1, ov_i x), (2, ov_i y), (3, ov_i m), (4, ov_i bo), (5, ov_i w), (6, ov_i 0), (7, ov_i 0)]) (st2 := []) (pc2 := 55) b_297_49_4 rfl rfl ?_
          have L405 : ∀ (n402 : Nat) (x6___ : Int) (x7___ : Int) (q404 : (x6___ = 0 ∨ x6___ = 1) ∧ 0 ≤ x7___ ∧ x7___ ≤ 4 ∧ (x6___ = 1 → 0 ≤ x ∧ x ≤ 5 ∧ 0 ≤ y ∧ y ≤ 8 ∧ 2 ≤ m ∧ m ≤ 4 ∧ y + m ≤ 9 ∧ 0 ≤ w ∧ w ≤ m - 1 ∧ (1 ≤ x7___ → ((h 96 (10 + 4 * (6 * y + x))) = 1 ∨ (h 96 (10 + 4 * (6 * y + x))) = 2)))), 4 - x7___ < (n402 : Int) → ov_R u d ov_m297 55 [(0, ov_r 90), (1, ov_i x), (2, ov_i y), (3, ov_i m), (4, ov_i bo), (5, ov_i w), (6, ov_i x6___), (7, ov_i x7___)] [] z (ov_up h 90 0 0) (P_Mo_wave_90 F z h x y m bo w) := by
            intro n402
            induction n402 with
            | zero =>
              intro x6___ x7___ q404 hn406
              exact absurd hn406 (by omega)
            | succ n402 ih403 =>
              intro x6___ x7___ q404 hn406
              refine ov_blk (ls2 := [(0, ov_r 90), (1, ov_i x), (2, ov_i y), (3, ov_i m), (4, ov_i bo), (5, ov_i w), (6, ov_i x6___), (7, ov_i x7___)]) (st2 := [ov_i m, ov_i x7___]) (pc2 := 58) b_297_55_2 rfl rfl ?_
              refine ov_icge (tgt := 111) d_297_58 (by decide) (by omega) (by omega) (fun c407 => ?_) (fun c407 => ?_)
              · skip
                refine ov_blk (ls2 := [(0, ov_r 90), (1, ov_i x), (2, ov_i y), (3, ov_i m), (4, ov_i bo), (5, ov_i w), (6, ov_i x6___), (7, ov_i x7___)]) (st2 := [ov_i x6___]) (pc2 := 113) b_297_111_1 rfl rfl ?_
                refine ov_ifne (tgt := 118) d_297_113 (by decide) (by omega) (fun c408 => ?_) (fun c408 => ?_)
                · skip
                  have w1 := ov_WT_at W (c := 6 * y + x) (by omega)
                  refine ov_blk (ls2 := [(0, ov_r 90), (1, ov_i x), (2, ov_i y), (3, ov_i m), (4, ov_i bo), (5, ov_i w), (6, ov_i x6___), (7, ov_i x7___)]) (st2 := [ov_i 1, ov_i y, ov_i x, ov_r 90]) (pc2 := 122) b_297_118_4 rfl rfl ?_
                  refine ov_cV (as := [ov_i x, ov_i y, ov_i 1]) (st := []) (d2 := d - 1) d_297_122 lk_Mo_289 rfl (Nat.le_of_ble_eq_true rfl) (c := 1) (zb_90 I1) (zs_90 I1) ⟨by decide, rfl⟩ (by omega) (c_Mo_lightAt_90 (d - 1) (by omega) U I1 x y 1 (by omega) (by omega) (by omega) (by omega) (by omega)) ?_
                  rintro _ _ _ ⟨v410, rfl, rfl, rfl, f409⟩
                  show ov_R u d ov_m297 125 [(0, ov_r 90), (1, ov_i x), (2, ov_i y), (3, ov_i m), (4, ov_i bo), (5, ov_i w), (6, ov_i x6___), (7, ov_i x7___)] [ov_i v410] z (ov_up h 90 0 0) (P_Mo_wave_90 F z h x y m bo w)
                  have f411 : v410 = (h 96 (10 + 4 * (6 * y + x) + (1 : Int))) ∧ ((1 : Int) = 1 → 0 ≤ v410 ∧ v410 ≤ 60) ∧ ((1 : Int) = 2 → 0 ≤ v410 ∧ v410 ≤ 59) ∧ ((1 : Int) = 3 → 0 ≤ v410 ∧ v410 ≤ 60) := f409
                  clear f409
                  refine ov_blk (ls2 := [(0, ov_r 90), (1, ov_i x), (2, ov_i y), (3, ov_i m), (4, ov_i bo), (5, ov_i w), (6, ov_i x6___), (7, ov_i v410), (8, ov_i 0)]) (st2 := []) (pc2 := 130) b_297_125_3 rfl rfl ?_
                  have L415 : ∀ (n412 : Nat) (x8___ : Int) (z416 : ov_Z) (h417 : ov_H) (I418 : ov_N F z416 h417) (E419 : h417 92 = h 92) (E420 : h417 93 = h 93) (E421 : h417 94 = h 94) (E422 : h417 95 = h 95) (E423 : h417 96 = h 96) (E424 : h417 97 = h 97) (E425 : h417 98 = h 98) (E426 : h417 99 = h 99) (E427 : h417 100 = h 100) (E428 : h417 103 = h 103) (E429 : h417 105 = h 105) (E430 : h417 106 = h 106) (E431 : h417 109 = h 109) (E432 : h417 114 = h 114) (q414 : 0 ≤ x8___ ∧ x8___ ≤ 4 ∧ (h417 90 2) = (h 90 2) ∧ (h417 90 3) = (h 90 3) ∧ (h417 90 7) = (h 90 7) ∧ (h417 90 8) = (h 90 8) ∧ (h417 90 13) = (h 90 13) ∧ (h417 90 20) = (h 90 20) ∧ (h417 90 22) = (h 90 22) ∧ (h417 90 25) = (h 90 25) ∧ (h417 90 26) = (h 90 26) ∧ (h417 90 27) = (h 90 27) ∧ (h417 90 28) = (h 90 28) ∧ (h417 90 29) = (h 90 29) ∧ (h417 90 30) = (h 90 30) ∧ (h417 90 34) = (h 90 34) ∧ (h417 90 35) = (h 90 35) ∧ (h417 90 37) = (h 90 37)), 4 - x8___ < (n412 : Int) → ov_R u d ov_m297 130 [(0, ov_r 90), (1, ov_i x), (2, ov_i y), (3, ov_i m), (4, ov_i bo), (5, ov_i w), (6, ov_i x6___), (7, ov_i v410), (8, ov_i x8___)] [] z416 h417 (P_Mo_wave_90 F z h x y m bo w) := by
                    intro n412
                    induction n412 with
                    | zero =>
                      intro x8___ z416 h417 I418 E419 E420 E421 E422 E423 E424 E425 E426 E427 E428 E429 E430 E431 E432 q414 hn433
                      exact absurd hn433 (by omega)
                    | succ n412 ih413 =>
                      intro x8___ z416 h417 I418 E419 E420 E421 E422 E423 E424 E425 E426 E427 E428 E429 E430 E431 E432 q414 hn433
                      refine ov_blk (ls2 := [(0, ov_r 90), (1, ov_i x), (2, ov_i y), (3, ov_i m), (4, ov_i bo), (5, ov_i w), (6, ov_i x6___), (7, ov_i v410), (8, ov_i x8___)]) (st2 := [ov_i m, ov_i x8___]) (pc2 := 133) b_297_130_2 rfl rfl ?_
                      refine ov_icge (tgt := 241) d_297_133 (by decide) (by omega) (by omega) (fun c434 => ?_) (fun c434 => ?_)
                      · skip
                        refine ov_blk (ls2 := [(0, ov_r 90), (1, ov_i x), (2, ov_i y), (3, ov_i m), (4, ov_i bo), (5, ov_i w), (6, ov_i x6___), (7, ov_i v410), (8, ov_i x8___)]) (st2 := [ov_i (-1), ov_r 90]) (pc2 := 243) b_297_241_2 rfl rfl ?_
                        refine ov_putf (x := (-1)) d_297_243 fl_Mo_439 (zb_90 I418) (zs_90 I418) rfl nk_0 rfl ?_
                        have I435 := up_90_42 (x := (-1)) I418 (by omega)
                        refine ov_blk (ls2 := [(0, ov_r 90), (1, ov_i x), (2, ov_i y), (3, ov_i m), (4, ov_i bo), (5, ov_i w), (6, ov_i x6___), (7, ov_i v410), (8, ov_i x8___)]) (st2 := [ov_i 2, ov_i y, ov_i x, ov_r 90]) (pc2 := 250) b_297_246_4 rfl rfl ?_
                        refine ov_cV (as := [ov_i x, ov_i y, ov_i 2]) (st := []) (d2 := d - 1) d_297_250 lk_Mo_289 rfl (Nat.le_of_ble_eq_true rfl) (c := 1) (zb_90 I435) (zs_90 I435) ⟨by decide, rfl⟩ (by omega) (c_Mo_lightAt_90 (d - 1) (by omega) U I435 x y 2 (by omega) (by omega) (by omega) (by omega) (by omega)) ?_
                        rintro _ _ _ ⟨v437, rfl, rfl, rfl, f436⟩
                        show ov_R u d ov_m297 253 [(0, ov_r 90), (1, ov_i x), (2, ov_i y), (3, ov_i m), (4, ov_i bo), (5, ov_i w), (6, ov_i x6___), (7, ov_i v410), (8, ov_i x8___)] [ov_i v437] z416 (ov_up h417 90 42 (-1)) (P_Mo_wave_90 F z h x y m bo w)
                        rw [show (ov_up h417 90 42 (-1)) 96 = h 96 from E423] at f436
                        have f438 : v437 = (h 96 (10 + 4 * (6 * y + x) + (2 : Int))) ∧ ((2 : Int) = 1 → 0 ≤ v437 ∧ v437 ≤ 60) ∧ ((2 : Int) = 2 → 0 ≤ v437 ∧ v437 ≤ 59) ∧ ((2 : Int) = 3 → 0 ≤ v437 ∧ v437 ≤ 60) := f436
                        clear f436
                        refine ov_blk (ls2 := [(0, ov_r 90), (1, ov_i x), (2, ov_i y), (3, ov_i m), (4, ov_i bo), (5, ov_i w), (6, ov_i x6___), (7, ov_i v410), (8, ov_i x8___)]) (st2 := [ov_i 3, ov_i y, ov_i x, ov_r 90, ov_i v437]) (pc2 := 257) b_297_253_4 rfl rfl ?_
                        refine ov_cV (as := [ov_i x, ov_i y, ov_i 3]) (st := [ov_i v437]) (d2 := d - 1) d_297_257 lk_Mo_289 rfl (Nat.le_of_ble_eq_true rfl) (c := 1) (zb_90 I435) (zs_90 I435) ⟨by decide, rfl⟩ (by omega) (c_Mo_lightAt_90 (d - 1) (by omega) U I435 x y 3 (by omega) (by omega) (by omega) (by omega) (by omega)) ?_
                        rintro _ _ _ ⟨v440, rfl, rfl, rfl, f439⟩
                        show ov_R u d ov_m297 260 [(0, ov_r 90), (1, ov_i x), (2, ov_i y), (3, ov_i m), (4, ov_i bo), (5, ov_i w), (6, ov_i x6___), (7, ov_i v410), (8, ov_i x8___)] [ov_i v440, ov_i v437] z416 (ov_up h417 90 42 (-1)) (P_Mo_wave_90 F z h x y m bo w)
                        rw [show (ov_up h417 90 42 (-1)) 96 = h 96 from E423] at f439
                        have f441 : v440 = (h 96 (10 + 4 * (6 * y + x) + (3 : Int))) ∧ ((3 : Int) = 1 → 0 ≤ v440 ∧ v440 ≤ 60) ∧ ((3 : Int) = 2 → 0 ≤ v440 ∧ v440 ≤ 59) ∧ ((3 : Int) = 3 → 0 ≤ v440 ∧ v440 ≤ 60) := f439
                        clear f439
                        refine ov_blk (ls2 := [(0, ov_r 90), (1, ov_i x), (2, ov_i y), (3, ov_i m), (4, ov_i bo), (5, ov_i w), (6, ov_i x6___), (7, ov_i v410), (8, ov_i x8___)]) (st2 := [ov_i v410, ov_i (v437 + v440)]) (pc2 := 263) b_297_260_2 rfl rfl ?_
                        refine ov_irem d_297_263 (by omega) (by omega) (by omega) ?_
                        have g442 := ov_tmg (a := (v437 + v440)) (b := v410) (by omega) (by omega)
                        refine ov_havw (fun w443 gw443 qw443 => ?_)
                        refine ov_blk (ls2 := [(0, ov_r 90), (1, ov_i x), (2, ov_i y), (3, ov_i m), (4, ov_i bo), (5, ov_i w), (6, ov_i x6___), (7, ov_i v410), (8, ov_i w443)]) (st2 := [ov_r 90]) (pc2 := 267) b_297_264_2 rfl rfl ?_
                        refine ov_getf (v := ov_r 112) d_297_267 fl_Mo_138 (zb_90 I435) (zs_90 I435) (congrArg ov_r (rg_90_40 I435)) ?_
                        refine ov_blk (ls2 := [(0, ov_r 90), (1, ov_i x), (2, ov_i y), (3, ov_i m), (4, ov_i bo), (5, ov_i w), (6, ov_i x6___), (7, ov_i v410), (8, ov_i w443)]) (st2 := [ov_i w443, ov_i 0, ov_r 112]) (pc2 := 273) b_297_270_2 rfl rfl ?_
                        refine ov_iast d_297_273 (zb_112 I435) (zs_112 I435) (by omega) ?_
                        have I444 := ua_112 (k := 0) (x := w443) I435 (by omega)
                        refine ov_blk (ls2 := [(0, ov_r 90), (1, ov_i x), (2, ov_i y), (3, ov_i m), (4, ov_i bo), (5, ov_i w), (6, ov_i x6___), (7, ov_i v410), (8, ov_i w443)]) (st2 := [ov_r 90, ov_i v410, ov_i m, ov_i 1, ov_r 90]) (pc2 := 280) b_297_274_5 rfl rfl ?_
                        refine ov_getf (v := ov_r 110) d_297_280 fl_Mo_132 (zb_90 I444) (zs_90 I444) (congrArg ov_r (rg_90_38 I444)) ?_
                        refine ov_blk (ls2 := [(0, ov_r 90), (1, ov_i x), (2, ov_i y), (3, ov_i m), (4, ov_i bo), (5, ov_i w), (6, ov_i x6___), (7, ov_i v410), (8, ov_i w443)]) (st2 := [ov_i w443, ov_r 110, ov_i v410, ov_i m, ov_i 1, ov_r 90]) (pc2 := 285) b_297_283_1 rfl rfl ?_
                        refine ov_lald d_297_285 (zb_110 I444) (zs_110 I444) (by omega) ?_
                        show ov_R u d ov_m297 286 [(0, ov_r 90), (1, ov_i x), (2, ov_i y), (3, ov_i m), (4, ov_i bo), (5, ov_i w), (6, ov_i x6___), (7, ov_i v410), (8, ov_i w443)] [ov_l (h417 110 w443), ov_i v410, ov_i m, ov_i 1, ov_r 90] z416 (ov_up (ov_up h417 90 42 (-1)) 112 0 w443) (P_Mo_wave_90 F z h x y m bo w)
                        refine ov_blk (ls2 := [(0, ov_r 90), (1, ov_i x), (2, ov_i y), (3, ov_i m), (4, ov_i bo), (5, ov_i w), (6, ov_i x6___), (7, ov_i v410), (8, ov_i w443)]) (st2 := [ov_r 90, ov_l (h417 110 w443), ov_i v410, ov_i m, ov_i 1, ov_r 90]) (pc2 := 287) b_297_286_1 rfl rfl ?_
                        refine ov_getf (v := ov_r 111) d_297_287 fl_Mo_135 (zb_90 I444) (zs_90 I444) (congrArg ov_r (rg_90_39 I444)) ?_
                        refine ov_blk (ls2 := [(0, ov_r 90), (1, ov_i x), (2, ov_i y), (3, ov_i m), (4, ov_i bo), (5, ov_i w), (6, ov_i x6___), (7, ov_i v410), (8, ov_i w443)]) (st2 := [ov_i w443, ov_r 111, ov_l (h417 110 w443), ov_i v410, ov_i m, ov_i 1, ov_r 90]) (pc2 := 292) b_297_290_1 rfl rfl ?_
                        refine ov_lald d_297_292 (zb_111 I444) (zs_111 I444) (by omega) ?_
                        show ov_R u d ov_m297 293 [(0, ov_r 90), (1, ov_i x), (2, ov_i y), (3, ov_i m), (4, ov_i bo), (5, ov_i w), (6, ov_i x6___), (7, ov_i v410), (8, ov_i w443)] [ov_l (h417 111 w443), ov_l (h417 110 w443), ov_i v410, ov_i m, ov_i 1, ov_r 90] z416 (ov_up (ov_up h417 90 42 (-1)) 112 0 w443) (P_Mo_wave_90 F z h x y m bo w)
                        refine ov_blk (ls2 := [(0, ov_r 90), (1, ov_i x), (2, ov_i y), (3, ov_i m), (4, ov_i bo), (5, ov_i w), (6, ov_i x6___), (7, ov_i v410), (8, ov_i w443)]) (st2 := [ov_i bo, ov_l (h417 111 w443), ov_l (h417 110 w443), ov_i v410, ov_i m, ov_i 1, ov_r 90]) (pc2 := 295) b_297_293_1 rfl rfl ?_
                        refine ov_cV (as := [ov_i 1, ov_i m, ov_i v410, ov_l (h417 110 w443), ov_l (h417 111 w443), ov_i bo]) (st := []) (d2 := d - 1) d_297_295 lk_Mo_442 rfl (Nat.le_of_ble_eq_true rfl) (c := 1) (zb_90 I444) (zs_90 I444) ⟨by decide, rfl⟩ (by omega) (c_Mo_triesWave_90_all (Int.toNat ((m) - (1))) (d - 1) (by omega) U I444 1 m v410 (h417 110 w443) (h417 111 w443) bo (by omega) (by omega) (by omega) (by omega) (by omega) (by omega) (by omega)) ?_
                        rintro _ z460 h461 ⟨rfl, I462, f445, e446, e447, e448, e449, e450, e451, e452, e453, e454, e455, e456, e457, e458, e459⟩
                        have E463 : h461 92 = h 92 := Eq.trans e446 E419
                        have E464 : h461 93 = h 93 := Eq.trans e447 E420
                        have E465 : h461 94 = h 94 := Eq.trans e448 E421
                        have E466 : h461 95 = h 95 := Eq.trans e449 E422
                        have E467 : h461 96 = h 96 := Eq.trans e450 E423
                        have E468 : h461 97 = h 97 := Eq.trans e451 E424
                        have E469 : h461 98 = h 98 := Eq.trans e452 E425
                        have E470 : h461 99 = h 99 := Eq.trans e453 E426
                        have E471 : h461 100 = h 100 := Eq.trans e454 E427
                        have E472 : h461 103 = h 103 := Eq.trans e455 E428
                        have E473 : h461 105 = h 105 := Eq.trans e456 E429
                        have E474 : h461 106 = h 106 := Eq.trans e457 E430
                        have E475 : h461 109 = h 109 := Eq.trans e458 E431
                        have E476 : h461 114 = h 114 := Eq.trans e459 E432
                        show ov_R u d ov_m297 298 [(0, ov_r 90), (1, ov_i x), (2, ov_i y), (3, ov_i m), (4, ov_i bo), (5, ov_i w), (6, ov_i x6___), (7, ov_i v410), (8, ov_i w443)] [] z460 h461 (P_Mo_wave_90 F z h x y m bo w)
                        have f477 : (h461 90 2) = (h417 90 2) ∧ (h461 90 3) = (h417 90 3) ∧ (h461 90 7) = (h417 90 7) ∧ (h461 90 8) = (h417 90 8) ∧ (h461 90 13) = (h417 90 13) ∧ (h461 90 20) = (h417 90 20) ∧ (h461 90 22) = (h417 90 22) ∧ (h461 90 25) = (h417 90 25) ∧ (h461 90 26) = (h417 90 26) ∧ (h461 90 27) = (h417 90 27) ∧ (h461 90 28) = (h417 90 28) ∧ (h461 90 29) = (h417 90 29) ∧ (h461 90 30) = (h417 90 30) ∧ (h461 90 34) = (h417 90 34) ∧ (h461 90 35) = (h417 90 35) ∧ (h461 90 37) = (h417 90 37) := f445
                        clear f445
                        refine ov_blk (ls2 := [(0, ov_r 90), (1, ov_i x), (2, ov_i y), (3, ov_i m), (4, ov_i bo), (5, ov_i w), (6, ov_i x6___), (7, ov_i v410), (8, ov_i w443)]) (st2 := [ov_i w]) (pc2 := 300) b_297_298_1 rfl rfl ?_
                        refine ov_ifne (tgt := 310) d_297_300 (by decide) (by omega) (fun c478 => ?_) (fun c478 => ?_)
                        · skip
                          refine ov_blk (ls2 := [(0, ov_r 90), (1, ov_i x), (2, ov_i y), (3, ov_i m), (4, ov_i bo), (5, ov_i w), (6, ov_i x6___), (7, ov_i v410), (8, ov_i w443)]) (st2 := [ov_r 90]) (pc2 := 311) b_297_310_1 rfl rfl ?_
                          refine ov_getf (v := ov_r 113) d_297_311 fl_Mo_141 (zb_90 I462) (zs_90 I462) (congrArg ov_r (rg_90_41 I462)) ?_
                          refine ov_blk (ls2 := [(0, ov_r 90), (1, ov_i x), (2, ov_i y), (3, ov_i m), (4, ov_i bo), (5, ov_i w), (6, ov_i x6___), (7, ov_i v410), (8, ov_i w443)]) (st2 := [ov_i w, ov_r 113]) (pc2 := 316) b_297_314_1 rfl rfl ?_
                          refine ov_iald d_297_316 (zb_113 I462) (zs_113 I462) (by omega) ?_
                          have g479 := ra_113 I462 w
                          exact ov_reti (st := []) d_297_317 rfl ⟨_, rfl, I462, (by show -2147483648 ≤ (h461 113 w) ∧ (h461 113 w) ≤ 2147483647 ∧ (h461 90 2) = (h 90 2) ∧ (h461 90 3) = (h 90 3) ∧ (h461 90 7) = (h 90 7) ∧ (h461 90 8) = (h 90 8) ∧ (h461 90 13) = (h 90 13) ∧ (h461 90 20) = (h 90 20) ∧ (h461 90 22) = (h 90 22) ∧ (h461 90 25) = (h 90 25) ∧ (h461 90 26) = (h 90 26) ∧ (h461 90 27) = (h 90 27) ∧ (h461 90 28) = (h 90 28) ∧ (h461 90 29) = (h 90 29) ∧ (h461 90 30) = (h 90 30) ∧ (h461 90 34) = (h 90 34) ∧ (h461 90 35) = (h 90 35) ∧ (h461 90 37) = (h 90 37); omega), E463, E464, E465, E466, E467, E468, E469, E470, E471, E472, E473, E474, E475, E476⟩
                        · skip
                          refine ov_blk (ls2 := [(0, ov_r 90), (1, ov_i x), (2, ov_i y), (3, ov_i m), (4, ov_i bo), (5, ov_i w), (6, ov_i x6___), (7, ov_i v410), (8, ov_i w443)]) (st2 := [ov_r 90]) (pc2 := 304) b_297_303_1 rfl rfl ?_
                          refine ov_getf (v := ov_i (h461 90 42)) d_297_304 fl_Mo_439 (zb_90 I462) (zs_90 I462) rfl ?_
                          have g480 := rg_90_42 I462
                          refine ov_goto (tgt := 317) d_297_307 (by decide) ?_
                          exact ov_reti (st := []) d_297_317 rfl ⟨_, rfl, I462, (by show -2147483648 ≤ (h461 90 42) ∧ (h461 90 42) ≤ 2147483647 ∧ (h461 90 2) = (h 90 2) ∧ (h461 90 3) = (h 90 3) ∧ (h461 90 7) = (h 90 7) ∧ (h461 90 8) = (h 90 8) ∧ (h461 90 13) = (h 90 13) ∧ (h461 90 20) = (h 90 20) ∧ (h461 90 22) = (h 90 22) ∧ (h461 90 25) = (h 90 25) ∧ (h461 90 26) = (h 90 26) ∧ (h461 90 27) = (h 90 27) ∧ (h461 90 28) = (h 90 28) ∧ (h461 90 29) = (h 90 29) ∧ (h461 90 30) = (h 90 30) ∧ (h461 90 34) = (h 90 34) ∧ (h461 90 35) = (h 90 35) ∧ (h461 90 37) = (h 90 37); omega), E463, E464, E465, E466, E467, E468, E469, E470, E471, E472, E473, E474, E475, E476⟩
                      · skip
                        refine ov_blk (ls2 := [(0, ov_r 90), (1, ov_i x), (2, ov_i y), (3, ov_i m), (4, ov_i bo), (5, ov_i w), (6, ov_i x6___), (7, ov_i v410), (8, ov_i x8___)]) (st2 := [ov_i 3, ov_i (y + x8___), ov_i x, ov_r 90, ov_i v410]) (pc2 := 145) b_297_136_7 rfl rfl ?_
                        refine ov_cV (as := [ov_i x, ov_i (y + x8___), ov_i 3]) (st := [ov_i v410]) (d2 := d - 1) d_297_145 lk_Mo_289 rfl (Nat.le_of_ble_eq_true rfl) (c := 1) (zb_90 I418) (zs_90 I418) ⟨by decide, rfl⟩ (by omega) (c_Mo_lightAt_90 (d - 1) (by omega) U I418 x (y + x8___) 3 (by omega) (by omega) (by omega) (by omega) (by omega)) ?_
                        rintro _ _ _ ⟨v482, rfl, rfl, rfl, f481⟩
                        show ov_R u d ov_m297 148 [(0, ov_r 90), (1, ov_i x), (2, ov_i y), (3, ov_i m), (4, ov_i bo), (5, ov_i w), (6, ov_i x6___), (7, ov_i v410), (8, ov_i x8___)] [ov_i v482, ov_i v410] z416 h417 (P_Mo_wave_90 F z h x y m bo w)
                        rw [show h417 96 = h 96 from E423] at f481
                        have f483 : v482 = (h 96 (10 + 4 * (6 * (y + x8___) + x) + (3 : Int))) ∧ ((3 : Int) = 1 → 0 ≤ v482 ∧ v482 ≤ 60) ∧ ((3 : Int) = 2 → 0 ≤ v482 ∧ v482 ≤ 59) ∧ ((3 : Int) = 3 → 0 ≤ v482 ∧ v482 ≤ 60) := f481
                        clear f481
                        refine ov_blk (ls2 := [(0, ov_r 90), (1, ov_i x), (2, ov_i y), (3, ov_i m), (4, ov_i bo), (5, ov_i w), (6, ov_i x6___), (7, ov_i v410), (8, ov_i x8___), (9, ov_i (v410 - v482)), (10, ov_i 0)]) (st2 := []) (pc2 := 154) b_297_148_4 rfl rfl ?_
                        have L487 : ∀ (n484 : Nat) (x10___ : Int) (z488 : ov_Z) (h489 : ov_H) (I490 : ov_N F z488 h489) (E491 : h489 92 = h 92) (E492 : h489 93 = h 93) (E493 : h489 94 = h 94) (E494 : h489 95 = h 95) (E495 : h489 96 = h 96) (E496 : h489 97 = h 97) (E497 : h489 98 = h 98) (E498 : h489 99 = h 99) (E499 : h489 100 = h 100) (E500 : h489 103 = h 103) (E501 : h489 105 = h 105) (E502 : h489 106 = h 106) (E503 : h489 109 = h 109) (E504 : h489 114 = h 114) (q486 : 0 ≤ x10___ ∧ x10___ ≤ 60 ∧ (h489 90 2) = (h417 90 2) ∧ (h489 90 3) = (h417 90 3) ∧ (h489 90 7) = (h417 90 7) ∧ (h489 90 8) = (h417 90 8) ∧ (h489 90 13) = (h417 90 13) ∧ (h489 90 20) = (h417 90 20) ∧ (h489 90 22) = (h417 90 22) ∧ (h489 90 25) = (h417 90 25) ∧ (h489 90 26) = (h417 90 26) ∧ (h489 90 27) = (h417 90 27) ∧ (h489 90 28) = (h417 90 28) ∧ (h489 90 29) = (h417 90 29) ∧ (h489 90 30) = (h417 90 30) ∧ (h489 90 34) = (h417 90 34) ∧ (h489 90 35) = (h417 90 35) ∧ (h489 90 37) = (h417 90 37)), 60 - x10___ < (n484 : Int) → ov_R u d ov_m297 154 [(0, ov_r 90), (1, ov_i x), (2, ov_i y), (3, ov_i m), (4, ov_i bo), (5, ov_i w), (6, ov_i x6___), (7, ov_i v410), (8, ov_i x8___), (9, ov_i (v410 - v482)), (10, ov_i x10___)] [] z488 h489 (P_Mo_wave_90 F z h x y m bo w) := by
                          intro n484
                          induction n484 with
                          | zero =>
                            intro x10___ z488 h489 I490 E491 E492 E493 E494 E495 E496 E497 E498 E499 E500 E501 E502 E503 E504 q486 hn505
                            exact absurd hn505 (by omega)
                          | succ n484 ih485 =>
                            intro x10___ z488 h489 I490 E491 E492 E493 E494 E495 E496 E497 E498 E499 E500 E501 E502 E503 E504 q486 hn505
                            refine ov_blk (ls2 := [(0, ov_r 90), (1, ov_i x), (2, ov_i y), (3, ov_i m), (4, ov_i bo), (5, ov_i w), (6, ov_i x6___), (7, ov_i v410), (8, ov_i x8___), (9, ov_i (v410 - v482)), (10, ov_i x10___)]) (st2 := [ov_i v410, ov_i x10___]) (pc2 := 158) b_297_154_2 rfl rfl ?_
                            refine ov_icge (tgt := 235) d_297_158 (by decide) (by omega) (by omega) (fun c506 => ?_) (fun c506 => ?_)
                            · skip
                              refine ov_blk (ls2 := [(0, ov_r 90), (1, ov_i x), (2, ov_i y), (3, ov_i m), (4, ov_i bo), (5, ov_i w), (6, ov_i x6___), (7, ov_i v410), (8, ov_i (x8___ + 1)), (9, ov_i (v410 - v482)), (10, ov_i x10___)]) (st2 := []) (pc2 := 238) b_297_235_1 rfl rfl ?_
                              refine ov_goto (tgt := 130) d_297_238 (by decide) ?_
                              refine ov_sub (ls2 := [(0, ov_r 90), (1, ov_i x), (2, ov_i y), (3, ov_i m), (4, ov_i bo), (5, ov_i w), (6, ov_i x6___), (7, ov_i v410), (8, ov_i (x8___ + 1))]) (List.Sublist.subset (by repeat (first | exact List.Sublist.refl _ | apply List.Sublist.cons_cons | apply List.Sublist.cons))) ?_
                              exact ih413 (x8___ + 1) _ _ I490 E491 E492 E493 E494 E495 E496 E497 E498 E499 E500 E501 E502 E503 E504 (by show 0 ≤ (x8___ + 1) ∧ (x8___ + 1) ≤ 4 ∧ (h489 90 2) = (h 90 2) ∧ (h489 90 3) = (h 90 3) ∧ (h489 90 7) = (h 90 7) ∧ (h489 90 8) = (h 90 8) ∧ (h489 90 13) = (h 90 13) ∧ (h489 90 20) = (h 90 20) ∧ (h489 90 22) = (h 90 22) ∧ (h489 90 25) = (h 90 25) ∧ (h489 90 26) = (h 90 26) ∧ (h489 90 27) = (h 90 27) ∧ (h489 90 28) = (h 90 28) ∧ (h489 90 29) = (h 90 29) ∧ (h489 90 30) = (h 90 30) ∧ (h489 90 34) = (h 90 34) ∧ (h489 90 35) = (h 90 35) ∧ (h489 90 37) = (h 90 37); omega) (by omega)
                            · skip
                              refine ov_blk (ls2 := [(0, ov_r 90), (1, ov_i x), (2, ov_i y), (3, ov_i m), (4, ov_i bo), (5, ov_i w), (6, ov_i x6___), (7, ov_i v410), (8, ov_i x8___), (9, ov_i (v410 - v482)), (10, ov_i x10___)]) (st2 := [ov_r 90]) (pc2 := 162) b_297_161_1 rfl rfl ?_
                              refine ov_getf (v := ov_r 110) d_297_162 fl_Mo_132 (zb_90 I490) (zs_90 I490) (congrArg ov_r (rg_90_38 I490)) ?_
                              refine ov_blk (ls2 := [(0, ov_r 90), (1, ov_i x), (2, ov_i y), (3, ov_i m), (4, ov_i bo), (5, ov_i w), (6, ov_i x6___), (7, ov_i v410), (8, ov_i x8___), (9, ov_i (v410 - v482)), (10, ov_i x10___)]) (st2 := [ov_r 90, ov_i x8___, ov_i x10___, ov_i ((60 * x8___) + x10___), ov_r 110]) (pc2 := 178) b_297_165_8 rfl rfl ?_
                              refine ov_getf (v := ov_r 96) d_297_178 fl_Mo_81 (zb_90 I490) (zs_90 I490) (congrArg ov_r (rg_90_10 I490)) ?_
                              refine ov_blk (ls2 := [(0, ov_r 90), (1, ov_i x), (2, ov_i y), (3, ov_i m), (4, ov_i bo), (5, ov_i w), (6, ov_i x6___), (7, ov_i v410), (8, ov_i x8___), (9, ov_i (v410 - v482)), (10, ov_i x10___)]) (st2 := [ov_i 2, ov_r 96, ov_i x8___, ov_i x10___, ov_i ((60 * x8___) + x10___), ov_r 110]) (pc2 := 182) b_297_181_1 rfl rfl ?_
                              refine ov_iald d_297_182 (zb_96 I490) (zs_96 I490) (by omega) ?_
                              rw [show h489 96 = h 96 from E495]
                              have g507 := t96_2 I
                              have gm508 := ov_mulb (q := x8___) (b := (h 96 2)) (A := 4) (B := 30) (by omega) (by omega) (by omega) (by omega)
                              refine ov_blk (ls2 := [(0, ov_r 90), (1, ov_i x), (2, ov_i y), (3, ov_i m), (4, ov_i bo), (5, ov_i w), (6, ov_i x6___), (7, ov_i v410), (8, ov_i x8___), (9, ov_i (v410 - v482)), (10, ov_i x10___)]) (st2 := [ov_i v410, ov_i (v410 - v482), ov_i (x10___ - (x8___ * (h 96 2))), ov_i ((60 * x8___) + x10___), ov_r 110]) (pc2 := 189) b_297_183_4 rfl rfl ?_
                              refine ov_cS (as := [ov_i (x10___ - (x8___ * (h 96 2))), ov_i (v410 - v482), ov_i v410]) (st := [ov_i ((60 * x8___) + x10___), ov_r 110]) (d2 := d - 1) d_297_189 lk_Mo_446 rfl (Nat.le_of_ble_eq_true rfl) (by omega) (c_Mo_turned (d - 1) (by omega) U I490 (x10___ - (x8___ * (h 96 2))) (v410 - v482) v410 (by omega) (by omega) (by omega) (by omega) (by omega)) ?_
                              rintro _ _ _ ⟨v510, rfl, rfl, rfl, f509⟩
                              show ov_R u d ov_m297 192 [(0, ov_r 90), (1, ov_i x), (2, ov_i y), (3, ov_i m), (4, ov_i bo), (5, ov_i w), (6, ov_i x6___), (7, ov_i v410), (8, ov_i x8___), (9, ov_i (v410 - v482)), (10, ov_i x10___)] [ov_l v510, ov_i ((60 * x8___) + x10___), ov_r 110] z488 h489 (P_Mo_wave_90 F z h x y m bo w)
                              clear f509
                              refine ov_last d_297_192 (zb_110 I490) (zs_110 I490) (by omega) ?_
                              have I511 := ua_110 (k := ((60 * x8___) + x10___)) (x := v510) I490
                              refine ov_blk (ls2 := [(0, ov_r 90), (1, ov_i x), (2, ov_i y), (3, ov_i m), (4, ov_i bo), (5, ov_i w), (6, ov_i x6___), (7, ov_i v410), (8, ov_i x8___), (9, ov_i (v410 - v482)), (10, ov_i x10___)]) (st2 := [ov_r 90]) (pc2 := 194) b_297_193_1 rfl rfl ?_
                              refine ov_getf (v := ov_r 111) d_297_194 fl_Mo_135 (zb_90 I511) (zs_90 I511) (congrArg ov_r (rg_90_39 I511)) ?_
                              refine ov_blk (ls2 := [(0, ov_r 90), (1, ov_i x), (2, ov_i y), (3, ov_i m), (4, ov_i bo), (5, ov_i w), (6, ov_i x6___), (7, ov_i v410), (8, ov_i x8___), (9, ov_i (v410 - v482)), (10, ov_i x10___)]) (st2 := [ov_r 90, ov_i ((m - 1) - x8___), ov_i x10___, ov_i ((60 * x8___) + x10___), ov_r 111]) (pc2 := 214) b_297_197_12 rfl rfl ?_
                              refine ov_getf (v := ov_r 96) d_297_214 fl_Mo_81 (zb_90 I511) (zs_90 I511) (congrArg ov_r (rg_90_10 I511)) ?_
                              refine ov_blk (ls2 := [(0, ov_r 90), (1, ov_i x), (2, ov_i y), (3, ov_i m), (4, ov_i bo), (5, ov_i w), (6, ov_i x6___), (7, ov_i v410), (8, ov_i x8___), (9, ov_i (v410 - v482)), (10, ov_i x10___)]) (st2 := [ov_i 2, ov_r 96, ov_i ((m - 1) - x8___), ov_i x10___, ov_i ((60 * x8___) + x10___), ov_r 111]) (pc2 := 218) b_297_217_1 rfl rfl ?_
                              refine ov_iald d_297_218 (zb_96 I511) (zs_96 I511) (by omega) ?_
                              rw [show (ov_up h489 110 ((60 * x8___) + x10___) v510) 96 = h 96 from E495]
                              have gm513 := ov_mulb (q := ((m - 1) - x8___)) (b := (h 96 2)) (A := 4) (B := 30) (by omega) (by omega) (by omega) (by omega)
                              refine ov_blk (ls2 := [(0, ov_r 90), (1, ov_i x), (2, ov_i y), (3, ov_i m), (4, ov_i bo), (5, ov_i w), (6, ov_i x6___), (7, ov_i v410), (8, ov_i x8___), (9, ov_i (v410 - v482)), (10, ov_i x10___)]) (st2 := [ov_i v410, ov_i (v410 - v482), ov_i (x10___ - (((m - 1) - x8___) * (h 96 2))), ov_i ((60 * x8___) + x10___), ov_r 111]) (pc2 := 225) b_297_219_4 rfl rfl ?_
                              refine ov_cS (as := [ov_i (x10___ - (((m - 1) - x8___) * (h 96 2))), ov_i (v410 - v482), ov_i v410]) (st := [ov_i ((60 * x8___) + x10___), ov_r 111]) (d2 := d - 1) d_297_225 lk_Mo_446 rfl (Nat.le_of_ble_eq_true rfl) (by omega) (c_Mo_turned (d - 1) (by omega) U I511 (x10___ - (((m - 1) - x8___) * (h 96 2))) (v410 - v482) v410 (by omega) (by omega) (by omega) (by omega) (by omega)) ?_
                              rintro _ _ _ ⟨v515, rfl, rfl, rfl, f514⟩
                              show ov_R u d ov_m297 228 [(0, ov_r 90), (1, ov_i x), (2, ov_i y), (3, ov_i m), (4, ov_i bo), (5, ov_i w), (6, ov_i x6___), (7, ov_i v410), (8, ov_i x8___), (9, ov_i (v410 - v482)), (10, ov_i x10___)] [ov_l v515, ov_i ((60 * x8___) + x10___), ov_r 111] z488 (ov_up h489 110 ((60 * x8___) + x10___) v510) (P_Mo_wave_90 F z h x y m bo w)
                              clear f514
                              refine ov_last d_297_228 (zb_111 I511) (zs_111 I511) (by omega) ?_
                              have I516 := ua_111 (k := ((60 * x8___) + x10___)) (x := v515) I511
                              refine ov_blk (ls2 := [(0, ov_r 90), (1, ov_i x), (2, ov_i y), (3, ov_i m), (4, ov_i bo), (5, ov_i w), (6, ov_i x6___), (7, ov_i v410), (8, ov_i x8___), (9, ov_i (v410 - v482)), (10, ov_i (x10___ + 1))]) (st2 := []) (pc2 := 232) b_297_229_1 rfl rfl ?_
                              refine ov_goto (tgt := 154) d_297_232 (by decide) ?_
                              exact ih485 (x10___ + 1) _ _ I516 E491 E492 E493 E494 E495 E496 E497 E498 E499 E500 E501 E502 E503 E504 (by show 0 ≤ (x10___ + 1) ∧ (x10___ + 1) ≤ 60 ∧ (h489 90 2) = (h417 90 2) ∧ (h489 90 3) = (h417 90 3) ∧ (h489 90 7) = (h417 90 7) ∧ (h489 90 8) = (h417 90 8) ∧ (h489 90 13) = (h417 90 13) ∧ (h489 90 20) = (h417 90 20) ∧ (h489 90 22) = (h417 90 22) ∧ (h489 90 25) = (h417 90 25) ∧ (h489 90 26) = (h417 90 26) ∧ (h489 90 27) = (h417 90 27) ∧ (h489 90 28) = (h417 90 28) ∧ (h489 90 29) = (h417 90 29) ∧ (h489 90 30) = (h417 90 30) ∧ (h489 90 34) = (h417 90 34) ∧ (h489 90 35) = (h417 90 35) ∧ (h489 90 37) = (h417 90 37); omega) (by omega)
                        exact L487 61 0 _ _ I418 E419 E420 E421 E422 E423 E424 E425 E426 E427 E428 E429 E430 E431 E432 (by show 0 ≤ 0 ∧ 0 ≤ 60 ∧ (h417 90 2) = (h417 90 2) ∧ (h417 90 3) = (h417 90 3) ∧ (h417 90 7) = (h417 90 7) ∧ (h417 90 8) = (h417 90 8) ∧ (h417 90 13) = (h417 90 13) ∧ (h417 90 20) = (h417 90 20) ∧ (h417 90 22) = (h417 90 22) ∧ (h417 90 25) = (h417 90 25) ∧ (h417 90 26) = (h417 90 26) ∧ (h417 90 27) = (h417 90 27) ∧ (h417 90 28) = (h417 90 28) ∧ (h417 90 29) = (h417 90 29) ∧ (h417 90 30) = (h417 90 30) ∧ (h417 90 34) = (h417 90 34) ∧ (h417 90 35) = (h417 90 35) ∧ (h417 90 37) = (h417 90 37); omega) (by omega)
                  exact L415 5 0 _ _ I1 rfl rfl rfl rfl rfl rfl rfl rfl rfl rfl rfl rfl rfl rfl (by show 0 ≤ 0 ∧ 0 ≤ 4 ∧ (h 90 2) = (h 90 2) ∧ (h 90 3) = (h 90 3) ∧ (h 90 7) = (h 90 7) ∧ (h 90 8) = (h 90 8) ∧ (h 90 13) = (h 90 13) ∧ (h 90 20) = (h 90 20) ∧ (h 90 22) = (h 90 22) ∧ (h 90 25) = (h 90 25) ∧ (h 90 26) = (h 90 26) ∧ (h 90 27) = (h 90 27) ∧ (h 90 28) = (h 90 28) ∧ (h 90 29) = (h 90 29) ∧ (h 90 30) = (h 90 30) ∧ (h 90 34) = (h 90 34) ∧ (h 90 35) = (h 90 35) ∧ (h 90 37) = (h 90 37); omega) (by omega)
                · skip
                  refine ov_blk (ls2 := [(0, ov_r 90), (1, ov_i x), (2, ov_i y), (3, ov_i m), (4, ov_i bo), (5, ov_i w), (6, ov_i x6___), (7, ov_i x7___)]) (st2 := [ov_i (-1)]) (pc2 := 117) b_297_116_1 rfl rfl ?_
                  exact ov_reti (st := []) d_297_117 rfl ⟨_, rfl, I1, (by show -2147483648 ≤ (-1) ∧ (-1) ≤ 2147483647 ∧ (h 90 2) = (h 90 2) ∧ (h 90 3) = (h 90 3) ∧ (h 90 7) = (h 90 7) ∧ (h 90 8) = (h 90 8) ∧ (h 90 13) = (h 90 13) ∧ (h 90 20) = (h 90 20) ∧ (h 90 22) = (h 90 22) ∧ (h 90 25) = (h 90 25) ∧ (h 90 26) = (h 90 26) ∧ (h 90 27) = (h 90 27) ∧ (h 90 28) = (h 90 28) ∧ (h 90 29) = (h 90 29) ∧ (h 90 30) = (h 90 30) ∧ (h 90 34) = (h 90 34) ∧ (h 90 35) = (h 90 35) ∧ (h 90 37) = (h 90 37); omega), rfl, rfl, rfl, rfl, rfl, rfl, rfl, rfl, rfl, rfl, rfl, rfl, rfl, rfl⟩
              · skip
                refine ov_blk (ls2 := [(0, ov_r 90), (1, ov_i x), (2, ov_i y), (3, ov_i m), (4, ov_i bo), (5, ov_i w), (6, ov_i x6___), (7, ov_i x7___)]) (st2 := [ov_i x6___]) (pc2 := 63) b_297_61_1 rfl rfl ?_
                refine ov_ifeq (tgt := 111) d_297_63 (by decide) (by omega) (fun c517 => ?_) (fun c517 => ?_)
                · skip
                  refine ov_blk (ls2 := [(0, ov_r 90), (1, ov_i x), (2, ov_i y), (3, ov_i m), (4, ov_i bo), (5, ov_i w), (6, ov_i x6___), (7, ov_i x7___)]) (st2 := [ov_i x6___]) (pc2 := 113) b_297_111_1 rfl rfl ?_
                  refine ov_ifne (tgt := 118) d_297_113 (by decide) (by omega) (fun c518 => ?_) (fun c518 => ?_)
                  · omega
                  · skip
                    refine ov_blk (ls2 := [(0, ov_r 90), (1, ov_i x), (2, ov_i y), (3, ov_i m), (4, ov_i bo), (5, ov_i w), (6, ov_i x6___), (7, ov_i x7___)]) (st2 := [ov_i (-1)]) (pc2 := 117) b_297_116_1 rfl rfl ?_
                    exact ov_reti (st := []) d_297_117 rfl ⟨_, rfl, I1, (by show -2147483648 ≤ (-1) ∧ (-1) ≤ 2147483647 ∧ (h 90 2) = (h 90 2) ∧ (h 90 3) = (h 90 3) ∧ (h 90 7) = (h 90 7) ∧ (h 90 8) = (h 90 8) ∧ (h 90 13) = (h 90 13) ∧ (h 90 20) = (h 90 20) ∧ (h 90 22) = (h 90 22) ∧ (h 90 25) = (h 90 25) ∧ (h 90 26) = (h 90 26) ∧ (h 90 27) = (h 90 27) ∧ (h 90 28) = (h 90 28) ∧ (h 90 29) = (h 90 29) ∧ (h 90 30) = (h 90 30) ∧ (h 90 34) = (h 90 34) ∧ (h 90 35) = (h 90 35) ∧ (h 90 37) = (h 90 37); omega), rfl, rfl, rfl, rfl, rfl, rfl, rfl, rfl, rfl, rfl, rfl, rfl, rfl, rfl⟩
                · skip
                  refine ov_blk (ls2 := [(0, ov_r 90), (1, ov_i x), (2, ov_i y), (3, ov_i m), (4, ov_i bo), (5, ov_i w), (6, ov_i x6___), (7, ov_i x7___)]) (st2 := [ov_i (y + x7___), ov_i x, ov_r 90]) (pc2 := 72) b_297_66_5 rfl rfl ?_
                  refine ov_cV (as := [ov_i x, ov_i (y + x7___)]) (st := []) (d2 := d - 1) d_297_72 lk_Mo_285 rfl (Nat.le_of_ble_eq_true rfl) (c := 1) (zb_90 I1) (zs_90 I1) ⟨by decide, rfl⟩ (by omega) (c_Mo_isTimed_90 (d - 1) (by omega) U I1 x (y + x7___) (by omega) (by omega) (by omega)) ?_
                  rintro _ _ _ ⟨v520, rfl, rfl, rfl, f519⟩
                  show ov_R u d ov_m297 75 [(0, ov_r 90), (1, ov_i x), (2, ov_i y), (3, ov_i m), (4, ov_i bo), (5, ov_i w), (6, ov_i x6___), (7, ov_i x7___)] [ov_i v520] z (ov_up h 90 0 0) (P_Mo_wave_90 F z h x y m bo w)
                  have f521 : (v520 = 0 ∨ v520 = 1) ∧ (v520 = 1 → ((h 96 (10 + 4 * (6 * (y + x7___) + x))) = 1 ∨ (h 96 (10 + 4 * (6 * (y + x7___) + x))) = 2)) ∧ (v520 = 0 → ¬ ((h 96 (10 + 4 * (6 * (y + x7___) + x))) = 1 ∨ (h 96 (10 + 4 * (6 * (y + x7___) + x))) = 2)) := f519
                  clear f519
                  refine ov_ifeq (tgt := 102) d_297_75 (by decide) (by omega) (fun c522 => ?_) (fun c522 => ?_)
                  · skip
                    refine ov_blk (ls2 := [(0, ov_r 90), (1, ov_i x), (2, ov_i y), (3, ov_i m), (4, ov_i bo), (5, ov_i w), (6, ov_i 0), (7, ov_i (x7___ + 1))]) (st2 := []) (pc2 := 108) b_297_102_3 rfl rfl ?_
                    refine ov_goto (tgt := 55) d_297_108 (by decide) ?_
                    exact ih403 0 (x7___ + 1) (by show (0 = 0 ∨ 0 = 1) ∧ 0 ≤ (x7___ + 1) ∧ (x7___ + 1) ≤ 4 ∧ (0 = 1 → 0 ≤ x ∧ x ≤ 5 ∧ 0 ≤ y ∧ y ≤ 8 ∧ 2 ≤ m ∧ m ≤ 4 ∧ y + m ≤ 9 ∧ 0 ≤ w ∧ w ≤ m - 1 ∧ (1 ≤ (x7___ + 1) → ((h 96 (10 + 4 * (6 * y + x))) = 1 ∨ (h 96 (10 + 4 * (6 * y + x))) = 2))); omega) (by omega)
                  · skip
                    refine ov_blk (ls2 := [(0, ov_r 90), (1, ov_i x), (2, ov_i y), (3, ov_i m), (4, ov_i bo), (5, ov_i w), (6, ov_i x6___), (7, ov_i x7___)]) (st2 := [ov_i 1, ov_i (y + x7___), ov_i x, ov_r 90]) (pc2 := 85) b_297_78_6 rfl rfl ?_
                    refine ov_cV (as := [ov_i x, ov_i (y + x7___), ov_i 1]) (st := []) (d2 := d - 1) d_297_85 lk_Mo_289 rfl (Nat.le_of_ble_eq_true rfl) (c := 1) (zb_90 I1) (zs_90 I1) ⟨by decide, rfl⟩ (by omega) (c_Mo_lightAt_90 (d - 1) (by omega) U I1 x (y + x7___) 1 (by omega) (by omega) (by omega) (by omega) (by omega)) ?_
                    rintro _ _ _ ⟨v524, rfl, rfl, rfl, f523⟩
                    show ov_R u d ov_m297 88 [(0, ov_r 90), (1, ov_i x), (2, ov_i y), (3, ov_i m), (4, ov_i bo), (5, ov_i w), (6, ov_i x6___), (7, ov_i x7___)] [ov_i v524] z (ov_up h 90 0 0) (P_Mo_wave_90 F z h x y m bo w)
                    have f525 : v524 = (h 96 (10 + 4 * (6 * (y + x7___) + x) + (1 : Int))) ∧ ((1 : Int) = 1 → 0 ≤ v524 ∧ v524 ≤ 60) ∧ ((1 : Int) = 2 → 0 ≤ v524 ∧ v524 ≤ 59) ∧ ((1 : Int) = 3 → 0 ≤ v524 ∧ v524 ≤ 60) := f523
                    clear f523
                    refine ov_blk (ls2 := [(0, ov_r 90), (1, ov_i x), (2, ov_i y), (3, ov_i m), (4, ov_i bo), (5, ov_i w), (6, ov_i x6___), (7, ov_i x7___)]) (st2 := [ov_i 1, ov_i y, ov_i x, ov_r 90, ov_i v524]) (pc2 := 92) b_297_88_4 rfl rfl ?_
                    refine ov_cV (as := [ov_i x, ov_i y, ov_i 1]) (st := [ov_i v524]) (d2 := d - 1) d_297_92 lk_Mo_289 rfl (Nat.le_of_ble_eq_true rfl) (c := 1) (zb_90 I1) (zs_90 I1) ⟨by decide, rfl⟩ (by omega) (c_Mo_lightAt_90 (d - 1) (by omega) U I1 x y 1 (by omega) (by omega) (by omega) (by omega) (by omega)) ?_
                    rintro _ _ _ ⟨v527, rfl, rfl, rfl, f526⟩
                    show ov_R u d ov_m297 95 [(0, ov_r 90), (1, ov_i x), (2, ov_i y), (3, ov_i m), (4, ov_i bo), (5, ov_i w), (6, ov_i x6___), (7, ov_i x7___)] [ov_i v527, ov_i v524] z (ov_up h 90 0 0) (P_Mo_wave_90 F z h x y m bo w)
                    have f528 : v527 = (h 96 (10 + 4 * (6 * y + x) + (1 : Int))) ∧ ((1 : Int) = 1 → 0 ≤ v527 ∧ v527 ≤ 60) ∧ ((1 : Int) = 2 → 0 ≤ v527 ∧ v527 ≤ 59) ∧ ((1 : Int) = 3 → 0 ≤ v527 ∧ v527 ≤ 60) := f526
                    clear f526
                    refine ov_icne (tgt := 102) d_297_95 (by decide) (by omega) (by omega) (fun c529 => ?_) (fun c529 => ?_)
                    · skip
                      refine ov_blk (ls2 := [(0, ov_r 90), (1, ov_i x), (2, ov_i y), (3, ov_i m), (4, ov_i bo), (5, ov_i w), (6, ov_i 0), (7, ov_i (x7___ + 1))]) (st2 := []) (pc2 := 108) b_297_102_3 rfl rfl ?_
                      refine ov_goto (tgt := 55) d_297_108 (by decide) ?_
                      exact ih403 0 (x7___ + 1) (by show (0 = 0 ∨ 0 = 1) ∧ 0 ≤ (x7___ + 1) ∧ (x7___ + 1) ≤ 4 ∧ (0 = 1 → 0 ≤ x ∧ x ≤ 5 ∧ 0 ≤ y ∧ y ≤ 8 ∧ 2 ≤ m ∧ m ≤ 4 ∧ y + m ≤ 9 ∧ 0 ≤ w ∧ w ≤ m - 1 ∧ (1 ≤ (x7___ + 1) → ((h 96 (10 + 4 * (6 * y + x))) = 1 ∨ (h 96 (10 + 4 * (6 * y + x))) = 2))); omega) (by omega)
                    · skip
                      refine ov_blk (ls2 := [(0, ov_r 90), (1, ov_i x), (2, ov_i y), (3, ov_i m), (4, ov_i bo), (5, ov_i w), (6, ov_i x6___), (7, ov_i x7___)]) (st2 := [ov_i 1]) (pc2 := 99) b_297_98_1 rfl rfl ?_
                      refine ov_goto (tgt := 103) d_297_99 (by decide) ?_
                      refine ov_blk (ls2 := [(0, ov_r 90), (1, ov_i x), (2, ov_i y), (3, ov_i m), (4, ov_i bo), (5, ov_i w), (6, ov_i 1), (7, ov_i (x7___ + 1))]) (st2 := []) (pc2 := 108) b_297_103_2 rfl rfl ?_
                      refine ov_goto (tgt := 55) d_297_108 (by decide) ?_
                      exact ih403 1 (x7___ + 1) (by show (1 = 0 ∨ 1 = 1) ∧ 0 ≤ (x7___ + 1) ∧ (x7___ + 1) ≤ 4 ∧ (1 = 1 → 0 ≤ x ∧ x ≤ 5 ∧ 0 ≤ y ∧ y ≤ 8 ∧ 2 ≤ m ∧ m ≤ 4 ∧ y + m ≤ 9 ∧ 0 ≤ w ∧ w ≤ m - 1 ∧ (1 ≤ (x7___ + 1) → ((h 96 (10 + 4 * (6 * y + x))) = 1 ∨ (h 96 (10 + 4 * (6 * y + x))) = 2))); omega) (by omega)
          exact L405 5 0 0 (by show (0 = 0 ∨ 0 = 1) ∧ 0 ≤ 0 ∧ 0 ≤ 4 ∧ (0 = 1 → 0 ≤ x ∧ x ≤ 5 ∧ 0 ≤ y ∧ y ≤ 8 ∧ 2 ≤ m ∧ m ≤ 4 ∧ y + m ≤ 9 ∧ 0 ≤ w ∧ w ≤ m - 1 ∧ (1 ≤ 0 → ((h 96 (10 + 4 * (6 * y + x))) = 1 ∨ (h 96 (10 + 4 * (6 * y + x))) = 2))); omega) (by omega)
        · skip
          refine ov_blk (ls2 := [(0, ov_r 90), (1, ov_i x), (2, ov_i y), (3, ov_i m), (4, ov_i bo), (5, ov_i w)]) (st2 := [ov_i 1]) (pc2 := 46) b_297_45_1 rfl rfl ?_
          refine ov_goto (tgt := 50) d_297_46 (by decide) ?_
          refine ov_blk (ls2 := [(0, ov_r 90), (1, ov_i x), (2, ov_i y), (3, ov_i m), (4, ov_i bo), (5, ov_i w), (6, ov_i 1), (7, ov_i 0)]) (st2 := []) (pc2 := 55) b_297_50_3 rfl rfl ?_
          have L533 : ∀ (n530 : Nat) (x6____ : Int) (x7____ : Int) (q532 : (x6____ = 0 ∨ x6____ = 1) ∧ 0 ≤ x7____ ∧ x7____ ≤ 4 ∧ (x6____ = 1 → 0 ≤ x ∧ x ≤ 5 ∧ 0 ≤ y ∧ y ≤ 8 ∧ 2 ≤ m ∧ m ≤ 4 ∧ y + m ≤ 9 ∧ 0 ≤ w ∧ w ≤ m - 1 ∧ (1 ≤ x7____ → ((h 96 (10 + 4 * (6 * y + x))) = 1 ∨ (h 96 (10 + 4 * (6 * y + x))) = 2)))), 4 - x7____ < (n530 : Int) → ov_R u d ov_m297 55 [(0, ov_r 90), (1, ov_i x), (2, ov_i y), (3, ov_i m), (4, ov_i bo), (5, ov_i w), (6, ov_i x6____), (7, ov_i x7____)] [] z (ov_up h 90 0 0) (P_Mo_wave_90 F z h x y m bo w) := by
            intro n530
            induction n530 with
            | zero =>
              intro x6____ x7____ q532 hn534
              exact absurd hn534 (by omega)
            | succ n530 ih531 =>
              intro x6____ x7____ q532 hn534
              refine ov_blk (ls2 := [(0, ov_r 90), (1, ov_i x), (2, ov_i y), (3, ov_i m), (4, ov_i bo), (5, ov_i w), (6, ov_i x6____), (7, ov_i x7____)]) (st2 := [ov_i m, ov_i x7____]) (pc2 := 58) b_297_55_2 rfl rfl ?_
              refine ov_icge (tgt := 111) d_297_58 (by decide) (by omega) (by omega) (fun c535 => ?_) (fun c535 => ?_)
              · skip
                refine ov_blk (ls2 := [(0, ov_r 90), (1, ov_i x), (2, ov_i y), (3, ov_i m), (4, ov_i bo), (5, ov_i w), (6, ov_i x6____), (7, ov_i x7____)]) (st2 := [ov_i x6____]) (pc2 := 113) b_297_111_1 rfl rfl ?_
                refine ov_ifne (tgt := 118) d_297_113 (by decide) (by omega) (fun c536 => ?_) (fun c536 => ?_)
                · skip
                  have w1 := ov_WT_at W (c := 6 * y + x) (by omega)
                  refine ov_blk (ls2 := [(0, ov_r 90), (1, ov_i x), (2, ov_i y), (3, ov_i m), (4, ov_i bo), (5, ov_i w), (6, ov_i x6____), (7, ov_i x7____)]) (st2 := [ov_i 1, ov_i y, ov_i x, ov_r 90]) (pc2 := 122) b_297_118_4 rfl rfl ?_
                  refine ov_cV (as := [ov_i x, ov_i y, ov_i 1]) (st := []) (d2 := d - 1) d_297_122 lk_Mo_289 rfl (Nat.le_of_ble_eq_true rfl) (c := 1) (zb_90 I1) (zs_90 I1) ⟨by decide, rfl⟩ (by omega) (c_Mo_lightAt_90 (d - 1) (by omega) U I1 x y 1 (by omega) (by omega) (by omega) (by omega) (by omega)) ?_
                  rintro _ _ _ ⟨v538, rfl, rfl, rfl, f537⟩
                  show ov_R u d ov_m297 125 [(0, ov_r 90), (1, ov_i x), (2, ov_i y), (3, ov_i m), (4, ov_i bo), (5, ov_i w), (6, ov_i x6____), (7, ov_i x7____)] [ov_i v538] z (ov_up h 90 0 0) (P_Mo_wave_90 F z h x y m bo w)
                  have f539 : v538 = (h 96 (10 + 4 * (6 * y + x) + (1 : Int))) ∧ ((1 : Int) = 1 → 0 ≤ v538 ∧ v538 ≤ 60) ∧ ((1 : Int) = 2 → 0 ≤ v538 ∧ v538 ≤ 59) ∧ ((1 : Int) = 3 → 0 ≤ v538 ∧ v538 ≤ 60) := f537
                  clear f537
                  refine ov_blk (ls2 := [(0, ov_r 90), (1, ov_i x), (2, ov_i y), (3, ov_i m), (4, ov_i bo), (5, ov_i w), (6, ov_i x6____), (7, ov_i v538), (8, ov_i 0)]) (st2 := []) (pc2 := 130) b_297_125_3 rfl rfl ?_
                  have L543 : ∀ (n540 : Nat) (x8____ : Int) (z544 : ov_Z) (h545 : ov_H) (I546 : ov_N F z544 h545) (E547 : h545 92 = h 92) (E548 : h545 93 = h 93) (E549 : h545 94 = h 94) (E550 : h545 95 = h 95) (E551 : h545 96 = h 96) (E552 : h545 97 = h 97) (E553 : h545 98 = h 98) (E554 : h545 99 = h 99) (E555 : h545 100 = h 100) (E556 : h545 103 = h 103) (E557 : h545 105 = h 105) (E558 : h545 106 = h 106) (E559 : h545 109 = h 109) (E560 : h545 114 = h 114) (q542 : 0 ≤ x8____ ∧ x8____ ≤ 4 ∧ (h545 90 2) = (h 90 2) ∧ (h545 90 3) = (h 90 3) ∧ (h545 90 7) = (h 90 7) ∧ (h545 90 8) = (h 90 8) ∧ (h545 90 13) = (h 90 13) ∧ (h545 90 20) = (h 90 20) ∧ (h545 90 22) = (h 90 22) ∧ (h545 90 25) = (h 90 25) ∧ (h545 90 26) = (h 90 26) ∧ (h545 90 27) = (h 90 27) ∧ (h545 90 28) = (h 90 28) ∧ (h545 90 29) = (h 90 29) ∧ (h545 90 30) = (h 90 30) ∧ (h545 90 34) = (h 90 34) ∧ (h545 90 35) = (h 90 35) ∧ (h545 90 37) = (h 90 37)), 4 - x8____ < (n540 : Int) → ov_R u d ov_m297 130 [(0, ov_r 90), (1, ov_i x), (2, ov_i y), (3, ov_i m), (4, ov_i bo), (5, ov_i w), (6, ov_i x6____), (7, ov_i v538), (8, ov_i x8____)] [] z544 h545 (P_Mo_wave_90 F z h x y m bo w) := by
                    intro n540
                    induction n540 with
                    | zero =>
                      intro x8____ z544 h545 I546 E547 E548 E549 E550 E551 E552 E553 E554 E555 E556 E557 E558 E559 E560 q542 hn561
                      exact absurd hn561 (by omega)
                    | succ n540 ih541 =>
                      intro x8____ z544 h545 I546 E547 E548 E549 E550 E551 E552 E553 E554 E555 E556 E557 E558 E559 E560 q542 hn561
                      refine ov_blk (ls2 := [(0, ov_r 90), (1, ov_i x), (2, ov_i y), (3, ov_i m), (4, ov_i bo), (5, ov_i w), (6, ov_i x6____), (7, ov_i v538), (8, ov_i x8____)]) (st2 := [ov_i m, ov_i x8____]) (pc2 := 133) b_297_130_2 rfl rfl ?_
                      refine ov_icge (tgt := 241) d_297_133 (by decide) (by omega) (by omega) (fun c562 => ?_) (fun c562 => ?_)
                      · skip
                        refine ov_blk (ls2 := [(0, ov_r 90), (1, ov_i x), (2, ov_i y), (3, ov_i m), (4, ov_i bo), (5, ov_i w), (6, ov_i x6____), (7, ov_i v538), (8, ov_i x8____)]) (st2 := [ov_i (-1), ov_r 90]) (pc2 := 243) b_297_241_2 rfl rfl ?_
                        refine ov_putf (x := (-1)) d_297_243 fl_Mo_439 (zb_90 I546) (zs_90 I546) rfl nk_0 rfl ?_
                        have I563 := up_90_42 (x := (-1)) I546 (by omega)
                        refine ov_blk (ls2 := [(0, ov_r 90), (1, ov_i x), (2, ov_i y), (3, ov_i m), (4, ov_i bo), (5, ov_i w), (6, ov_i x6____), (7, ov_i v538), (8, ov_i x8____)]) (st2 := [ov_i 2, ov_i y, ov_i x, ov_r 90]) (pc2 := 250) b_297_246_4 rfl rfl ?_
                        refine ov_cV (as := [ov_i x, ov_i y, ov_i 2]) (st := []) (d2 := d - 1) d_297_250 lk_Mo_289 rfl (Nat.le_of_ble_eq_true rfl) (c := 1) (zb_90 I563) (zs_90 I563) ⟨by decide, rfl⟩ (by omega) (c_Mo_lightAt_90 (d - 1) (by omega) U I563 x y 2 (by omega) (by omega) (by omega) (by omega) (by omega)) ?_
                        rintro _ _ _ ⟨v565, rfl, rfl, rfl, f564⟩
                        show ov_R u d ov_m297 253 [(0, ov_r 90), (1, ov_i x), (2, ov_i y), (3, ov_i m), (4, ov_i bo), (5, ov_i w), (6, ov_i x6____), (7, ov_i v538), (8, ov_i x8____)] [ov_i v565] z544 (ov_up h545 90 42 (-1)) (P_Mo_wave_90 F z h x y m bo w)
                        rw [show (ov_up h545 90 42 (-1)) 96 = h 96 from E551] at f564
                        have f566 : v565 = (h 96 (10 + 4 * (6 * y + x) + (2 : Int))) ∧ ((2 : Int) = 1 → 0 ≤ v565 ∧ v565 ≤ 60) ∧ ((2 : Int) = 2 → 0 ≤ v565 ∧ v565 ≤ 59) ∧ ((2 : Int) = 3 → 0 ≤ v565 ∧ v565 ≤ 60) := f564
                        clear f564
                        refine ov_blk (ls2 := [(0, ov_r 90), (1, ov_i x), (2, ov_i y), (3, ov_i m), (4, ov_i bo), (5, ov_i w), (6, ov_i x6____), (7, ov_i v538), (8, ov_i x8____)]) (st2 := [ov_i 3, ov_i y, ov_i x, ov_r 90, ov_i v565]) (pc2 := 257) b_297_253_4 rfl rfl ?_
                        refine ov_cV (as := [ov_i x, ov_i y, ov_i 3]) (st := [ov_i v565]) (d2 := d - 1) d_297_257 lk_Mo_289 rfl (Nat.le_of_ble_eq_true rfl) (c := 1) (zb_90 I563) (zs_90 I563) ⟨by decide, rfl⟩ (by omega) (c_Mo_lightAt_90 (d - 1) (by omega) U I563 x y 3 (by omega) (by omega) (by omega) (by omega) (by omega)) ?_
                        rintro _ _ _ ⟨v568, rfl, rfl, rfl, f567⟩
                        show ov_R u d ov_m297 260 [(0, ov_r 90), (1, ov_i x), (2, ov_i y), (3, ov_i m), (4, ov_i bo), (5, ov_i w), (6, ov_i x6____), (7, ov_i v538), (8, ov_i x8____)] [ov_i v568, ov_i v565] z544 (ov_up h545 90 42 (-1)) (P_Mo_wave_90 F z h x y m bo w)
                        rw [show (ov_up h545 90 42 (-1)) 96 = h 96 from E551] at f567
                        have f569 : v568 = (h 96 (10 + 4 * (6 * y + x) + (3 : Int))) ∧ ((3 : Int) = 1 → 0 ≤ v568 ∧ v568 ≤ 60) ∧ ((3 : Int) = 2 → 0 ≤ v568 ∧ v568 ≤ 59) ∧ ((3 : Int) = 3 → 0 ≤ v568 ∧ v568 ≤ 60) := f567
                        clear f567
                        refine ov_blk (ls2 := [(0, ov_r 90), (1, ov_i x), (2, ov_i y), (3, ov_i m), (4, ov_i bo), (5, ov_i w), (6, ov_i x6____), (7, ov_i v538), (8, ov_i x8____)]) (st2 := [ov_i v538, ov_i (v565 + v568)]) (pc2 := 263) b_297_260_2 rfl rfl ?_
                        refine ov_irem d_297_263 (by omega) (by omega) (by omega) ?_
                        have g570 := ov_tmg (a := (v565 + v568)) (b := v538) (by omega) (by omega)
                        refine ov_havw (fun w571 gw571 qw571 => ?_)
                        refine ov_blk (ls2 := [(0, ov_r 90), (1, ov_i x), (2, ov_i y), (3, ov_i m), (4, ov_i bo), (5, ov_i w), (6, ov_i x6____), (7, ov_i v538), (8, ov_i w571)]) (st2 := [ov_r 90]) (pc2 := 267) b_297_264_2 rfl rfl ?_
                        refine ov_getf (v := ov_r 112) d_297_267 fl_Mo_138 (zb_90 I563) (zs_90 I563) (congrArg ov_r (rg_90_40 I563)) ?_
                        refine ov_blk (ls2 := [(0, ov_r 90), (1, ov_i x), (2, ov_i y), (3, ov_i m), (4, ov_i bo), (5, ov_i w), (6, ov_i x6____), (7, ov_i v538), (8, ov_i w571)]) (st2 := [ov_i w571, ov_i 0, ov_r 112]) (pc2 := 273) b_297_270_2 rfl rfl ?_
                        refine ov_iast d_297_273 (zb_112 I563) (zs_112 I563) (by omega) ?_
                        have I572 := ua_112 (k := 0) (x := w571) I563 (by omega)
                        refine ov_blk (ls2 := [(0, ov_r 90), (1, ov_i x), (2, ov_i y), (3, ov_i m), (4, ov_i bo), (5, ov_i w), (6, ov_i x6____), (7, ov_i v538), (8, ov_i w571)]) (st2 := [ov_r 90, ov_i v538, ov_i m, ov_i 1, ov_r 90]) (pc2 := 280) b_297_274_5 rfl rfl ?_
                        refine ov_getf (v := ov_r 110) d_297_280 fl_Mo_132 (zb_90 I572) (zs_90 I572) (congrArg ov_r (rg_90_38 I572)) ?_
                        refine ov_blk (ls2 := [(0, ov_r 90), (1, ov_i x), (2, ov_i y), (3, ov_i m), (4, ov_i bo), (5, ov_i w), (6, ov_i x6____), (7, ov_i v538), (8, ov_i w571)]) (st2 := [ov_i w571, ov_r 110, ov_i v538, ov_i m, ov_i 1, ov_r 90]) (pc2 := 285) b_297_283_1 rfl rfl ?_
                        refine ov_lald d_297_285 (zb_110 I572) (zs_110 I572) (by omega) ?_
                        show ov_R u d ov_m297 286 [(0, ov_r 90), (1, ov_i x), (2, ov_i y), (3, ov_i m), (4, ov_i bo), (5, ov_i w), (6, ov_i x6____), (7, ov_i v538), (8, ov_i w571)] [ov_l (h545 110 w571), ov_i v538, ov_i m, ov_i 1, ov_r 90] z544 (ov_up (ov_up h545 90 42 (-1)) 112 0 w571) (P_Mo_wave_90 F z h x y m bo w)
                        refine ov_blk (ls2 := [(0, ov_r 90), (1, ov_i x), (2, ov_i y), (3, ov_i m), (4, ov_i bo), (5, ov_i w), (6, ov_i x6____), (7, ov_i v538), (8, ov_i w571)]) (st2 := [ov_r 90, ov_l (h545 110 w571), ov_i v538, ov_i m, ov_i 1, ov_r 90]) (pc2 := 287) b_297_286_1 rfl rfl ?_
                        refine ov_getf (v := ov_r 111) d_297_287 fl_Mo_135 (zb_90 I572) (zs_90 I572) (congrArg ov_r (rg_90_39 I572)) ?_
                        refine ov_blk (ls2 := [(0, ov_r 90), (1, ov_i x), (2, ov_i y), (3, ov_i m), (4, ov_i bo), (5, ov_i w), (6, ov_i x6____), (7, ov_i v538), (8, ov_i w571)]) (st2 := [ov_i w571, ov_r 111, ov_l (h545 110 w571), ov_i v538, ov_i m, ov_i 1, ov_r 90]) (pc2 := 292) b_297_290_1 rfl rfl ?_
                        refine ov_lald d_297_292 (zb_111 I572) (zs_111 I572) (by omega) ?_
                        show ov_R u d ov_m297 293 [(0, ov_r 90), (1, ov_i x), (2, ov_i y), (3, ov_i m), (4, ov_i bo), (5, ov_i w), (6, ov_i x6____), (7, ov_i v538), (8, ov_i w571)] [ov_l (h545 111 w571), ov_l (h545 110 w571), ov_i v538, ov_i m, ov_i 1, ov_r 90] z544 (ov_up (ov_up h545 90 42 (-1)) 112 0 w571) (P_Mo_wave_90 F z h x y m bo w)
                        refine ov_blk (ls2 := [(0, ov_r 90), (1, ov_i x), (2, ov_i y), (3, ov_i m), (4, ov_i bo), (5, ov_i w), (6, ov_i x6____), (7, ov_i v538), (8, ov_i w571)]) (st2 := [ov_i bo, ov_l (h545 111 w571), ov_l (h545 110 w571), ov_i v538, ov_i m, ov_i 1, ov_r 90]) (pc2 := 295) b_297_293_1 rfl rfl ?_
                        refine ov_cV (as := [ov_i 1, ov_i m, ov_i v538, ov_l (h545 110 w571), ov_l (h545 111 w571), ov_i bo]) (st := []) (d2 := d - 1) d_297_295 lk_Mo_442 rfl (Nat.le_of_ble_eq_true rfl) (c := 1) (zb_90 I572) (zs_90 I572) ⟨by decide, rfl⟩ (by omega) (c_Mo_triesWave_90_all (Int.toNat ((m) - (1))) (d - 1) (by omega) U I572 1 m v538 (h545 110 w571) (h545 111 w571) bo (by omega) (by omega) (by omega) (by omega) (by omega) (by omega) (by omega)) ?_
                        rintro _ z588 h589 ⟨rfl, I590, f573, e574, e575, e576, e577, e578, e579, e580, e581, e582, e583, e584, e585, e586, e587⟩
                        have E591 : h589 92 = h 92 := Eq.trans e574 E547
                        have E592 : h589 93 = h 93 := Eq.trans e575 E548
                        have E593 : h589 94 = h 94 := Eq.trans e576 E549
                        have E594 : h589 95 = h 95 := Eq.trans e577 E550
                        have E595 : h589 96 = h 96 := Eq.trans e578 E551
                        have E596 : h589 97 = h 97 := Eq.trans e579 E552
                        have E597 : h589 98 = h 98 := Eq.trans e580 E553
                        have E598 : h589 99 = h 99 := Eq.trans e581 E554
                        have E599 : h589 100 = h 100 := Eq.trans e582 E555
                        have E600 : h589 103 = h 103 := Eq.trans e583 E556
                        have E601 : h589 105 = h 105 := Eq.trans e584 E557
                        have E602 : h589 106 = h 106 := Eq.trans e585 E558
                        have E603 : h589 109 = h 109 := Eq.trans e586 E559
                        have E604 : h589 114 = h 114 := Eq.trans e587 E560
                        show ov_R u d ov_m297 298 [(0, ov_r 90), (1, ov_i x), (2, ov_i y), (3, ov_i m), (4, ov_i bo), (5, ov_i w), (6, ov_i x6____), (7, ov_i v538), (8, ov_i w571)] [] z588 h589 (P_Mo_wave_90 F z h x y m bo w)
                        have f605 : (h589 90 2) = (h545 90 2) ∧ (h589 90 3) = (h545 90 3) ∧ (h589 90 7) = (h545 90 7) ∧ (h589 90 8) = (h545 90 8) ∧ (h589 90 13) = (h545 90 13) ∧ (h589 90 20) = (h545 90 20) ∧ (h589 90 22) = (h545 90 22) ∧ (h589 90 25) = (h545 90 25) ∧ (h589 90 26) = (h545 90 26) ∧ (h589 90 27) = (h545 90 27) ∧ (h589 90 28) = (h545 90 28) ∧ (h589 90 29) = (h545 90 29) ∧ (h589 90 30) = (h545 90 30) ∧ (h589 90 34) = (h545 90 34) ∧ (h589 90 35) = (h545 90 35) ∧ (h589 90 37) = (h545 90 37) := f573
                        clear f573
                        refine ov_blk (ls2 := [(0, ov_r 90), (1, ov_i x), (2, ov_i y), (3, ov_i m), (4, ov_i bo), (5, ov_i w), (6, ov_i x6____), (7, ov_i v538), (8, ov_i w571)]) (st2 := [ov_i w]) (pc2 := 300) b_297_298_1 rfl rfl ?_
                        refine ov_ifne (tgt := 310) d_297_300 (by decide) (by omega) (fun c606 => ?_) (fun c606 => ?_)
                        · skip
                          refine ov_blk (ls2 := [(0, ov_r 90), (1, ov_i x), (2, ov_i y), (3, ov_i m), (4, ov_i bo), (5, ov_i w), (6, ov_i x6____), (7, ov_i v538), (8, ov_i w571)]) (st2 := [ov_r 90]) (pc2 := 311) b_297_310_1 rfl rfl ?_
                          refine ov_getf (v := ov_r 113) d_297_311 fl_Mo_141 (zb_90 I590) (zs_90 I590) (congrArg ov_r (rg_90_41 I590)) ?_
                          refine ov_blk (ls2 := [(0, ov_r 90), (1, ov_i x), (2, ov_i y), (3, ov_i m), (4, ov_i bo), (5, ov_i w), (6, ov_i x6____), (7, ov_i v538), (8, ov_i w571)]) (st2 := [ov_i w, ov_r 113]) (pc2 := 316) b_297_314_1 rfl rfl ?_
                          refine ov_iald d_297_316 (zb_113 I590) (zs_113 I590) (by omega) ?_
                          have g607 := ra_113 I590 w
                          exact ov_reti (st := []) d_297_317 rfl ⟨_, rfl, I590, (by show -2147483648 ≤ (h589 113 w) ∧ (h589 113 w) ≤ 2147483647 ∧ (h589 90 2) = (h 90 2) ∧ (h589 90 3) = (h 90 3) ∧ (h589 90 7) = (h 90 7) ∧ (h589 90 8) = (h 90 8) ∧ (h589 90 13) = (h 90 13) ∧ (h589 90 20) = (h 90 20) ∧ (h589 90 22) = (h 90 22) ∧ (h589 90 25) = (h 90 25) ∧ (h589 90 26) = (h 90 26) ∧ (h589 90 27) = (h 90 27) ∧ (h589 90 28) = (h 90 28) ∧ (h589 90 29) = (h 90 29) ∧ (h589 90 30) = (h 90 30) ∧ (h589 90 34) = (h 90 34) ∧ (h589 90 35) = (h 90 35) ∧ (h589 90 37) = (h 90 37); omega), E591, E592, E593, E594, E595, E596, E597, E598, E599, E600, E601, E602, E603, E604⟩
                        · skip
                          refine ov_blk (ls2 := [(0, ov_r 90), (1, ov_i x), (2, ov_i y), (3, ov_i m), (4, ov_i bo), (5, ov_i w), (6, ov_i x6____), (7, ov_i v538), (8, ov_i w571)]) (st2 := [ov_r 90]) (pc2 := 304) b_297_303_1 rfl rfl ?_
                          refine ov_getf (v := ov_i (h589 90 42)) d_297_304 fl_Mo_439 (zb_90 I590) (zs_90 I590) rfl ?_
                          have g608 := rg_90_42 I590
                          refine ov_goto (tgt := 317) d_297_307 (by decide) ?_
                          exact ov_reti (st := []) d_297_317 rfl ⟨_, rfl, I590, (by show -2147483648 ≤ (h589 90 42) ∧ (h589 90 42) ≤ 2147483647 ∧ (h589 90 2) = (h 90 2) ∧ (h589 90 3) = (h 90 3) ∧ (h589 90 7) = (h 90 7) ∧ (h589 90 8) = (h 90 8) ∧ (h589 90 13) = (h 90 13) ∧ (h589 90 20) = (h 90 20) ∧ (h589 90 22) = (h 90 22) ∧ (h589 90 25) = (h 90 25) ∧ (h589 90 26) = (h 90 26) ∧ (h589 90 27) = (h 90 27) ∧ (h589 90 28) = (h 90 28) ∧ (h589 90 29) = (h 90 29) ∧ (h589 90 30) = (h 90 30) ∧ (h589 90 34) = (h 90 34) ∧ (h589 90 35) = (h 90 35) ∧ (h589 90 37) = (h 90 37); omega), E591, E592, E593, E594, E595, E596, E597, E598, E599, E600, E601, E602, E603, E604⟩
                      · skip
                        refine ov_blk (ls2 := [(0, ov_r 90), (1, ov_i x), (2, ov_i y), (3, ov_i m), (4, ov_i bo), (5, ov_i w), (6, ov_i x6____), (7, ov_i v538), (8, ov_i x8____)]) (st2 := [ov_i 3, ov_i (y + x8____), ov_i x, ov_r 90, ov_i v538]) (pc2 := 145) b_297_136_7 rfl rfl ?_
                        refine ov_cV (as := [ov_i x, ov_i (y + x8____), ov_i 3]) (st := [ov_i v538]) (d2 := d - 1) d_297_145 lk_Mo_289 rfl (Nat.le_of_ble_eq_true rfl) (c := 1) (zb_90 I546) (zs_90 I546) ⟨by decide, rfl⟩ (by omega) (c_Mo_lightAt_90 (d - 1) (by omega) U I546 x (y + x8____) 3 (by omega) (by omega) (by omega) (by omega) (by omega)) ?_
                        rintro _ _ _ ⟨v610, rfl, rfl, rfl, f609⟩
                        show ov_R u d ov_m297 148 [(0, ov_r 90), (1, ov_i x), (2, ov_i y), (3, ov_i m), (4, ov_i bo), (5, ov_i w), (6, ov_i x6____), (7, ov_i v538), (8, ov_i x8____)] [ov_i v610, ov_i v538] z544 h545 (P_Mo_wave_90 F z h x y m bo w)
                        rw [show h545 96 = h 96 from E551] at f609
                        have f611 : v610 = (h 96 (10 + 4 * (6 * (y + x8____) + x) + (3 : Int))) ∧ ((3 : Int) = 1 → 0 ≤ v610 ∧ v610 ≤ 60) ∧ ((3 : Int) = 2 → 0 ≤ v610 ∧ v610 ≤ 59) ∧ ((3 : Int) = 3 → 0 ≤ v610 ∧ v610 ≤ 60) := f609
                        clear f609
                        refine ov_blk (ls2 := [(0, ov_r 90), (1, ov_i x), (2, ov_i y), (3, ov_i m), (4, ov_i bo), (5, ov_i w), (6, ov_i x6____), (7, ov_i v538), (8, ov_i x8____), (9, ov_i (v538 - v610)), (10, ov_i 0)]) (st2 := []) (pc2 := 154) b_297_148_4 rfl rfl ?_
                        have L615 : ∀ (n612 : Nat) (x10____ : Int) (z616 : ov_Z) (h617 : ov_H) (I618 : ov_N F z616 h617) (E619 : h617 92 = h 92) (E620 : h617 93 = h 93) (E621 : h617 94 = h 94) (E622 : h617 95 = h 95) (E623 : h617 96 = h 96) (E624 : h617 97 = h 97) (E625 : h617 98 = h 98) (E626 : h617 99 = h 99) (E627 : h617 100 = h 100) (E628 : h617 103 = h 103) (E629 : h617 105 = h 105) (E630 : h617 106 = h 106) (E631 : h617 109 = h 109) (E632 : h617 114 = h 114) (q614 : 0 ≤ x10____ ∧ x10____ ≤ 60 ∧ (h617 90 2) = (h545 90 2) ∧ (h617 90 3) = (h545 90 3) ∧ (h617 90 7) = (h545 90 7) ∧ (h617 90 8) = (h545 90 8) ∧ (h617 90 13) = (h545 90 13) ∧ (h617 90 20) = (h545 90 20) ∧ (h617 90 22) = (h545 90 22) ∧ (h617 90 25) = (h545 90 25) ∧ (h617 90 26) = (h545 90 26) ∧ (h617 90 27) = (h545 90 27) ∧ (h617 90 28) = (h545 90 28) ∧ (h617 90 29) = (h545 90 29) ∧ (h617 90 30) = (h545 90 30) ∧ (h617 90 34) = (h545 90 34) ∧ (h617 90 35) = (h545 90 35) ∧ (h617 90 37) = (h545 90 37)), 60 - x10____ < (n612 : Int) → ov_R u d ov_m297 154 [(0, ov_r 90), (1, ov_i x), (2, ov_i y), (3, ov_i m), (4, ov_i bo), (5, ov_i w), (6, ov_i x6____), (7, ov_i v538), (8, ov_i x8____), (9, ov_i (v538 - v610)), (10, ov_i x10____)] [] z616 h617 (P_Mo_wave_90 F z h x y m bo w) := by
                          intro n612
                          induction n612 with
                          | zero =>
                            intro x10____ z616 h617 I618 E619 E620 E621 E622 E623 E624 E625 E626 E627 E628 E629 E630 E631 E632 q614 hn633
                            exact absurd hn633 (by omega)
                          | succ n612 ih613 =>
                            intro x10____ z616 h617 I618 E619 E620 E621 E622 E623 E624 E625 E626 E627 E628 E629 E630 E631 E632 q614 hn633
                            refine ov_blk (ls2 := [(0, ov_r 90), (1, ov_i x), (2, ov_i y), (3, ov_i m), (4, ov_i bo), (5, ov_i w), (6, ov_i x6____), (7, ov_i v538), (8, ov_i x8____), (9, ov_i (v538 - v610)), (10, ov_i x10____)]) (st2 := [ov_i v538, ov_i x10____]) (pc2 := 158) b_297_154_2 rfl rfl ?_
                            refine ov_icge (tgt := 235) d_297_158 (by decide) (by omega) (by omega) (fun c634 => ?_) (fun c634 => ?_)
                            · skip
                              refine ov_blk (ls2 := [(0, ov_r 90), (1, ov_i x), (2, ov_i y), (3, ov_i m), (4, ov_i bo), (5, ov_i w), (6, ov_i x6____), (7, ov_i v538), (8, ov_i (x8____ + 1)), (9, ov_i (v538 - v610)), (10, ov_i x10____)]) (st2 := []) (pc2 := 238) b_297_235_1 rfl rfl ?_
                              refine ov_goto (tgt := 130) d_297_238 (by decide) ?_
                              refine ov_sub (ls2 := [(0, ov_r 90), (1, ov_i x), (2, ov_i y), (3, ov_i m), (4, ov_i bo), (5, ov_i w), (6, ov_i x6____), (7, ov_i v538), (8, ov_i (x8____ + 1))]) (List.Sublist.subset (by repeat (first | exact List.Sublist.refl _ | apply List.Sublist.cons_cons | apply List.Sublist.cons))) ?_
                              exact ih541 (x8____ + 1) _ _ I618 E619 E620 E621 E622 E623 E624 E625 E626 E627 E628 E629 E630 E631 E632 (by show 0 ≤ (x8____ + 1) ∧ (x8____ + 1) ≤ 4 ∧ (h617 90 2) = (h 90 2) ∧ (h617 90 3) = (h 90 3) ∧ (h617 90 7) = (h 90 7) ∧ (h617 90 8) = (h 90 8) ∧ (h617 90 13) = (h 90 13) ∧ (h617 90 20) = (h 90 20) ∧ (h617 90 22) = (h 90 22) ∧ (h617 90 25) = (h 90 25) ∧ (h617 90 26) = (h 90 26) ∧ (h617 90 27) = (h 90 27) ∧ (h617 90 28) = (h 90 28) ∧ (h617 90 29) = (h 90 29) ∧ (h617 90 30) = (h 90 30) ∧ (h617 90 34) = (h 90 34) ∧ (h617 90 35) = (h 90 35) ∧ (h617 90 37) = (h 90 37); omega) (by omega)
                            · skip
                              refine ov_blk (ls2 := [(0, ov_r 90), (1, ov_i x), (2, ov_i y), (3, ov_i m), (4, ov_i bo), (5, ov_i w), (6, ov_i x6____), (7, ov_i v538), (8, ov_i x8____), (9, ov_i (v538 - v610)), (10, ov_i x10____)]) (st2 := [ov_r 90]) (pc2 := 162) b_297_161_1 rfl rfl ?_
                              refine ov_getf (v := ov_r 110) d_297_162 fl_Mo_132 (zb_90 I618) (zs_90 I618) (congrArg ov_r (rg_90_38 I618)) ?_
                              refine ov_blk (ls2 := [(0, ov_r 90), (1, ov_i x), (2, ov_i y), (3, ov_i m), (4, ov_i bo), (5, ov_i w), (6, ov_i x6____), (7, ov_i v538), (8, ov_i x8____), (9, ov_i (v538 - v610)), (10, ov_i x10____)]) (st2 := [ov_r 90, ov_i x8____, ov_i x10____, ov_i ((60 * x8____) + x10____), ov_r 110]) (pc2 := 178) b_297_165_8 rfl rfl ?_
                              refine ov_getf (v := ov_r 96) d_297_178 fl_Mo_81 (zb_90 I618) (zs_90 I618) (congrArg ov_r (rg_90_10 I618)) ?_
                              refine ov_blk (ls2 := [(0, ov_r 90), (1, ov_i x), (2, ov_i y), (3, ov_i m), (4, ov_i bo), (5, ov_i w), (6, ov_i x6____), (7, ov_i v538), (8, ov_i x8____), (9, ov_i (v538 - v610)), (10, ov_i x10____)]) (st2 := [ov_i 2, ov_r 96, ov_i x8____, ov_i x10____, ov_i ((60 * x8____) + x10____), ov_r 110]) (pc2 := 182) b_297_181_1 rfl rfl ?_
                              refine ov_iald d_297_182 (zb_96 I618) (zs_96 I618) (by omega) ?_
                              rw [show h617 96 = h 96 from E623]
                              have g635 := t96_2 I
                              have gm636 := ov_mulb (q := x8____) (b := (h 96 2)) (A := 4) (B := 30) (by omega) (by omega) (by omega) (by omega)
                              refine ov_blk (ls2 := [(0, ov_r 90), (1, ov_i x), (2, ov_i y), (3, ov_i m), (4, ov_i bo), (5, ov_i w), (6, ov_i x6____), (7, ov_i v538), (8, ov_i x8____), (9, ov_i (v538 - v610)), (10, ov_i x10____)]) (st2 := [ov_i v538, ov_i (v538 - v610), ov_i (x10____ - (x8____ * (h 96 2))), ov_i ((60 * x8____) + x10____), ov_r 110]) (pc2 := 189) b_297_183_4 rfl rfl ?_
                              refine ov_cS (as := [ov_i (x10____ - (x8____ * (h 96 2))), ov_i (v538 - v610), ov_i v538]) (st := [ov_i ((60 * x8____) + x10____), ov_r 110]) (d2 := d - 1) d_297_189 lk_Mo_446 rfl (Nat.le_of_ble_eq_true rfl) (by omega) (c_Mo_turned (d - 1) (by omega) U I618 (x10____ - (x8____ * (h 96 2))) (v538 - v610) v538 (by omega) (by omega) (by omega) (by omega) (by omega)) ?_
                              rintro _ _ _ ⟨v638, rfl, rfl, rfl, f637⟩
                              show ov_R u d ov_m297 192 [(0, ov_r 90), (1, ov_i x), (2, ov_i y), (3, ov_i m), (4, ov_i bo), (5, ov_i w), (6, ov_i x6____), (7, ov_i v538), (8, ov_i x8____), (9, ov_i (v538 - v610)), (10, ov_i x10____)] [ov_l v638, ov_i ((60 * x8____) + x10____), ov_r 110] z616 h617 (P_Mo_wave_90 F z h x y m bo w)
                              clear f637
                              refine ov_last d_297_192 (zb_110 I618) (zs_110 I618) (by omega) ?_
                              have I639 := ua_110 (k := ((60 * x8____) + x10____)) (x := v638) I618
                              refine ov_blk (ls2 := [(0, ov_r 90), (1, ov_i x), (2, ov_i y), (3, ov_i m), (4, ov_i bo), (5, ov_i w), (6, ov_i x6____), (7, ov_i v538), (8, ov_i x8____), (9, ov_i (v538 - v610)), (10, ov_i x10____)]) (st2 := [ov_r 90]) (pc2 := 194) b_297_193_1 rfl rfl ?_
                              refine ov_getf (v := ov_r 111) d_297_194 fl_Mo_135 (zb_90 I639) (zs_90 I639) (congrArg ov_r (rg_90_39 I639)) ?_
                              refine ov_blk (ls2 := [(0, ov_r 90), (1, ov_i x), (2, ov_i y), (3, ov_i m), (4, ov_i bo), (5, ov_i w), (6, ov_i x6____), (7, ov_i v538), (8, ov_i x8____), (9, ov_i (v538 - v610)), (10, ov_i x10____)]) (st2 := [ov_r 90, ov_i ((m - 1) - x8____), ov_i x10____, ov_i ((60 * x8____) + x10____), ov_r 111]) (pc2 := 214) b_297_197_12 rfl rfl ?_
                              refine ov_getf (v := ov_r 96) d_297_214 fl_Mo_81 (zb_90 I639) (zs_90 I639) (congrArg ov_r (rg_90_10 I639)) ?_
                              refine ov_blk (ls2 := [(0, ov_r 90), (1, ov_i x), (2, ov_i y), (3, ov_i m), (4, ov_i bo), (5, ov_i w), (6, ov_i x6____), (7, ov_i v538), (8, ov_i x8____), (9, ov_i (v538 - v610)), (10, ov_i x10____)]) (st2 := [ov_i 2, ov_r 96, ov_i ((m - 1) - x8____), ov_i x10____, ov_i ((60 * x8____) + x10____), ov_r 111]) (pc2 := 218) b_297_217_1 rfl rfl ?_
                              refine ov_iald d_297_218 (zb_96 I639) (zs_96 I639) (by omega) ?_
                              rw [show (ov_up h617 110 ((60 * x8____) + x10____) v638) 96 = h 96 from E623]
                              have gm641 := ov_mulb (q := ((m - 1) - x8____)) (b := (h 96 2)) (A := 4) (B := 30) (by omega) (by omega) (by omega) (by omega)
                              refine ov_blk (ls2 := [(0, ov_r 90), (1, ov_i x), (2, ov_i y), (3, ov_i m), (4, ov_i bo), (5, ov_i w), (6, ov_i x6____), (7, ov_i v538), (8, ov_i x8____), (9, ov_i (v538 - v610)), (10, ov_i x10____)]) (st2 := [ov_i v538, ov_i (v538 - v610), ov_i (x10____ - (((m - 1) - x8____) * (h 96 2))), ov_i ((60 * x8____) + x10____), ov_r 111]) (pc2 := 225) b_297_219_4 rfl rfl ?_
                              refine ov_cS (as := [ov_i (x10____ - (((m - 1) - x8____) * (h 96 2))), ov_i (v538 - v610), ov_i v538]) (st := [ov_i ((60 * x8____) + x10____), ov_r 111]) (d2 := d - 1) d_297_225 lk_Mo_446 rfl (Nat.le_of_ble_eq_true rfl) (by omega) (c_Mo_turned (d - 1) (by omega) U I639 (x10____ - (((m - 1) - x8____) * (h 96 2))) (v538 - v610) v538 (by omega) (by omega) (by omega) (by omega) (by omega)) ?_
                              rintro _ _ _ ⟨v643, rfl, rfl, rfl, f642⟩
                              show ov_R u d ov_m297 228 [(0, ov_r 90), (1, ov_i x), (2, ov_i y), (3, ov_i m), (4, ov_i bo), (5, ov_i w), (6, ov_i x6____), (7, ov_i v538), (8, ov_i x8____), (9, ov_i (v538 - v610)), (10, ov_i x10____)] [ov_l v643, ov_i ((60 * x8____) + x10____), ov_r 111] z616 (ov_up h617 110 ((60 * x8____) + x10____) v638) (P_Mo_wave_90 F z h x y m bo w)
                              clear f642
                              refine ov_last d_297_228 (zb_111 I639) (zs_111 I639) (by omega) ?_
                              have I644 := ua_111 (k := ((60 * x8____) + x10____)) (x := v643) I639
                              refine ov_blk (ls2 := [(0, ov_r 90), (1, ov_i x), (2, ov_i y), (3, ov_i m), (4, ov_i bo), (5, ov_i w), (6, ov_i x6____), (7, ov_i v538), (8, ov_i x8____), (9, ov_i (v538 - v610)), (10, ov_i (x10____ + 1))]) (st2 := []) (pc2 := 232) b_297_229_1 rfl rfl ?_
                              refine ov_goto (tgt := 154) d_297_232 (by decide) ?_
                              exact ih613 (x10____ + 1) _ _ I644 E619 E620 E621 E622 E623 E624 E625 E626 E627 E628 E629 E630 E631 E632 (by show 0 ≤ (x10____ + 1) ∧ (x10____ + 1) ≤ 60 ∧ (h617 90 2) = (h545 90 2) ∧ (h617 90 3) = (h545 90 3) ∧ (h617 90 7) = (h545 90 7) ∧ (h617 90 8) = (h545 90 8) ∧ (h617 90 13) = (h545 90 13) ∧ (h617 90 20) = (h545 90 20) ∧ (h617 90 22) = (h545 90 22) ∧ (h617 90 25) = (h545 90 25) ∧ (h617 90 26) = (h545 90 26) ∧ (h617 90 27) = (h545 90 27) ∧ (h617 90 28) = (h545 90 28) ∧ (h617 90 29) = (h545 90 29) ∧ (h617 90 30) = (h545 90 30) ∧ (h617 90 34) = (h545 90 34) ∧ (h617 90 35) = (h545 90 35) ∧ (h617 90 37) = (h545 90 37); omega) (by omega)
                        exact L615 61 0 _ _ I546 E547 E548 E549 E550 E551 E552 E553 E554 E555 E556 E557 E558 E559 E560 (by show 0 ≤ 0 ∧ 0 ≤ 60 ∧ (h545 90 2) = (h545 90 2) ∧ (h545 90 3) = (h545 90 3) ∧ (h545 90 7) = (h545 90 7) ∧ (h545 90 8) = (h545 90 8) ∧ (h545 90 13) = (h545 90 13) ∧ (h545 90 20) = (h545 90 20) ∧ (h545 90 22) = (h545 90 22) ∧ (h545 90 25) = (h545 90 25) ∧ (h545 90 26) = (h545 90 26) ∧ (h545 90 27) = (h545 90 27) ∧ (h545 90 28) = (h545 90 28) ∧ (h545 90 29) = (h545 90 29) ∧ (h545 90 30) = (h545 90 30) ∧ (h545 90 34) = (h545 90 34) ∧ (h545 90 35) = (h545 90 35) ∧ (h545 90 37) = (h545 90 37); omega) (by omega)
                  exact L543 5 0 _ _ I1 rfl rfl rfl rfl rfl rfl rfl rfl rfl rfl rfl rfl rfl rfl (by show 0 ≤ 0 ∧ 0 ≤ 4 ∧ (h 90 2) = (h 90 2) ∧ (h 90 3) = (h 90 3) ∧ (h 90 7) = (h 90 7) ∧ (h 90 8) = (h 90 8) ∧ (h 90 13) = (h 90 13) ∧ (h 90 20) = (h 90 20) ∧ (h 90 22) = (h 90 22) ∧ (h 90 25) = (h 90 25) ∧ (h 90 26) = (h 90 26) ∧ (h 90 27) = (h 90 27) ∧ (h 90 28) = (h 90 28) ∧ (h 90 29) = (h 90 29) ∧ (h 90 30) = (h 90 30) ∧ (h 90 34) = (h 90 34) ∧ (h 90 35) = (h 90 35) ∧ (h 90 37) = (h 90 37); omega) (by omega)
                · skip
                  refine ov_blk (ls2 := [(0, ov_r 90), (1, ov_i x), (2, ov_i y), (3, ov_i m), (4, ov_i bo), (5, ov_i w), (6, ov_i x6____), (7, ov_i x7____)]) (st2 := [ov_i (-1)]) (pc2 := 117) b_297_116_1 rfl rfl ?_
                  exact ov_reti (st := []) d_297_117 rfl ⟨_, rfl, I1, (by show -2147483648 ≤ (-1) ∧ (-1) ≤ 2147483647 ∧ (h 90 2) = (h 90 2) ∧ (h 90 3) = (h 90 3) ∧ (h 90 7) = (h 90 7) ∧ (h 90 8) = (h 90 8) ∧ (h 90 13) = (h 90 13) ∧ (h 90 20) = (h 90 20) ∧ (h 90 22) = (h 90 22) ∧ (h 90 25) = (h 90 25) ∧ (h 90 26) = (h 90 26) ∧ (h 90 27) = (h 90 27) ∧ (h 90 28) = (h 90 28) ∧ (h 90 29) = (h 90 29) ∧ (h 90 30) = (h 90 30) ∧ (h 90 34) = (h 90 34) ∧ (h 90 35) = (h 90 35) ∧ (h 90 37) = (h 90 37); omega), rfl, rfl, rfl, rfl, rfl, rfl, rfl, rfl, rfl, rfl, rfl, rfl, rfl, rfl⟩
              · skip
                refine ov_blk (ls2 := [(0, ov_r 90), (1, ov_i x), (2, ov_i y), (3, ov_i m), (4, ov_i bo), (5, ov_i w), (6, ov_i x6____), (7, ov_i x7____)]) (st2 := [ov_i x6____]) (pc2 := 63) b_297_61_1 rfl rfl ?_
                refine ov_ifeq (tgt := 111) d_297_63 (by decide) (by omega) (fun c645 => ?_) (fun c645 => ?_)
                · skip
                  refine ov_blk (ls2 := [(0, ov_r 90), (1, ov_i x), (2, ov_i y), (3, ov_i m), (4, ov_i bo), (5, ov_i w), (6, ov_i x6____), (7, ov_i x7____)]) (st2 := [ov_i x6____]) (pc2 := 113) b_297_111_1 rfl rfl ?_
                  refine ov_ifne (tgt := 118) d_297_113 (by decide) (by omega) (fun c646 => ?_) (fun c646 => ?_)
                  · omega
                  · skip
                    refine ov_blk (ls2 := [(0, ov_r 90), (1, ov_i x), (2, ov_i y), (3, ov_i m), (4, ov_i bo), (5, ov_i w), (6, ov_i x6____), (7, ov_i x7____)]) (st2 := [ov_i (-1)]) (pc2 := 117) b_297_116_1 rfl rfl ?_
                    exact ov_reti (st := []) d_297_117 rfl ⟨_, rfl, I1, (by show -2147483648 ≤ (-1) ∧ (-1) ≤ 2147483647 ∧ (h 90 2) = (h 90 2) ∧ (h 90 3) = (h 90 3) ∧ (h 90 7) = (h 90 7) ∧ (h 90 8) = (h 90 8) ∧ (h 90 13) = (h 90 13) ∧ (h 90 20) = (h 90 20) ∧ (h 90 22) = (h 90 22) ∧ (h 90 25) = (h 90 25) ∧ (h 90 26) = (h 90 26) ∧ (h 90 27) = (h 90 27) ∧ (h 90 28) = (h 90 28) ∧ (h 90 29) = (h 90 29) ∧ (h 90 30) = (h 90 30) ∧ (h 90 34) = (h 90 34) ∧ (h 90 35) = (h 90 35) ∧ (h 90 37) = (h 90 37); omega), rfl, rfl, rfl, rfl, rfl, rfl, rfl, rfl, rfl, rfl, rfl, rfl, rfl, rfl⟩
                · skip
                  refine ov_blk (ls2 := [(0, ov_r 90), (1, ov_i x), (2, ov_i y), (3, ov_i m), (4, ov_i bo), (5, ov_i w), (6, ov_i x6____), (7, ov_i x7____)]) (st2 := [ov_i (y + x7____), ov_i x, ov_r 90]) (pc2 := 72) b_297_66_5 rfl rfl ?_
                  refine ov_cV (as := [ov_i x, ov_i (y + x7____)]) (st := []) (d2 := d - 1) d_297_72 lk_Mo_285 rfl (Nat.le_of_ble_eq_true rfl) (c := 1) (zb_90 I1) (zs_90 I1) ⟨by decide, rfl⟩ (by omega) (c_Mo_isTimed_90 (d - 1) (by omega) U I1 x (y + x7____) (by omega) (by omega) (by omega)) ?_
                  rintro _ _ _ ⟨v648, rfl, rfl, rfl, f647⟩
                  show ov_R u d ov_m297 75 [(0, ov_r 90), (1, ov_i x), (2, ov_i y), (3, ov_i m), (4, ov_i bo), (5, ov_i w), (6, ov_i x6____), (7, ov_i x7____)] [ov_i v648] z (ov_up h 90 0 0) (P_Mo_wave_90 F z h x y m bo w)
                  have f649 : (v648 = 0 ∨ v648 = 1) ∧ (v648 = 1 → ((h 96 (10 + 4 * (6 * (y + x7____) + x))) = 1 ∨ (h 96 (10 + 4 * (6 * (y + x7____) + x))) = 2)) ∧ (v648 = 0 → ¬ ((h 96 (10 + 4 * (6 * (y + x7____) + x))) = 1 ∨ (h 96 (10 + 4 * (6 * (y + x7____) + x))) = 2)) := f647
                  clear f647
                  refine ov_ifeq (tgt := 102) d_297_75 (by decide) (by omega) (fun c650 => ?_) (fun c650 => ?_)
                  · skip
                    refine ov_blk (ls2 := [(0, ov_r 90), (1, ov_i x), (2, ov_i y), (3, ov_i m), (4, ov_i bo), (5, ov_i w), (6, ov_i 0), (7, ov_i (x7____ + 1))]) (st2 := []) (pc2 := 108) b_297_102_3 rfl rfl ?_
                    refine ov_goto (tgt := 55) d_297_108 (by decide) ?_
                    exact ih531 0 (x7____ + 1) (by show (0 = 0 ∨ 0 = 1) ∧ 0 ≤ (x7____ + 1) ∧ (x7____ + 1) ≤ 4 ∧ (0 = 1 → 0 ≤ x ∧ x ≤ 5 ∧ 0 ≤ y ∧ y ≤ 8 ∧ 2 ≤ m ∧ m ≤ 4 ∧ y + m ≤ 9 ∧ 0 ≤ w ∧ w ≤ m - 1 ∧ (1 ≤ (x7____ + 1) → ((h 96 (10 + 4 * (6 * y + x))) = 1 ∨ (h 96 (10 + 4 * (6 * y + x))) = 2))); omega) (by omega)
                  · skip
                    refine ov_blk (ls2 := [(0, ov_r 90), (1, ov_i x), (2, ov_i y), (3, ov_i m), (4, ov_i bo), (5, ov_i w), (6, ov_i x6____), (7, ov_i x7____)]) (st2 := [ov_i 1, ov_i (y + x7____), ov_i x, ov_r 90]) (pc2 := 85) b_297_78_6 rfl rfl ?_
                    refine ov_cV (as := [ov_i x, ov_i (y + x7____), ov_i 1]) (st := []) (d2 := d - 1) d_297_85 lk_Mo_289 rfl (Nat.le_of_ble_eq_true rfl) (c := 1) (zb_90 I1) (zs_90 I1) ⟨by decide, rfl⟩ (by omega) (c_Mo_lightAt_90 (d - 1) (by omega) U I1 x (y + x7____) 1 (by omega) (by omega) (by omega) (by omega) (by omega)) ?_
                    rintro _ _ _ ⟨v652, rfl, rfl, rfl, f651⟩
                    show ov_R u d ov_m297 88 [(0, ov_r 90), (1, ov_i x), (2, ov_i y), (3, ov_i m), (4, ov_i bo), (5, ov_i w), (6, ov_i x6____), (7, ov_i x7____)] [ov_i v652] z (ov_up h 90 0 0) (P_Mo_wave_90 F z h x y m bo w)
                    have f653 : v652 = (h 96 (10 + 4 * (6 * (y + x7____) + x) + (1 : Int))) ∧ ((1 : Int) = 1 → 0 ≤ v652 ∧ v652 ≤ 60) ∧ ((1 : Int) = 2 → 0 ≤ v652 ∧ v652 ≤ 59) ∧ ((1 : Int) = 3 → 0 ≤ v652 ∧ v652 ≤ 60) := f651
                    clear f651
                    refine ov_blk (ls2 := [(0, ov_r 90), (1, ov_i x), (2, ov_i y), (3, ov_i m), (4, ov_i bo), (5, ov_i w), (6, ov_i x6____), (7, ov_i x7____)]) (st2 := [ov_i 1, ov_i y, ov_i x, ov_r 90, ov_i v652]) (pc2 := 92) b_297_88_4 rfl rfl ?_
                    refine ov_cV (as := [ov_i x, ov_i y, ov_i 1]) (st := [ov_i v652]) (d2 := d - 1) d_297_92 lk_Mo_289 rfl (Nat.le_of_ble_eq_true rfl) (c := 1) (zb_90 I1) (zs_90 I1) ⟨by decide, rfl⟩ (by omega) (c_Mo_lightAt_90 (d - 1) (by omega) U I1 x y 1 (by omega) (by omega) (by omega) (by omega) (by omega)) ?_
                    rintro _ _ _ ⟨v655, rfl, rfl, rfl, f654⟩
                    show ov_R u d ov_m297 95 [(0, ov_r 90), (1, ov_i x), (2, ov_i y), (3, ov_i m), (4, ov_i bo), (5, ov_i w), (6, ov_i x6____), (7, ov_i x7____)] [ov_i v655, ov_i v652] z (ov_up h 90 0 0) (P_Mo_wave_90 F z h x y m bo w)
                    have f656 : v655 = (h 96 (10 + 4 * (6 * y + x) + (1 : Int))) ∧ ((1 : Int) = 1 → 0 ≤ v655 ∧ v655 ≤ 60) ∧ ((1 : Int) = 2 → 0 ≤ v655 ∧ v655 ≤ 59) ∧ ((1 : Int) = 3 → 0 ≤ v655 ∧ v655 ≤ 60) := f654
                    clear f654
                    refine ov_icne (tgt := 102) d_297_95 (by decide) (by omega) (by omega) (fun c657 => ?_) (fun c657 => ?_)
                    · skip
                      refine ov_blk (ls2 := [(0, ov_r 90), (1, ov_i x), (2, ov_i y), (3, ov_i m), (4, ov_i bo), (5, ov_i w), (6, ov_i 0), (7, ov_i (x7____ + 1))]) (st2 := []) (pc2 := 108) b_297_102_3 rfl rfl ?_
                      refine ov_goto (tgt := 55) d_297_108 (by decide) ?_
                      exact ih531 0 (x7____ + 1) (by show (0 = 0 ∨ 0 = 1) ∧ 0 ≤ (x7____ + 1) ∧ (x7____ + 1) ≤ 4 ∧ (0 = 1 → 0 ≤ x ∧ x ≤ 5 ∧ 0 ≤ y ∧ y ≤ 8 ∧ 2 ≤ m ∧ m ≤ 4 ∧ y + m ≤ 9 ∧ 0 ≤ w ∧ w ≤ m - 1 ∧ (1 ≤ (x7____ + 1) → ((h 96 (10 + 4 * (6 * y + x))) = 1 ∨ (h 96 (10 + 4 * (6 * y + x))) = 2))); omega) (by omega)
                    · skip
                      refine ov_blk (ls2 := [(0, ov_r 90), (1, ov_i x), (2, ov_i y), (3, ov_i m), (4, ov_i bo), (5, ov_i w), (6, ov_i x6____), (7, ov_i x7____)]) (st2 := [ov_i 1]) (pc2 := 99) b_297_98_1 rfl rfl ?_
                      refine ov_goto (tgt := 103) d_297_99 (by decide) ?_
                      refine ov_blk (ls2 := [(0, ov_r 90), (1, ov_i x), (2, ov_i y), (3, ov_i m), (4, ov_i bo), (5, ov_i w), (6, ov_i 1), (7, ov_i (x7____ + 1))]) (st2 := []) (pc2 := 108) b_297_103_2 rfl rfl ?_
                      refine ov_goto (tgt := 55) d_297_108 (by decide) ?_
                      exact ih531 1 (x7____ + 1) (by show (1 = 0 ∨ 1 = 1) ∧ 0 ≤ (x7____ + 1) ∧ (x7____ + 1) ≤ 4 ∧ (1 = 1 → 0 ≤ x ∧ x ≤ 5 ∧ 0 ≤ y ∧ y ≤ 8 ∧ 2 ≤ m ∧ m ≤ 4 ∧ y + m ≤ 9 ∧ 0 ≤ w ∧ w ≤ m - 1 ∧ (1 ≤ (x7____ + 1) → ((h 96 (10 + 4 * (6 * y + x))) = 1 ∨ (h 96 (10 + 4 * (6 * y + x))) = 2))); omega) (by omega)
          exact L533 5 1 0 (by show (1 = 0 ∨ 1 = 1) ∧ 0 ≤ 0 ∧ 0 ≤ 4 ∧ (1 = 1 → 0 ≤ x ∧ x ≤ 5 ∧ 0 ≤ y ∧ y ≤ 8 ∧ 2 ≤ m ∧ m ≤ 4 ∧ y + m ≤ 9 ∧ 0 ≤ w ∧ w ≤ m - 1 ∧ (1 ≤ 0 → ((h 96 (10 + 4 * (6 * y + x))) = 1 ∨ (h 96 (10 + 4 * (6 * y + x))) = 2))); omega) (by omega)

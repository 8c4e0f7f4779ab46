abbrev P_Mo_wave_90 (F : ov_H × ov_Z) (z : ov_Z) (h : ov_H) (x : Int) (y : Int) (m : Int) (bo : Int) (w : Int) : Option ov_V → ov_Z → ov_H → Prop := fun r0 z' h' => ∃ r : Int, r0 = some (ov_i r) ∧ ov_N F z' h' ∧ ((h' 90 2) = (h 90 2) ∧ (h' 90 7) = (h 90 7) ∧ (h' 90 8) = (h 90 8) ∧ (h' 90 13) = (h 90 13) ∧ (h' 90 20) = (h 90 20) ∧ (h' 90 22) = (h 90 22) ∧ (h' 90 25) = (h 90 25) ∧ (h' 90 26) = (h 90 26) ∧ (h' 90 28) = (h 90 28) ∧ (h' 90 29) = (h 90 29) ∧ (h' 90 30) = (h 90 30) ∧ (h' 90 34) = (h 90 34) ∧ -2147483648 ≤ r ∧ r ≤ 2147483647) ∧ h' 92 = h 92 ∧ h' 93 = h 93 ∧ h' 94 = h 94 ∧ h' 95 = h 95 ∧ h' 96 = h 96 ∧ h' 97 = h 97 ∧ h' 98 = h 98 ∧ h' 99 = h 99 ∧ h' 100 = h 100 ∧ h' 103 = h 103 ∧ h' 105 = h 105 ∧ h' 106 = h 106 ∧ h' 109 = h 109 ∧ h' 114 = h 114
set_option maxHeartbeats 4000000 in
theorem c_Mo_wave_90 {u : ov_U} {F : ov_H × ov_Z} {z : ov_Z} {h : ov_H} (d : Nat) (hd : 40 ≤ d) (U : ov_cap u) (I : ov_N F z h) (x : Int) (y : Int) (m : Int) (bo : Int) (w : Int) (g_x : ov_g x) (g_y : ov_g y) (g_m : ov_g m) (g_bo : bo = 0 ∨ bo = 1) (g_w : ov_g w) (W : ov_WT (h 96)) : ov_T u d ov_m297 [ov_r 90, ov_i x, ov_i y, ov_i m, ov_i bo, ov_i w] z h (P_Mo_wave_90 F z h x y m bo w) := by
  refine ov_en rfl (Nat.le_of_ble_eq_true rfl) ?_
  show ov_R u d ov_m297 0 [(0, ov_r 90), (1, ov_i x), (2, ov_i y), (3, ov_i m), (4, ov_i bo), (5, ov_i w)] [] z h (P_Mo_wave_90 F z h x y m bo w)
  have t0 := t96_0 I
  have t1 := t96_1 I
  refine ov_blk (ls2 := [(0, ov_r 90), (1, ov_i x), (2, ov_i y), (3, ov_i m), (4, ov_i bo), (5, ov_i w)]) (st2 := [ov_i 0, ov_r 90]) (pc2 := 2) b_297_0_2 rfl rfl ?_
  refine ov_putf (x := 0) d_297_2 fl_Mo_1 (zb_90 I) (zs_90 I) rfl nk_0 rfl ?_
  have I1 := up_90_0 (x := 0) I (by omega)
  refine ov_blk (ls2 := [(0, ov_r 90), (1, ov_i x), (2, ov_i y), (3, ov_i m), (4, ov_i bo), (5, ov_i w)]) (st2 := [ov_i y, ov_i x, ov_r 90]) (pc2 := 8) b_297_5_3 rfl rfl ?_
  refine ov_cV (as := [ov_i x, ov_i y]) (st := []) (d2 := d - 1) d_297_8 lk_Mo_296 rfl (Nat.le_of_ble_eq_true rfl) (c := 1) (zb_90 I1) (zs_90 I1) ⟨by decide, rfl⟩ (by omega) (c_Mo_isCorner_90 (d - 1) (by omega) U I1 x y (by omega) (by omega)) ?_
  rintro _ _ _ ⟨v3, rfl, rfl, rfl, f2⟩
  show ov_R u d ov_m297 11 [(0, ov_r 90), (1, ov_i x), (2, ov_i y), (3, ov_i m), (4, ov_i bo), (5, ov_i w)] [ov_i v3] z (ov_up h 90 0 0) (P_Mo_wave_90 F z h x y m bo w)
  have f4 : (v3 = 0 ∨ v3 = 1) ∧ (v3 = 1 → 0 ≤ x ∧ x ≤ 5 ∧ 0 ≤ y ∧ y ≤ 8 ∧ x < (h 96 0) ∧ y < (h 96 1)) := f2
  clear f2
  refine ov_ifeq (tgt := 49) d_297_11 (by decide) (by omega) (fun c5 => ?_) (fun c5 => ?_)
  · skip
    have f4_ : v3 = 0 := by omega
    clear f4
    refine ov_blk (ls2 := [(0, ov_r 90), (1, ov_i x), (2, ov_i y), (3, ov_i m), (4, ov_i bo), (5, ov_i w), (6, ov_i 0), (7, ov_i 0)]) (st2 := []) (pc2 := 55) b_297_49_4 rfl rfl ?_
    have L9 : ∀ (n6 : Nat) (x6 : Int) (x7 : Int) (q8 : (x6 = 0 ∨ x6 = 1) ∧ 0 ≤ x7 ∧ x7 ≤ 4 ∧ (x6 = 1 → 0 ≤ x ∧ x ≤ 5 ∧ 0 ≤ y ∧ y ≤ 8 ∧ 2 ≤ m ∧ m ≤ 4 ∧ y + m ≤ 9 ∧ 0 ≤ w ∧ w ≤ m - 1 ∧ (1 ≤ x7 → ((h 96 (10 + 4 * (6 * y + x))) = 1 ∨ (h 96 (10 + 4 * (6 * y + x))) = 2)))), 4 - x7 < (n6 : Int) → ov_R u d ov_m297 55 [(0, ov_r 90), (1, ov_i x), (2, ov_i y), (3, ov_i m), (4, ov_i bo), (5, ov_i w), (6, ov_i x6), (7, ov_i x7)] [] z (ov_up h 90 0 0) (P_Mo_wave_90 F z h x y m bo w) := by
      intro n6
      induction n6 with
      | zero =>
        intro x6 x7 q8 hn10
        exact absurd hn10 (by omega)
      | succ n6 ih7 =>
        intro x6 x7 q8 hn10
        refine ov_blk (ls2 := [(0, ov_r 90), (1, ov_i x), (2, ov_i y), (3, ov_i m), (4, ov_i bo), (5, ov_i w), (6, ov_i x6), (7, ov_i x7)]) (st2 := [ov_i m, ov_i x7]) (pc2 := 58) b_297_55_2 rfl rfl ?_
        refine ov_icge (tgt := 111) d_297_58 (by decide) (by omega) (by omega) (fun c11 => ?_) (fun c11 => ?_)
        · skip
          refine ov_blk (ls2 := [(0, ov_r 90), (1, ov_i x), (2, ov_i y), (3, ov_i m), (4, ov_i bo), (5, ov_i w), (6, ov_i x6), (7, ov_i x7)]) (st2 := [ov_i x6]) (pc2 := 113) b_297_111_1 rfl rfl ?_
          refine ov_ifne (tgt := 118) d_297_113 (by decide) (by omega) (fun c12 => ?_) (fun c12 => ?_)
          · skip
            have w1 := ov_WT_at W (c := 6 * y + x) (by omega)
            refine ov_blk (ls2 := [(0, ov_r 90), (1, ov_i x), (2, ov_i y), (3, ov_i m), (4, ov_i bo), (5, ov_i w), (6, ov_i x6), (7, ov_i x7)]) (st2 := [ov_i 1, ov_i y, ov_i x, ov_r 90]) (pc2 := 122) b_297_118_4 rfl rfl ?_
            refine ov_cV (as := [ov_i x, ov_i y, ov_i 1]) (st := []) (d2 := d - 1) d_297_122 lk_Mo_289 rfl (Nat.le_of_ble_eq_true rfl) (c := 1) (zb_90 I1) (zs_90 I1) ⟨by decide, rfl⟩ (by omega) (c_Mo_lightAt_90 (d - 1) (by omega) U I1 x y 1 (by omega) (by omega) (by omega) (by omega) (by omega)) ?_
            rintro _ _ _ ⟨v14, rfl, rfl, rfl, f13⟩
            show ov_R u d ov_m297 125 [(0, ov_r 90), (1, ov_i x), (2, ov_i y), (3, ov_i m), (4, ov_i bo), (5, ov_i w), (6, ov_i x6), (7, ov_i x7)] [ov_i v14] z (ov_up h 90 0 0) (P_Mo_wave_90 F z h x y m bo w)
            have f15 : v14 = (h 96 (10 + 4 * (6 * y + x) + (1 : Int))) ∧ ((1 : Int) = 1 → 0 ≤ v14 ∧ v14 ≤ 60) ∧ ((1 : Int) = 2 → 0 ≤ v14 ∧ v14 ≤ 59) ∧ ((1 : Int) = 3 → 0 ≤ v14 ∧ v14 ≤ 60) := f13
            clear f13
            refine ov_blk (ls2 := [(0, ov_r 90), (1, ov_i x), (2, ov_i y), (3, ov_i m), (4, ov_i bo), (5, ov_i w), (6, ov_i x6), (7, ov_i v14), (8, ov_i 0)]) (st2 := []) (pc2 := 130) b_297_125_3 rfl rfl ?_
            have L19 : ∀ (n16 : Nat) (x8 : Int) (z20 : ov_Z) (h21 : ov_H) (I22 : ov_N F z20 h21) (E23 : h21 92 = h 92) (E24 : h21 93 = h 93) (E25 : h21 94 = h 94) (E26 : h21 95 = h 95) (E27 : h21 96 = h 96) (E28 : h21 97 = h 97) (E29 : h21 98 = h 98) (E30 : h21 99 = h 99) (E31 : h21 100 = h 100) (E32 : h21 103 = h 103) (E33 : h21 105 = h 105) (E34 : h21 106 = h 106) (E35 : h21 109 = h 109) (E36 : h21 114 = h 114) (q18 : 0 ≤ x8 ∧ x8 ≤ 4 ∧ (h21 90 2) = (h 90 2) ∧ (h21 90 7) = (h 90 7) ∧ (h21 90 8) = (h 90 8) ∧ (h21 90 13) = (h 90 13) ∧ (h21 90 20) = (h 90 20) ∧ (h21 90 22) = (h 90 22) ∧ (h21 90 25) = (h 90 25) ∧ (h21 90 26) = (h 90 26) ∧ (h21 90 28) = (h 90 28) ∧ (h21 90 29) = (h 90 29) ∧ (h21 90 30) = (h 90 30) ∧ (h21 90 34) = (h 90 34)), 4 - x8 < (n16 : Int) → ov_R u d ov_m297 130 [(0, ov_r 90), (1, ov_i x), (2, ov_i y), (3, ov_i m), (4, ov_i bo), (5, ov_i w), (6, ov_i x6), (7, ov_i v14), (8, ov_i x8)] [] z20 h21 (P_Mo_wave_90 F z h x y m bo w) := by
              intro n16
              induction n16 with
              | zero =>
                intro x8 z20 h21 I22 E23 E24 E25 E26 E27 E28 E29 E30 E31 E32 E33 E34 E35 E36 q18 hn37
                exact absurd hn37 (by omega)
              | succ n16 ih17 =>
                intro x8 z20 h21 I22 E23 E24 E25 E26 E27 E28 E29 E30 E31 E32 E33 E34 E35 E36 q18 hn37
                refine ov_blk (ls2 := [(0, ov_r 90), (1, ov_i x), (2, ov_i y), (3, ov_i m), (4, ov_i bo), (5, ov_i w), (6, ov_i x6), (7, ov_i v14), (8, ov_i x8)]) (st2 := [ov_i m, ov_i x8]) (pc2 := 133) b_297_130_2 rfl rfl ?_
                refine ov_icge (tgt := 241) d_297_133 (by decide) (by omega) (by omega) (fun c38 => ?_) (fun c38 => ?_)
                · skip
                  refine ov_blk (ls2 := [(0, ov_r 90), (1, ov_i x), (2, ov_i y), (3, ov_i m), (4, ov_i bo), (5, ov_i w), (6, ov_i x6), (7, ov_i v14), (8, ov_i x8)]) (st2 := [ov_i (-1), ov_r 90]) (pc2 := 243) b_297_241_2 rfl rfl ?_
                  refine ov_putf (x := (-1)) d_297_243 fl_Mo_439 (zb_90 I22) (zs_90 I22) rfl nk_0 rfl ?_
                  have I39 := up_90_42 (x := (-1)) I22 (by omega)
                  refine ov_blk (ls2 := [(0, ov_r 90), (1, ov_i x), (2, ov_i y), (3, ov_i m), (4, ov_i bo), (5, ov_i w), (6, ov_i x6), (7, ov_i v14), (8, ov_i x8)]) (st2 := [ov_i 2, ov_i y, ov_i x, ov_r 90]) (pc2 := 250) b_297_246_4 rfl rfl ?_
                  refine ov_cV (as := [ov_i x, ov_i y, ov_i 2]) (st := []) (d2 := d - 1) d_297_250 lk_Mo_289 rfl (Nat.le_of_ble_eq_true rfl) (c := 1) (zb_90 I39) (zs_90 I39) ⟨by decide, rfl⟩ (by omega) (c_Mo_lightAt_90 (d - 1) (by omega) U I39 x y 2 (by omega) (by omega) (by omega) (by omega) (by omega)) ?_
                  rintro _ _ _ ⟨v41, rfl, rfl, rfl, f40⟩
                  show ov_R u d ov_m297 253 [(0, ov_r 90), (1, ov_i x), (2, ov_i y), (3, ov_i m), (4, ov_i bo), (5, ov_i w), (6, ov_i x6), (7, ov_i v14), (8, ov_i x8)] [ov_i v41] z20 (ov_up h21 90 42 (-1)) (P_Mo_wave_90 F z h x y m bo w)
                  rw [show (ov_up h21 90 42 (-1)) 96 = h 96 from E27] at f40
                  have f42 : v41 = (h 96 (10 + 4 * (6 * y + x) + (2 : Int))) ∧ ((2 : Int) = 1 → 0 ≤ v41 ∧ v41 ≤ 60) ∧ ((2 : Int) = 2 → 0 ≤ v41 ∧ v41 ≤ 59) ∧ ((2 : Int) = 3 → 0 ≤ v41 ∧ v41 ≤ 60) := f40
                  clear f40
                  refine ov_blk (ls2 := [(0, ov_r 90), (1, ov_i x), (2, ov_i y), (3, ov_i m), (4, ov_i bo), (5, ov_i w), (6, ov_i x6), (7, ov_i v14), (8, ov_i x8)]) (st2 := [ov_i 3, ov_i y, ov_i x, ov_r 90, ov_i v41]) (pc2 := 257) b_297_253_4 rfl rfl ?_
                  refine ov_cV (as := [ov_i x, ov_i y, ov_i 3]) (st := [ov_i v41]) (d2 := d - 1) d_297_257 lk_Mo_289 rfl (Nat.le_of_ble_eq_true rfl) (c := 1) (zb_90 I39) (zs_90 I39) ⟨by decide, rfl⟩ (by omega) (c_Mo_lightAt_90 (d - 1) (by omega) U I39 x y 3 (by omega) (by omega) (by omega) (by omega) (by omega)) ?_
                  rintro _ _ _ ⟨v44, rfl, rfl, rfl, f43⟩
                  show ov_R u d ov_m297 260 [(0, ov_r 90), (1, ov_i x), (2, ov_i y), (3, ov_i m), (4, ov_i bo), (5, ov_i w), (6, ov_i x6), (7, ov_i v14), (8, ov_i x8)] [ov_i v44, ov_i v41] z20 (ov_up h21 90 42 (-1)) (P_Mo_wave_90 F z h x y m bo w)
                  rw [show (ov_up h21 90 42 (-1)) 96 = h 96 from E27] at f43
                  have f45 : v44 = (h 96 (10 + 4 * (6 * y + x) + (3 : Int))) ∧ ((3 : Int) = 1 → 0 ≤ v44 ∧ v44 ≤ 60) ∧ ((3 : Int) = 2 → 0 ≤ v44 ∧ v44 ≤ 59) ∧ ((3 : Int) = 3 → 0 ≤ v44 ∧ v44 ≤ 60) := f43
                  clear f43
                  refine ov_blk (ls2 := [(0, ov_r 90), (1, ov_i x), (2, ov_i y), (3, ov_i m), (4, ov_i bo), (5, ov_i w), (6, ov_i x6), (7, ov_i v14), (8, ov_i x8)]) (st2 := [ov_i v14, ov_i (v41 + v44)]) (pc2 := 263) b_297_260_2 rfl rfl ?_
                  refine ov_irem d_297_263 (by omega) (by omega) (by omega) ?_
                  have g46 := ov_tmg (a := (v41 + v44)) (b := v14) (by omega) (by omega)
                  refine ov_havw (fun w47 gw47 qw47 => ?_)
                  refine ov_blk (ls2 := [(0, ov_r 90), (1, ov_i x), (2, ov_i y), (3, ov_i m), (4, ov_i bo), (5, ov_i w), (6, ov_i x6), (7, ov_i v14), (8, ov_i w47)]) (st2 := [ov_r 90]) (pc2 := 267) b_297_264_2 rfl rfl ?_
                  refine ov_getf (v := ov_r 112) d_297_267 fl_Mo_138 (zb_90 I39) (zs_90 I39) (congrArg ov_r (rg_90_40 I39)) ?_
                  refine ov_blk (ls2 := [(0, ov_r 90), (1, ov_i x), (2, ov_i y), (3, ov_i m), (4, ov_i bo), (5, ov_i w), (6, ov_i x6), (7, ov_i v14), (8, ov_i w47)]) (st2 := [ov_i w47, ov_i 0, ov_r 112]) (pc2 := 273) b_297_270_2 rfl rfl ?_
                  refine ov_iast d_297_273 (zb_112 I39) (zs_112 I39) (by omega) ?_
                  have I48 := ua_112 (k := 0) (x := w47) I39 (by omega)
                  refine ov_blk (ls2 := [(0, ov_r 90), (1, ov_i x), (2, ov_i y), (3, ov_i m), (4, ov_i bo), (5, ov_i w), (6, ov_i x6), (7, ov_i v14), (8, ov_i w47)]) (st2 := [ov_r 90, ov_i v14, ov_i m, ov_i 1, ov_r 90]) (pc2 := 280) b_297_274_5 rfl rfl ?_
                  refine ov_getf (v := ov_r 110) d_297_280 fl_Mo_132 (zb_90 I48) (zs_90 I48) (congrArg ov_r (rg_90_38 I48)) ?_
                  refine ov_blk (ls2 := [(0, ov_r 90), (1, ov_i x), (2, ov_i y), (3, ov_i m), (4, ov_i bo), (5, ov_i w), (6, ov_i x6), (7, ov_i v14), (8, ov_i w47)]) (st2 := [ov_i w47, ov_r 110, ov_i v14, ov_i m, ov_i 1, ov_r 90]) (pc2 := 285) b_297_283_1 rfl rfl ?_
                  refine ov_lald d_297_285 (zb_110 I48) (zs_110 I48) (by omega) ?_
                  show ov_R u d ov_m297 286 [(0, ov_r 90), (1, ov_i x), (2, ov_i y), (3, ov_i m), (4, ov_i bo), (5, ov_i w), (6, ov_i x6), (7, ov_i v14), (8, ov_i w47)] [ov_l (h21 110 w47), ov_i v14, ov_i m, ov_i 1, ov_r 90] z20 (ov_up (ov_up h21 90 42 (-1)) 112 0 w47) (P_Mo_wave_90 F z h x y m bo w)
                  refine ov_blk (ls2 := [(0, ov_r 90), (1, ov_i x), (2, ov_i y), (3, ov_i m), (4, ov_i bo), (5, ov_i w), (6, ov_i x6), (7, ov_i v14), (8, ov_i w47)]) (st2 := [ov_r 90, ov_l (h21 110 w47), ov_i v14, ov_i m, ov_i 1, ov_r 90]) (pc2 := 287) b_297_286_1 rfl rfl ?_
                  refine ov_getf (v := ov_r 111) d_297_287 fl_Mo_135 (zb_90 I48) (zs_90 I48) (congrArg ov_r (rg_90_39 I48)) ?_
                  refine ov_blk (ls2 := [(0, ov_r 90), (1, ov_i x), (2, ov_i y), (3, ov_i m), (4, ov_i bo), (5, ov_i w), (6, ov_i x6), (7, ov_i v14), (8, ov_i w47)]) (st2 := [ov_i w47, ov_r 111, ov_l (h21 110 w47), ov_i v14, ov_i m, ov_i 1, ov_r 90]) (pc2 := 292) b_297_290_1 rfl rfl ?_
                  refine ov_lald d_297_292 (zb_111 I48) (zs_111 I48) (by omega) ?_
                  show ov_R u d ov_m297 293 [(0, ov_r 90), (1, ov_i x), (2, ov_i y), (3, ov_i m), (4, ov_i bo), (5, ov_i w), (6, ov_i x6), (7, ov_i v14), (8, ov_i w47)] [ov_l (h21 111 w47), ov_l (h21 110 w47), ov_i v14, ov_i m, ov_i 1, ov_r 90] z20 (ov_up (ov_up h21 90 42 (-1)) 112 0 w47) (P_Mo_wave_90 F z h x y m bo w)
                  refine ov_blk (ls2 := [(0, ov_r 90), (1, ov_i x), (2, ov_i y), (3, ov_i m), (4, ov_i bo), (5, ov_i w), (6, ov_i x6), (7, ov_i v14), (8, ov_i w47)]) (st2 := [ov_i bo, ov_l (h21 111 w47), ov_l (h21 110 w47), ov_i v14, ov_i m, ov_i 1, ov_r 90]) (pc2 := 295) b_297_293_1 rfl rfl ?_
                  refine ov_cV (as := [ov_i 1, ov_i m, ov_i v14, ov_l (h21 110 w47), ov_l (h21 111 w47), ov_i bo]) (st := []) (d2 := d - 1) d_297_295 lk_Mo_442 rfl (Nat.le_of_ble_eq_true rfl) (c := 1) (zb_90 I48) (zs_90 I48) ⟨by decide, rfl⟩ (by omega) (c_Mo_triesWave_90_all (Int.toNat ((m) - (1))) (d - 1) (by omega) U I48 1 m v14 (h21 110 w47) (h21 111 w47) bo (by omega) (by omega) (by omega) (by omega) (by omega) (by omega) (by omega)) ?_
                  rintro _ z64 h65 ⟨rfl, I66, f49, e50, e51, e52, e53, e54, e55, e56, e57, e58, e59, e60, e61, e62, e63⟩
                  have E67 : h65 92 = h 92 := Eq.trans e50 E23
                  have E68 : h65 93 = h 93 := Eq.trans e51 E24
                  have E69 : h65 94 = h 94 := Eq.trans e52 E25
                  have E70 : h65 95 = h 95 := Eq.trans e53 E26
                  have E71 : h65 96 = h 96 := Eq.trans e54 E27
                  have E72 : h65 97 = h 97 := Eq.trans e55 E28
                  have E73 : h65 98 = h 98 := Eq.trans e56 E29
                  have E74 : h65 99 = h 99 := Eq.trans e57 E30
                  have E75 : h65 100 = h 100 := Eq.trans e58 E31
                  have E76 : h65 103 = h 103 := Eq.trans e59 E32
                  have E77 : h65 105 = h 105 := Eq.trans e60 E33
                  have E78 : h65 106 = h 106 := Eq.trans e61 E34
                  have E79 : h65 109 = h 109 := Eq.trans e62 E35
                  have E80 : h65 114 = h 114 := Eq.trans e63 E36
                  show ov_R u d ov_m297 298 [(0, ov_r 90), (1, ov_i x), (2, ov_i y), (3, ov_i m), (4, ov_i bo), (5, ov_i w), (6, ov_i x6), (7, ov_i v14), (8, ov_i w47)] [] z64 h65 (P_Mo_wave_90 F z h x y m bo w)
                  have f81 : (h65 90 2) = (h21 90 2) ∧ (h65 90 7) = (h21 90 7) ∧ (h65 90 8) = (h21 90 8) ∧ (h65 90 13) = (h21 90 13) ∧ (h65 90 20) = (h21 90 20) ∧ (h65 90 22) = (h21 90 22) ∧ (h65 90 25) = (h21 90 25) ∧ (h65 90 26) = (h21 90 26) ∧ (h65 90 28) = (h21 90 28) ∧ (h65 90 29) = (h21 90 29) ∧ (h65 90 30) = (h21 90 30) ∧ (h65 90 34) = (h21 90 34) := f49
                  clear f49
                  refine ov_blk (ls2 := [(0, ov_r 90), (1, ov_i x), (2, ov_i y), (3, ov_i m), (4, ov_i bo), (5, ov_i w), (6, ov_i x6), (7, ov_i v14), (8, ov_i w47)]) (st2 := [ov_i w]) (pc2 := 300) b_297_298_1 rfl rfl ?_
                  refine ov_ifne (tgt := 310) d_297_300 (by decide) (by omega) (fun c82 => ?_) (fun c82 => ?_)
                  · skip
                    refine ov_blk (ls2 := [(0, ov_r 90), (1, ov_i x), (2, ov_i y), (3, ov_i m), (4, ov_i bo), (5, ov_i w), (6, ov_i x6), (7, ov_i v14), (8, ov_i w47)]) (st2 := [ov_r 90]) (pc2 := 311) b_297_310_1 rfl rfl ?_
                    refine ov_getf (v := ov_r 113) d_297_311 fl_Mo_141 (zb_90 I66) (zs_90 I66) (congrArg ov_r (rg_90_41 I66)) ?_
                    refine ov_blk (ls2 := [(0, ov_r 90), (1, ov_i x), (2, ov_i y), (3, ov_i m), (4, ov_i bo), (5, ov_i w), (6, ov_i x6), (7, ov_i v14), (8, ov_i w47)]) (st2 := [ov_i w, ov_r 113]) (pc2 := 316) b_297_314_1 rfl rfl ?_
                    refine ov_iald d_297_316 (zb_113 I66) (zs_113 I66) (by omega) ?_
                    have g83 := ra_113 I66 w
                    exact ov_reti (st := []) d_297_317 rfl ⟨_, rfl, I66, (by show (h65 90 2) = (h 90 2) ∧ (h65 90 7) = (h 90 7) ∧ (h65 90 8) = (h 90 8) ∧ (h65 90 13) = (h 90 13) ∧ (h65 90 20) = (h 90 20) ∧ (h65 90 22) = (h 90 22) ∧ (h65 90 25) = (h 90 25) ∧ (h65 90 26) = (h 90 26) ∧ (h65 90 28) = (h 90 28) ∧ (h65 90 29) = (h 90 29) ∧ (h65 90 30) = (h 90 30) ∧ (h65 90 34) = (h 90 34) ∧ -2147483648 ≤ (h65 113 w) ∧ (h65 113 w) ≤ 2147483647; omega), E67, E68, E69, E70, E71, E72, E73, E74, E75, E76, E77, E78, E79, E80⟩
                  · skip
                    refine ov_blk (ls2 := [(0, ov_r 90), (1, ov_i x), (2, ov_i y), (3, ov_i m), (4, ov_i bo), (5, ov_i w), (6, ov_i x6), (7, ov_i v14), (8, ov_i w47)]) (st2 := [ov_r 90]) (pc2 := 304) b_297_303_1 rfl rfl ?_
                    refine ov_getf (v := ov_i (h65 90 42)) d_297_304 fl_Mo_439 (zb_90 I66) (zs_90 I66) rfl ?_
                    have g84 := rg_90_42 I66
                    refine ov_goto (tgt := 317) d_297_307 (by decide) ?_
                    exact ov_reti (st := []) d_297_317 rfl ⟨_, rfl, I66, (by show (h65 90 2) = (h 90 2) ∧ (h65 90 7) = (h 90 7) ∧ (h65 90 8) = (h 90 8) ∧ (h65 90 13) = (h 90 13) ∧ (h65 90 20) = (h 90 20) ∧ (h65 90 22) = (h 90 22) ∧ (h65 90 25) = (h 90 25) ∧ (h65 90 26) = (h 90 26) ∧ (h65 90 28) = (h 90 28) ∧ (h65 90 29) = (h 90 29) ∧ (h65 90 30) = (h 90 30) ∧ (h65 90 34) = (h 90 34) ∧ -2147483648 ≤ (h65 90 42) ∧ (h65 90 42) ≤ 2147483647; omega), E67, E68, E69, E70, E71, E72, E73, E74, E75, E76, E77, E78, E79, E80⟩
                · skip
                  refine ov_blk (ls2 := [(0, ov_r 90), (1, ov_i x), (2, ov_i y), (3, ov_i m), (4, ov_i bo), (5, ov_i w), (6, ov_i x6), (7, ov_i v14), (8, ov_i x8)]) (st2 := [ov_i 3, ov_i (y + x8), ov_i x, ov_r 90, ov_i v14]) (pc2 := 145) b_297_136_7 rfl rfl ?_
                  refine ov_cV (as := [ov_i x, ov_i (y + x8), ov_i 3]) (st := [ov_i v14]) (d2 := d - 1) d_297_145 lk_Mo_289 rfl (Nat.le_of_ble_eq_true rfl) (c := 1) (zb_90 I22) (zs_90 I22) ⟨by decide, rfl⟩ (by omega) (c_Mo_lightAt_90 (d - 1) (by omega) U I22 x (y + x8) 3 (by omega) (by omega) (by omega) (by omega) (by omega)) ?_
                  rintro _ _ _ ⟨v86, rfl, rfl, rfl, f85⟩
                  show ov_R u d ov_m297 148 [(0, ov_r 90), (1, ov_i x), (2, ov_i y), (3, ov_i m), (4, ov_i bo), (5, ov_i w), (6, ov_i x6), (7, ov_i v14), (8, ov_i x8)] [ov_i v86, ov_i v14] z20 h21 (P_Mo_wave_90 F z h x y m bo w)
                  rw [show h21 96 = h 96 from E27] at f85
                  have f87 : v86 = (h 96 (10 + 4 * (6 * (y + x8) + x) + (3 : Int))) ∧ ((3 : Int) = 1 → 0 ≤ v86 ∧ v86 ≤ 60) ∧ ((3 : Int) = 2 → 0 ≤ v86 ∧ v86 ≤ 59) ∧ ((3 : Int) = 3 → 0 ≤ v86 ∧ v86 ≤ 60) := f85
                  clear f85
                  refine ov_blk (ls2 := [(0, ov_r 90), (1, ov_i x), (2, ov_i y), (3, ov_i m), (4, ov_i bo), (5, ov_i w), (6, ov_i x6), (7, ov_i v14), (8, ov_i x8), (9, ov_i (v14 - v86)), (10, ov_i 0)]) (st2 := []) (pc2 := 154) b_297_148_4 rfl rfl ?_
                  have L91 : ∀ (n88 : Nat) (x10 : Int) (z92 : ov_Z) (h93 : ov_H) (I94 : ov_N F z92 h93) (E95 : h93 92 = h 92) (E96 : h93 93 = h 93) (E97 : h93 94 = h 94) (E98 : h93 95 = h 95) (E99 : h93 96 = h 96) (E100 : h93 97 = h 97) (E101 : h93 98 = h 98) (E102 : h93 99 = h 99) (E103 : h93 100 = h 100) (E104 : h93 103 = h 103) (E105 : h93 105 = h 105) (E106 : h93 106 = h 106) (E107 : h93 109 = h 109) (E108 : h93 114 = h 114) (q90 : 0 ≤ x10 ∧ x10 ≤ 60 ∧ (h93 90 2) = (h21 90 2) ∧ (h93 90 7) = (h21 90 7) ∧ (h93 90 8) = (h21 90 8) ∧ (h93 90 13) = (h21 90 13) ∧ (h93 90 20) = (h21 90 20) ∧ (h93 90 22) = (h21 90 22) ∧ (h93 90 25) = (h21 90 25) ∧ (h93 90 26) = (h21 90 26) ∧ (h93 90 28) = (h21 90 28) ∧ (h93 90 29) = (h21 90 29) ∧ (h93 90 30) = (h21 90 30) ∧ (h93 90 34) = (h21 90 34)), 60 - x10 < (n88 : Int) → ov_R u d ov_m297 154 [(0, ov_r 90), (1, ov_i x), (2, ov_i y), (3, ov_i m), (4, ov_i bo), (5, ov_i w), (6, ov_i x6), (7, ov_i v14), (8, ov_i x8), (9, ov_i (v14 - v86)), (10, ov_i x10)] [] z92 h93 (P_Mo_wave_90 F z h x y m bo w) := by
                    intro n88
                    induction n88 with
                    | zero =>
                      intro x10 z92 h93 I94 E95 E96 E97 E98 E99 E100 E101 E102 E103 E104 E105 E106 E107 E108 q90 hn109
                      exact absurd hn109 (by omega)
                    | succ n88 ih89 =>
                      intro x10 z92 h93 I94 E95 E96 E97 E98 E99 E100 E101 E102 E103 E104 E105 E106 E107 E108 q90 hn109
                      refine ov_blk (ls2 := [(0, ov_r 90), (1, ov_i x), (2, ov_i y), (3, ov_i m), (4, ov_i bo), (5, ov_i w), (6, ov_i x6), (7, ov_i v14), (8, ov_i x8), (9, ov_i (v14 - v86)), (10, ov_i x10)]) (st2 := [ov_i v14, ov_i x10]) (pc2 := 158) b_297_154_2 rfl rfl ?_
                      refine ov_icge (tgt := 235) d_297_158 (by decide) (by omega) (by omega) (fun c110 => ?_) (fun c110 => ?_)
                      · skip
                        refine ov_blk (ls2 := [(0, ov_r 90), (1, ov_i x), (2, ov_i y), (3, ov_i m), (4, ov_i bo), (5, ov_i w), (6, ov_i x6), (7, ov_i v14), (8, ov_i (x8 + 1)), (9, ov_i (v14 - v86)), (10, ov_i x10)]) (st2 := []) (pc2 := 238) b_297_235_1 rfl rfl ?_
                        refine ov_goto (tgt := 130) d_297_238 (by decide) ?_
                        refine ov_sub (ls2 := [(0, ov_r 90), (1, ov_i x), (2, ov_i y), (3, ov_i m), (4, ov_i bo), (5, ov_i w), (6, ov_i x6), (7, ov_i v14), (8, ov_i (x8 + 1))]) (List.Sublist.subset (by repeat (first | exact List.Sublist.refl _ | apply List.Sublist.cons_cons | apply List.Sublist.cons))) ?_
                        exact ih17 (x8 + 1) _ _ I94 E95 E96 E97 E98 E99 E100 E101 E102 E103 E104 E105 E106 E107 E108 (by show 0 ≤ (x8 + 1) ∧ (x8 + 1) ≤ 4 ∧ (h93 90 2) = (h 90 2) ∧ (h93 90 7) = (h 90 7) ∧ (h93 90 8) = (h 90 8) ∧ (h93 90 13) = (h 90 13) ∧ (h93 90 20) = (h 90 20) ∧ (h93 90 22) = (h 90 22) ∧ (h93 90 25) = (h 90 25) ∧ (h93 90 26) = (h 90 26) ∧ (h93 90 28) = (h 90 28) ∧ (h93 90 29) = (h 90 29) ∧ (h93 90 30) = (h 90 30) ∧ (h93 90 34) = (h 90 34); omega) (by omega)
                      · skip
                        refine ov_blk (ls2 := [(0, ov_r 90), (1, ov_i x), (2, ov_i y), (3, ov_i m), (4, ov_i bo), (5, ov_i w), (6, ov_i x6), (7, ov_i v14), (8, ov_i x8), (9, ov_i (v14 - v86)), (10, ov_i x10)]) (st2 := [ov_r 90]) (pc2 := 162) b_297_161_1 rfl rfl ?_
                        refine ov_getf (v := ov_r 110) d_297_162 fl_Mo_132 (zb_90 I94) (zs_90 I94) (congrArg ov_r (rg_90_38 I94)) ?_
                        refine ov_blk (ls2 := [(0, ov_r 90), (1, ov_i x), (2, ov_i y), (3, ov_i m), (4, ov_i bo), (5, ov_i w), (6, ov_i x6), (7, ov_i v14), (8, ov_i x8), (9, ov_i (v14 - v86)), (10, ov_i x10)]) (st2 := [ov_r 90, ov_i x8, ov_i x10, ov_i ((60 * x8) + x10), ov_r 110]) (pc2 := 178) b_297_165_8 rfl rfl ?_
                        refine ov_getf (v := ov_r 96) d_297_178 fl_Mo_81 (zb_90 I94) (zs_90 I94) (congrArg ov_r (rg_90_10 I94)) ?_
                        refine ov_blk (ls2 := [(0, ov_r 90), (1, ov_i x), (2, ov_i y), (3, ov_i m), (4, ov_i bo), (5, ov_i w), (6, ov_i x6), (7, ov_i v14), (8, ov_i x8), (9, ov_i (v14 - v86)), (10, ov_i x10)]) (st2 := [ov_i 2, ov_r 96, ov_i x8, ov_i x10, ov_i ((60 * x8) + x10), ov_r 110]) (pc2 := 182) b_297_181_1 rfl rfl ?_
                        refine ov_iald d_297_182 (zb_96 I94) (zs_96 I94) (by omega) ?_
                        rw [show h93 96 = h 96 from E99]
                        have g111 := t96_2 I
                        have gm112 := ov_mulb (q := x8) (b := (h 96 2)) (A := 4) (B := 30) (by omega) (by omega) (by omega) (by omega)
                        refine ov_blk (ls2 := [(0, ov_r 90), (1, ov_i x), (2, ov_i y), (3, ov_i m), (4, ov_i bo), (5, ov_i w), (6, ov_i x6), (7, ov_i v14), (8, ov_i x8), (9, ov_i (v14 - v86)), (10, ov_i x10)]) (st2 := [ov_i v14, ov_i (v14 - v86), ov_i (x10 - (x8 * (h 96 2))), ov_i ((60 * x8) + x10), ov_r 110]) (pc2 := 189) b_297_183_4 rfl rfl ?_
                        refine ov_cS (as := [ov_i (x10 - (x8 * (h 96 2))), ov_i (v14 - v86), ov_i v14]) (st := [ov_i ((60 * x8) + x10), ov_r 110]) (d2 := d - 1) d_297_189 lk_Mo_446 rfl (Nat.le_of_ble_eq_true rfl) (by omega) (c_Mo_turned (d - 1) (by omega) U I94 (x10 - (x8 * (h 96 2))) (v14 - v86) v14 (by omega) (by omega) (by omega) (by omega) (by omega)) ?_
                        rintro _ _ _ ⟨v114, rfl, rfl, rfl, f113⟩
                        show ov_R u d ov_m297 192 [(0, ov_r 90), (1, ov_i x), (2, ov_i y), (3, ov_i m), (4, ov_i bo), (5, ov_i w), (6, ov_i x6), (7, ov_i v14), (8, ov_i x8), (9, ov_i (v14 - v86)), (10, ov_i x10)] [ov_l v114, ov_i ((60 * x8) + x10), ov_r 110] z92 h93 (P_Mo_wave_90 F z h x y m bo w)
                        clear f113
                        refine ov_last d_297_192 (zb_110 I94) (zs_110 I94) (by omega) ?_
                        have I115 := ua_110 (k := ((60 * x8) + x10)) (x := v114) I94
                        refine ov_blk (ls2 := [(0, ov_r 90), (1, ov_i x), (2, ov_i y), (3, ov_i m), (4, ov_i bo), (5, ov_i w), (6, ov_i x6), (7, ov_i v14), (8, ov_i x8), (9, ov_i (v14 - v86)), (10, ov_i x10)]) (st2 := [ov_r 90]) (pc2 := 194) b_297_193_1 rfl rfl ?_
                        refine ov_getf (v := ov_r 111) d_297_194 fl_Mo_135 (zb_90 I115) (zs_90 I115) (congrArg ov_r (rg_90_39 I115)) ?_
                        refine ov_blk (ls2 := [(0, ov_r 90), (1, ov_i x), (2, ov_i y), (3, ov_i m), (4, ov_i bo), (5, ov_i w), (6, ov_i x6), (7, ov_i v14), (8, ov_i x8), (9, ov_i (v14 - v86)), (10, ov_i x10)]) (st2 := [ov_r 90, ov_i ((m - 1) - x8), ov_i x10, ov_i ((60 * x8) + x10), ov_r 111]) (pc2 := 214) b_297_197_12 rfl rfl ?_
                        refine ov_getf (v := ov_r 96) d_297_214 fl_Mo_81 (zb_90 I115) (zs_90 I115) (congrArg ov_r (rg_90_10 I115)) ?_
                        refine ov_blk (ls2 := [(0, ov_r 90), (1, ov_i x), (2, ov_i y), (3, ov_i m), (4, ov_i bo), (5, ov_i w), (6, ov_i x6), (7, ov_i v14), (8, ov_i x8), (9, ov_i (v14 - v86)), (10, ov_i x10)]) (st2 := [ov_i 2, ov_r 96, ov_i ((m - 1) - x8), ov_i x10, ov_i ((60 * x8) + x10), ov_r 111]) (pc2 := 218) b_297_217_1 rfl rfl ?_
                        refine ov_iald d_297_218 (zb_96 I115) (zs_96 I115) (by omega) ?_
                        rw [show (ov_up h93 110 ((60 * x8) + x10) v114) 96 = h 96 from E99]
                        have gm117 := ov_mulb (q := ((m - 1) - x8)) (b := (h 96 2)) (A := 4) (B := 30) (by omega) (by omega) (by omega) (by omega)
                        refine ov_blk (ls2 := [(0, ov_r 90), (1, ov_i x), (2, ov_i y), (3, ov_i m), (4, ov_i bo), (5, ov_i w), (6, ov_i x6), (7, ov_i v14), (8, ov_i x8), (9, ov_i (v14 - v86)), (10, ov_i x10)]) (st2 := [ov_i v14, ov_i (v14 - v86), ov_i (x10 - (((m - 1) - x8) * (h 96 2))), ov_i ((60 * x8) + x10), ov_r 111]) (pc2 := 225) b_297_219_4 rfl rfl ?_
                        refine ov_cS (as := [ov_i (x10 - (((m - 1) - x8) * (h 96 2))), ov_i (v14 - v86), ov_i v14]) (st := [ov_i ((60 * x8) + x10), ov_r 111]) (d2 := d - 1) d_297_225 lk_Mo_446 rfl (Nat.le_of_ble_eq_true rfl) (by omega) (c_Mo_turned (d - 1) (by omega) U I115 (x10 - (((m - 1) - x8) * (h 96 2))) (v14 - v86) v14 (by omega) (by omega) (by omega) (by omega) (by omega)) ?_
                        rintro _ _ _ ⟨v119, rfl, rfl, rfl, f118⟩
                        show ov_R u d ov_m297 228 [(0, ov_r 90), (1, ov_i x), (2, ov_i y), (3, ov_i m), (4, ov_i bo), (5, ov_i w), (6, ov_i x6), (7, ov_i v14), (8, ov_i x8), (9, ov_i (v14 - v86)), (10, ov_i x10)] [ov_l v119, ov_i ((60 * x8) + x10), ov_r 111] z92 (ov_up h93 110 ((60 * x8) + x10) v114) (P_Mo_wave_90 F z h x y m bo w)
                        clear f118
                        refine ov_last d_297_228 (zb_111 I115) (zs_111 I115) (by omega) ?_
                        have I120 := ua_111 (k := ((60 * x8) + x10)) (x := v119) I115
                        refine ov_blk (ls2 := [(0, ov_r 90), (1, ov_i x), (2, ov_i y), (3, ov_i m), (4, ov_i bo), (5, ov_i w), (6, ov_i x6), (7, ov_i v14), (8, ov_i x8), (9, ov_i (v14 - v86)), (10, ov_i (x10 + 1))]) (st2 := []) (pc2 := 232) b_297_229_1 rfl rfl ?_
                        refine ov_goto (tgt := 154) d_297_232 (by decide) ?_
                        exact ih89 (x10 + 1) _ _ I120 E95 E96 E97 E98 E99 E100 E101 E102 E103 E104 E105 E106 E107 E108 (by show 0 ≤ (x10 + 1) ∧ (x10 + 1) ≤ 60 ∧ (h93 90 2) = (h21 90 2) ∧ (h93 90 7) = (h21 90 7) ∧ (h93 90 8) = (h21 90 8) ∧ (h93 90 13) = (h21 90 13) ∧ (h93 90 20) = (h21 90 20) ∧ (h93 90 22) = (h21 90 22) ∧ (h93 90 25) = (h21 90 25) ∧ (h93 90 26) = (h21 90 26) ∧ (h93 90 28) = (h21 90 28) ∧ (h93 90 29) = (h21 90 29) ∧ (h93 90 30) = (h21 90 30) ∧ (h93 90 34) = (h21 90 34); omega) (by omega)
                  exact L91 61 0 _ _ I22 E23 E24 E25 E26 E27 E28 E29 E30 E31 E32 E33 E34 E35 E36 (by show 0 ≤ 0 ∧ 0 ≤ 60 ∧ (h21 90 2) = (h21 90 2) ∧ (h21 90 7) = (h21 90 7) ∧ (h21 90 8) = (h21 90 8) ∧ (h21 90 13) = (h21 90 13) ∧ (h21 90 20) = (h21 90 20) ∧ (h21 90 22) = (h21 90 22) ∧ (h21 90 25) = (h21 90 25) ∧ (h21 90 26) = (h21 90 26) ∧ (h21 90 28) = (h21 90 28) ∧ (h21 90 29) = (h21 90 29) ∧ (h21 90 30) = (h21 90 30) ∧ (h21 90 34) = (h21 90 34); omega) (by omega)
            exact L19 5 0 _ _ I1 rfl rfl rfl rfl rfl rfl rfl rfl rfl rfl rfl rfl rfl rfl (by show 0 ≤ 0 ∧ 0 ≤ 4 ∧ (h 90 2) = (h 90 2) ∧ (h 90 7) = (h 90 7) ∧ (h 90 8) = (h 90 8) ∧ (h 90 13) = (h 90 13) ∧ (h 90 20) = (h 90 20) ∧ (h 90 22) = (h 90 22) ∧ (h 90 25) = (h 90 25) ∧ (h 90 26) = (h 90 26) ∧ (h 90 28) = (h 90 28) ∧ (h 90 29) = (h 90 29) ∧ (h 90 30) = (h 90 30) ∧ (h 90 34) = (h 90 34); omega) (by omega)
          · skip
            refine ov_blk (ls2 := [(0, ov_r 90), (1, ov_i x), (2, ov_i y), (3, ov_i m), (4, ov_i bo), (5, ov_i w), (6, ov_i x6), (7, ov_i x7)]) (st2 := [ov_i (-1)]) (pc2 := 117) b_297_116_1 rfl rfl ?_
            exact ov_reti (st := []) d_297_117 rfl ⟨_, rfl, I1, ⟨rfl, rfl, rfl, rfl, rfl, rfl, rfl, rfl, rfl, rfl, rfl, rfl, (by show -2147483648 ≤ (-1) ∧ (-1) ≤ 2147483647; omega)⟩, rfl, rfl, rfl, rfl, rfl, rfl, rfl, rfl, rfl, rfl, rfl, rfl, rfl, rfl⟩
        · skip
          refine ov_blk (ls2 := [(0, ov_r 90), (1, ov_i x), (2, ov_i y), (3, ov_i m), (4, ov_i bo), (5, ov_i w), (6, ov_i x6), (7, ov_i x7)]) (st2 := [ov_i x6]) (pc2 := 63) b_297_61_1 rfl rfl ?_
          refine ov_ifeq (tgt := 111) d_297_63 (by decide) (by omega) (fun c121 => ?_) (fun c121 => ?_)
          · skip
            refine ov_blk (ls2 := [(0, ov_r 90), (1, ov_i x), (2, ov_i y), (3, ov_i m), (4, ov_i bo), (5, ov_i w), (6, ov_i x6), (7, ov_i x7)]) (st2 := [ov_i x6]) (pc2 := 113) b_297_111_1 rfl rfl ?_
            refine ov_ifne (tgt := 118) d_297_113 (by decide) (by omega) (fun c122 => ?_) (fun c122 => ?_)
            · omega
            · skip
              refine ov_blk (ls2 := [(0, ov_r 90), (1, ov_i x), (2, ov_i y), (3, ov_i m), (4, ov_i bo), (5, ov_i w), (6, ov_i x6), (7, ov_i x7)]) (st2 := [ov_i (-1)]) (pc2 := 117) b_297_116_1 rfl rfl ?_
              exact ov_reti (st := []) d_297_117 rfl ⟨_, rfl, I1, ⟨rfl, rfl, rfl, rfl, rfl, rfl, rfl, rfl, rfl, rfl, rfl, rfl, (by show -2147483648 ≤ (-1) ∧ (-1) ≤ 2147483647; omega)⟩, rfl, rfl, rfl, rfl, rfl, rfl, rfl, rfl, rfl, rfl, rfl, rfl, rfl, rfl⟩
          · skip
            refine ov_blk (ls2 := [(0, ov_r 90), (1, ov_i x), (2, ov_i y), (3, ov_i m), (4, ov_i bo), (5, ov_i w), (6, ov_i x6), (7, ov_i x7)]) (st2 := [ov_i (y + x7), ov_i x, ov_r 90]) (pc2 := 72) b_297_66_5 rfl rfl ?_
            refine ov_cV (as := [ov_i x, ov_i (y + x7)]) (st := []) (d2 := d - 1) d_297_72 lk_Mo_285 rfl (Nat.le_of_ble_eq_true rfl) (c := 1) (zb_90 I1) (zs_90 I1) ⟨by decide, rfl⟩ (by omega) (c_Mo_isTimed_90 (d - 1) (by omega) U I1 x (y + x7) (by omega) (by omega) (by omega)) ?_
            rintro _ _ _ ⟨v124, rfl, rfl, rfl, f123⟩
            show ov_R u d ov_m297 75 [(0, ov_r 90), (1, ov_i x), (2, ov_i y), (3, ov_i m), (4, ov_i bo), (5, ov_i w), (6, ov_i x6), (7, ov_i x7)] [ov_i v124] z (ov_up h 90 0 0) (P_Mo_wave_90 F z h x y m bo w)
            have f125 : (v124 = 0 ∨ v124 = 1) ∧ (v124 = 1 → ((h 96 (10 + 4 * (6 * (y + x7) + x))) = 1 ∨ (h 96 (10 + 4 * (6 * (y + x7) + x))) = 2)) ∧ (v124 = 0 → ¬ ((h 96 (10 + 4 * (6 * (y + x7) + x))) = 1 ∨ (h 96 (10 + 4 * (6 * (y + x7) + x))) = 2)) := f123
            clear f123
            refine ov_ifeq (tgt := 102) d_297_75 (by decide) (by omega) (fun c126 => ?_) (fun c126 => ?_)
            · skip
              have f125_ : v124 = 0 := by omega
              have f127 : ¬ ((h 96 (10 + 4 * (6 * (y + x7) + x))) = 1 ∨ (h 96 (10 + 4 * (6 * (y + x7) + x))) = 2) := f125.2.2 (by omega)
              clear f125
              refine ov_blk (ls2 := [(0, ov_r 90), (1, ov_i x), (2, ov_i y), (3, ov_i m), (4, ov_i bo), (5, ov_i w), (6, ov_i 0), (7, ov_i (x7 + 1))]) (st2 := []) (pc2 := 108) b_297_102_3 rfl rfl ?_
              refine ov_goto (tgt := 55) d_297_108 (by decide) ?_
              exact ih7 0 (x7 + 1) (by show (0 = 0 ∨ 0 = 1) ∧ 0 ≤ (x7 + 1) ∧ (x7 + 1) ≤ 4 ∧ (0 = 1 → 0 ≤ x ∧ x ≤ 5 ∧ 0 ≤ y ∧ y ≤ 8 ∧ 2 ≤ m ∧ m ≤ 4 ∧ y + m ≤ 9 ∧ 0 ≤ w ∧ w ≤ m - 1 ∧ (1 ≤ (x7 + 1) → ((h 96 (10 + 4 * (6 * y + x))) = 1 ∨ (h 96 (10 + 4 * (6 * y + x))) = 2))); omega) (by omega)
            · skip
              have f125_ : v124 = 1 := by omega
              have f128 : ((h 96 (10 + 4 * (6 * (y + x7) + x))) = 1 ∨ (h 96 (10 + 4 * (6 * (y + x7) + x))) = 2) := f125.2.1 (by omega)
              clear f125
              refine ov_blk (ls2 := [(0, ov_r 90), (1, ov_i x), (2, ov_i y), (3, ov_i m), (4, ov_i bo), (5, ov_i w), (6, ov_i x6), (7, ov_i x7)]) (st2 := [ov_i 1, ov_i (y + x7), ov_i x, ov_r 90]) (pc2 := 85) b_297_78_6 rfl rfl ?_
              refine ov_cV (as := [ov_i x, ov_i (y + x7), ov_i 1]) (st := []) (d2 := d - 1) d_297_85 lk_Mo_289 rfl (Nat.le_of_ble_eq_true rfl) (c := 1) (zb_90 I1) (zs_90 I1) ⟨by decide, rfl⟩ (by omega) (c_Mo_lightAt_90 (d - 1) (by omega) U I1 x (y + x7) 1 (by omega) (by omega) (by omega) (by omega) (by omega)) ?_
              rintro _ _ _ ⟨v130, rfl, rfl, rfl, f129⟩
              show ov_R u d ov_m297 88 [(0, ov_r 90), (1, ov_i x), (2, ov_i y), (3, ov_i m), (4, ov_i bo), (5, ov_i w), (6, ov_i x6), (7, ov_i x7)] [ov_i v130] z (ov_up h 90 0 0) (P_Mo_wave_90 F z h x y m bo w)
              have f131 : v130 = (h 96 (10 + 4 * (6 * (y + x7) + x) + (1 : Int))) ∧ ((1 : Int) = 1 → 0 ≤ v130 ∧ v130 ≤ 60) ∧ ((1 : Int) = 2 → 0 ≤ v130 ∧ v130 ≤ 59) ∧ ((1 : Int) = 3 → 0 ≤ v130 ∧ v130 ≤ 60) := f129
              clear f129
              refine ov_blk (ls2 := [(0, ov_r 90), (1, ov_i x), (2, ov_i y), (3, ov_i m), (4, ov_i bo), (5, ov_i w), (6, ov_i x6), (7, ov_i x7)]) (st2 := [ov_i 1, ov_i y, ov_i x, ov_r 90, ov_i v130]) (pc2 := 92) b_297_88_4 rfl rfl ?_
              refine ov_cV (as := [ov_i x, ov_i y, ov_i 1]) (st := [ov_i v130]) (d2 := d - 1) d_297_92 lk_Mo_289 rfl (Nat.le_of_ble_eq_true rfl) (c := 1) (zb_90 I1) (zs_90 I1) ⟨by decide, rfl⟩ (by omega) (c_Mo_lightAt_90 (d - 1) (by omega) U I1 x y 1 (by omega) (by omega) (by omega) (by omega) (by omega)) ?_
              rintro _ _ _ ⟨v133, rfl, rfl, rfl, f132⟩
              show ov_R u d ov_m297 95 [(0, ov_r 90), (1, ov_i x), (2, ov_i y), (3, ov_i m), (4, ov_i bo), (5, ov_i w), (6, ov_i x6), (7, ov_i x7)] [ov_i v133, ov_i v130] z (ov_up h 90 0 0) (P_Mo_wave_90 F z h x y m bo w)
              have f134 : v133 = (h 96 (10 + 4 * (6 * y + x) + (1 : Int))) ∧ ((1 : Int) = 1 → 0 ≤ v133 ∧ v133 ≤ 60) ∧ ((1 : Int) = 2 → 0 ≤ v133 ∧ v133 ≤ 59) ∧ ((1 : Int) = 3 → 0 ≤ v133 ∧ v133 ≤ 60) := f132
              clear f132
              refine ov_icne (tgt := 102) d_297_95 (by decide) (by omega) (by omega) (fun c135 => ?_) (fun c135 => ?_)
              · skip
                refine ov_blk (ls2 := [(0, ov_r 90), (1, ov_i x), (2, ov_i y), (3, ov_i m), (4, ov_i bo), (5, ov_i w), (6, ov_i 0), (7, ov_i (x7 + 1))]) (st2 := []) (pc2 := 108) b_297_102_3 rfl rfl ?_
                refine ov_goto (tgt := 55) d_297_108 (by decide) ?_
                exact ih7 0 (x7 + 1) (by show (0 = 0 ∨ 0 = 1) ∧ 0 ≤ (x7 + 1) ∧ (x7 + 1) ≤ 4 ∧ (0 = 1 → 0 ≤ x ∧ x ≤ 5 ∧ 0 ≤ y ∧ y ≤ 8 ∧ 2 ≤ m ∧ m ≤ 4 ∧ y + m ≤ 9 ∧ 0 ≤ w ∧ w ≤ m - 1 ∧ (1 ≤ (x7 + 1) → ((h 96 (10 + 4 * (6 * y + x))) = 1 ∨ (h 96 (10 + 4 * (6 * y + x))) = 2))); omega) (by omega)
              · skip
                refine ov_blk (ls2 := [(0, ov_r 90), (1, ov_i x), (2, ov_i y), (3, ov_i m), (4, ov_i bo), (5, ov_i w), (6, ov_i x6), (7, ov_i x7)]) (st2 := [ov_i 1]) (pc2 := 99) b_297_98_1 rfl rfl ?_
                refine ov_goto (tgt := 103) d_297_99 (by decide) ?_
                refine ov_blk (ls2 := [(0, ov_r 90), (1, ov_i x), (2, ov_i y), (3, ov_i m), (4, ov_i bo), (5, ov_i w), (6, ov_i 1), (7, ov_i (x7 + 1))]) (st2 := []) (pc2 := 108) b_297_103_2 rfl rfl ?_
                refine ov_goto (tgt := 55) d_297_108 (by decide) ?_
                exact ih7 1 (x7 + 1) (by show (1 = 0 ∨ 1 = 1) ∧ 0 ≤ (x7 + 1) ∧ (x7 + 1) ≤ 4 ∧ (1 = 1 → 0 ≤ x ∧ x ≤ 5 ∧ 0 ≤ y ∧ y ≤ 8 ∧ 2 ≤ m ∧ m ≤ 4 ∧ y + m ≤ 9 ∧ 0 ≤ w ∧ w ≤ m - 1 ∧ (1 ≤ (x7 + 1) → ((h 96 (10 + 4 * (6 * y + x))) = 1 ∨ (h 96 (10 + 4 * (6 * y + x))) = 2))); omega) (by omega)
    exact L9 5 0 0 (by show (0 = 0 ∨ 0 = 1) ∧ 0 ≤ 0 ∧ 0 ≤ 4 ∧ (0 = 1 → 0 ≤ x ∧ x ≤ 5 ∧ 0 ≤ y ∧ y ≤ 8 ∧ 2 ≤ m ∧ m ≤ 4 ∧ y + m ≤ 9 ∧ 0 ≤ w ∧ w ≤ m - 1 ∧ (1 ≤ 0 → ((h 96 (10 + 4 * (6 * y + x))) = 1 ∨ (h 96 (10 + 4 * (6 * y + x))) = 2))); omega) (by omega)
  · skip
    have f4_ : v3 = 1 := by omega
    have f136 : 0 ≤ x ∧ x ≤ 5 ∧ 0 ≤ y ∧ y ≤ 8 ∧ x < (h 96 0) ∧ y < (h 96 1) := f4.2 (by omega)
    clear f4
    refine ov_blk (ls2 := [(0, ov_r 90), (1, ov_i x), (2, ov_i y), (3, ov_i m), (4, ov_i bo), (5, ov_i w)]) (st2 := [ov_i 4, ov_i 2, ov_i m]) (pc2 := 17) b_297_14_3 rfl rfl ?_
    refine ov_cS (as := [ov_i m, ov_i 2, ov_i 4]) (st := []) (d2 := d - 1) d_297_17 lk_Mo_299 rfl (Nat.le_of_ble_eq_true rfl) (by omega) (c_Mo_within (d - 1) (by omega) U I1 m 2 4 (by omega) (by omega) (by omega)) ?_
    rintro _ _ _ ⟨v138, rfl, rfl, rfl, f137⟩
    show ov_R u d ov_m297 20 [(0, ov_r 90), (1, ov_i x), (2, ov_i y), (3, ov_i m), (4, ov_i bo), (5, ov_i w)] [ov_i v138] z (ov_up h 90 0 0) (P_Mo_wave_90 F z h x y m bo w)
    have f139 : (v138 = 0 ∨ v138 = 1) ∧ (v138 = 1 → (2 : Int) ≤ m ∧ m ≤ (4 : Int)) ∧ (v138 = 0 → m < (2 : Int) ∨ (4 : Int) < m) := f137
    clear f137
    refine ov_ifeq (tgt := 49) d_297_20 (by decide) (by omega) (fun c140 => ?_) (fun c140 => ?_)
    · skip
      have f139_ : v138 = 0 := by omega
      have f141 : m < (2 : Int) ∨ (4 : Int) < m := f139.2.2 (by omega)
      clear f139
      refine ov_blk (ls2 := [(0, ov_r 90), (1, ov_i x), (2, ov_i y), (3, ov_i m), (4, ov_i bo), (5, ov_i w), (6, ov_i 0), (7, ov_i 0)]) (st2 := []) (pc2 := 55) b_297_49_4 rfl rfl ?_
      have L145 : ∀ (n142 : Nat) (x6_ : Int) (x7_ : Int) (q144 : (x6_ = 0 ∨ x6_ = 1) ∧ 0 ≤ x7_ ∧ x7_ ≤ 4 ∧ (x6_ = 1 → 0 ≤ x ∧ x ≤ 5 ∧ 0 ≤ y ∧ y ≤ 8 ∧ 2 ≤ m ∧ m ≤ 4 ∧ y + m ≤ 9 ∧ 0 ≤ w ∧ w ≤ m - 1 ∧ (1 ≤ x7_ → ((h 96 (10 + 4 * (6 * y + x))) = 1 ∨ (h 96 (10 + 4 * (6 * y + x))) = 2)))), 4 - x7_ < (n142 : Int) → ov_R u d ov_m297 55 [(0, ov_r 90), (1, ov_i x), (2, ov_i y), (3, ov_i m), (4, ov_i bo), (5, ov_i w), (6, ov_i x6_), (7, ov_i x7_)] [] z (ov_up h 90 0 0) (P_Mo_wave_90 F z h x y m bo w) := by
        intro n142
        induction n142 with
        | zero =>
          intro x6_ x7_ q144 hn146
          exact absurd hn146 (by omega)
        | succ n142 ih143 =>
          intro x6_ x7_ q144 hn146
          refine ov_blk (ls2 := [(0, ov_r 90), (1, ov_i x), (2, ov_i y), (3, ov_i m), (4, ov_i bo), (5, ov_i w), (6, ov_i x6_), (7, ov_i x7_)]) (st2 := [ov_i m, ov_i x7_]) (pc2 := 58) b_297_55_2 rfl rfl ?_
          refine ov_icge (tgt := 111) d_297_58 (by decide) (by omega) (by omega) (fun c147 => ?_) (fun c147 => ?_)
          · skip
            refine ov_blk (ls2 := [(0, ov_r 90), (1, ov_i x), (2, ov_i y), (3, ov_i m), (4, ov_i bo), (5, ov_i w), (6, ov_i x6_), (7, ov_i x7_)]) (st2 := [ov_i x6_]) (pc2 := 113) b_297_111_1 rfl rfl ?_
            refine ov_ifne (tgt := 118) d_297_113 (by decide) (by omega) (fun c148 => ?_) (fun c148 => ?_)
            · skip
              have w1 := ov_WT_at W (c := 6 * y + x) (by omega)
              refine ov_blk (ls2 := [(0, ov_r 90), (1, ov_i x), (2, ov_i y), (3, ov_i m), (4, ov_i bo), (5, ov_i w), (6, ov_i x6_), (7, ov_i x7_)]) (st2 := [ov_i 1, ov_i y, ov_i x, ov_r 90]) (pc2 := 122) b_297_118_4 rfl rfl ?_
              refine ov_cV (as := [ov_i x, ov_i y, ov_i 1]) (st := []) (d2 := d - 1) d_297_122 lk_Mo_289 rfl (Nat.le_of_ble_eq_true rfl) (c := 1) (zb_90 I1) (zs_90 I1) ⟨by decide, rfl⟩ (by omega) (c_Mo_lightAt_90 (d - 1) (by omega) U I1 x y 1 (by omega) (by omega) (by omega) (by omega) (by omega)) ?_
              rintro _ _ _ ⟨v150, rfl, rfl, rfl, f149⟩
              show ov_R u d ov_m297 125 [(0, ov_r 90), (1, ov_i x), (2, ov_i y), (3, ov_i m), (4, ov_i bo), (5, ov_i w), (6, ov_i x6_), (7, ov_i x7_)] [ov_i v150] z (ov_up h 90 0 0) (P_Mo_wave_90 F z h x y m bo w)
              have f151 : v150 = (h 96 (10 + 4 * (6 * y + x) + (1 : Int))) ∧ ((1 : Int) = 1 → 0 ≤ v150 ∧ v150 ≤ 60) ∧ ((1 : Int) = 2 → 0 ≤ v150 ∧ v150 ≤ 59) ∧ ((1 : Int) = 3 → 0 ≤ v150 ∧ v150 ≤ 60) := f149
              clear f149
              refine ov_blk (ls2 := [(0, ov_r 90), (1, ov_i x), (2, ov_i y), (3, ov_i m), (4, ov_i bo), (5, ov_i w), (6, ov_i x6_), (7, ov_i v150), (8, ov_i 0)]) (st2 := []) (pc2 := 130) b_297_125_3 rfl rfl ?_
              have L155 : ∀ (n152 : Nat) (x8_ : Int) (z156 : ov_Z) (h157 : ov_H) (I158 : ov_N F z156 h157) (E159 : h157 92 = h 92) (E160 : h157 93 = h 93) (E161 : h157 94 = h 94) (E162 : h157 95 = h 95) (E163 : h157 96 = h 96) (E164 : h157 97 = h 97) (E165 : h157 98 = h 98) (E166 : h157 99 = h 99) (E167 : h157 100 = h 100) (E168 : h157 103 = h 103) (E169 : h157 105 = h 105) (E170 : h157 106 = h 106) (E171 : h157 109 = h 109) (E172 : h157 114 = h 114) (q154 : 0 ≤ x8_ ∧ x8_ ≤ 4 ∧ (h157 90 2) = (h 90 2) ∧ (h157 90 7) = (h 90 7) ∧ (h157 90 8) = (h 90 8) ∧ (h157 90 13) = (h 90 13) ∧ (h157 90 20) = (h 90 20) ∧ (h157 90 22) = (h 90 22) ∧ (h157 90 25) = (h 90 25) ∧ (h157 90 26) = (h 90 26) ∧ (h157 90 28) = (h 90 28) ∧ (h157 90 29) = (h 90 29) ∧ (h157 90 30) = (h 90 30) ∧ (h157 90 34) = (h 90 34)), 4 - x8_ < (n152 : Int) → ov_R u d ov_m297 130 [(0, ov_r 90), (1, ov_i x), (2, ov_i y), (3, ov_i m), (4, ov_i bo), (5, ov_i w), (6, ov_i x6_), (7, ov_i v150), (8, ov_i x8_)] [] z156 h157 (P_Mo_wave_90 F z h x y m bo w) := by
                intro n152
                induction n152 with
                | zero =>
                  intro x8_ z156 h157 I158 E159 E160 E161 E162 E163 E164 E165 E166 E167 E168 E169 E170 E171 E172 q154 hn173
                  exact absurd hn173 (by omega)
                | succ n152 ih153 =>
                  intro x8_ z156 h157 I158 E159 E160 E161 E162 E163 E164 E165 E166 E167 E168 E169 E170 E171 E172 q154 hn173
                  refine ov_blk (ls2 := [(0, ov_r 90), (1, ov_i x), (2, ov_i y), (3, ov_i m), (4, ov_i bo), (5, ov_i w), (6, ov_i x6_), (7, ov_i v150), (8, ov_i x8_)]) (st2 := [ov_i m, ov_i x8_]) (pc2 := 133) b_297_130_2 rfl rfl ?_
                  refine ov_icge (tgt := 241) d_297_133 (by decide) (by omega) (by omega) (fun c174 => ?_) (fun c174 => ?_)
                  · skip
                    refine ov_blk (ls2 := [(0, ov_r 90), (1, ov_i x), (2, ov_i y), (3, ov_i m), (4, ov_i bo), (5, ov_i w), (6, ov_i x6_), (7, ov_i v150), (8, ov_i x8_)]) (st2 := [ov_i (-1), ov_r 90]) (pc2 := 243) b_297_241_2 rfl rfl ?_
                    refine ov_putf (x := (-1)) d_297_243 fl_Mo_439 (zb_90 I158) (zs_90 I158) rfl nk_0 rfl ?_
                    have I175 := up_90_42 (x := (-1)) I158 (by omega)
                    refine ov_blk (ls2 := [(0, ov_r 90), (1, ov_i x), (2, ov_i y), (3, ov_i m), (4, ov_i bo), (5, ov_i w), (6, ov_i x6_), (7, ov_i v150), (8, ov_i x8_)]) (st2 := [ov_i 2, ov_i y, ov_i x, ov_r 90]) (pc2 := 250) b_297_246_4 rfl rfl ?_
                    refine ov_cV (as := [ov_i x, ov_i y, ov_i 2]) (st := []) (d2 := d - 1) d_297_250 lk_Mo_289 rfl (Nat.le_of_ble_eq_true rfl) (c := 1) (zb_90 I175) (zs_90 I175) ⟨by decide, rfl⟩ (by omega) (c_Mo_lightAt_90 (d - 1) (by omega) U I175 x y 2 (by omega) (by omega) (by omega) (by omega) (by omega)) ?_
                    rintro _ _ _ ⟨v177, rfl, rfl, rfl, f176⟩
                    show ov_R u d ov_m297 253 [(0, ov_r 90), (1, ov_i x), (2, ov_i y), (3, ov_i m), (4, ov_i bo), (5, ov_i w), (6, ov_i x6_), (7, ov_i v150), (8, ov_i x8_)] [ov_i v177] z156 (ov_up h157 90 42 (-1)) (P_Mo_wave_90 F z h x y m bo w)
                    rw [show (ov_up h157 90 42 (-1)) 96 = h 96 from E163] at f176
                    have f178 : v177 = (h 96 (10 + 4 * (6 * y + x) + (2 : Int))) ∧ ((2 : Int) = 1 → 0 ≤ v177 ∧ v177 ≤ 60) ∧ ((2 : Int) = 2 → 0 ≤ v177 ∧ v177 ≤ 59) ∧ ((2 : Int) = 3 → 0 ≤ v177 ∧ v177 ≤ 60) := f176
                    clear f176
                    refine ov_blk (ls2 := [(0, ov_r 90), (1, ov_i x), (2, ov_i y), (3, ov_i m), (4, ov_i bo), (5, ov_i w), (6, ov_i x6_), (7, ov_i v150), (8, ov_i x8_)]) (st2 := [ov_i 3, ov_i y, ov_i x, ov_r 90, ov_i v177]) (pc2 := 257) b_297_253_4 rfl rfl ?_
                    refine ov_cV (as := [ov_i x, ov_i y, ov_i 3]) (st := [ov_i v177]) (d2 := d - 1) d_297_257 lk_Mo_289 rfl (Nat.le_of_ble_eq_true rfl) (c := 1) (zb_90 I175) (zs_90 I175) ⟨by decide, rfl⟩ (by omega) (c_Mo_lightAt_90 (d - 1) (by omega) U I175 x y 3 (by omega) (by omega) (by omega) (by omega) (by omega)) ?_
                    rintro _ _ _ ⟨v180, rfl, rfl, rfl, f179⟩
                    show ov_R u d ov_m297 260 [(0, ov_r 90), (1, ov_i x), (2, ov_i y), (3, ov_i m), (4, ov_i bo), (5, ov_i w), (6, ov_i x6_), (7, ov_i v150), (8, ov_i x8_)] [ov_i v180, ov_i v177] z156 (ov_up h157 90 42 (-1)) (P_Mo_wave_90 F z h x y m bo w)
                    rw [show (ov_up h157 90 42 (-1)) 96 = h 96 from E163] at f179
                    have f181 : v180 = (h 96 (10 + 4 * (6 * y + x) + (3 : Int))) ∧ ((3 : Int) = 1 → 0 ≤ v180 ∧ v180 ≤ 60) ∧ ((3 : Int) = 2 → 0 ≤ v180 ∧ v180 ≤ 59) ∧ ((3 : Int) = 3 → 0 ≤ v180 ∧ v180 ≤ 60) := f179
                    clear f179
                    refine ov_blk (ls2 := [(0, ov_r 90), (1, ov_i x), (2, ov_i y), (3, ov_i m), (4, ov_i bo), (5, ov_i w), (6, ov_i x6_), (7, ov_i v150), (8, ov_i x8_)]) (st2 := [ov_i v150, ov_i (v177 + v180)]) (pc2 := 263) b_297_260_2 rfl rfl ?_
                    refine ov_irem d_297_263 (by omega) (by omega) (by omega) ?_
                    have g182 := ov_tmg (a := (v177 + v180)) (b := v150) (by omega) (by omega)
                    refine ov_havw (fun w183 gw183 qw183 => ?_)
                    refine ov_blk (ls2 := [(0, ov_r 90), (1, ov_i x), (2, ov_i y), (3, ov_i m), (4, ov_i bo), (5, ov_i w), (6, ov_i x6_), (7, ov_i v150), (8, ov_i w183)]) (st2 := [ov_r 90]) (pc2 := 267) b_297_264_2 rfl rfl ?_
                    refine ov_getf (v := ov_r 112) d_297_267 fl_Mo_138 (zb_90 I175) (zs_90 I175) (congrArg ov_r (rg_90_40 I175)) ?_
                    refine ov_blk (ls2 := [(0, ov_r 90), (1, ov_i x), (2, ov_i y), (3, ov_i m), (4, ov_i bo), (5, ov_i w), (6, ov_i x6_), (7, ov_i v150), (8, ov_i w183)]) (st2 := [ov_i w183, ov_i 0, ov_r 112]) (pc2 := 273) b_297_270_2 rfl rfl ?_
                    refine ov_iast d_297_273 (zb_112 I175) (zs_112 I175) (by omega) ?_
                    have I184 := ua_112 (k := 0) (x := w183) I175 (by omega)
                    refine ov_blk (ls2 := [(0, ov_r 90), (1, ov_i x), (2, ov_i y), (3, ov_i m), (4, ov_i bo), (5, ov_i w), (6, ov_i x6_), (7, ov_i v150), (8, ov_i w183)]) (st2 := [ov_r 90, ov_i v150, ov_i m, ov_i 1, ov_r 90]) (pc2 := 280) b_297_274_5 rfl rfl ?_
                    refine ov_getf (v := ov_r 110) d_297_280 fl_Mo_132 (zb_90 I184) (zs_90 I184) (congrArg ov_r (rg_90_38 I184)) ?_
                    refine ov_blk (ls2 := [(0, ov_r 90), (1, ov_i x), (2, ov_i y), (3, ov_i m), (4, ov_i bo), (5, ov_i w), (6, ov_i x6_), (7, ov_i v150), (8, ov_i w183)]) (st2 := [ov_i w183, ov_r 110, ov_i v150, ov_i m, ov_i 1, ov_r 90]) (pc2 := 285) b_297_283_1 rfl rfl ?_
                    refine ov_lald d_297_285 (zb_110 I184) (zs_110 I184) (by omega) ?_
                    show ov_R u d ov_m297 286 [(0, ov_r 90), (1, ov_i x), (2, ov_i y), (3, ov_i m), (4, ov_i bo), (5, ov_i w), (6, ov_i x6_), (7, ov_i v150), (8, ov_i w183)] [ov_l (h157 110 w183), ov_i v150, ov_i m, ov_i 1, ov_r 90] z156 (ov_up (ov_up h157 90 42 (-1)) 112 0 w183) (P_Mo_wave_90 F z h x y m bo w)
                    refine ov_blk (ls2 := [(0, ov_r 90), (1, ov_i x), (2, ov_i y), (3, ov_i m), (4, ov_i bo), (5, ov_i w), (6, ov_i x6_), (7, ov_i v150), (8, ov_i w183)]) (st2 := [ov_r 90, ov_l (h157 110 w183), ov_i v150, ov_i m, ov_i 1, ov_r 90]) (pc2 := 287) b_297_286_1 rfl rfl ?_
                    refine ov_getf (v := ov_r 111) d_297_287 fl_Mo_135 (zb_90 I184) (zs_90 I184) (congrArg ov_r (rg_90_39 I184)) ?_
                    refine ov_blk (ls2 := [(0, ov_r 90), (1, ov_i x), (2, ov_i y), (3, ov_i m), (4, ov_i bo), (5, ov_i w), (6, ov_i x6_), (7, ov_i v150), (8, ov_i w183)]) (st2 := [ov_i w183, ov_r 111, ov_l (h157 110 w183), ov_i v150, ov_i m, ov_i 1, ov_r 90]) (pc2 := 292) b_297_290_1 rfl rfl ?_
                    refine ov_lald d_297_292 (zb_111 I184) (zs_111 I184) (by omega) ?_
                    show ov_R u d ov_m297 293 [(0, ov_r 90), (1, ov_i x), (2, ov_i y), (3, ov_i m), (4, ov_i bo), (5, ov_i w), (6, ov_i x6_), (7, ov_i v150), (8, ov_i w183)] [ov_l (h157 111 w183), ov_l (h157 110 w183), ov_i v150, ov_i m, ov_i 1, ov_r 90] z156 (ov_up (ov_up h157 90 42 (-1)) 112 0 w183) (P_Mo_wave_90 F z h x y m bo w)
                    refine ov_blk (ls2 := [(0, ov_r 90), (1, ov_i x), (2, ov_i y), (3, ov_i m), (4, ov_i bo), (5, ov_i w), (6, ov_i x6_), (7, ov_i v150), (8, ov_i w183)]) (st2 := [ov_i bo, ov_l (h157 111 w183), ov_l (h157 110 w183), ov_i v150, ov_i m, ov_i 1, ov_r 90]) (pc2 := 295) b_297_293_1 rfl rfl ?_
                    refine ov_cV (as := [ov_i 1, ov_i m, ov_i v150, ov_l (h157 110 w183), ov_l (h157 111 w183), ov_i bo]) (st := []) (d2 := d - 1) d_297_295 lk_Mo_442 rfl (Nat.le_of_ble_eq_true rfl) (c := 1) (zb_90 I184) (zs_90 I184) ⟨by decide, rfl⟩ (by omega) (c_Mo_triesWave_90_all (Int.toNat ((m) - (1))) (d - 1) (by omega) U I184 1 m v150 (h157 110 w183) (h157 111 w183) bo (by omega) (by omega) (by omega) (by omega) (by omega) (by omega) (by omega)) ?_
                    rintro _ z200 h201 ⟨rfl, I202, f185, e186, e187, e188, e189, e190, e191, e192, e193, e194, e195, e196, e197, e198, e199⟩
                    have E203 : h201 92 = h 92 := Eq.trans e186 E159
                    have E204 : h201 93 = h 93 := Eq.trans e187 E160
                    have E205 : h201 94 = h 94 := Eq.trans e188 E161
                    have E206 : h201 95 = h 95 := Eq.trans e189 E162
                    have E207 : h201 96 = h 96 := Eq.trans e190 E163
                    have E208 : h201 97 = h 97 := Eq.trans e191 E164
                    have E209 : h201 98 = h 98 := Eq.trans e192 E165
                    have E210 : h201 99 = h 99 := Eq.trans e193 E166
                    have E211 : h201 100 = h 100 := Eq.trans e194 E167
                    have E212 : h201 103 = h 103 := Eq.trans e195 E168
                    have E213 : h201 105 = h 105 := Eq.trans e196 E169
                    have E214 : h201 106 = h 106 := Eq.trans e197 E170
                    have E215 : h201 109 = h 109 := Eq.trans e198 E171
                    have E216 : h201 114 = h 114 := Eq.trans e199 E172
                    show ov_R u d ov_m297 298 [(0, ov_r 90), (1, ov_i x), (2, ov_i y), (3, ov_i m), (4, ov_i bo), (5, ov_i w), (6, ov_i x6_), (7, ov_i v150), (8, ov_i w183)] [] z200 h201 (P_Mo_wave_90 F z h x y m bo w)
                    have f217 : (h201 90 2) = (h157 90 2) ∧ (h201 90 7) = (h157 90 7) ∧ (h201 90 8) = (h157 90 8) ∧ (h201 90 13) = (h157 90 13) ∧ (h201 90 20) = (h157 90 20) ∧ (h201 90 22) = (h157 90 22) ∧ (h201 90 25) = (h157 90 25) ∧ (h201 90 26) = (h157 90 26) ∧ (h201 90 28) = (h157 90 28) ∧ (h201 90 29) = (h157 90 29) ∧ (h201 90 30) = (h157 90 30) ∧ (h201 90 34) = (h157 90 34) := f185
                    clear f185
                    refine ov_blk (ls2 := [(0, ov_r 90), (1, ov_i x), (2, ov_i y), (3, ov_i m), (4, ov_i bo), (5, ov_i w), (6, ov_i x6_), (7, ov_i v150), (8, ov_i w183)]) (st2 := [ov_i w]) (pc2 := 300) b_297_298_1 rfl rfl ?_
                    refine ov_ifne (tgt := 310) d_297_300 (by decide) (by omega) (fun c218 => ?_) (fun c218 => ?_)
                    · skip
                      refine ov_blk (ls2 := [(0, ov_r 90), (1, ov_i x), (2, ov_i y), (3, ov_i m), (4, ov_i bo), (5, ov_i w), (6, ov_i x6_), (7, ov_i v150), (8, ov_i w183)]) (st2 := [ov_r 90]) (pc2 := 311) b_297_310_1 rfl rfl ?_
                      refine ov_getf (v := ov_r 113) d_297_311 fl_Mo_141 (zb_90 I202) (zs_90 I202) (congrArg ov_r (rg_90_41 I202)) ?_
                      refine ov_blk (ls2 := [(0, ov_r 90), (1, ov_i x), (2, ov_i y), (3, ov_i m), (4, ov_i bo), (5, ov_i w), (6, ov_i x6_), (7, ov_i v150), (8, ov_i w183)]) (st2 := [ov_i w, ov_r 113]) (pc2 := 316) b_297_314_1 rfl rfl ?_
                      refine ov_iald d_297_316 (zb_113 I202) (zs_113 I202) (by omega) ?_
                      have g219 := ra_113 I202 w
                      exact ov_reti (st := []) d_297_317 rfl ⟨_, rfl, I202, (by show (h201 90 2) = (h 90 2) ∧ (h201 90 7) = (h 90 7) ∧ (h201 90 8) = (h 90 8) ∧ (h201 90 13) = (h 90 13) ∧ (h201 90 20) = (h 90 20) ∧ (h201 90 22) = (h 90 22) ∧ (h201 90 25) = (h 90 25) ∧ (h201 90 26) = (h 90 26) ∧ (h201 90 28) = (h 90 28) ∧ (h201 90 29) = (h 90 29) ∧ (h201 90 30) = (h 90 30) ∧ (h201 90 34) = (h 90 34) ∧ -2147483648 ≤ (h201 113 w) ∧ (h201 113 w) ≤ 2147483647; omega), E203, E204, E205, E206, E207, E208, E209, E210, E211, E212, E213, E214, E215, E216⟩
                    · skip
                      refine ov_blk (ls2 := [(0, ov_r 90), (1, ov_i x), (2, ov_i y), (3, ov_i m), (4, ov_i bo), (5, ov_i w), (6, ov_i x6_), (7, ov_i v150), (8, ov_i w183)]) (st2 := [ov_r 90]) (pc2 := 304) b_297_303_1 rfl rfl ?_
                      refine ov_getf (v := ov_i (h201 90 42)) d_297_304 fl_Mo_439 (zb_90 I202) (zs_90 I202) rfl ?_
                      have g220 := rg_90_42 I202
                      refine ov_goto (tgt := 317) d_297_307 (by decide) ?_
                      exact ov_reti (st := []) d_297_317 rfl ⟨_, rfl, I202, (by show (h201 90 2) = (h 90 2) ∧ (h201 90 7) = (h 90 7) ∧ (h201 90 8) = (h 90 8) ∧ (h201 90 13) = (h 90 13) ∧ (h201 90 20) = (h 90 20) ∧ (h201 90 22) = (h 90 22) ∧ (h201 90 25) = (h 90 25) ∧ (h201 90 26) = (h 90 26) ∧ (h201 90 28) = (h 90 28) ∧ (h201 90 29) = (h 90 29) ∧ (h201 90 30) = (h 90 30) ∧ (h201 90 34) = (h 90 34) ∧ -2147483648 ≤ (h201 90 42) ∧ (h201 90 42) ≤ 2147483647; omega), E203, E204, E205, E206, E207, E208, E209, E210, E211, E212, E213, E214, E215, E216⟩
                  · skip
                    refine ov_blk (ls2 := [(0, ov_r 90), (1, ov_i x), (2, ov_i y), (3, ov_i m), (4, ov_i bo), (5, ov_i w), (6, ov_i x6_), (7, ov_i v150), (8, ov_i x8_)]) (st2 := [ov_i 3, ov_i (y + x8_), ov_i x, ov_r 90, ov_i v150]) (pc2 := 145) b_297_136_7 rfl rfl ?_
                    refine ov_cV (as := [ov_i x, ov_i (y + x8_), ov_i 3]) (st := [ov_i v150]) (d2 := d - 1) d_297_145 lk_Mo_289 rfl (Nat.le_of_ble_eq_true rfl) (c := 1) (zb_90 I158) (zs_90 I158) ⟨by decide, rfl⟩ (by omega) (c_Mo_lightAt_90 (d - 1) (by omega) U I158 x (y + x8_) 3 (by omega) (by omega) (by omega) (by omega) (by omega)) ?_
                    rintro _ _ _ ⟨v222, rfl, rfl, rfl, f221⟩
                    show ov_R u d ov_m297 148 [(0, ov_r 90), (1, ov_i x), (2, ov_i y), (3, ov_i m), (4, ov_i bo), (5, ov_i w), (6, ov_i x6_), (7, ov_i v150), (8, ov_i x8_)] [ov_i v222, ov_i v150] z156 h157 (P_Mo_wave_90 F z h x y m bo w)
                    rw [show h157 96 = h 96 from E163] at f221
                    have f223 : v222 = (h 96 (10 + 4 * (6 * (y + x8_) + x) + (3 : Int))) ∧ ((3 : Int) = 1 → 0 ≤ v222 ∧ v222 ≤ 60) ∧ ((3 : Int) = 2 → 0 ≤ v222 ∧ v222 ≤ 59) ∧ ((3 : Int) = 3 → 0 ≤ v222 ∧ v222 ≤ 60) := f221
                    clear f221
                    refine ov_blk (ls2 := [(0, ov_r 90), (1, ov_i x), (2, ov_i y), (3, ov_i m), (4, ov_i bo), (5, ov_i w), (6, ov_i x6_), (7, ov_i v150), (8, ov_i x8_), (9, ov_i (v150 - v222)), (10, ov_i 0)]) (st2 := []) (pc2 := 154) b_297_148_4 rfl rfl ?_
                    have L227 : ∀ (n224 : Nat) (x10_ : Int) (z228 : ov_Z) (h229 : ov_H) (I230 : ov_N F z228 h229) (E231 : h229 92 = h 92) (E232 : h229 93 = h 93) (E233 : h229 94 = h 94) (E234 : h229 95 = h 95) (E235 : h229 96 = h 96) (E236 : h229 97 = h 97) (E237 : h229 98 = h 98) (E238 : h229 99 = h 99) (E239 : h229 100 = h 100) (E240 : h229 103 = h 103) (E241 : h229 105 = h 105) (E242 : h229 106 = h 106) (E243 : h229 109 = h 109) (E244 : h229 114 = h 114) (q226 : 0 ≤ x10_ ∧ x10_ ≤ 60 ∧ (h229 90 2) = (h157 90 2) ∧ (h229 90 7) = (h157 90 7) ∧ (h229 90 8) = (h157 90 8) ∧ (h229 90 13) = (h157 90 13) ∧ (h229 90 20) = (h157 90 20) ∧ (h229 90 22) = (h157 90 22) ∧ (h229 90 25) = (h157 90 25) ∧ (h229 90 26) = (h157 90 26) ∧ (h229 90 28) = (h157 90 28) ∧ (h229 90 29) = (h157 90 29) ∧ (h229 90 30) = (h157 90 30) ∧ (h229 90 34) = (h157 90 34)), 60 - x10_ < (n224 : Int) → ov_R u d ov_m297 154 [(0, ov_r 90), (1, ov_i x), (2, ov_i y), (3, ov_i m), (4, ov_i bo), (5, ov_i w), (6, ov_i x6_), (7, ov_i v150), (8, ov_i x8_), (9, ov_i (v150 - v222)), (10, ov_i x10_)] [] z228 h229 (P_Mo_wave_90 F z h x y m bo w) := by
                      intro n224
                      induction n224 with
                      | zero =>
                        intro x10_ z228 h229 I230 E231 E232 E233 E234 E235 E236 E237 E238 E239 E240 E241 E242 E243 E244 q226 hn245
                        exact absurd hn245 (by omega)
                      | succ n224 ih225 =>
                        intro x10_ z228 h229 I230 E231 E232 E233 E234 E235 E236 E237 E238 E239 E240 E241 E242 E243 E244 q226 hn245
                        refine ov_blk (ls2 := [(0, ov_r 90), (1, ov_i x), (2, ov_i y), (3, ov_i m), (4, ov_i bo), (5, ov_i w), (6, ov_i x6_), (7, ov_i v150), (8, ov_i x8_), (9, ov_i (v150 - v222)), (10, ov_i x10_)]) (st2 := [ov_i v150, ov_i x10_]) (pc2 := 158) b_297_154_2 rfl rfl ?_
                        refine ov_icge (tgt := 235) d_297_158 (by decide) (by omega) (by omega) (fun c246 => ?_) (fun c246 => ?_)
                        · skip
                          refine ov_blk (ls2 := [(0, ov_r 90), (1, ov_i x), (2, ov_i y), (3, ov_i m), (4, ov_i bo), (5, ov_i w), (6, ov_i x6_), (7, ov_i v150), (8, ov_i (x8_ + 1)), (9, ov_i (v150 - v222)), (10, ov_i x10_)]) (st2 := []) (pc2 := 238) b_297_235_1 rfl rfl ?_
                          refine ov_goto (tgt := 130) d_297_238 (by decide) ?_
                          refine ov_sub (ls2 := [(0, ov_r 90), (1, ov_i x), (2, ov_i y), (3, ov_i m), (4, ov_i bo), (5, ov_i w), (6, ov_i x6_), (7, ov_i v150), (8, ov_i (x8_ + 1))]) (List.Sublist.subset (by repeat (first | exact List.Sublist.refl _ | apply List.Sublist.cons_cons | apply List.Sublist.cons))) ?_
                          exact ih153 (x8_ + 1) _ _ I230 E231 E232 E233 E234 E235 E236 E237 E238 E239 E240 E241 E242 E243 E244 (by show 0 ≤ (x8_ + 1) ∧ (x8_ + 1) ≤ 4 ∧ (h229 90 2) = (h 90 2) ∧ (h229 90 7) = (h 90 7) ∧ (h229 90 8) = (h 90 8) ∧ (h229 90 13) = (h 90 13) ∧ (h229 90 20) = (h 90 20) ∧ (h229 90 22) = (h 90 22) ∧ (h229 90 25) = (h 90 25) ∧ (h229 90 26) = (h 90 26) ∧ (h229 90 28) = (h 90 28) ∧ (h229 90 29) = (h 90 29) ∧ (h229 90 30) = (h 90 30) ∧ (h229 90 34) = (h 90 34); omega) (by omega)
                        · skip
                          refine ov_blk (ls2 := [(0, ov_r 90), (1, ov_i x), (2, ov_i y), (3, ov_i m), (4, ov_i bo), (5, ov_i w), (6, ov_i x6_), (7, ov_i v150), (8, ov_i x8_), (9, ov_i (v150 - v222)), (10, ov_i x10_)]) (st2 := [ov_r 90]) (pc2 := 162) b_297_161_1 rfl rfl ?_
                          refine ov_getf (v := ov_r 110) d_297_162 fl_Mo_132 (zb_90 I230) (zs_90 I230) (congrArg ov_r (rg_90_38 I230)) ?_
                          refine ov_blk (ls2 := [(0, ov_r 90), (1, ov_i x), (2, ov_i y), (3, ov_i m), (4, ov_i bo), (5, ov_i w), (6, ov_i x6_), (7, ov_i v150), (8, ov_i x8_), (9, ov_i (v150 - v222)), (10, ov_i x10_)]) (st2 := [ov_r 90, ov_i x8_, ov_i x10_, ov_i ((60 * x8_) + x10_), ov_r 110]) (pc2 := 178) b_297_165_8 rfl rfl ?_
                          refine ov_getf (v := ov_r 96) d_297_178 fl_Mo_81 (zb_90 I230) (zs_90 I230) (congrArg ov_r (rg_90_10 I230)) ?_
                          refine ov_blk (ls2 := [(0, ov_r 90), (1, ov_i x), (2, ov_i y), (3, ov_i m), (4, ov_i bo), (5, ov_i w), (6, ov_i x6_), (7, ov_i v150), (8, ov_i x8_), (9, ov_i (v150 - v222)), (10, ov_i x10_)]) (st2 := [ov_i 2, ov_r 96, ov_i x8_, ov_i x10_, ov_i ((60 * x8_) + x10_), ov_r 110]) (pc2 := 182) b_297_181_1 rfl rfl ?_
                          refine ov_iald d_297_182 (zb_96 I230) (zs_96 I230) (by omega) ?_
                          rw [show h229 96 = h 96 from E235]
                          have g247 := t96_2 I
                          have gm248 := ov_mulb (q := x8_) (b := (h 96 2)) (A := 4) (B := 30) (by omega) (by omega) (by omega) (by omega)
                          refine ov_blk (ls2 := [(0, ov_r 90), (1, ov_i x), (2, ov_i y), (3, ov_i m), (4, ov_i bo), (5, ov_i w), (6, ov_i x6_), (7, ov_i v150), (8, ov_i x8_), (9, ov_i (v150 - v222)), (10, ov_i x10_)]) (st2 := [ov_i v150, ov_i (v150 - v222), ov_i (x10_ - (x8_ * (h 96 2))), ov_i ((60 * x8_) + x10_), ov_r 110]) (pc2 := 189) b_297_183_4 rfl rfl ?_
                          refine ov_cS (as := [ov_i (x10_ - (x8_ * (h 96 2))), ov_i (v150 - v222), ov_i v150]) (st := [ov_i ((60 * x8_) + x10_), ov_r 110]) (d2 := d - 1) d_297_189 lk_Mo_446 rfl (Nat.le_of_ble_eq_true rfl) (by omega) (c_Mo_turned (d - 1) (by omega) U I230 (x10_ - (x8_ * (h 96 2))) (v150 - v222) v150 (by omega) (by omega) (by omega) (by omega) (by omega)) ?_
                          rintro _ _ _ ⟨v250, rfl, rfl, rfl, f249⟩
                          show ov_R u d ov_m297 192 [(0, ov_r 90), (1, ov_i x), (2, ov_i y), (3, ov_i m), (4, ov_i bo), (5, ov_i w), (6, ov_i x6_), (7, ov_i v150), (8, ov_i x8_), (9, ov_i (v150 - v222)), (10, ov_i x10_)] [ov_l v250, ov_i ((60 * x8_) + x10_), ov_r 110] z228 h229 (P_Mo_wave_90 F z h x y m bo w)
                          clear f249
                          refine ov_last d_297_192 (zb_110 I230) (zs_110 I230) (by omega) ?_
                          have I251 := ua_110 (k := ((60 * x8_) + x10_)) (x := v250) I230
                          refine ov_blk (ls2 := [(0, ov_r 90), (1, ov_i x), (2, ov_i y), (3, ov_i m), (4, ov_i bo), (5, ov_i w), (6, ov_i x6_), (7, ov_i v150), (8, ov_i x8_), (9, ov_i (v150 - v222)), (10, ov_i x10_)]) (st2 := [ov_r 90]) (pc2 := 194) b_297_193_1 rfl rfl ?_
                          refine ov_getf (v := ov_r 111) d_297_194 fl_Mo_135 (zb_90 I251) (zs_90 I251) (congrArg ov_r (rg_90_39 I251)) ?_
                          refine ov_blk (ls2 := [(0, ov_r 90), (1, ov_i x), (2, ov_i y), (3, ov_i m), (4, ov_i bo), (5, ov_i w), (6, ov_i x6_), (7, ov_i v150), (8, ov_i x8_), (9, ov_i (v150 - v222)), (10, ov_i x10_)]) (st2 := [ov_r 90, ov_i ((m - 1) - x8_), ov_i x10_, ov_i ((60 * x8_) + x10_), ov_r 111]) (pc2 := 214) b_297_197_12 rfl rfl ?_
                          refine ov_getf (v := ov_r 96) d_297_214 fl_Mo_81 (zb_90 I251) (zs_90 I251) (congrArg ov_r (rg_90_10 I251)) ?_
                          refine ov_blk (ls2 := [(0, ov_r 90), (1, ov_i x), (2, ov_i y), (3, ov_i m), (4, ov_i bo), (5, ov_i w), (6, ov_i x6_), (7, ov_i v150), (8, ov_i x8_), (9, ov_i (v150 - v222)), (10, ov_i x10_)]) (st2 := [ov_i 2, ov_r 96, ov_i ((m - 1) - x8_), ov_i x10_, ov_i ((60 * x8_) + x10_), ov_r 111]) (pc2 := 218) b_297_217_1 rfl rfl ?_
                          refine ov_iald d_297_218 (zb_96 I251) (zs_96 I251) (by omega) ?_
                          rw [show (ov_up h229 110 ((60 * x8_) + x10_) v250) 96 = h 96 from E235]
                          have gm253 := ov_mulb (q := ((m - 1) - x8_)) (b := (h 96 2)) (A := 4) (B := 30) (by omega) (by omega) (by omega) (by omega)
                          refine ov_blk (ls2 := [(0, ov_r 90), (1, ov_i x), (2, ov_i y), (3, ov_i m), (4, ov_i bo), (5, ov_i w), (6, ov_i x6_), (7, ov_i v150), (8, ov_i x8_), (9, ov_i (v150 - v222)), (10, ov_i x10_)]) (st2 := [ov_i v150, ov_i (v150 - v222), ov_i (x10_ - (((m - 1) - x8_) * (h 96 2))), ov_i ((60 * x8_) + x10_), ov_r 111]) (pc2 := 225) b_297_219_4 rfl rfl ?_
                          refine ov_cS (as := [ov_i (x10_ - (((m - 1) - x8_) * (h 96 2))), ov_i (v150 - v222), ov_i v150]) (st := [ov_i ((60 * x8_) + x10_), ov_r 111]) (d2 := d - 1) d_297_225 lk_Mo_446 rfl (Nat.le_of_ble_eq_true rfl) (by omega) (c_Mo_turned (d - 1) (by omega) U I251 (x10_ - (((m - 1) - x8_) * (h 96 2))) (v150 - v222) v150 (by omega) (by omega) (by omega) (by omega) (by omega)) ?_
                          rintro _ _ _ ⟨v255, rfl, rfl, rfl, f254⟩
                          show ov_R u d ov_m297 228 [(0, ov_r 90), (1, ov_i x), (2, ov_i y), (3, ov_i m), (4, ov_i bo), (5, ov_i w), (6, ov_i x6_), (7, ov_i v150), (8, ov_i x8_), (9, ov_i (v150 - v222)), (10, ov_i x10_)] [ov_l v255, ov_i ((60 * x8_) + x10_), ov_r 111] z228 (ov_up h229 110 ((60 * x8_) + x10_) v250) (P_Mo_wave_90 F z h x y m bo w)
                          clear f254
                          refine ov_last d_297_228 (zb_111 I251) (zs_111 I251) (by omega) ?_
                          have I256 := ua_111 (k := ((60 * x8_) + x10_)) (x := v255) I251
                          refine ov_blk (ls2 := [(0, ov_r 90), (1, ov_i x), (2, ov_i y), (3, ov_i m), (4, ov_i bo), (5, ov_i w), (6, ov_i x6_), (7, ov_i v150), (8, ov_i x8_), (9, ov_i (v150 - v222)), (10, ov_i (x10_ + 1))]) (st2 := []) (pc2 := 232) b_297_229_1 rfl rfl ?_
                          refine ov_goto (tgt := 154) d_297_232 (by decide) ?_
                          exact ih225 (x10_ + 1) _ _ I256 E231 E232 E233 E234 E235 E236 E237 E238 E239 E240 E241 E242 E243 E244 (by show 0 ≤ (x10_ + 1) ∧ (x10_ + 1) ≤ 60 ∧ (h229 90 2) = (h157 90 2) ∧ (h229 90 7) = (h157 90 7) ∧ (h229 90 8) = (h157 90 8) ∧ (h229 90 13) = (h157 90 13) ∧ (h229 90 20) = (h157 90 20) ∧ (h229 90 22) = (h157 90 22) ∧ (h229 90 25) = (h157 90 25) ∧ (h229 90 26) = (h157 90 26) ∧ (h229 90 28) = (h157 90 28) ∧ (h229 90 29) = (h157 90 29) ∧ (h229 90 30) = (h157 90 30) ∧ (h229 90 34) = (h157 90 34); omega) (by omega)
                    exact L227 61 0 _ _ I158 E159 E160 E161 E162 E163 E164 E165 E166 E167 E168 E169 E170 E171 E172 (by show 0 ≤ 0 ∧ 0 ≤ 60 ∧ (h157 90 2) = (h157 90 2) ∧ (h157 90 7) = (h157 90 7) ∧ (h157 90 8) = (h157 90 8) ∧ (h157 90 13) = (h157 90 13) ∧ (h157 90 20) = (h157 90 20) ∧ (h157 90 22) = (h157 90 22) ∧ (h157 90 25) = (h157 90 25) ∧ (h157 90 26) = (h157 90 26) ∧ (h157 90 28) = (h157 90 28) ∧ (h157 90 29) = (h157 90 29) ∧ (h157 90 30) = (h157 90 30) ∧ (h157 90 34) = (h157 90 34); omega) (by omega)
              exact L155 5 0 _ _ I1 rfl rfl rfl rfl rfl rfl rfl rfl rfl rfl rfl rfl rfl rfl (by show 0 ≤ 0 ∧ 0 ≤ 4 ∧ (h 90 2) = (h 90 2) ∧ (h 90 7) = (h 90 7) ∧ (h 90 8) = (h 90 8) ∧ (h 90 13) = (h 90 13) ∧ (h 90 20) = (h 90 20) ∧ (h 90 22) = (h 90 22) ∧ (h 90 25) = (h 90 25) ∧ (h 90 26) = (h 90 26) ∧ (h 90 28) = (h 90 28) ∧ (h 90 29) = (h 90 29) ∧ (h 90 30) = (h 90 30) ∧ (h 90 34) = (h 90 34); omega) (by omega)
            · skip
              refine ov_blk (ls2 := [(0, ov_r 90), (1, ov_i x), (2, ov_i y), (3, ov_i m), (4, ov_i bo), (5, ov_i w), (6, ov_i x6_), (7, ov_i x7_)]) (st2 := [ov_i (-1)]) (pc2 := 117) b_297_116_1 rfl rfl ?_
              exact ov_reti (st := []) d_297_117 rfl ⟨_, rfl, I1, ⟨rfl, rfl, rfl, rfl, rfl, rfl, rfl, rfl, rfl, rfl, rfl, rfl, (by show -2147483648 ≤ (-1) ∧ (-1) ≤ 2147483647; omega)⟩, rfl, rfl, rfl, rfl, rfl, rfl, rfl, rfl, rfl, rfl, rfl, rfl, rfl, rfl⟩
          · skip
            refine ov_blk (ls2 := [(0, ov_r 90), (1, ov_i x), (2, ov_i y), (3, ov_i m), (4, ov_i bo), (5, ov_i w), (6, ov_i x6_), (7, ov_i x7_)]) (st2 := [ov_i x6_]) (pc2 := 63) b_297_61_1 rfl rfl ?_
            refine ov_ifeq (tgt := 111) d_297_63 (by decide) (by omega) (fun c257 => ?_) (fun c257 => ?_)
            · skip
              refine ov_blk (ls2 := [(0, ov_r 90), (1, ov_i x), (2, ov_i y), (3, ov_i m), (4, ov_i bo), (5, ov_i w), (6, ov_i x6_), (7, ov_i x7_)]) (st2 := [ov_i x6_]) (pc2 := 113) b_297_111_1 rfl rfl ?_
              refine ov_ifne (tgt := 118) d_297_113 (by decide) (by omega) (fun c258 => ?_) (fun c258 => ?_)
              · omega
              · skip
                refine ov_blk (ls2 := [(0, ov_r 90), (1, ov_i x), (2, ov_i y), (3, ov_i m), (4, ov_i bo), (5, ov_i w), (6, ov_i x6_), (7, ov_i x7_)]) (st2 := [ov_i (-1)]) (pc2 := 117) b_297_116_1 rfl rfl ?_
                exact ov_reti (st := []) d_297_117 rfl ⟨_, rfl, I1, ⟨rfl, rfl, rfl, rfl, rfl, rfl, rfl, rfl, rfl, rfl, rfl, rfl, (by show -2147483648 ≤ (-1) ∧ (-1) ≤ 2147483647; omega)⟩, rfl, rfl, rfl, rfl, rfl, rfl, rfl, rfl, rfl, rfl, rfl, rfl, rfl, rfl⟩
            · skip
              refine ov_blk (ls2 := [(0, ov_r 90), (1, ov_i x), (2, ov_i y), (3, ov_i m), (4, ov_i bo), (5, ov_i w), (6, ov_i x6_), (7, ov_i x7_)]) (st2 := [ov_i (y + x7_), ov_i x, ov_r 90]) (pc2 := 72) b_297_66_5 rfl rfl ?_
              refine ov_cV (as := [ov_i x, ov_i (y + x7_)]) (st := []) (d2 := d - 1) d_297_72 lk_Mo_285 rfl (Nat.le_of_ble_eq_true rfl) (c := 1) (zb_90 I1) (zs_90 I1) ⟨by decide, rfl⟩ (by omega) (c_Mo_isTimed_90 (d - 1) (by omega) U I1 x (y + x7_) (by omega) (by omega) (by omega)) ?_
              rintro _ _ _ ⟨v260, rfl, rfl, rfl, f259⟩
              show ov_R u d ov_m297 75 [(0, ov_r 90), (1, ov_i x), (2, ov_i y), (3, ov_i m), (4, ov_i bo), (5, ov_i w), (6, ov_i x6_), (7, ov_i x7_)] [ov_i v260] z (ov_up h 90 0 0) (P_Mo_wave_90 F z h x y m bo w)
              have f261 : (v260 = 0 ∨ v260 = 1) ∧ (v260 = 1 → ((h 96 (10 + 4 * (6 * (y + x7_) + x))) = 1 ∨ (h 96 (10 + 4 * (6 * (y + x7_) + x))) = 2)) ∧ (v260 = 0 → ¬ ((h 96 (10 + 4 * (6 * (y + x7_) + x))) = 1 ∨ (h 96 (10 + 4 * (6 * (y + x7_) + x))) = 2)) := f259
              clear f259
              refine ov_ifeq (tgt := 102) d_297_75 (by decide) (by omega) (fun c262 => ?_) (fun c262 => ?_)
              · skip
                have f261_ : v260 = 0 := by omega
                have f263 : ¬ ((h 96 (10 + 4 * (6 * (y + x7_) + x))) = 1 ∨ (h 96 (10 + 4 * (6 * (y + x7_) + x))) = 2) := f261.2.2 (by omega)
                clear f261
                refine ov_blk (ls2 := [(0, ov_r 90), (1, ov_i x), (2, ov_i y), (3, ov_i m), (4, ov_i bo), (5, ov_i w), (6, ov_i 0), (7, ov_i (x7_ + 1))]) (st2 := []) (pc2 := 108) b_297_102_3 rfl rfl ?_
                refine ov_goto (tgt := 55) d_297_108 (by decide) ?_
                exact ih143 0 (x7_ + 1) (by show (0 = 0 ∨ 0 = 1) ∧ 0 ≤ (x7_ + 1) ∧ (x7_ + 1) ≤ 4 ∧ (0 = 1 → 0 ≤ x ∧ x ≤ 5 ∧ 0 ≤ y ∧ y ≤ 8 ∧ 2 ≤ m ∧ m ≤ 4 ∧ y + m ≤ 9 ∧ 0 ≤ w ∧ w ≤ m - 1 ∧ (1 ≤ (x7_ + 1) → ((h 96 (10 + 4 * (6 * y + x))) = 1 ∨ (h 96 (10 + 4 * (6 * y + x))) = 2))); omega) (by omega)
              · skip
                have f261_ : v260 = 1 := by omega
                have f264 : ((h 96 (10 + 4 * (6 * (y + x7_) + x))) = 1 ∨ (h 96 (10 + 4 * (6 * (y + x7_) + x))) = 2) := f261.2.1 (by omega)
                clear f261
                refine ov_blk (ls2 := [(0, ov_r 90), (1, ov_i x), (2, ov_i y), (3, ov_i m), (4, ov_i bo), (5, ov_i w), (6, ov_i x6_), (7, ov_i x7_)]) (st2 := [ov_i 1, ov_i (y + x7_), ov_i x, ov_r 90]) (pc2 := 85) b_297_78_6 rfl rfl ?_
                refine ov_cV (as := [ov_i x, ov_i (y + x7_), ov_i 1]) (st := []) (d2 := d - 1) d_297_85 lk_Mo_289 rfl (Nat.le_of_ble_eq_true rfl) (c := 1) (zb_90 I1) (zs_90 I1) ⟨by decide, rfl⟩ (by omega) (c_Mo_lightAt_90 (d - 1) (by omega) U I1 x (y + x7_) 1 (by omega) (by omega) (by omega) (by omega) (by omega)) ?_
                rintro _ _ _ ⟨v266, rfl, rfl, rfl, f265⟩
                show ov_R u d ov_m297 88 [(0, ov_r 90), (1, ov_i x), (2, ov_i y), (3, ov_i m), (4, ov_i bo), (5, ov_i w), (6, ov_i x6_), (7, ov_i x7_)] [ov_i v266] z (ov_up h 90 0 0) (P_Mo_wave_90 F z h x y m bo w)
                have f267 : v266 = (h 96 (10 + 4 * (6 * (y + x7_) + x) + (1 : Int))) ∧ ((1 : Int) = 1 → 0 ≤ v266 ∧ v266 ≤ 60) ∧ ((1 : Int) = 2 → 0 ≤ v266 ∧ v266 ≤ 59) ∧ ((1 : Int) = 3 → 0 ≤ v266 ∧ v266 ≤ 60) := f265
                clear f265
                refine ov_blk (ls2 := [(0, ov_r 90), (1, ov_i x), (2, ov_i y), (3, ov_i m), (4, ov_i bo), (5, ov_i w), (6, ov_i x6_), (7, ov_i x7_)]) (st2 := [ov_i 1, ov_i y, ov_i x, ov_r 90, ov_i v266]) (pc2 := 92) b_297_88_4 rfl rfl ?_
                refine ov_cV (as := [ov_i x, ov_i y, ov_i 1]) (st := [ov_i v266]) (d2 := d - 1) d_297_92 lk_Mo_289 rfl (Nat.le_of_ble_eq_true rfl) (c := 1) (zb_90 I1) (zs_90 I1) ⟨by decide, rfl⟩ (by omega) (c_Mo_lightAt_90 (d - 1) (by omega) U I1 x y 1 (by omega) (by omega) (by omega) (by omega) (by omega)) ?_
                rintro _ _ _ ⟨v269, rfl, rfl, rfl, f268⟩
                show ov_R u d ov_m297 95 [(0, ov_r 90), (1, ov_i x), (2, ov_i y), (3, ov_i m), (4, ov_i bo), (5, ov_i w), (6, ov_i x6_), (7, ov_i x7_)] [ov_i v269, ov_i v266] z (ov_up h 90 0 0) (P_Mo_wave_90 F z h x y m bo w)
                have f270 : v269 = (h 96 (10 + 4 * (6 * y + x) + (1 : Int))) ∧ ((1 : Int) = 1 → 0 ≤ v269 ∧ v269 ≤ 60) ∧ ((1 : Int) = 2 → 0 ≤ v269 ∧ v269 ≤ 59) ∧ ((1 : Int) = 3 → 0 ≤ v269 ∧ v269 ≤ 60) := f268
                clear f268
                refine ov_icne (tgt := 102) d_297_95 (by decide) (by omega) (by omega) (fun c271 => ?_) (fun c271 => ?_)
                · skip
                  refine ov_blk (ls2 := [(0, ov_r 90), (1, ov_i x), (2, ov_i y), (3, ov_i m), (4, ov_i bo), (5, ov_i w), (6, ov_i 0), (7, ov_i (x7_ + 1))]) (st2 := []) (pc2 := 108) b_297_102_3 rfl rfl ?_
                  refine ov_goto (tgt := 55) d_297_108 (by decide) ?_
                  exact ih143 0 (x7_ + 1) (by show (0 = 0 ∨ 0 = 1) ∧ 0 ≤ (x7_ + 1) ∧ (x7_ + 1) ≤ 4 ∧ (0 = 1 → 0 ≤ x ∧ x ≤ 5 ∧ 0 ≤ y ∧ y ≤ 8 ∧ 2 ≤ m ∧ m ≤ 4 ∧ y + m ≤ 9 ∧ 0 ≤ w ∧ w ≤ m - 1 ∧ (1 ≤ (x7_ + 1) → ((h 96 (10 + 4 * (6 * y + x))) = 1 ∨ (h 96 (10 + 4 * (6 * y + x))) = 2))); omega) (by omega)
                · skip
                  refine ov_blk (ls2 := [(0, ov_r 90), (1, ov_i x), (2, ov_i y), (3, ov_i m), (4, ov_i bo), (5, ov_i w), (6, ov_i x6_), (7, ov_i x7_)]) (st2 := [ov_i 1]) (pc2 := 99) b_297_98_1 rfl rfl ?_
                  refine ov_goto (tgt := 103) d_297_99 (by decide) ?_
                  refine ov_blk (ls2 := [(0, ov_r 90), (1, ov_i x), (2, ov_i y), (3, ov_i m), (4, ov_i bo), (5, ov_i w), (6, ov_i 1), (7, ov_i (x7_ + 1))]) (st2 := []) (pc2 := 108) b_297_103_2 rfl rfl ?_
                  refine ov_goto (tgt := 55) d_297_108 (by decide) ?_
                  exact ih143 1 (x7_ + 1) (by show (1 = 0 ∨ 1 = 1) ∧ 0 ≤ (x7_ + 1) ∧ (x7_ + 1) ≤ 4 ∧ (1 = 1 → 0 ≤ x ∧ x ≤ 5 ∧ 0 ≤ y ∧ y ≤ 8 ∧ 2 ≤ m ∧ m ≤ 4 ∧ y + m ≤ 9 ∧ 0 ≤ w ∧ w ≤ m - 1 ∧ (1 ≤ (x7_ + 1) → ((h 96 (10 + 4 * (6 * y + x))) = 1 ∨ (h 96 (10 + 4 * (6 * y + x))) = 2))); omega) (by omega)
      exact L145 5 0 0 (by show (0 = 0 ∨ 0 = 1) ∧ 0 ≤ 0 ∧ 0 ≤ 4 ∧ (0 = 1 → 0 ≤ x ∧ x ≤ 5 ∧ 0 ≤ y ∧ y ≤ 8 ∧ 2 ≤ m ∧ m ≤ 4 ∧ y + m ≤ 9 ∧ 0 ≤ w ∧ w ≤ m - 1 ∧ (1 ≤ 0 → ((h 96 (10 + 4 * (6 * y + x))) = 1 ∨ (h 96 (10 + 4 * (6 * y + x))) = 2))); omega) (by omega)
    · skip
      have f139_ : v138 = 1 := by omega
      have f272 : (2 : Int) ≤ m ∧ m ≤ (4 : Int) := f139.2.1 (by omega)
      clear f139
      refine ov_blk (ls2 := [(0, ov_r 90), (1, ov_i x), (2, ov_i y), (3, ov_i m), (4, ov_i bo), (5, ov_i w)]) (st2 := [ov_r 90, ov_i (y + m)]) (pc2 := 27) b_297_23_4 rfl rfl ?_
      refine ov_cV (as := []) (st := [ov_i (y + m)]) (d2 := d - 1) d_297_27 lk_Mo_279 rfl (Nat.le_of_ble_eq_true rfl) (c := 1) (zb_90 I1) (zs_90 I1) ⟨by decide, rfl⟩ (by omega) (c_Mo_deep_90 (d - 1) (by omega) U I1) ?_
      rintro _ _ _ ⟨v274, rfl, rfl, rfl, f273⟩
      show ov_R u d ov_m297 30 [(0, ov_r 90), (1, ov_i x), (2, ov_i y), (3, ov_i m), (4, ov_i bo), (5, ov_i w)] [ov_i v274, ov_i (y + m)] z (ov_up h 90 0 0) (P_Mo_wave_90 F z h x y m bo w)
      have f275 : v274 = (h 96 1) ∧ 1 ≤ v274 ∧ v274 ≤ 9 := f273
      clear f273
      refine ov_icgt (tgt := 49) d_297_30 (by decide) (by omega) (by omega) (fun c276 => ?_) (fun c276 => ?_)
      · skip
        refine ov_blk (ls2 := [(0, ov_r 90), (1, ov_i x), (2, ov_i y), (3, ov_i m), (4, ov_i bo), (5, ov_i w), (6, ov_i 0), (7, ov_i 0)]) (st2 := []) (pc2 := 55) b_297_49_4 rfl rfl ?_
        have L280 : ∀ (n277 : Nat) (x6__ : Int) (x7__ : Int) (q279 : (x6__ = 0 ∨ x6__ = 1) ∧ 0 ≤ x7__ ∧ x7__ ≤ 4 ∧ (x6__ = 1 → 0 ≤ x ∧ x ≤ 5 ∧ 0 ≤ y ∧ y ≤ 8 ∧ 2 ≤ m ∧ m ≤ 4 ∧ y + m ≤ 9 ∧ 0 ≤ w ∧ w ≤ m - 1 ∧ (1 ≤ x7__ → ((h 96 (10 + 4 * (6 * y + x))) = 1 ∨ (h 96 (10 + 4 * (6 * y + x))) = 2)))), 4 - x7__ < (n277 : Int) → ov_R u d ov_m297 55 [(0, ov_r 90), (1, ov_i x), (2, ov_i y), (3, ov_i m), (4, ov_i bo), (5, ov_i w), (6, ov_i x6__), (7, ov_i x7__)] [] z (ov_up h 90 0 0) (P_Mo_wave_90 F z h x y m bo w) := by
          intro n277
          induction n277 with
          | zero =>
            intro x6__ x7__ q279 hn281
            exact absurd hn281 (by omega)
          | succ n277 ih278 =>
            intro x6__ x7__ q279 hn281
            refine ov_blk (ls2 := [(0, ov_r 90), (1, ov_i x), (2, ov_i y), (3, ov_i m), (4, ov_i bo), (5, ov_i w), (6, ov_i x6__), (7, ov_i x7__)]) (st2 := [ov_i m, ov_i x7__]) (pc2 := 58) b_297_55_2 rfl rfl ?_
            refine ov_icge (tgt := 111) d_297_58 (by decide) (by omega) (by omega) (fun c282 => ?_) (fun c282 => ?_)
            · skip
              refine ov_blk (ls2 := [(0, ov_r 90), (1, ov_i x), (2, ov_i y), (3, ov_i m), (4, ov_i bo), (5, ov_i w), (6, ov_i x6__), (7, ov_i x7__)]) (st2 := [ov_i x6__]) (pc2 := 113) b_297_111_1 rfl rfl ?_
              refine ov_ifne (tgt := 118) d_297_113 (by decide) (by omega) (fun c283 => ?_) (fun c283 => ?_)
              · skip
                have w1 := ov_WT_at W (c := 6 * y + x) (by omega)
                refine ov_blk (ls2 := [(0, ov_r 90), (1, ov_i x), (2, ov_i y), (3, ov_i m), (4, ov_i bo), (5, ov_i w), (6, ov_i x6__), (7, ov_i x7__)]) (st2 := [ov_i 1, ov_i y, ov_i x, ov_r 90]) (pc2 := 122) b_297_118_4 rfl rfl ?_
                refine ov_cV (as := [ov_i x, ov_i y, ov_i 1]) (st := []) (d2 := d - 1) d_297_122 lk_Mo_289 rfl (Nat.le_of_ble_eq_true rfl) (c := 1) (zb_90 I1) (zs_90 I1) ⟨by decide, rfl⟩ (by omega) (c_Mo_lightAt_90 (d - 1) (by omega) U I1 x y 1 (by omega) (by omega) (by omega) (by omega) (by omega)) ?_
                rintro _ _ _ ⟨v285, rfl, rfl, rfl, f284⟩
                show ov_R u d ov_m297 125 [(0, ov_r 90), (1, ov_i x), (2, ov_i y), (3, ov_i m), (4, ov_i bo), (5, ov_i w), (6, ov_i x6__), (7, ov_i x7__)] [ov_i v285] z (ov_up h 90 0 0) (P_Mo_wave_90 F z h x y m bo w)
                have f286 : v285 = (h 96 (10 + 4 * (6 * y + x) + (1 : Int))) ∧ ((1 : Int) = 1 → 0 ≤ v285 ∧ v285 ≤ 60) ∧ ((1 : Int) = 2 → 0 ≤ v285 ∧ v285 ≤ 59) ∧ ((1 : Int) = 3 → 0 ≤ v285 ∧ v285 ≤ 60) := f284
                clear f284
                refine ov_blk (ls2 := [(0, ov_r 90), (1, ov_i x), (2, ov_i y), (3, ov_i m), (4, ov_i bo), (5, ov_i w), (6, ov_i x6__), (7, ov_i v285), (8, ov_i 0)]) (st2 := []) (pc2 := 130) b_297_125_3 rfl rfl ?_
                have L290 : ∀ (n287 : Nat) (x8__ : Int) (z291 : ov_Z) (h292 : ov_H) (I293 : ov_N F z291 h292) (E294 : h292 92 = h 92) (E295 : h292 93 = h 93) (E296 : h292 94 = h 94) (E297 : h292 95 = h 95) (E298 : h292 96 = h 96) (E299 : h292 97 = h 97) (E300 : h292 98 = h 98) (E301 : h292 99 = h 99) (E302 : h292 100 = h 100) (E303 : h292 103 = h 103) (E304 : h292 105 = h 105) (E305 : h292 106 = h 106) (E306 : h292 109 = h 109) (E307 : h292 114 = h 114) (q289 : 0 ≤ x8__ ∧ x8__ ≤ 4 ∧ (h292 90 2) = (h 90 2) ∧ (h292 90 7) = (h 90 7) ∧ (h292 90 8) = (h 90 8) ∧ (h292 90 13) = (h 90 13) ∧ (h292 90 20) = (h 90 20) ∧ (h292 90 22) = (h 90 22) ∧ (h292 90 25) = (h 90 25) ∧ (h292 90 26) = (h 90 26) ∧ (h292 90 28) = (h 90 28) ∧ (h292 90 29) = (h 90 29) ∧ (h292 90 30) = (h 90 30) ∧ (h292 90 34) = (h 90 34)), 4 - x8__ < (n287 : Int) → ov_R u d ov_m297 130 [(0, ov_r 90), (1, ov_i x), (2, ov_i y), (3, ov_i m), (4, ov_i bo), (5, ov_i w), (6, ov_i x6__), (7, ov_i v285), (8, ov_i x8__)] [] z291 h292 (P_Mo_wave_90 F z h x y m bo w) := by
                  intro n287
                  induction n287 with
                  | zero =>
                    intro x8__ z291 h292 I293 E294 E295 E296 E297 E298 E299 E300 E301 E302 E303 E304 E305 E306 E307 q289 hn308
                    exact absurd hn308 (by omega)
                  | succ n287 ih288 =>
                    intro x8__ z291 h292 I293 E294 E295 E296 E297 E298 E299 E300 E301 E302 E303 E304 E305 E306 E307 q289 hn308
                    refine ov_blk (ls2 := [(0, ov_r 90), (1, ov_i x), (2, ov_i y), (3, ov_i m), (4, ov_i bo), (5, ov_i w), (6, ov_i x6__), (7, ov_i v285), (8, ov_i x8__)]) (st2 := [ov_i m, ov_i x8__]) (pc2 := 133) b_297_130_2 rfl rfl ?_
                    refine ov_icge (tgt := 241) d_297_133 (by decide) (by omega) (by omega) (fun c309 => ?_) (fun c309 => ?_)
                    · skip
                      refine ov_blk (ls2 := [(0, ov_r 90), (1, ov_i x), (2, ov_i y), (3, ov_i m), (4, ov_i bo), (5, ov_i w), (6, ov_i x6__), (7, ov_i v285), (8, ov_i x8__)]) (st2 := [ov_i (-1), ov_r 90]) (pc2 := 243) b_297_241_2 rfl rfl ?_
                      refine ov_putf (x := (-1)) d_297_243 fl_Mo_439 (zb_90 I293) (zs_90 I293) rfl nk_0 rfl ?_
                      have I310 := up_90_42 (x := (-1)) I293 (by omega)
                      refine ov_blk (ls2 := [(0, ov_r 90), (1, ov_i x), (2, ov_i y), (3, ov_i m), (4, ov_i bo), (5, ov_i w), (6, ov_i x6__), (7, ov_i v285), (8, ov_i x8__)]) (st2 := [ov_i 2, ov_i y, ov_i x, ov_r 90]) (pc2 := 250) b_297_246_4 rfl rfl ?_
                      refine ov_cV (as := [ov_i x, ov_i y, ov_i 2]) (st := []) (d2 := d - 1) d_297_250 lk_Mo_289 rfl (Nat.le_of_ble_eq_true rfl) (c := 1) (zb_90 I310) (zs_90 I310) ⟨by decide, rfl⟩ (by omega) (c_Mo_lightAt_90 (d - 1) (by omega) U I310 x y 2 (by omega) (by omega) (by omega) (by omega) (by omega)) ?_
                      rintro _ _ _ ⟨v312, rfl, rfl, rfl, f311⟩
                      show ov_R u d ov_m297 253 [(0, ov_r 90), (1, ov_i x), (2, ov_i y), (3, ov_i m), (4, ov_i bo), (5, ov_i w), (6, ov_i x6__), (7, ov_i v285), (8, ov_i x8__)] [ov_i v312] z291 (ov_up h292 90 42 (-1)) (P_Mo_wave_90 F z h x y m bo w)
                      rw [show (ov_up h292 90 42 (-1)) 96 = h 96 from E298] at f311
                      have f313 : v312 = (h 96 (10 + 4 * (6 * y + x) + (2 : Int))) ∧ ((2 : Int) = 1 → 0 ≤ v312 ∧ v312 ≤ 60) ∧ ((2 : Int) = 2 → 0 ≤ v312 ∧ v312 ≤ 59) ∧ ((2 : Int) = 3 → 0 ≤ v312 ∧ v312 ≤ 60) := f311
                      clear f311
                      refine ov_blk (ls2 := [(0, ov_r 90), (1, ov_i x), (2, ov_i y), (3, ov_i m), (4, ov_i bo), (5, ov_i w), (6, ov_i x6__), (7, ov_i v285), (8, ov_i x8__)]) (st2 := [ov_i 3, ov_i y, ov_i x, ov_r 90, ov_i v312]) (pc2 := 257) b_297_253_4 rfl rfl ?_
                      refine ov_cV (as := [ov_i x, ov_i y, ov_i 3]) (st := [ov_i v312]) (d2 := d - 1) d_297_257 lk_Mo_289 rfl (Nat.le_of_ble_eq_true rfl) (c := 1) (zb_90 I310) (zs_90 I310) ⟨by decide, rfl⟩ (by omega) (c_Mo_lightAt_90 (d - 1) (by omega) U I310 x y 3 (by omega) (by omega) (by omega) (by omega) (by omega)) ?_
                      rintro _ _ _ ⟨v315, rfl, rfl, rfl, f314⟩
                      show ov_R u d ov_m297 260 [(0, ov_r 90), (1, ov_i x), (2, ov_i y), (3, ov_i m), (4, ov_i bo), (5, ov_i w), (6, ov_i x6__), (7, ov_i v285), (8, ov_i x8__)] [ov_i v315, ov_i v312] z291 (ov_up h292 90 42 (-1)) (P_Mo_wave_90 F z h x y m bo w)
                      rw [show (ov_up h292 90 42 (-1)) 96 = h 96 from E298] at f314
                      have f316 : v315 = (h 96 (10 + 4 * (6 * y + x) + (3 : Int))) ∧ ((3 : Int) = 1 → 0 ≤ v315 ∧ v315 ≤ 60) ∧ ((3 : Int) = 2 → 0 ≤ v315 ∧ v315 ≤ 59) ∧ ((3 : Int) = 3 → 0 ≤ v315 ∧ v315 ≤ 60) := f314
                      clear f314
                      refine ov_blk (ls2 := [(0, ov_r 90), (1, ov_i x), (2, ov_i y), (3, ov_i m), (4, ov_i bo), (5, ov_i w), (6, ov_i x6__), (7, ov_i v285), (8, ov_i x8__)]) (st2 := [ov_i v285, ov_i (v312 + v315)]) (pc2 := 263) b_297_260_2 rfl rfl ?_
                      refine ov_irem d_297_263 (by omega) (by omega) (by omega) ?_
                      have g317 := ov_tmg (a := (v312 + v315)) (b := v285) (by omega) (by omega)
                      refine ov_havw (fun w318 gw318 qw318 => ?_)
                      refine ov_blk (ls2 := [(0, ov_r 90), (1, ov_i x), (2, ov_i y), (3, ov_i m), (4, ov_i bo), (5, ov_i w), (6, ov_i x6__), (7, ov_i v285), (8, ov_i w318)]) (st2 := [ov_r 90]) (pc2 := 267) b_297_264_2 rfl rfl ?_
                      refine ov_getf (v := ov_r 112) d_297_267 fl_Mo_138 (zb_90 I310) (zs_90 I310) (congrArg ov_r (rg_90_40 I310)) ?_
                      refine ov_blk (ls2 := [(0, ov_r 90), (1, ov_i x), (2, ov_i y), (3, ov_i m), (4, ov_i bo), (5, ov_i w), (6, ov_i x6__), (7, ov_i v285), (8, ov_i w318)]) (st2 := [ov_i w318, ov_i 0, ov_r 112]) (pc2 := 273) b_297_270_2 rfl rfl ?_
                      refine ov_iast d_297_273 (zb_112 I310) (zs_112 I310) (by omega) ?_
                      have I319 := ua_112 (k := 0) (x := w318) I310 (by omega)
                      refine ov_blk (ls2 := [(0, ov_r 90), (1, ov_i x), (2, ov_i y), (3, ov_i m), (4, ov_i bo), (5, ov_i w), (6, ov_i x6__), (7, ov_i v285), (8, ov_i w318)]) (st2 := [ov_r 90, ov_i v285, ov_i m, ov_i 1, ov_r 90]) (pc2 := 280) b_297_274_5 rfl rfl ?_
                      refine ov_getf (v := ov_r 110) d_297_280 fl_Mo_132 (zb_90 I319) (zs_90 I319) (congrArg ov_r (rg_90_38 I319)) ?_
                      refine ov_blk (ls2 := [(0, ov_r 90), (1, ov_i x), (2, ov_i y), (3, ov_i m), (4, ov_i bo), (5, ov_i w), (6, ov_i x6__), (7, ov_i v285), (8, ov_i w318)]) (st2 := [ov_i w318, ov_r 110, ov_i v285, ov_i m, ov_i 1, ov_r 90]) (pc2 := 285) b_297_283_1 rfl rfl ?_
                      refine ov_lald d_297_285 (zb_110 I319) (zs_110 I319) (by omega) ?_
                      show ov_R u d ov_m297 286 [(0, ov_r 90), (1, ov_i x), (2, ov_i y), (3, ov_i m), (4, ov_i bo), (5, ov_i w), (6, ov_i x6__), (7, ov_i v285), (8, ov_i w318)] [ov_l (h292 110 w318), ov_i v285, ov_i m, ov_i 1, ov_r 90] z291 (ov_up (ov_up h292 90 42 (-1)) 112 0 w318) (P_Mo_wave_90 F z h x y m bo w)
                      refine ov_blk (ls2 := [(0, ov_r 90), (1, ov_i x), (2, ov_i y), (3, ov_i m), (4, ov_i bo), (5, ov_i w), (6, ov_i x6__), (7, ov_i v285), (8, ov_i w318)]) (st2 := [ov_r 90, ov_l (h292 110 w318), ov_i v285, ov_i m, ov_i 1, ov_r 90]) (pc2 := 287) b_297_286_1 rfl rfl ?_
                      refine ov_getf (v := ov_r 111) d_297_287 fl_Mo_135 (zb_90 I319) (zs_90 I319) (congrArg ov_r (rg_90_39 I319)) ?_
                      refine ov_blk (ls2 := [(0, ov_r 90), (1, ov_i x), (2, ov_i y), (3, ov_i m), (4, ov_i bo), (5, ov_i w), (6, ov_i x6__), (7, ov_i v285), (8, ov_i w318)]) (st2 := [ov_i w318, ov_r 111, ov_l (h292 110 w318), ov_i v285, ov_i m, ov_i 1, ov_r 90]) (pc2 := 292) b_297_290_1 rfl rfl ?_
                      refine ov_lald d_297_292 (zb_111 I319) (zs_111 I319) (by omega) ?_
                      show ov_R u d ov_m297 293 [(0, ov_r 90), (1, ov_i x), (2, ov_i y), (3, ov_i m), (4, ov_i bo), (5, ov_i w), (6, ov_i x6__), (7, ov_i v285), (8, ov_i w318)] [ov_l (h292 111 w318), ov_l (h292 110 w318), ov_i v285, ov_i m, ov_i 1, ov_r 90] z291 (ov_up (ov_up h292 90 42 (-1)) 112 0 w318) (P_Mo_wave_90 F z h x y m bo w)
                      refine ov_blk (ls2 := [(0, ov_r 90), (1, ov_i x), (2, ov_i y), (3, ov_i m), (4, ov_i bo), (5, ov_i w), (6, ov_i x6__), (7, ov_i v285), (8, ov_i w318)]) (st2 := [ov_i bo, ov_l (h292 111 w318), ov_l (h292 110 w318), ov_i v285, ov_i m, ov_i 1, ov_r 90]) (pc2 := 295) b_297_293_1 rfl rfl ?_
                      refine ov_cV (as := [ov_i 1, ov_i m, ov_i v285, ov_l (h292 110 w318), ov_l (h292 111 w318), ov_i bo]) (st := []) (d2 := d - 1) d_297_295 lk_Mo_442 rfl (Nat.le_of_ble_eq_true rfl) (c := 1) (zb_90 I319) (zs_90 I319) ⟨by decide, rfl⟩ (by omega) (c_Mo_triesWave_90_all (Int.toNat ((m) - (1))) (d - 1) (by omega) U I319 1 m v285 (h292 110 w318) (h292 111 w318) bo (by omega) (by omega) (by omega) (by omega) (by omega) (by omega) (by omega)) ?_
                      rintro _ z335 h336 ⟨rfl, I337, f320, e321, e322, e323, e324, e325, e326, e327, e328, e329, e330, e331, e332, e333, e334⟩
                      have E338 : h336 92 = h 92 := Eq.trans e321 E294
                      have E339 : h336 93 = h 93 := Eq.trans e322 E295
                      have E340 : h336 94 = h 94 := Eq.trans e323 E296
                      have E341 : h336 95 = h 95 := Eq.trans e324 E297
                      have E342 : h336 96 = h 96 := Eq.trans e325 E298
                      have E343 : h336 97 = h 97 := Eq.trans e326 E299
                      have E344 : h336 98 = h 98 := Eq.trans e327 E300
                      have E345 : h336 99 = h 99 := Eq.trans e328 E301
                      have E346 : h336 100 = h 100 := Eq.trans e329 E302
                      have E347 : h336 103 = h 103 := Eq.trans e330 E303
                      have E348 : h336 105 = h 105 := Eq.trans e331 E304
                      have E349 : h336 106 = h 106 := Eq.trans e332 E305
                      have E350 : h336 109 = h 109 := Eq.trans e333 E306
                      have E351 : h336 114 = h 114 := Eq.trans e334 E307
                      show ov_R u d ov_m297 298 [(0, ov_r 90), (1, ov_i x), (2, ov_i y), (3, ov_i m), (4, ov_i bo), (5, ov_i w), (6, ov_i x6__), (7, ov_i v285), (8, ov_i w318)] [] z335 h336 (P_Mo_wave_90 F z h x y m bo w)
                      have f352 : (h336 90 2) = (h292 90 2) ∧ (h336 90 7) = (h292 90 7) ∧ (h336 90 8) = (h292 90 8) ∧ (h336 90 13) = (h292 90 13) ∧ (h336 90 20) = (h292 90 20) ∧ (h336 90 22) = (h292 90 22) ∧ (h336 90 25) = (h292 90 25) ∧ (h336 90 26) = (h292 90 26) ∧ (h336 90 28) = (h292 90 28) ∧ (h336 90 29) = (h292 90 29) ∧ (h336 90 30) = (h292 90 30) ∧ (h336 90 34) = (h292 90 34) := f320
                      clear f320
                      refine ov_blk (ls2 := [(0, ov_r 90), (1, ov_i x), (2, ov_i y), (3, ov_i m), (4, ov_i bo), (5, ov_i w), (6, ov_i x6__), (7, ov_i v285), (8, ov_i w318)]) (st2 := [ov_i w]) (pc2 := 300) b_297_298_1 rfl rfl ?_
                      refine ov_ifne (tgt := 310) d_297_300 (by decide) (by omega) (fun c353 => ?_) (fun c353 => ?_)
                      · skip
                        refine ov_blk (ls2 := [(0, ov_r 90), (1, ov_i x), (2, ov_i y), (3, ov_i m), (4, ov_i bo), (5, ov_i w), (6, ov_i x6__), (7, ov_i v285), (8, ov_i w318)]) (st2 := [ov_r 90]) (pc2 := 311) b_297_310_1 rfl rfl ?_
                        refine ov_getf (v := ov_r 113) d_297_311 fl_Mo_141 (zb_90 I337) (zs_90 I337) (congrArg ov_r (rg_90_41 I337)) ?_
                        refine ov_blk (ls2 := [(0, ov_r 90), (1, ov_i x), (2, ov_i y), (3, ov_i m), (4, ov_i bo), (5, ov_i w), (6, ov_i x6__), (7, ov_i v285), (8, ov_i w318)]) (st2 := [ov_i w, ov_r 113]) (pc2 := 316) b_297_314_1 rfl rfl ?_
                        refine ov_iald d_297_316 (zb_113 I337) (zs_113 I337) (by omega) ?_
                        have g354 := ra_113 I337 w
                        exact ov_reti (st := []) d_297_317 rfl ⟨_, rfl, I337, (by show (h336 90 2) = (h 90 2) ∧ (h336 90 7) = (h 90 7) ∧ (h336 90 8) = (h 90 8) ∧ (h336 90 13) = (h 90 13) ∧ (h336 90 20) = (h 90 20) ∧ (h336 90 22) = (h 90 22) ∧ (h336 90 25) = (h 90 25) ∧ (h336 90 26) = (h 90 26) ∧ (h336 90 28) = (h 90 28) ∧ (h336 90 29) = (h 90 29) ∧ (h336 90 30) = (h 90 30) ∧ (h336 90 34) = (h 90 34) ∧ -2147483648 ≤ (h336 113 w) ∧ (h336 113 w) ≤ 2147483647; omega), E338, E339, E340, E341, E342, E343, E344, E345, E346, E347, E348, E349, E350, E351⟩
                      · skip
                        refine ov_blk (ls2 := [(0, ov_r 90), (1, ov_i x), (2, ov_i y), (3, ov_i m), (4, ov_i bo), (5, ov_i w), (6, ov_i x6__), (7, ov_i v285), (8, ov_i w318)]) (st2 := [ov_r 90]) (pc2 := 304) b_297_303_1 rfl rfl ?_
                        refine ov_getf (v := ov_i (h336 90 42)) d_297_304 fl_Mo_439 (zb_90 I337) (zs_90 I337) rfl ?_
                        have g355 := rg_90_42 I337
                        refine ov_goto (tgt := 317) d_297_307 (by decide) ?_
                        exact ov_reti (st := []) d_297_317 rfl ⟨_, rfl, I337, (by show (h336 90 2) = (h 90 2) ∧ (h336 90 7) = (h 90 7) ∧ (h336 90 8) = (h 90 8) ∧ (h336 90 13) = (h 90 13) ∧ (h336 90 20) = (h 90 20) ∧ (h336 90 22) = (h 90 22) ∧ (h336 90 25) = (h 90 25) ∧ (h336 90 26) = (h 90 26) ∧ (h336 90 28) = (h 90 28) ∧ (h336 90 29) = (h 90 29) ∧ (h336 90 30) = (h 90 30) ∧ (h336 90 34) = (h 90 34) ∧ -2147483648 ≤ (h336 90 42) ∧ (h336 90 42) ≤ 2147483647; omega), E338, E339, E340, E341, E342, E343, E344, E345, E346, E347, E348, E349, E350, E351⟩
                    · skip
                      refine ov_blk (ls2 := [(0, ov_r 90), (1, ov_i x), (2, ov_i y), (3, ov_i m), (4, ov_i bo), (5, ov_i w), (6, ov_i x6__), (7, ov_i v285), (8, ov_i x8__)]) (st2 := [ov_i 3, ov_i (y + x8__), ov_i x, ov_r 90, ov_i v285]) (pc2 := 145) b_297_136_7 rfl rfl ?_
                      refine ov_cV (as := [ov_i x, ov_i (y + x8__), ov_i 3]) (st := [ov_i v285]) (d2 := d - 1) d_297_145 lk_Mo_289 rfl (Nat.le_of_ble_eq_true rfl) (c := 1) (zb_90 I293) (zs_90 I293) ⟨by decide, rfl⟩ (by omega) (c_Mo_lightAt_90 (d - 1) (by omega) U I293 x (y + x8__) 3 (by omega) (by omega) (by omega) (by omega) (by omega)) ?_
                      rintro _ _ _ ⟨v357, rfl, rfl, rfl, f356⟩
                      show ov_R u d ov_m297 148 [(0, ov_r 90), (1, ov_i x), (2, ov_i y), (3, ov_i m), (4, ov_i bo), (5, ov_i w), (6, ov_i x6__), (7, ov_i v285), (8, ov_i x8__)] [ov_i v357, ov_i v285] z291 h292 (P_Mo_wave_90 F z h x y m bo w)
                      rw [show h292 96 = h 96 from E298] at f356
                      have f358 : v357 = (h 96 (10 + 4 * (6 * (y + x8__) + x) + (3 : Int))) ∧ ((3 : Int) = 1 → 0 ≤ v357 ∧ v357 ≤ 60) ∧ ((3 : Int) = 2 → 0 ≤ v357 ∧ v357 ≤ 59) ∧ ((3 : Int) = 3 → 0 ≤ v357 ∧ v357 ≤ 60) := f356
                      clear f356
                      refine ov_blk (ls2 := [(0, ov_r 90), (1, ov_i x), (2, ov_i y), (3, ov_i m), (4, ov_i bo), (5, ov_i w), (6, ov_i x6__), (7, ov_i v285), (8, ov_i x8__), (9, ov_i (v285 - v357)), (10, ov_i 0)]) (st2 := []) (pc2 := 154) b_297_148_4 rfl rfl ?_
                      have L362 : ∀ (n359 : Nat) (x10__ : Int) (z363 : ov_Z) (h364 : ov_H) (I365 : ov_N F z363 h364) (E366 : h364 92 = h 92) (E367 : h364 93 = h 93) (E368 : h364 94 = h 94) (E369 : h364 95 = h 95) (E370 : h364 96 = h 96) (E371 : h364 97 = h 97) (E372 : h364 98 = h 98) (E373 : h364 99 = h 99) (E374 : h364 100 = h 100) (E375 : h364 103 = h 103) (E376 : h364 105 = h 105) (E377 : h364 106 = h 106) (E378 : h364 109 = h 109) (E379 : h364 114 = h 114) (q361 : 0 ≤ x10__ ∧ x10__ ≤ 60 ∧ (h364 90 2) = (h292 90 2) ∧ (h364 90 7) = (h292 90 7) ∧ (h364 90 8) = (h292 90 8) ∧ (h364 90 13) = (h292 90 13) ∧ (h364 90 20) = (h292 90 20) ∧ (h364 90 22) = (h292 90 22) ∧ (h364 90 25) = (h292 90 25) ∧ (h364 90 26) = (h292 90 26) ∧ (h364 90 28) = (h292 90 28) ∧ (h364 90 29) = (h292 90 29) ∧ (h364 90 30) = (h292 90 30) ∧ (h364 90 34) = (h292 90 34)), 60 - x10__ < (n359 : Int) → ov_R u d ov_m297 154 [(0, ov_r 90), (1, ov_i x), (2, ov_i y), (3, ov_i m), (4, ov_i bo), (5, ov_i w), (6, ov_i x6__), (7, ov_i v285), (8, ov_i x8__), (9, ov_i (v285 - v357)), (10, ov_i x10__)] [] z363 h364 (P_Mo_wave_90 F z h x y m bo w) := by
                        intro n359
                        induction n359 with
                        | zero =>
                          intro x10__ z363 h364 I365 E366 E367 E368 E369 E370 E371 E372 E373 E374 E375 E376 E377 E378 E379 q361 hn380
                          exact absurd hn380 (by omega)
                        | succ n359 ih360 =>
                          intro x10__ z363 h364 I365 E366 E367 E368 E369 E370 E371 E372 E373 E374 E375 E376 E377 E378 E379 q361 hn380
                          refine ov_blk (ls2 := [(0, ov_r 90), (1, ov_i x), (2, ov_i y), (3, ov_i m), (4, ov_i bo), (5, ov_i w), (6, ov_i x6__), (7, ov_i v285), (8, ov_i x8__), (9, ov_i (v285 - v357)), (10, ov_i x10__)]) (st2 := [ov_i v285, ov_i x10__]) (pc2 := 158) b_297_154_2 rfl rfl ?_
                          refine ov_icge (tgt := 235) d_297_158 (by decide) (by omega) (by omega) (fun c381 => ?_) (fun c381 => ?_)
                          · skip
                            refine ov_blk (ls2 := [(0, ov_r 90), (1, ov_i x), (2, ov_i y), (3, ov_i m), (4, ov_i bo), (5, ov_i w), (6, ov_i x6__), (7, ov_i v285), (8, ov_i (x8__ + 1)), (9, ov_i (v285 - v357)), (10, ov_i x10__)]) (st2 := []) (pc2 := 238) b_297_235_1 rfl rfl ?_
                            refine ov_goto (tgt := 130) d_297_238 (by decide) ?_
                            refine ov_sub (ls2 := [(0, ov_r 90), (1, ov_i x), (2, ov_i y), (3, ov_i m), (4, ov_i bo), (5, ov_i w), (6, ov_i x6__), (7, ov_i v285), (8, ov_i (x8__ + 1))]) (List.Sublist.subset (by repeat (first | exact List.Sublist.refl _ | apply List.Sublist.cons_cons | apply List.Sublist.cons))) ?_
                            exact ih288 (x8__ + 1) _ _ I365 E366 E367 E368 E369 E370 E371 E372 E373 E374 E375 E376 E377 E378 E379 (by show 0 ≤ (x8__ + 1) ∧ (x8__ + 1) ≤ 4 ∧ (h364 90 2) = (h 90 2) ∧ (h364 90 7) = (h 90 7) ∧ (h364 90 8) = (h 90 8) ∧ (h364 90 13) = (h 90 13) ∧ (h364 90 20) = (h 90 20) ∧ (h364 90 22) = (h 90 22) ∧ (h364 90 25) = (h 90 25) ∧ (h364 90 26) = (h 90 26) ∧ (h364 90 28) = (h 90 28) ∧ (h364 90 29) = (h 90 29) ∧ (h364 90 30) = (h 90 30) ∧ (h364 90 34) = (h 90 34); omega) (by omega)
                          · skip
                            refine ov_blk (ls2 := [(0, ov_r 90), (1, ov_i x), (2, ov_i y), (3, ov_i m), (4, ov_i bo), (5, ov_i w), (6, ov_i x6__), (7, ov_i v285), (8, ov_i x8__), (9, ov_i (v285 - v357)), (10, ov_i x10__)]) (st2 := [ov_r 90]) (pc2 := 162) b_297_161_1 rfl rfl ?_
                            refine ov_getf (v := ov_r 110) d_297_162 fl_Mo_132 (zb_90 I365) (zs_90 I365) (congrArg ov_r (rg_90_38 I365)) ?_
                            refine ov_blk (ls2 := [(0, ov_r 90), (1, ov_i x), (2, ov_i y), (3, ov_i m), (4, ov_i bo), (5, ov_i w), (6, ov_i x6__), (7, ov_i v285), (8, ov_i x8__), (9, ov_i (v285 - v357)), (10, ov_i x10__)]) (st2 := [ov_r 90, ov_i x8__, ov_i x10__, ov_i ((60 * x8__) + x10__), ov_r 110]) (pc2 := 178) b_297_165_8 rfl rfl ?_
                            refine ov_getf (v := ov_r 96) d_297_178 fl_Mo_81 (zb_90 I365) (zs_90 I365) (congrArg ov_r (rg_90_10 I365)) ?_
                            refine ov_blk (ls2 := [(0, ov_r 90), (1, ov_i x), (2, ov_i y), (3, ov_i m), (4, ov_i bo), (5, ov_i w), (6, ov_i x6__), (7, ov_i v285), (8, ov_i x8__), (9, ov_i (v285 - v357)), (10, ov_i x10__)]) (st2 := [ov_i 2, ov_r 96, ov_i x8__, ov_i x10__, ov_i ((60 * x8__) + x10__), ov_r 110]) (pc2 := 182) b_297_181_1 rfl rfl ?_
                            refine ov_iald d_297_182 (zb_96 I365) (zs_96 I365) (by omega) ?_
                            rw [show h364 96 = h 96 from E370]
                            have g382 := t96_2 I
                            have gm383 := ov_mulb (q := x8__) (b := (h 96 2)) (A := 4) (B := 30) (by omega) (by omega) (by omega) (by omega)
                            refine ov_blk (ls2 := [(0, ov_r 90), (1, ov_i x), (2, ov_i y), (3, ov_i m), (4, ov_i bo), (5, ov_i w), (6, ov_i x6__), (7, ov_i v285), (8, ov_i x8__), (9, ov_i (v285 - v357)), (10, ov_i x10__)]) (st2 := [ov_i v285, ov_i (v285 - v357), ov_i (x10__ - (x8__ * (h 96 2))), ov_i ((60 * x8__) + x10__), ov_r 110]) (pc2 := 189) b_297_183_4 rfl rfl ?_
                            refine ov_cS (as := [ov_i (x10__ - (x8__ * (h 96 2))), ov_i (v285 - v357), ov_i v285]) (st := [ov_i ((60 * x8__) + x10__), ov_r 110]) (d2 := d - 1) d_297_189 lk_Mo_446 rfl (Nat.le_of_ble_eq_true rfl) (by omega) (c_Mo_turned (d - 1) (by omega) U I365 (x10__ - (x8__ * (h 96 2))) (v285 - v357) v285 (by omega) (by omega) (by omega) (by omega) (by omega)) ?_
                            rintro _ _ _ ⟨v385, rfl, rfl, rfl, f384⟩
                            show ov_R u d ov_m297 192 [(0, ov_r 90), (1, ov_i x), (2, ov_i y), (3, ov_i m), (4, ov_i bo), (5, ov_i w), (6, ov_i x6__), (7, ov_i v285), (8, ov_i x8__), (9, ov_i (v285 - v357)), (10, ov_i x10__)] [ov_l v385, ov_i ((60 * x8__) + x10__), ov_r 110] z363 h364 (P_Mo_wave_90 F z h x y m bo w)
                            clear f384
                            refine ov_last d_297_192 (zb_110 I365) (zs_110 I365) (by omega) ?_
                            have I386 := ua_110 (k := ((60 * x8__) + x10__)) (x := v385) I365
                            refine ov_blk (ls2 := [(0, ov_r 90), (1, ov_i x), (2, ov_i y), (3, ov_i m), (4, ov_i bo), (5, ov_i w), (6, ov_i x6__), (7, ov_i v285), (8, ov_i x8__), (9, ov_i (v285 - v357)), (10, ov_i x10__)]) (st2 := [ov_r 90]) (pc2 := 194) b_297_193_1 rfl rfl ?_
                            refine ov_getf (v := ov_r 111) d_297_194 fl_Mo_135 (zb_90 I386) (zs_90 I386) (congrArg ov_r (rg_90_39 I386)) ?_
                            refine ov_blk (ls2 := [(0, ov_r 90), (1, ov_i x), (2, ov_i y), (3, ov_i m), (4, ov_i bo), (5, ov_i w), (6, ov_i x6__), (7, ov_i v285), (8, ov_i x8__), (9, ov_i (v285 - v357)), (10, ov_i x10__)]) (st2 := [ov_r 90, ov_i ((m - 1) - x8__), ov_i x10__, ov_i ((60 * x8__) + x10__), ov_r 111]) (pc2 := 214) b_297_197_12 rfl rfl ?_
                            refine ov_getf (v := ov_r 96) d_297_214 fl_Mo_81 (zb_90 I386) (zs_90 I386) (congrArg ov_r (rg_90_10 I386)) ?_
                            refine ov_blk (ls2 := [(0, ov_r 90), (1, ov_i x), (2, ov_i y), (3, ov_i m), (4, ov_i bo), (5, ov_i w), (6, ov_i x6__), (7, ov_i v285), (8, ov_i x8__), (9, ov_i (v285 - v357)), (10, ov_i x10__)]) (st2 := [ov_i 2, ov_r 96, ov_i ((m - 1) - x8__), ov_i x10__, ov_i ((60 * x8__) + x10__), ov_r 111]) (pc2 := 218) b_297_217_1 rfl rfl ?_
                            refine ov_iald d_297_218 (zb_96 I386) (zs_96 I386) (by omega) ?_
                            rw [show (ov_up h364 110 ((60 * x8__) + x10__) v385) 96 = h 96 from E370]
                            have gm388 := ov_mulb (q := ((m - 1) - x8__)) (b := (h 96 2)) (A := 4) (B := 30) (by omega) (by omega) (by omega) (by omega)
                            refine ov_blk (ls2 := [(0, ov_r 90), (1, ov_i x), (2, ov_i y), (3, ov_i m), (4, ov_i bo), (5, ov_i w), (6, ov_i x6__), (7, ov_i v285), (8, ov_i x8__), (9, ov_i (v285 - v357)), (10, ov_i x10__)]) (st2 := [ov_i v285, ov_i (v285 - v357), ov_i (x10__ - (((m - 1) - x8__) * (h 96 2))), ov_i ((60 * x8__) + x10__), ov_r 111]) (pc2 := 225) b_297_219_4 rfl rfl ?_
                            refine ov_cS (as := [ov_i (x10__ - (((m - 1) - x8__) * (h 96 2))), ov_i (v285 - v357), ov_i v285]) (st := [ov_i ((60 * x8__) + x10__), ov_r 111]) (d2 := d - 1) d_297_225 lk_Mo_446 rfl (Nat.le_of_ble_eq_true rfl) (by omega) (c_Mo_turned (d - 1) (by omega) U I386 (x10__ - (((m - 1) - x8__) * (h 96 2))) (v285 - v357) v285 (by omega) (by omega) (by omega) (by omega) (by omega)) ?_
                            rintro _ _ _ ⟨v390, rfl, rfl, rfl, f389⟩
                            show ov_R u d ov_m297 228 [(0, ov_r 90), (1, ov_i x), (2, ov_i y), (3, ov_i m), (4, ov_i bo), (5, ov_i w), (6, ov_i x6__), (7, ov_i v285), (8, ov_i x8__), (9, ov_i (v285 - v357)), (10, ov_i x10__)] [ov_l v390, ov_i ((60 * x8__) + x10__), ov_r 111] z363 (ov_up h364 110 ((60 * x8__) + x10__) v385) (P_Mo_wave_90 F z h x y m bo w)
                            clear f389
                            refine ov_last d_297_228 (zb_111 I386) (zs_111 I386) (by omega) ?_
                            have I391 := ua_111 (k := ((60 * x8__) + x10__)) (x := v390) I386
                            refine ov_blk (ls2 := [(0, ov_r 90), (1, ov_i x), (2, ov_i y), (3, ov_i m), (4, ov_i bo), (5, ov_i w), (6, ov_i x6__), (7, ov_i v285), (8, ov_i x8__), (9, ov_i (v285 - v357)), (10, ov_i (x10__ + 1))]) (st2 := []) (pc2 := 232) b_297_229_1 rfl rfl ?_
                            refine ov_goto (tgt := 154) d_297_232 (by decide) ?_
                            exact ih360 (x10__ + 1) _ _ I391 E366 E367 E368 E369 E370 E371 E372 E373 E374 E375 E376 E377 E378 E379 (by show 0 ≤ (x10__ + 1) ∧ (x10__ + 1) ≤ 60 ∧ (h364 90 2) = (h292 90 2) ∧ (h364 90 7) = (h292 90 7) ∧ (h364 90 8) = (h292 90 8) ∧ (h364 90 13) = (h292 90 13) ∧ (h364 90 20) = (h292 90 20) ∧ (h364 90 22) = (h292 90 22) ∧ (h364 90 25) = (h292 90 25) ∧ (h364 90 26) = (h292 90 26) ∧ (h364 90 28) = (h292 90 28) ∧ (h364 90 29) = (h292 90 29) ∧ (h364 90 30) = (h292 90 30) ∧ (h364 90 34) = (h292 90 34); omega) (by omega)
                      exact L362 61 0 _ _ I293 E294 E295 E296 E297 E298 E299 E300 E301 E302 E303 E304 E305 E306 E307 (by show 0 ≤ 0 ∧ 0 ≤ 60 ∧ (h292 90 2) = (h292 90 2) ∧ (h292 90 7) = (h292 90 7) ∧ (h292 90 8) = (h292 90 8) ∧ (h292 90 13) = (h292 90 13) ∧ (h292 90 20) = (h292 90 20) ∧ (h292 90 22) = (h292 90 22) ∧ (h292 90 25) = (h292 90 25) ∧ (h292 90 26) = (h292 90 26) ∧ (h292 90 28) = (h292 90 28) ∧ (h292 90 29) = (h292 90 29) ∧ (h292 90 30) = (h292 90 30) ∧ (h292 90 34) = (h292 90 34); omega) (by omega)
                exact L290 5 0 _ _ I1 rfl rfl rfl rfl rfl rfl rfl rfl rfl rfl rfl rfl rfl rfl (by show 0 ≤ 0 ∧ 0 ≤ 4 ∧ (h 90 2) = (h 90 2) ∧ (h 90 7) = (h 90 7) ∧ (h 90 8) = (h 90 8) ∧ (h 90 13) = (h 90 13) ∧ (h 90 20) = (h 90 20) ∧ (h 90 22) = (h 90 22) ∧ (h 90 25) = (h 90 25) ∧ (h 90 26) = (h 90 26) ∧ (h 90 28) = (h 90 28) ∧ (h 90 29) = (h 90 29) ∧ (h 90 30) = (h 90 30) ∧ (h 90 34) = (h 90 34); omega) (by omega)
              · skip
                refine ov_blk (ls2 := [(0, ov_r 90), (1, ov_i x), (2, ov_i y), (3, ov_i m), (4, ov_i bo), (5, ov_i w), (6, ov_i x6__), (7, ov_i x7__)]) (st2 := [ov_i (-1)]) (pc2 := 117) b_297_116_1 rfl rfl ?_
                exact ov_reti (st := []) d_297_117 rfl ⟨_, rfl, I1, ⟨rfl, rfl, rfl, rfl, rfl, rfl, rfl, rfl, rfl, rfl, rfl, rfl, (by show -2147483648 ≤ (-1) ∧ (-1) ≤ 2147483647; omega)⟩, rfl, rfl, rfl, rfl, rfl, rfl, rfl, rfl, rfl, rfl, rfl, rfl, rfl, rfl⟩
            · skip
              refine ov_blk (ls2 := [(0, ov_r 90), (1, ov_i x), (2, ov_i y), (3, ov_i m), (4, ov_i bo), (5, ov_i w), (6, ov_i x6__), (7, ov_i x7__)]) (st2 := [ov_i x6__]) (pc2 := 63) b_297_61_1 rfl rfl ?_
              refine ov_ifeq (tgt := 111) d_297_63 (by decide) (by omega) (fun c392 => ?_) (fun c392 => ?_)
              · skip
                refine ov_blk (ls2 := [(0, ov_r 90), (1, ov_i x), (2, ov_i y), (3, ov_i m), (4, ov_i bo), (5, ov_i w), (6, ov_i x6__), (7, ov_i x7__)]) (st2 := [ov_i x6__]) (pc2 := 113) b_297_111_1 rfl rfl ?_
                refine ov_ifne (tgt := 118) d_297_113 (by decide) (by omega) (fun c393 => ?_) (fun c393 => ?_)
                · omega
                · skip
                  refine ov_blk (ls2 := [(0, ov_r 90), (1, ov_i x), (2, ov_i y), (3, ov_i m), (4, ov_i bo), (5, ov_i w), (6, ov_i x6__), (7, ov_i x7__)]) (st2 := [ov_i (-1)]) (pc2 := 117) b_297_116_1 rfl rfl ?_
                  exact ov_reti (st := []) d_297_117 rfl ⟨_, rfl, I1, ⟨rfl, rfl, rfl, rfl, rfl, rfl, rfl, rfl, rfl, rfl, rfl, rfl, (by show -2147483648 ≤ (-1) ∧ (-1) ≤ 2147483647; omega)⟩, rfl, rfl, rfl, rfl, rfl, rfl, rfl, rfl, rfl, rfl, rfl, rfl, rfl, rfl⟩
              · skip
                refine ov_blk (ls2 := [(0, ov_r 90), (1, ov_i x), (2, ov_i y), (3, ov_i m), (4, ov_i bo), (5, ov_i w), (6, ov_i x6__), (7, ov_i x7__)]) (st2 := [ov_i (y + x7__), ov_i x, ov_r 90]) (pc2 := 72) b_297_66_5 rfl rfl ?_
                refine ov_cV (as := [ov_i x, ov_i (y + x7__)]) (st := []) (d2 := d - 1) d_297_72 lk_Mo_285 rfl (Nat.le_of_ble_eq_true rfl) (c := 1) (zb_90 I1) (zs_90 I1) ⟨by decide, rfl⟩ (by omega) (c_Mo_isTimed_90 (d - 1) (by omega) U I1 x (y + x7__) (by omega) (by omega) (by omega)) ?_
                rintro _ _ _ ⟨v395, rfl, rfl, rfl, f394⟩
                show ov_R u d ov_m297 75 [(0, ov_r 90), (1, ov_i x), (2, ov_i y), (3, ov_i m), (4, ov_i bo), (5, ov_i w), (6, ov_i x6__), (7, ov_i x7__)] [ov_i v395] z (ov_up h 90 0 0) (P_Mo_wave_90 F z h x y m bo w)
                have f396 : (v395 = 0 ∨ v395 = 1) ∧ (v395 = 1 → ((h 96 (10 + 4 * (6 * (y + x7__) + x))) = 1 ∨ (h 96 (10 + 4 * (6 * (y + x7__) + x))) = 2)) ∧ (v395 = 0 → ¬ ((h 96 (10 + 4 * (6 * (y + x7__) + x))) = 1 ∨ (h 96 (10 + 4 * (6 * (y + x7__) + x))) = 2)) := f394
                clear f394
                refine ov_ifeq (tgt := 102) d_297_75 (by decide) (by omega) (fun c397 => ?_) (fun c397 => ?_)
                · skip
                  have f396_ : v395 = 0 := by omega
                  have f398 : ¬ ((h 96 (10 + 4 * (6 * (y + x7__) + x))) = 1 ∨ (h 96 (10 + 4 * (6 * (y + x7__) + x))) = 2) := f396.2.2 (by omega)
                  clear f396
                  refine ov_blk (ls2 := [(0, ov_r 90), (1, ov_i x), (2, ov_i y), (3, ov_i m), (4, ov_i bo), (5, ov_i w), (6, ov_i 0), (7, ov_i (x7__ + 1))]) (st2 := []) (pc2 := 108) b_297_102_3 rfl rfl ?_
                  refine ov_goto (tgt := 55) d_297_108 (by decide) ?_
                  exact ih278 0 (x7__ + 1) (by show (0 = 0 ∨ 0 = 1) ∧ 0 ≤ (x7__ + 1) ∧ (x7__ + 1) ≤ 4 ∧ (0 = 1 → 0 ≤ x ∧ x ≤ 5 ∧ 0 ≤ y ∧ y ≤ 8 ∧ 2 ≤ m ∧ m ≤ 4 ∧ y + m ≤ 9 ∧ 0 ≤ w ∧ w ≤ m - 1 ∧ (1 ≤ (x7__ + 1) → ((h 96 (10 + 4 * (6 * y + x))) = 1 ∨ (h 96 (10 + 4 * (6 * y + x))) = 2))); omega) (by omega)
                · skip
                  have f396_ : v395 = 1 := by omega
                  have f399 : ((h 96 (10 + 4 * (6 * (y + x7__) + x))) = 1 ∨ (h 96 (10 + 4 * (6 * (y + x7__) + x))) = 2) := f396.2.1 (by omega)
                  clear f396
                  refine ov_blk (ls2 := [(0, ov_r 90), (1, ov_i x), (2, ov_i y), (3, ov_i m), (4, ov_i bo), (5, ov_i w), (6, ov_i x6__), (7, ov_i x7__)]) (st2 := [ov_i 1, ov_i (y + x7__), ov_i x, ov_r 90]) (pc2 := 85) b_297_78_6 rfl rfl ?_
                  refine ov_cV (as := [ov_i x, ov_i (y + x7__), ov_i 1]) (st := []) (d2 := d - 1) d_297_85 lk_Mo_289 rfl (Nat.le_of_ble_eq_true rfl) (c := 1) (zb_90 I1) (zs_90 I1) ⟨by decide, rfl⟩ (by omega) (c_Mo_lightAt_90 (d - 1) (by omega) U I1 x (y + x7__) 1 (by omega) (by omega) (by omega) (by omega) (by omega)) ?_
                  rintro _ _ _ ⟨v401, rfl, rfl, rfl, f400⟩
                  show ov_R u d ov_m297 88 [(0, ov_r 90), (1, ov_i x), (2, ov_i y), (3, ov_i m), (4, ov_i bo), (5, ov_i w), (6, ov_i x6__), (7, ov_i x7__)] [ov_i v401] z (ov_up h 90 0 0) (P_Mo_wave_90 F z h x y m bo w)
                  have f402 : v401 = (h 96 (10 + 4 * (6 * (y + x7__) + x) + (1 : Int))) ∧ ((1 : Int) = 1 → 0 ≤ v401 ∧ v401 ≤ 60) ∧ ((1 : Int) = 2 → 0 ≤ v401 ∧ v401 ≤ 59) ∧ ((1 : Int) = 3 → 0 ≤ v401 ∧ v401 ≤ 60) := f400
                  clear f400
                  refine ov_blk (ls2 := [(0, ov_r 90), (1, ov_i x), (2, ov_i y), (3, ov_i m), (4, ov_i bo), (5, ov_i w), (6, ov_i x6__), (7, ov_i x7__)]) (st2 := [ov_i 1, ov_i y, ov_i x, ov_r 90, ov_i v401]) (pc2 := 92) b_297_88_4 rfl rfl ?_
                  refine ov_cV (as := [ov_i x, ov_i y, ov_i 1]) (st := [ov_i v401]) (d2 := d - 1) d_297_92 lk_Mo_289 rfl (Nat.le_of_ble_eq_true rfl) (c := 1) (zb_90 I1) (zs_90 I1) ⟨by decide, rfl⟩ (by omega) (c_Mo_lightAt_90 (d - 1) (by omega) U I1 x y 1 (by omega) (by omega) (by omega) (by omega) (by omega)) ?_
                  rintro _ _ _ ⟨v404, rfl, rfl, rfl, f403⟩
                  show ov_R u d ov_m297 95 [(0, ov_r 90), (1, ov_i x), (2, ov_i y), (3, ov_i m), (4, ov_i bo), (5, ov_i w), (6, ov_i x6__), (7, ov_i x7__)] [ov_i v404, ov_i v401] z (ov_up h 90 0 0) (P_Mo_wave_90 F z h x y m bo w)
                  have f405 : v404 = (h 96 (10 + 4 * (6 * y + x) + (1 : Int))) ∧ ((1 : Int) = 1 → 0 ≤ v404 ∧ v404 ≤ 60) ∧ ((1 : Int) = 2 → 0 ≤ v404 ∧ v404 ≤ 59) ∧ ((1 : Int) = 3 → 0 ≤ v404 ∧ v404 ≤ 60) := f403
                  clear f403
                  refine ov_icne (tgt := 102) d_297_95 (by decide) (by omega) (by omega) (fun c406 => ?_) (fun c406 => ?_)
                  · skip
                    refine ov_blk (ls2 := [(0, ov_r 90), (1, ov_i x), (2, ov_i y), (3, ov_i m), (4, ov_i bo), (5, ov_i w), (6, ov_i 0), (7, ov_i (x7__ + 1))]) (st2 := []) (pc2 := 108) b_297_102_3 rfl rfl ?_
                    refine ov_goto (tgt := 55) d_297_108 (by decide) ?_
                    exact ih278 0 (x7__ + 1) (by show (0 = 0 ∨ 0 = 1) ∧ 0 ≤ (x7__ + 1) ∧ (x7__ + 1) ≤ 4 ∧ (0 = 1 → 0 ≤ x ∧ x ≤ 5 ∧ 0 ≤ y ∧ y ≤ 8 ∧ 2 ≤ m ∧ m ≤ 4 ∧ y + m ≤ 9 ∧ 0 ≤ w ∧ w ≤ m - 1 ∧ (1 ≤ (x7__ + 1) → ((h 96 (10 + 4 * (6 * y + x))) = 1 ∨ (h 96 (10 + 4 * (6 * y + x))) = 2))); omega) (by omega)
                  · skip
                    refine ov_blk (ls2 := [(0, ov_r 90), (1, ov_i x), (2, ov_i y), (3, ov_i m), (4, ov_i bo), (5, ov_i w), (6, ov_i x6__), (7, ov_i x7__)]) (st2 := [ov_i 1]) (pc2 := 99) b_297_98_1 rfl rfl ?_
                    refine ov_goto (tgt := 103) d_297_99 (by decide) ?_
                    refine ov_blk (ls2 := [(0, ov_r 90), (1, ov_i x), (2, ov_i y), (3, ov_i m), (4, ov_i bo), (5, ov_i w), (6, ov_i 1), (7, ov_i (x7__ + 1))]) (st2 := []) (pc2 := 108) b_297_103_2 rfl rfl ?_
                    refine ov_goto (tgt := 55) d_297_108 (by decide) ?_
                    exact ih278 1 (x7__ + 1) (by show (1 = 0 ∨ 1 = 1) ∧ 0 ≤ (x7__ + 1) ∧ (x7__ + 1) ≤ 4 ∧ (1 = 1 → 0 ≤ x ∧ x ≤ 5 ∧ 0 ≤ y ∧ y ≤ 8 ∧ 2 ≤ m ∧ m ≤ 4 ∧ y + m ≤ 9 ∧ 0 ≤ w ∧ w ≤ m - 1 ∧ (1 ≤ (x7__ + 1) → ((h 96 (10 + 4 * (6 * y + x))) = 1 ∨ (h 96 (10 + 4 * (6 * y + x))) = 2))); omega) (by omega)
        exact L280 5 0 0 (by show (0 = 0 ∨ 0 = 1) ∧ 0 ≤ 0 ∧ 0 ≤ 4 ∧ (0 = 1 → 0 ≤ x ∧ x ≤ 5 ∧ 0 ≤ y ∧ y ≤ 8 ∧ 2 ≤ m ∧ m ≤ 4 ∧ y + m ≤ 9 ∧ 0 ≤ w ∧ w ≤ m - 1 ∧ (1 ≤ 0 → ((h 96 (10 + 4 * (6 * y + x))) = 1 ∨ (h 96 (10 + 4 * (6 * y + x))) = 2))); omega) (by omega)
      · skip
        refine ov_blk (ls2 := [(0, ov_r 90), (1, ov_i x), (2, ov_i y), (3, ov_i m), (4, ov_i bo), (5, ov_i w)]) (st2 := [ov_i (m - 1), ov_i 0, ov_i w]) (pc2 := 39) b_297_33_5 rfl rfl ?_
        refine ov_cS (as := [ov_i w, ov_i 0, ov_i (m - 1)]) (st := []) (d2 := d - 1) d_297_39 lk_Mo_299 rfl (Nat.le_of_ble_eq_true rfl) (by omega) (c_Mo_within (d - 1) (by omega) U I1 w 0 (m - 1) (by omega) (by omega) (by omega)) ?_
        rintro _ _ _ ⟨v408, rfl, rfl, rfl, f407⟩
        show ov_R u d ov_m297 42 [(0, ov_r 90), (1, ov_i x), (2, ov_i y), (3, ov_i m), (4, ov_i bo), (5, ov_i w)] [ov_i v408] z (ov_up h 90 0 0) (P_Mo_wave_90 F z h x y m bo w)
        have f409 : (v408 = 0 ∨ v408 = 1) ∧ (v408 = 1 → (0 : Int) ≤ w ∧ w ≤ (m - 1)) ∧ (v408 = 0 → w < (0 : Int) ∨ (m - 1) < w) := f407
        clear f407
        refine ov_ifeq (tgt := 49) d_297_42 (by decide) (by omega) (fun c410 => ?_) (fun c410 => ?_)
        · skip
          have f409_ : v408 = 0 := by omega
          have f411 : w < (0 : Int) ∨ (m - 1) < w := f409.2.2 (by omega)
          clear f409
          refine ov_blk (ls2 := [(0, ov_r 90), (1, ov_i x), (2, ov_i y), (3, ov_i m), (4, ov_i bo), (5, ov_i w), (6, ov_i 0), (7, ov_i 0)]) (st2 := []) (pc2 := 55) b_297_49_4 rfl rfl ?_
          have L415 : ∀ (n412 : Nat) (x6___ : Int) (x7___ : Int) (q414 : (x6___ = 0 ∨ x6___ = 1) ∧ 0 ≤ x7___ ∧ x7___ ≤ 4 ∧ (x6___ = 1 → 0 ≤ x ∧ x ≤ 5 ∧ 0 ≤ y ∧ y ≤ 8 ∧ 2 ≤ m ∧ m ≤ 4 ∧ y + m ≤ 9 ∧ 0 ≤ w ∧ w ≤ m - 1 ∧ (1 ≤ x7___ → ((h 96 (10 + 4 * (6 * y + x))) = 1 ∨ (h 96 (10 + 4 * (6 * y + x))) = 2)))), 4 - x7___ < (n412 : Int) → ov_R u d ov_m297 55 [(0, ov_r 90), (1, ov_i x), (2, ov_i y), (3, ov_i m), (4, ov_i bo), (5, ov_i w), (6, ov_i x6___), (7, ov_i x7___)] [] z (ov_up h 90 0 0) (P_Mo_wave_90 F z h x y m bo w) := by
            intro n412
            induction n412 with
            | zero =>
              intro x6___ x7___ q414 hn416
              exact absurd hn416 (by omega)
            | succ n412 ih413 =>
              intro x6___ x7___ q414 hn416
              refine ov_blk (ls2 := [(0, ov_r 90), (1, ov_i x), (2, ov_i y), (3, ov_i m), (4, ov_i bo), (5, ov_i w), (6, ov_i x6___), (7, ov_i x7___)]) (st2 := [ov_i m, ov_i x7___]) (pc2 := 58) b_297_55_2 rfl rfl ?_
              refine ov_icge (tgt := 111) d_297_58 (by decide) (by omega) (by omega) (fun c417 => ?_) (fun c417 => ?_)
              · skip
                refine ov_blk (ls2 := [(0, ov_r 90), (1, ov_i x), (2, ov_i y), (3, ov_i m), (4, ov_i bo), (5, ov_i w), (6, ov_i x6___), (7, ov_i x7___)]) (st2 := [ov_i x6___]) (pc2 := 113) b_297_111_1 rfl rfl ?_
                refine ov_ifne (tgt := 118) d_297_113 (by decide) (by omega) (fun c418 => ?_) (fun c418 => ?_)
                · skip
                  have w1 := ov_WT_at W (c := 6 * y + x) (by omega)
                  refine ov_blk (ls2 := [(0, ov_r 90), (1, ov_i x), (2, ov_i y), (3, ov_i m), (4, ov_i bo), (5, ov_i w), (6, ov_i x6___), (7, ov_i x7___)]) (st2 := [ov_i 1, ov_i y, ov_i x, ov_r 90]) (pc2 := 122) b_297_118_4 rfl rfl ?_
                  refine ov_cV (as := [ov_i x, ov_i y, ov_i 1]) (st := []) (d2 := d - 1) d_297_122 lk_Mo_289 rfl (Nat.le_of_ble_eq_true rfl) (c := 1) (zb_90 I1) (zs_90 I1) ⟨by decide, rfl⟩ (by omega) (c_Mo_lightAt_90 (d - 1) (by omega) U I1 x y 1 (by omega) (by omega) (by omega) (by omega) (by omega)) ?_
                  rintro _ _ _ ⟨v420, rfl, rfl, rfl, f419⟩
                  show ov_R u d ov_m297 125 [(0, ov_r 90), (1, ov_i x), (2, ov_i y), (3, ov_i m), (4, ov_i bo), (5, ov_i w), (6, ov_i x6___), (7, ov_i x7___)] [ov_i v420] z (ov_up h 90 0 0) (P_Mo_wave_90 F z h x y m bo w)
                  have f421 : v420 = (h 96 (10 + 4 * (6 * y + x) + (1 : Int))) ∧ ((1 : Int) = 1 → 0 ≤ v420 ∧ v420 ≤ 60) ∧ ((1 : Int) = 2 → 0 ≤ v420 ∧ v420 ≤ 59) ∧ ((1 : Int) = 3 → 0 ≤ v420 ∧ v420 ≤ 60) := f419
                  clear f419
                  refine ov_blk (ls2 := [(0, ov_r 90), (1, ov_i x), (2, ov_i y), (3, ov_i m), (4, ov_i bo), (5, ov_i w), (6, ov_i x6___), (7, ov_i v420), (8, ov_i 0)]) (st2 := []) (pc2 := 130) b_297_125_3 rfl rfl ?_
                  have L425 : ∀ (n422 : Nat) (x8___ : Int) (z426 : ov_Z) (h427 : ov_H) (I428 : ov_N F z426 h427) (E429 : h427 92 = h 92) (E430 : h427 93 = h 93) (E431 : h427 94 = h 94) (E432 : h427 95 = h 95) (E433 : h427 96 = h 96) (E434 : h427 97 = h 97) (E435 : h427 98 = h 98) (E436 : h427 99 = h 99) (E437 : h427 100 = h 100) (E438 : h427 103 = h 103) (E439 : h427 105 = h 105) (E440 : h427 106 = h 106) (E441 : h427 109 = h 109) (E442 : h427 114 = h 114) (q424 : 0 ≤ x8___ ∧ x8___ ≤ 4 ∧ (h427 90 2) = (h 90 2) ∧ (h427 90 7) = (h 90 7) ∧ (h427 90 8) = (h 90 8) ∧ (h427 90 13) = (h 90 13) ∧ (h427 90 20) = (h 90 20) ∧ (h427 90 22) = (h 90 22) ∧ (h427 90 25) = (h 90 25) ∧ (h427 90 26) = (h 90 26) ∧ (h427 90 28) = (h 90 28) ∧ (h427 90 29) = (h 90 29) ∧ (h427 90 30) = (h 90 30) ∧ (h427 90 34) = (h 90 34)), 4 - x8___ < (n422 : Int) → ov_R u d ov_m297 130 [(0, ov_r 90), (1, ov_i x), (2, ov_i y), (3, ov_i m), (4, ov_i bo), (5, ov_i w), (6, ov_i x6___), (7, ov_i v420), (8, ov_i x8___)] [] z426 h427 (P_Mo_wave_90 F z h x y m bo w) := by
                    intro n422
                    induction n422 with
                    | zero =>
                      intro x8___ z426 h427 I428 E429 E430 E431 E432 E433 E434 E435 E436 E437 E438 E439 E440 E441 E442 q424 hn443
                      exact absurd hn443 (by omega)
                    | succ n422 ih423 =>
                      intro x8___ z426 h427 I428 E429 E430 E431 E432 E433 E434 E435 E436 E437 E438 E439 E440 E441 E442 q424 hn443
                      refine ov_blk (ls2 := [(0, ov_r 90), (1, ov_i x), (2, ov_i y), (3, ov_i m), (4, ov_i bo), (5, ov_i w), (6, ov_i x6___), (7, ov_i v420), (8, ov_i x8___)]) (st2 := [ov_i m, ov_i x8___]) (pc2 := 133) b_297_130_2 rfl rfl ?_
                      refine ov_icge (tgt := 241) d_297_133 (by decide) (by omega) (by omega) (fun c444 => ?_) (fun c444 => ?_)
                      · skip
                        refine ov_blk (ls2 := [(0, ov_r 90), (1, ov_i x), (2, ov_i y), (3, ov_i m), (4, ov_i bo), (5, ov_i w), (6, ov_i x6___), (7, ov_i v420), (8, ov_i x8___)]) (st2 := [ov_i (-1), ov_r 90]) (pc2 := 243) b_297_241_2 rfl rfl ?_
                        refine ov_putf (x := (-1)) d_297_243 fl_Mo_439 (zb_90 I428) (zs_90 I428) rfl nk_0 rfl ?_
                        have I445 := up_90_42 (x := (-1)) I428 (by omega)
                        refine ov_blk (ls2 := [(0, ov_r 90), (1, ov_i x), (2, ov_i y), (3, ov_i m), (4, ov_i bo), (5, ov_i w), (6, ov_i x6___), (7, ov_i v420), (8, ov_i x8___)]) (st2 := [ov_i 2, ov_i y, ov_i x, ov_r 90]) (pc2 := 250) b_297_246_4 rfl rfl ?_
                        refine ov_cV (as := [ov_i x, ov_i y, ov_i 2]) (st := []) (d2 := d - 1) d_297_250 lk_Mo_289 rfl (Nat.le_of_ble_eq_true rfl) (c := 1) (zb_90 I445) (zs_90 I445) ⟨by decide, rfl⟩ (by omega) (c_Mo_lightAt_90 (d - 1) (by omega) U I445 x y 2 (by omega) (by omega) (by omega) (by omega) (by omega)) ?_
                        rintro _ _ _ ⟨v447, rfl, rfl, rfl, f446⟩
                        show ov_R u d ov_m297 253 [(0, ov_r 90), (1, ov_i x), (2, ov_i y), (3, ov_i m), (4, ov_i bo), (5, ov_i w), (6, ov_i x6___), (7, ov_i v420), (8, ov_i x8___)] [ov_i v447] z426 (ov_up h427 90 42 (-1)) (P_Mo_wave_90 F z h x y m bo w)
                        rw [show (ov_up h427 90 42 (-1)) 96 = h 96 from E433] at f446
                        have f448 : v447 = (h 96 (10 + 4 * (6 * y + x) + (2 : Int))) ∧ ((2 : Int) = 1 → 0 ≤ v447 ∧ v447 ≤ 60) ∧ ((2 : Int) = 2 → 0 ≤ v447 ∧ v447 ≤ 59) ∧ ((2 : Int) = 3 → 0 ≤ v447 ∧ v447 ≤ 60) := f446
                        clear f446
                        refine ov_blk (ls2 := [(0, ov_r 90), (1, ov_i x), (2, ov_i y), (3, ov_i m), (4, ov_i bo), (5, ov_i w), (6, ov_i x6___), (7, ov_i v420), (8, ov_i x8___)]) (st2 := [ov_i 3, ov_i y, ov_i x, ov_r 90, ov_i v447]) (pc2 := 257) b_297_253_4 rfl rfl ?_
                        refine ov_cV (as := [ov_i x, ov_i y, ov_i 3]) (st := [ov_i v447]) (d2 := d - 1) d_297_257 lk_Mo_289 rfl (Nat.le_of_ble_eq_true rfl) (c := 1) (zb_90 I445) (zs_90 I445) ⟨by decide, rfl⟩ (by omega) (c_Mo_lightAt_90 (d - 1) (by omega) U I445 x y 3 (by omega) (by omega) (by omega) (by omega) (by omega)) ?_
                        rintro _ _ _ ⟨v450, rfl, rfl, rfl, f449⟩
                        show ov_R u d ov_m297 260 [(0, ov_r 90), (1, ov_i x), (2, ov_i y), (3, ov_i m), (4, ov_i bo), (5, ov_i w), (6, ov_i x6___), (7, ov_i v420), (8, ov_i x8___)] [ov_i v450, ov_i v447] z426 (ov_up h427 90 42 (-1)) (P_Mo_wave_90 F z h x y m bo w)
                        rw [show (ov_up h427 90 42 (-1)) 96 = h 96 from E433] at f449
                        have f451 : v450 = (h 96 (10 + 4 * (6 * y + x) + (3 : Int))) ∧ ((3 : Int) = 1 → 0 ≤ v450 ∧ v450 ≤ 60) ∧ ((3 : Int) = 2 → 0 ≤ v450 ∧ v450 ≤ 59) ∧ ((3 : Int) = 3 → 0 ≤ v450 ∧ v450 ≤ 60) := f449
                        clear f449
                        refine ov_blk (ls2 := [(0, ov_r 90), (1, ov_i x), (2, ov_i y), (3, ov_i m), (4, ov_i bo), (5, ov_i w), (6, ov_i x6___), (7, ov_i v420), (8, ov_i x8___)]) (st2 := [ov_i v420, ov_i (v447 + v450)]) (pc2 := 263) b_297_260_2 rfl rfl ?_
                        refine ov_irem d_297_263 (by omega) (by omega) (by omega) ?_
                        have g452 := ov_tmg (a := (v447 + v450)) (b := v420) (by omega) (by omega)
                        refine ov_havw (fun w453 gw453 qw453 => ?_)
                        refine ov_blk (ls2 := [(0, ov_r 90), (1, ov_i x), (2, ov_i y), (3, ov_i m), (4, ov_i bo), (5, ov_i w), (6, ov_i x6___), (7, ov_i v420), (8, ov_i w453)]) (st2 := [ov_r 90]) (pc2 := 267) b_297_264_2 rfl rfl ?_
                        refine ov_getf (v := ov_r 112) d_297_267 fl_Mo_138 (zb_90 I445) (zs_90 I445) (congrArg ov_r (rg_90_40 I445)) ?_
                        refine ov_blk (ls2 := [(0, ov_r 90), (1, ov_i x), (2, ov_i y), (3, ov_i m), (4, ov_i bo), (5, ov_i w), (6, ov_i x6___), (7, ov_i v420), (8, ov_i w453)]) (st2 := [ov_i w453, ov_i 0, ov_r 112]) (pc2 := 273) b_297_270_2 rfl rfl ?_
                        refine ov_iast d_297_273 (zb_112 I445) (zs_112 I445) (by omega) ?_
                        have I454 := ua_112 (k := 0) (x := w453) I445 (by omega)
                        refine ov_blk (ls2 := [(0, ov_r 90), (1, ov_i x), (2, ov_i y), (3, ov_i m), (4, ov_i bo), (5, ov_i w), (6, ov_i x6___), (7, ov_i v420), (8, ov_i w453)]) (st2 := [ov_r 90, ov_i v420, ov_i m, ov_i 1, ov_r 90]) (pc2 := 280) b_297_274_5 rfl rfl ?_
                        refine ov_getf (v := ov_r 110) d_297_280 fl_Mo_132 (zb_90 I454) (zs_90 I454) (congrArg ov_r (rg_90_38 I454)) ?_
                        refine ov_blk (ls2 := [(0, ov_r 90), (1, ov_i x), (2, ov_i y), (3, ov_i m), (4, ov_i bo), (5, ov_i w), (6, ov_i x6___), (7, ov_i v420), (8, ov_i w453)]) (st2 := [ov_i w453, ov_r 110, ov_i v420, ov_i m, ov_i 1, ov_r 90]) (pc2 := 285) b_297_283_1 rfl rfl ?_
                        refine ov_lald d_297_285 (zb_110 I454) (zs_110 I454) (by omega) ?_
                        show ov_R u d ov_m297 286 [(0, ov_r 90), (1, ov_i x), (2, ov_i y), (3, ov_i m), (4, ov_i bo), (5, ov_i w), (6, ov_i x6___), (7, ov_i v420), (8, ov_i w453)] [ov_l (h427 110 w453), ov_i v420, ov_i m, ov_i 1, ov_r 90] z426 (ov_up (ov_up h427 90 42 (-1)) 112 0 w453) (P_Mo_wave_90 F z h x y m bo w)
                        refine ov_blk (ls2 := [(0, ov_r 90), (1, ov_i x), (2, ov_i y), (3, ov_i m), (4, ov_i bo), (5, ov_i w), (6, ov_i x6___), (7, ov_i v420), (8, ov_i w453)]) (st2 := [ov_r 90, ov_l (h427 110 w453), ov_i v420, ov_i m, ov_i 1, ov_r 90]) (pc2 := 287) b_297_286_1 rfl rfl ?_
                        refine ov_getf (v := ov_r 111) d_297_287 fl_Mo_135 (zb_90 I454) (zs_90 I454) (congrArg ov_r (rg_90_39 I454)) ?_
                        refine ov_blk (ls2 := [(0, ov_r 90), (1, ov_i x), (2, ov_i y), (3, ov_i m), (4, ov_i bo), (5, ov_i w), (6, ov_i x6___), (7, ov_i v420), (8, ov_i w453)]) (st2 := [ov_i w453, ov_r 111, ov_l (h427 110 w453), ov_i v420, ov_i m, ov_i 1, ov_r 90]) (pc2 := 292) b_297_290_1 rfl rfl ?_
                        refine ov_lald d_297_292 (zb_111 I454) (zs_111 I454) (by omega) ?_
                        show ov_R u d ov_m297 293 [(0, ov_r 90), (1, ov_i x), (2, ov_i y), (3, ov_i m), (4, ov_i bo), (5, ov_i w), (6, ov_i x6___), (7, ov_i v420), (8, ov_i w453)] [ov_l (h427 111 w453), ov_l (h427 110 w453), ov_i v420, ov_i m, ov_i 1, ov_r 90] z426 (ov_up (ov_up h427 90 42 (-1)) 112 0 w453) (P_Mo_wave_90 F z h x y m bo w)
                        refine ov_blk (ls2 := [(0, ov_r 90), (1, ov_i x), (2, ov_i y), (3, ov_i m), (4, ov_i bo), (5, ov_i w), (6, ov_i x6___), (7, ov_i v420), (8, ov_i w453)]) (st2 := [ov_i bo, ov_l (h427 111 w453), ov_l (h427 110 w453), ov_i v420, ov_i m, ov_i 1, ov_r 90]) (pc2 := 295) b_297_293_1 rfl rfl ?_
                        refine ov_cV (as := [ov_i 1, ov_i m, ov_i v420, ov_l (h427 110 w453), ov_l (h427 111 w453), ov_i bo]) (st := []) (d2 := d - 1) d_297_295 lk_Mo_442 rfl (Nat.le_of_ble_eq_true rfl) (c := 1) (zb_90 I454) (zs_90 I454) ⟨by decide, rfl⟩ (by omega) (c_Mo_triesWave_90_all (Int.toNat ((m) - (1))) (d - 1) (by omega) U I454 1 m v420 (h427 110 w453) (h427 111 w453) bo (by omega) (by omega) (by omega) (by omega) (by omega) (by omega) (by omega)) ?_
                        rintro _ z470 h471 ⟨rfl, I472, f455, e456, e457, e458, e459, e460, e461, e462, e463, e464, e465, e466, e467, e468, e469⟩
                        have E473 : h471 92 = h 92 := Eq.trans e456 E429
                        have E474 : h471 93 = h 93 := Eq.trans e457 E430
                        have E475 : h471 94 = h 94 := Eq.trans e458 E431
                        have E476 : h471 95 = h 95 := Eq.trans e459 E432
                        have E477 : h471 96 = h 96 := Eq.trans e460 E433
                        have E478 : h471 97 = h 97 := Eq.trans e461 E434
                        have E479 : h471 98 = h 98 := Eq.trans e462 E435
                        have E480 : h471 99 = h 99 := Eq.trans e463 E436
                        have E481 : h471 100 = h 100 := Eq.trans e464 E437
                        have E482 : h471 103 = h 103 := Eq.trans e465 E438
                        have E483 : h471 105 = h 105 := Eq.trans e466 E439
                        have E484 : h471 106 = h 106 := Eq.trans e467 E440
                        have E485 : h471 109 = h 109 := Eq.trans e468 E441
                        have E486 : h471 114 = h 114 := Eq.trans e469 E442
                        show ov_R u d ov_m297 298 [(0, ov_r 90), (1, ov_i x), (2, ov_i y), (3, ov_i m), (4, ov_i bo), (5, ov_i w), (6, ov_i x6___), (7, ov_i v420), (8, ov_i w453)] [] z470 h471 (P_Mo_wave_90 F z h x y m bo w)
                        have f487 : (h471 90 2) = (h427 90 2) ∧ (h471 90 7) = (h427 90 7) ∧ (h471 90 8) = (h427 90 8) ∧ (h471 90 13) = (h427 90 13) ∧ (h471 90 20) = (h427 90 20) ∧ (h471 90 22) = (h427 90 22) ∧ (h471 90 25) = (h427 90 25) ∧ (h471 90 26) = (h427 90 26) ∧ (h471 90 28) = (h427 90 28) ∧ (h471 90 29) = (h427 90 29) ∧ (h471 90 30) = (h427 90 30) ∧ (h471 90 34) = (h427 90 34) := f455
                        clear f455
                        refine ov_blk (ls2 := [(0, ov_r 90), (1, ov_i x), (2, ov_i y), (3, ov_i m), (4, ov_i bo), (5, ov_i w), (6, ov_i x6___), (7, ov_i v420), (8, ov_i w453)]) (st2 := [ov_i w]) (pc2 := 300) b_297_298_1 rfl rfl ?_
                        refine ov_ifne (tgt := 310) d_297_300 (by decide) (by omega) (fun c488 => ?_) (fun c488 => ?_)
                        · skip
                          refine ov_blk (ls2 := [(0, ov_r 90), (1, ov_i x), (2, ov_i y), (3, ov_i m), (4, ov_i bo), (5, ov_i w), (6, ov_i x6___), (7, ov_i v420), (8, ov_i w453)]) (st2 := [ov_r 90]) (pc2 := 311) b_297_310_1 rfl rfl ?_
                          refine ov_getf (v := ov_r 113) d_297_311 fl_Mo_141 (zb_90 I472) (zs_90 I472) (congrArg ov_r (rg_90_41 I472)) ?_
                          refine ov_blk (ls2 := [(0, ov_r 90), (1, ov_i x), (2, ov_i y), (3, ov_i m), (4, ov_i bo), (5, ov_i w), (6, ov_i x6___), (7, ov_i v420), (8, ov_i w453)]) (st2 := [ov_i w, ov_r 113]) (pc2 := 316) b_297_314_1 rfl rfl ?_
                          refine ov_iald d_297_316 (zb_113 I472) (zs_113 I472) (by omega) ?_
                          have g489 := ra_113 I472 w
                          exact ov_reti (st := []) d_297_317 rfl ⟨_, rfl, I472, (by show (h471 90 2) = (h 90 2) ∧ (h471 90 7) = (h 90 7) ∧ (h471 90 8) = (h 90 8) ∧ (h471 90 13) = (h 90 13) ∧ (h471 90 20) = (h 90 20) ∧ (h471 90 22) = (h 90 22) ∧ (h471 90 25) = (h 90 25) ∧ (h471 90 26) = (h 90 26) ∧ (h471 90 28) = (h 90 28) ∧ (h471 90 29) = (h 90 29) ∧ (h471 90 30) = (h 90 30) ∧ (h471 90 34) = (h 90 34) ∧ -2147483648 ≤ (h471 113 w) ∧ (h471 113 w) ≤ 2147483647; omega), E473, E474, E475, E476, E477, E478, E479, E480, E481, E482, E483, E484, E485, E486⟩
                        · skip
                          refine ov_blk (ls2 := [(0, ov_r 90), (1, ov_i x), (2, ov_i y), (3, ov_i m), (4, ov_i bo), (5, ov_i w), (6, ov_i x6___), (7, ov_i v420), (8, ov_i w453)]) (st2 := [ov_r 90]) (pc2 := 304) b_297_303_1 rfl rfl ?_
                          refine ov_getf (v := ov_i (h471 90 42)) d_297_304 fl_Mo_439 (zb_90 I472) (zs_90 I472) rfl ?_
                          have g490 := rg_90_42 I472
                          refine ov_goto (tgt := 317) d_297_307 (by decide) ?_
                          exact ov_reti (st := []) d_297_317 rfl ⟨_, rfl, I472, (by show (h471 90 2) = (h 90 2) ∧ (h471 90 7) = (h 90 7) ∧ (h471 90 8) = (h 90 8) ∧ (h471 90 13) = (h 90 13) ∧ (h471 90 20) = (h 90 20) ∧ (h471 90 22) = (h 90 22) ∧ (h471 90 25) = (h 90 25) ∧ (h471 90 26) = (h 90 26) ∧ (h471 90 28) = (h 90 28) ∧ (h471 90 29) = (h 90 29) ∧ (h471 90 30) = (h 90 30) ∧ (h471 90 34) = (h 90 34) ∧ -2147483648 ≤ (h471 90 42) ∧ (h471 90 42) ≤ 2147483647; omega), E473, E474, E475, E476, E477, E478, E479, E480, E481, E482, E483, E484, E485, E486⟩
                      · skip
                        refine ov_blk (ls2 := [(0, ov_r 90), (1, ov_i x), (2, ov_i y), (3, ov_i m), (4, ov_i bo), (5, ov_i w), (6, ov_i x6___), (7, ov_i v420), (8, ov_i x8___)]) (st2 := [ov_i 3, ov_i (y + x8___), ov_i x, ov_r 90, ov_i v420]) (pc2 := 145) b_297_136_7 rfl rfl ?_
                        refine ov_cV (as := [ov_i x, ov_i (y + x8___), ov_i 3]) (st := [ov_i v420]) (d2 := d - 1) d_297_145 lk_Mo_289 rfl (Nat.le_of_ble_eq_true rfl) (c := 1) (zb_90 I428) (zs_90 I428) ⟨by decide, rfl⟩ (by omega) (c_Mo_lightAt_90 (d - 1) (by omega) U I428 x (y + x8___) 3 (by omega) (by omega) (by omega) (by omega) (by omega)) ?_
                        rintro _ _ _ ⟨v492, rfl, rfl, rfl, f491⟩
                        show ov_R u d ov_m297 148 [(0, ov_r 90), (1, ov_i x), (2, ov_i y), (3, ov_i m), (4, ov_i bo), (5, ov_i w), (6, ov_i x6___), (7, ov_i v420), (8, ov_i x8___)] [ov_i v492, ov_i v420] z426 h427 (P_Mo_wave_90 F z h x y m bo w)
                        rw [show h427 96 = h 96 from E433] at f491
                        have f493 : v492 = (h 96 (10 + 4 * (6 * (y + x8___) + x) + (3 : Int))) ∧ ((3 : Int) = 1 → 0 ≤ v492 ∧ v492 ≤ 60) ∧ ((3 : Int) = 2 → 0 ≤ v492 ∧ v492 ≤ 59) ∧ ((3 : Int) = 3 → 0 ≤ v492 ∧ v492 ≤ 60) := f491
                        clear f491
                        refine ov_blk (ls2 := [(0, ov_r 90), (1, ov_i x), (2, ov_i y), (3, ov_i m), (4, ov_i bo), (5, ov_i w), (6, ov_i x6___), (7, ov_i v420), (8, ov_i x8___), (9, ov_i (v420 - v492)), (10, ov_i 0)]) (st2 := []) (pc2 := 154) b_297_148_4 rfl rfl ?_
                        have L497 : ∀ (n494 : Nat) (x10___ : Int) (z498 : ov_Z) (h499 : ov_H) (I500 : ov_N F z498 h499) (E501 : h499 92 = h 92) (E502 : h499 93 = h 93) (E503 : h499 94 = h 94) (E504 : h499 95 = h 95) (E505 : h499 96 = h 96) (E506 : h499 97 = h 97) (E507 : h499 98 = h 98) (E508 : h499 99 = h 99) (E509 : h499 100 = h 100) (E510 : h499 103 = h 103) (E511 : h499 105 = h 105) (E512 : h499 106 = h 106) (E513 : h499 109 = h 109) (E514 : h499 114 = h 114) (q496 : 0 ≤ x10___ ∧ x10___ ≤ 60 ∧ (h499 90 2) = (h427 90 2) ∧ (h499 90 7) = (h427 90 7) ∧ (h499 90 8) = (h427 90 8) ∧ (h499 90 13) = (h427 90 13) ∧ (h499 90 20) = (h427 90 20) ∧ (h499 90 22) = (h427 90 22) ∧ (h499 90 25) = (h427 90 25) ∧ (h499 90 26) = (h427 90 26) ∧ (h499 90 28) = (h427 90 28) ∧ (h499 90 29) = (h427 90 29) ∧ (h499 90 30) = (h427 90 30) ∧ (h499 90 34) = (h427 90 34)), 60 - x10___ < (n494 : Int) → ov_R u d ov_m297 154 [(0, ov_r 90), (1, ov_i x), (2, ov_i y), (3, ov_i m), (4, ov_i bo), (5, ov_i w), (6, ov_i x6___), (7, ov_i v420), (8, ov_i x8___), (9, ov_i (v420 - v492)), (10, ov_i x10___)] [] z498 h499 (P_Mo_wave_90 F z h x y m bo w) := by
                          intro n494
                          induction n494 with
                          | zero =>
                            intro x10___ z498 h499 I500 E501 E502 E503 E504 E505 E506 E507 E508 E509 E510 E511 E512 E513 E514 q496 hn515
                            exact absurd hn515 (by omega)
                          | succ n494 ih495 =>
                            intro x10___ z498 h499 I500 E501 E502 E503 E504 E505 E506 E507 E508 E509 E510 E511 E512 E513 E514 q496 hn515
                            refine ov_blk (ls2 := [(0, ov_r 90), (1, ov_i x), (2, ov_i y), (3, ov_i m), (4, ov_i bo), (5, ov_i w), (6, ov_i x6___), (7, ov_i v420), (8, ov_i x8___), (9, ov_i (v420 - v492)), (10, ov_i x10___)]) (st2 := [ov_i v420, ov_i x10___]) (pc2 := 158) b_297_154_2 rfl rfl ?_
                            refine ov_icge (tgt := 235) d_297_158 (by decide) (by omega) (by omega) (fun c516 => ?_) (fun c516 => ?_)
                            · skip
                              refine ov_blk (ls2 := [(0, ov_r 90), (1, ov_i x), (2, ov_i y), (3, ov_i m), (4, ov_i bo), (5, ov_i w), (6, ov_i x6___), (7, ov_i v420), (8, ov_i (x8___ + 1)), (9, ov_i (v420 - v492)), (10, ov_i x10___)]) (st2 := []) (pc2 := 238) b_297_235_1 rfl rfl ?_
                              refine ov_goto (tgt := 130) d_297_238 (by decide) ?_
                              refine ov_sub (ls2 := [(0, ov_r 90), (1, ov_i x), (2, ov_i y), (3, ov_i m), (4, ov_i bo), (5, ov_i w), (6, ov_i x6___), (7, ov_i v420), (8, ov_i (x8___ + 1))]) (List.Sublist.subset (by repeat (first | exact List.Sublist.refl _ | apply List.Sublist.cons_cons | apply List.Sublist.cons))) ?_
                              exact ih423 (x8___ + 1) _ _ I500 E501 E502 E503 E504 E505 E506 E507 E508 E509 E510 E511 E512 E513 E514 (by show 0 ≤ (x8___ + 1) ∧ (x8___ + 1) ≤ 4 ∧ (h499 90 2) = (h 90 2) ∧ (h499 90 7) = (h 90 7) ∧ (h499 90 8) = (h 90 8) ∧ (h499 90 13) = (h 90 13) ∧ (h499 90 20) = (h 90 20) ∧ (h499 90 22) = (h 90 22) ∧ (h499 90 25) = (h 90 25) ∧ (h499 90 26) = (h 90 26) ∧ (h499 90 28) = (h 90 28) ∧ (h499 90 29) = (h 90 29) ∧ (h499 90 30) = (h 90 30) ∧ (h499 90 34) = (h 90 34); omega) (by omega)
                            · skip
                              refine ov_blk (ls2 := [(0, ov_r 90), (1, ov_i x), (2, ov_i y), (3, ov_i m), (4, ov_i bo), (5, ov_i w), (6, ov_i x6___), (7, ov_i v420), (8, ov_i x8___), (9, ov_i (v420 - v492)), (10, ov_i x10___)]) (st2 := [ov_r 90]) (pc2 := 162) b_297_161_1 rfl rfl ?_
                              refine ov_getf (v := ov_r 110) d_297_162 fl_Mo_132 (zb_90 I500) (zs_90 I500) (congrArg ov_r (rg_90_38 I500)) ?_
                              refine ov_blk (ls2 := [(0, ov_r 90), (1, ov_i x), (2, ov_i y), (3, ov_i m), (4, ov_i bo), (5, ov_i w), (6, ov_i x6___), (7, ov_i v420), (8, ov_i x8___), (9, ov_i (v420 - v492)), (10, ov_i x10___)]) (st2 := [ov_r 90, ov_i x8___, ov_i x10___, ov_i ((60 * x8___) + x10___), ov_r 110]) (pc2 := 178) b_297_165_8 rfl rfl ?_
                              refine ov_getf (v := ov_r 96) d_297_178 fl_Mo_81 (zb_90 I500) (zs_90 I500) (congrArg ov_r (rg_90_10 I500)) ?_
                              refine ov_blk (ls2 := [(0, ov_r 90), (1, ov_i x), (2, ov_i y), (3, ov_i m), (4, ov_i bo), (5, ov_i w), (6, ov_i x6___), (7, ov_i v420), (8, ov_i x8___), (9, ov_i (v420 - v492)), (10, ov_i x10___)]) (st2 := [ov_i 2, ov_r 96, ov_i x8___, ov_i x10___, ov_i ((60 * x8___) + x10___), ov_r 110]) (pc2 := 182) b_297_181_1 rfl rfl ?_
                              refine ov_iald d_297_182 (zb_96 I500) (zs_96 I500) (by omega) ?_
                              rw [show h499 96 = h 96 from E505]
                              have g517 := t96_2 I
                              have gm518 := ov_mulb (q := x8___) (b := (h 96 2)) (A := 4) (B := 30) (by omega) (by omega) (by omega) (by omega)
                              refine ov_blk (ls2 := [(0, ov_r 90), (1, ov_i x), (2, ov_i y), (3, ov_i m), (4, ov_i bo), (5, ov_i w), (6, ov_i x6___), (7, ov_i v420), (8, ov_i x8___), (9, ov_i (v420 - v492)), (10, ov_i x10___)]) (st2 := [ov_i v420, ov_i (v420 - v492), ov_i (x10___ - (x8___ * (h 96 2))), ov_i ((60 * x8___) + x10___), ov_r 110]) (pc2 := 189) b_297_183_4 rfl rfl ?_
                              refine ov_cS (as := [ov_i (x10___ - (x8___ * (h 96 2))), ov_i (v420 - v492), ov_i v420]) (st := [ov_i ((60 * x8___) + x10___), ov_r 110]) (d2 := d - 1) d_297_189 lk_Mo_446 rfl (Nat.le_of_ble_eq_true rfl) (by omega) (c_Mo_turned (d - 1) (by omega) U I500 (x10___ - (x8___ * (h 96 2))) (v420 - v492) v420 (by omega) (by omega) (by omega) (by omega) (by omega)) ?_
                              rintro _ _ _ ⟨v520, rfl, rfl, rfl, f519⟩
                              show ov_R u d ov_m297 192 [(0, ov_r 90), (1, ov_i x), (2, ov_i y), (3, ov_i m), (4, ov_i bo), (5, ov_i w), (6, ov_i x6___), (7, ov_i v420), (8, ov_i x8___), (9, ov_i (v420 - v492)), (10, ov_i x10___)] [ov_l v520, ov_i ((60 * x8___) + x10___), ov_r 110] z498 h499 (P_Mo_wave_90 F z h x y m bo w)
                              clear f519
                              refine ov_last d_297_192 (zb_110 I500) (zs_110 I500) (by omega) ?_
                              have I521 := ua_110 (k := ((60 * x8___) + x10___)) (x := v520) I500
                              refine ov_blk (ls2 := [(0, ov_r 90), (1, ov_i x), (2, ov_i y), (3, ov_i m), (4, ov_i bo), (5, ov_i w), (6, ov_i x6___), (7, ov_i v420), (8, ov_i x8___), (9, ov_i (v420 - v492)), (10, ov_i x10___)]) (st2 := [ov_r 90]) (pc2 := 194) b_297_193_1 rfl rfl ?_
                              refine ov_getf (v := ov_r 111) d_297_194 fl_Mo_135 (zb_90 I521) (zs_90 I521) (congrArg ov_r (rg_90_39 I521)) ?_
                              refine ov_blk (ls2 := [(0, ov_r 90), (1, ov_i x), (2, ov_i y), (3, ov_i m), (4, ov_i bo), (5, ov_i w), (6, ov_i x6___), (7, ov_i v420), (8, ov_i x8___), (9, ov_i (v420 - v492)), (10, ov_i x10___)]) (st2 := [ov_r 90, ov_i ((m - 1) - x8___), ov_i x10___, ov_i ((60 * x8___) + x10___), ov_r 111]) (pc2 := 214) b_297_197_12 rfl rfl ?_
                              refine ov_getf (v := ov_r 96) d_297_214 fl_Mo_81 (zb_90 I521) (zs_90 I521) (congrArg ov_r (rg_90_10 I521)) ?_
                              refine ov_blk (ls2 := [(0, ov_r 90), (1, ov_i x), (2, ov_i y), (3, ov_i m), (4, ov_i bo), (5, ov_i w), (6, ov_i x6___), (7, ov_i v420), (8, ov_i x8___), (9, ov_i (v420 - v492)), (10, ov_i x10___)]) (st2 := [ov_i 2, ov_r 96, ov_i ((m - 1) - x8___), ov_i x10___, ov_i ((60 * x8___) + x10___), ov_r 111]) (pc2 := 218) b_297_217_1 rfl rfl ?_
                              refine ov_iald d_297_218 (zb_96 I521) (zs_96 I521) (by omega) ?_
                              rw [show (ov_up h499 110 ((60 * x8___) + x10___) v520) 96 = h 96 from E505]
                              have gm523 := ov_mulb (q := ((m - 1) - x8___)) (b := (h 96 2)) (A := 4) (B := 30) (by omega) (by omega) (by omega) (by omega)
                              refine ov_blk (ls2 := [(0, ov_r 90), (1, ov_i x), (2, ov_i y), (3, ov_i m), (4, ov_i bo), (5, ov_i w), (6, ov_i x6___), (7, ov_i v420), (8, ov_i x8___), (9, ov_i (v420 - v492)), (10, ov_i x10___)]) (st2 := [ov_i v420, ov_i (v420 - v492), ov_i (x10___ - (((m - 1) - x8___) * (h 96 2))), ov_i ((60 * x8___) + x10___), ov_r 111]) (pc2 := 225) b_297_219_4 rfl rfl ?_
                              refine ov_cS (as := [ov_i (x10___ - (((m - 1) - x8___) * (h 96 2))), ov_i (v420 - v492), ov_i v420]) (st := [ov_i ((60 * x8___) + x10___), ov_r 111]) (d2 := d - 1) d_297_225 lk_Mo_446 rfl (Nat.le_of_ble_eq_true rfl) (by omega) (c_Mo_turned (d - 1) (by omega) U I521 (x10___ - (((m - 1) - x8___) * (h 96 2))) (v420 - v492) v420 (by omega) (by omega) (by omega) (by omega) (by omega)) ?_
                              rintro _ _ _ ⟨v525, rfl, rfl, rfl, f524⟩
                              show ov_R u d ov_m297 228 [(0, ov_r 90), (1, ov_i x), (2, ov_i y), (3, ov_i m), (4, ov_i bo), (5, ov_i w), (6, ov_i x6___), (7, ov_i v420), (8, ov_i x8___), (9, ov_i (v420 - v492)), (10, ov_i x10___)] [ov_l v525, ov_i ((60 * x8___) + x10___), ov_r 111] z498 (ov_up h499 110 ((60 * x8___) + x10___) v520) (P_Mo_wave_90 F z h x y m bo w)
                              clear f524
                              refine ov_last d_297_228 (zb_111 I521) (zs_111 I521) (by omega) ?_
                              have I526 := ua_111 (k := ((60 * x8___) + x10___)) (x := v525) I521
                              refine ov_blk (ls2 := [(0, ov_r 90), (1, ov_i x), (2, ov_i y), (3, ov_i m), (4, ov_i bo), (5, ov_i w), (6, ov_i x6___), (7, ov_i v420), (8, ov_i x8___), (9, ov_i (v420 - v492)), (10, ov_i (x10___ + 1))]) (st2 := []) (pc2 := 232) b_297_229_1 rfl rfl ?_
                              refine ov_goto (tgt := 154) d_297_232 (by decide) ?_
                              exact ih495 (x10___ + 1) _ _ I526 E501 E502 E503 E504 E505 E506 E507 E508 E509 E510 E511 E512 E513 E514 (by show 0 ≤ (x10___ + 1) ∧ (x10___ + 1) ≤ 60 ∧ (h499 90 2) = (h427 90 2) ∧ (h499 90 7) = (h427 90 7) ∧ (h499 90 8) = (h427 90 8) ∧ (h499 90 13) = (h427 90 13) ∧ (h499 90 20) = (h427 90 20) ∧ (h499 90 22) = (h427 90 22) ∧ (h499 90 25) = (h427 90 25) ∧ (h499 90 26) = (h427 90 26) ∧ (h499 90 28) = (h427 90 28) ∧ (h499 90 29) = (h427 90 29) ∧ (h499 90 30) = (h427 90 30) ∧ (h499 90 34) = (h427 90 34); omega) (by omega)
                        exact L497 61 0 _ _ I428 E429 E430 E431 E432 E433 E434 E435 E436 E437 E438 E439 E440 E441 E442 (by show 0 ≤ 0 ∧ 0 ≤ 60 ∧ (h427 90 2) = (h427 90 2) ∧ (h427 90 7) = (h427 90 7) ∧ (h427 90 8) = (h427 90 8) ∧ (h427 90 13) = (h427 90 13) ∧ (h427 90 20) = (h427 90 20) ∧ (h427 90 22) = (h427 90 22) ∧ (h427 90 25) = (h427 90 25) ∧ (h427 90 26) = (h427 90 26) ∧ (h427 90 28) = (h427 90 28) ∧ (h427 90 29) = (h427 90 29) ∧ (h427 90 30) = (h427 90 30) ∧ (h427 90 34) = (h427 90 34); omega) (by omega)
                  exact L425 5 0 _ _ I1 rfl rfl rfl rfl rfl rfl rfl rfl rfl rfl rfl rfl rfl rfl (by show 0 ≤ 0 ∧ 0 ≤ 4 ∧ (h 90 2) = (h 90 2) ∧ (h 90 7) = (h 90 7) ∧ (h 90 8) = (h 90 8) ∧ (h 90 13) = (h 90 13) ∧ (h 90 20) = (h 90 20) ∧ (h 90 22) = (h 90 22) ∧ (h 90 25) = (h 90 25) ∧ (h 90 26) = (h 90 26) ∧ (h 90 28) = (h 90 28) ∧ (h 90 29) = (h 90 29) ∧ (h 90 30) = (h 90 30) ∧ (h 90 34) = (h 90 34); omega) (by omega)
                · skip
                  refine ov_blk (ls2 := [(0, ov_r 90), (1, ov_i x), (2, ov_i y), (3, ov_i m), (4, ov_i bo), (5, ov_i w), (6, ov_i x6___), (7, ov_i x7___)]) (st2 := [ov_i (-1)]) (pc2 := 117) b_297_116_1 rfl rfl ?_
                  exact ov_reti (st := []) d_297_117 rfl ⟨_, rfl, I1, ⟨rfl, rfl, rfl, rfl, rfl, rfl, rfl, rfl, rfl, rfl, rfl, rfl, (by show -2147483648 ≤ (-1) ∧ (-1) ≤ 2147483647; omega)⟩, rfl, rfl, rfl, rfl, rfl, rfl, rfl, rfl, rfl, rfl, rfl, rfl, rfl, rfl⟩
              · skip
                refine ov_blk (ls2 := [(0, ov_r 90), (1, ov_i x), (2, ov_i y), (3, ov_i m), (4, ov_i bo), (5, ov_i w), (6, ov_i x6___), (7, ov_i x7___)]) (st2 := [ov_i x6___]) (pc2 := 63) b_297_61_1 rfl rfl ?_
                refine ov_ifeq (tgt := 111) d_297_63 (by decide) (by omega) (fun c527 => ?_) (fun c527 => ?_)
                · skip
                  refine ov_blk (ls2 := [(0, ov_r 90), (1, ov_i x), (2, ov_i y), (3, ov_i m), (4, ov_i bo), (5, ov_i w), (6, ov_i x6___), (7, ov_i x7___)]) (st2 := [ov_i x6___]) (pc2 := 113) b_297_111_1 rfl rfl ?_
                  refine ov_ifne (tgt := 118) d_297_113 (by decide) (by omega) (fun c528 => ?_) (fun c528 => ?_)
                  · omega
                  · skip
                    refine ov_blk (ls2 := [(0, ov_r 90), (1, ov_i x), (2, ov_i y), (3, ov_i m), (4, ov_i bo), (5, ov_i w), (6, ov_i x6___), (7, ov_i x7___)]) (st2 := [ov_i (-1)]) (pc2 := 117) b_297_116_1 rfl rfl ?_
                    exact ov_reti (st := []) d_297_117 rfl ⟨_, rfl, I1, ⟨rfl, rfl, rfl, rfl, rfl, rfl, rfl, rfl, rfl, rfl, rfl, rfl, (by show -2147483648 ≤ (-1) ∧ (-1) ≤ 2147483647; omega)⟩, rfl, rfl, rfl, rfl, rfl, rfl, rfl, rfl, rfl, rfl, rfl, rfl, rfl, rfl⟩
                · skip
                  refine ov_blk (ls2 := [(0, ov_r 90), (1, ov_i x), (2, ov_i y), (3, ov_i m), (4, ov_i bo), (5, ov_i w), (6, ov_i x6___), (7, ov_i x7___)]) (st2 := [ov_i (y + x7___), ov_i x, ov_r 90]) (pc2 := 72) b_297_66_5 rfl rfl ?_
                  refine ov_cV (as := [ov_i x, ov_i (y + x7___)]) (st := []) (d2 := d - 1) d_297_72 lk_Mo_285 rfl (Nat.le_of_ble_eq_true rfl) (c := 1) (zb_90 I1) (zs_90 I1) ⟨by decide, rfl⟩ (by omega) (c_Mo_isTimed_90 (d - 1) (by omega) U I1 x (y + x7___) (by omega) (by omega) (by omega)) ?_
                  rintro _ _ _ ⟨v530, rfl, rfl, rfl, f529⟩
                  show ov_R u d ov_m297 75 [(0, ov_r 90), (1, ov_i x), (2, ov_i y), (3, ov_i m), (4, ov_i bo), (5, ov_i w), (6, ov_i x6___), (7, ov_i x7___)] [ov_i v530] z (ov_up h 90 0 0) (P_Mo_wave_90 F z h x y m bo w)
                  have f531 : (v530 = 0 ∨ v530 = 1) ∧ (v530 = 1 → ((h 96 (10 + 4 * (6 * (y + x7___) + x))) = 1 ∨ (h 96 (10 + 4 * (6 * (y + x7___) + x))) = 2)) ∧ (v530 = 0 → ¬ ((h 96 (10 + 4 * (6 * (y + x7___) + x))) = 1 ∨ (h 96 (10 + 4 * (6 * (y + x7___) + x))) = 2)) := f529
                  clear f529
                  refine ov_ifeq (tgt := 102) d_297_75 (by decide) (by omega) (fun c532 => ?_) (fun c532 => ?_)
                  · skip
                    have f531_ : v530 = 0 := by omega
                    have f533 : ¬ ((h 96 (10 + 4 * (6 * (y + x7___) + x))) = 1 ∨ (h 96 (10 + 4 * (6 * (y + x7___) + x))) = 2) := f531.2.2 (by omega)
                    clear f531
                    refine ov_blk (ls2 := [(0, ov_r 90), (1, ov_i x), (2, ov_i y), (3, ov_i m), (4, ov_i bo), (5, ov_i w), (6, ov_i 0), (7, ov_i (x7___ + 1))]) (st2 := []) (pc2 := 108) b_297_102_3 rfl rfl ?_
                    refine ov_goto (tgt := 55) d_297_108 (by decide) ?_
                    exact ih413 0 (x7___ + 1) (by show (0 = 0 ∨ 0 = 1) ∧ 0 ≤ (x7___ + 1) ∧ (x7___ + 1) ≤ 4 ∧ (0 = 1 → 0 ≤ x ∧ x ≤ 5 ∧ 0 ≤ y ∧ y ≤ 8 ∧ 2 ≤ m ∧ m ≤ 4 ∧ y + m ≤ 9 ∧ 0 ≤ w ∧ w ≤ m - 1 ∧ (1 ≤ (x7___ + 1) → ((h 96 (10 + 4 * (6 * y + x))) = 1 ∨ (h 96 (10 + 4 * (6 * y + x))) = 2))); omega) (by omega)
                  · skip
                    have f531_ : v530 = 1 := by omega
                    have f534 : ((h 96 (10 + 4 * (6 * (y + x7___) + x))) = 1 ∨ (h 96 (10 + 4 * (6 * (y + x7___) + x))) = 2) := f531.2.1 (by omega)
                    clear f531
                    refine ov_blk (ls2 := [(0, ov_r 90), (1, ov_i x), (2, ov_i y), (3, ov_i m), (4, ov_i bo), (5, ov_i w), (6, ov_i x6___), (7, ov_i x7___)]) (st2 := [ov_i 1, ov_i (y + x7___), ov_i x, ov_r 90]) (pc2 := 85) b_297_78_6 rfl rfl ?_
                    refine ov_cV (as := [ov_i x, ov_i (y + x7___), ov_i 1]) (st := []) (d2 := d - 1) d_297_85 lk_Mo_289 rfl (Nat.le_of_ble_eq_true rfl) (c := 1) (zb_90 I1) (zs_90 I1) ⟨by decide, rfl⟩ (by omega) (c_Mo_lightAt_90 (d - 1) (by omega) U I1 x (y + x7___) 1 (by omega) (by omega) (by omega) (by omega) (by omega)) ?_
                    rintro _ _ _ ⟨v536, rfl, rfl, rfl, f535⟩
                    show ov_R u d ov_m297 88 [(0, ov_r 90), (1, ov_i x), (2, ov_i y), (3, ov_i m), (4, ov_i bo), (5, ov_i w), (6, ov_i x6___), (7, ov_i x7___)] [ov_i v536] z (ov_up h 90 0 0) (P_Mo_wave_90 F z h x y m bo w)
                    have f537 : v536 = (h 96 (10 + 4 * (6 * (y + x7___) + x) + (1 : Int))) ∧ ((1 : Int) = 1 → 0 ≤ v536 ∧ v536 ≤ 60) ∧ ((1 : Int) = 2 → 0 ≤ v536 ∧ v536 ≤ 59) ∧ ((1 : Int) = 3 → 0 ≤ v536 ∧ v536 ≤ 60) := f535
                    clear f535
                    refine ov_blk (ls2 := [(0, ov_r 90), (1, ov_i x), (2, ov_i y), (3, ov_i m), (4, ov_i bo), (5, ov_i w), (6, ov_i x6___), (7, ov_i x7___)]) (st2 := [ov_i 1, ov_i y, ov_i x, ov_r 90, ov_i v536]) (pc2 := 92) b_297_88_4 rfl rfl ?_
                    refine ov_cV (as := [ov_i x, ov_i y, ov_i 1]) (st := [ov_i v536]) (d2 := d - 1) d_297_92 lk_Mo_289 rfl (Nat.le_of_ble_eq_true rfl) (c := 1) (zb_90 I1) (zs_90 I1) ⟨by decide, rfl⟩ (by omega) (c_Mo_lightAt_90 (d - 1) (by omega) U I1 x y 1 (by omega) (by omega) (by omega) (by omega) (by omega)) ?_
                    rintro _ _ _ ⟨v539, rfl, rfl, rfl, f538⟩
                    show ov_R u d ov_m297 95 [(0, ov_r 90), (1, ov_i x), (2, ov_i y), (3, ov_i m), (4, ov_i bo), (5, ov_i w), (6, ov_i x6___), (7, ov_i x7___)] [ov_i v539, ov_i v536] z (ov_up h 90 0 0) (P_Mo_wave_90 F z h x y m bo w)
                    have f540 : v539 = (h 96 (10 + 4 * (6 * y + x) + (1 : Int))) ∧ ((1 : Int) = 1 → 0 ≤ v539 ∧ v539 ≤ 60) ∧ ((1 : Int) = 2 → 0 ≤ v539 ∧ v539 ≤ 59) ∧ ((1 : Int) = 3 → 0 ≤ v539 ∧ v539 ≤ 60) := f538
                    clear f538
                    refine ov_icne (tgt := 102) d_297_95 (by decide) (by omega) (by omega) (fun c541 => ?_) (fun c541 => ?_)
                    · skip
                      refine ov_blk (ls2 := [(0, ov_r 90), (1, ov_i x), (2, ov_i y), (3, ov_i m), (4, ov_i bo), (5, ov_i w), (6, ov_i 0), (7, ov_i (x7___ + 1))]) (st2 := []) (pc2 := 108) b_297_102_3 rfl rfl ?_
                      refine ov_goto (tgt := 55) d_297_108 (by decide) ?_
                      exact ih413 0 (x7___ + 1) (by show (0 = 0 ∨ 0 = 1) ∧ 0 ≤ (x7___ + 1) ∧ (x7___ + 1) ≤ 4 ∧ (0 = 1 → 0 ≤ x ∧ x ≤ 5 ∧ 0 ≤ y ∧ y ≤ 8 ∧ 2 ≤ m ∧ m ≤ 4 ∧ y + m ≤ 9 ∧ 0 ≤ w ∧ w ≤ m - 1 ∧ (1 ≤ (x7___ + 1) → ((h 96 (10 + 4 * (6 * y + x))) = 1 ∨ (h 96 (10 + 4 * (6 * y + x))) = 2))); omega) (by omega)
                    · skip
                      refine ov_blk (ls2 := [(0, ov_r 90), (1, ov_i x), (2, ov_i y), (3, ov_i m), (4, ov_i bo), (5, ov_i w), (6, ov_i x6___), (7, ov_i x7___)]) (st2 := [ov_i 1]) (pc2 := 99) b_297_98_1 rfl rfl ?_
                      refine ov_goto (tgt := 103) d_297_99 (by decide) ?_
                      refine ov_blk (ls2 := [(0, ov_r 90), (1, ov_i x), (2, ov_i y), (3, ov_i m), (4, ov_i bo), (5, ov_i w), (6, ov_i 1), (7, ov_i (x7___ + 1))]) (st2 := []) (pc2 := 108) b_297_103_2 rfl rfl ?_
                      refine ov_goto (tgt := 55) d_297_108 (by decide) ?_
                      exact ih413 1 (x7___ + 1) (by show (1 = 0 ∨ 1 = 1) ∧ 0 ≤ (x7___ + 1) ∧ (x7___ + 1) ≤ 4 ∧ (1 = 1 → 0 ≤ x ∧ x ≤ 5 ∧ 0 ≤ y ∧ y ≤ 8 ∧ 2 ≤ m ∧ m ≤ 4 ∧ y + m ≤ 9 ∧ 0 ≤ w ∧ w ≤ m - 1 ∧ (1 ≤ (x7___ + 1) → ((h 96 (10 + 4 * (6 * y + x))) = 1 ∨ (h 96 (10 + 4 * (6 * y + x))) = 2))); omega) (by omega)
          exact L415 5 0 0 (by show (0 = 0 ∨ 0 = 1) ∧ 0 ≤ 0 ∧ 0 ≤ 4 ∧ (0 = 1 → 0 ≤ x ∧ x ≤ 5 ∧ 0 ≤ y ∧ y ≤ 8 ∧ 2 ≤ m ∧ m ≤ 4 ∧ y + m ≤ 9 ∧ 0 ≤ w ∧ w ≤ m - 1 ∧ (1 ≤ 0 → ((h 96 (10 + 4 * (6 * y + x))) = 1 ∨ (h 96 (10 + 4 * (6 * y + x))) = 2))); omega) (by omega)
        · skip
          have f409_ : v408 = 1 := by omega
          have f542 : (0 : Int) ≤ w ∧ w ≤ (m - 1) := f409.2.1 (by omega)
          clear f409
          refine ov_blk (ls2 := [(0, ov_r 90), (1, ov_i x), (2, ov_i y), (3, ov_i m), (4, ov_i bo), (5, ov_i w)]) (st2 := [ov_i 1]) (pc2 := 46) b_297_45_1 rfl rfl ?_
          refine ov_goto (tgt := 50) d_297_46 (by decide) ?_
          refine ov_blk (ls2 := [(0, ov_r 90), (1, ov_i x), (2, ov_i y), (3, ov_i m), (4, ov_i bo), (5, ov_i w), (6, ov_i 1), (7, ov_i 0)]) (st2 := []) (pc2 := 55) b_297_50_3 rfl rfl ?_
          have L546 : ∀ (n543 : Nat) (x6____ : Int) (x7____ : Int) (q545 : (x6____ = 0 ∨ x6____ = 1) ∧ 0 ≤ x7____ ∧ x7____ ≤ 4 ∧ (x6____ = 1 → 0 ≤ x ∧ x ≤ 5 ∧ 0 ≤ y ∧ y ≤ 8 ∧ 2 ≤ m ∧ m ≤ 4 ∧ y + m ≤ 9 ∧ 0 ≤ w ∧ w ≤ m - 1 ∧ (1 ≤ x7____ → ((h 96 (10 + 4 * (6 * y + x))) = 1 ∨ (h 96 (10 + 4 * (6 * y + x))) = 2)))), 4 - x7____ < (n543 : Int) → ov_R u d ov_m297 55 [(0, ov_r 90), (1, ov_i x), (2, ov_i y), (3, ov_i m), (4, ov_i bo), (5, ov_i w), (6, ov_i x6____), (7, ov_i x7____)] [] z (ov_up h 90 0 0) (P_Mo_wave_90 F z h x y m bo w) := by
            intro n543
            induction n543 with
            | zero =>
              intro x6____ x7____ q545 hn547
              exact absurd hn547 (by omega)
            | succ n543 ih544 =>
              intro x6____ x7____ q545 hn547
              refine ov_blk (ls2 := [(0, ov_r 90), (1, ov_i x), (2, ov_i y), (3, ov_i m), (4, ov_i bo), (5, ov_i w), (6, ov_i x6____), (7, ov_i x7____)]) (st2 := [ov_i m, ov_i x7____]) (pc2 := 58) b_297_55_2 rfl rfl ?_
              refine ov_icge (tgt := 111) d_297_58 (by decide) (by omega) (by omega) (fun c548 => ?_) (fun c548 => ?_)
              · skip
                refine ov_blk (ls2 := [(0, ov_r 90), (1, ov_i x), (2, ov_i y), (3, ov_i m), (4, ov_i bo), (5, ov_i w), (6, ov_i x6____), (7, ov_i x7____)]) (st2 := [ov_i x6____]) (pc2 := 113) b_297_111_1 rfl rfl ?_
                refine ov_ifne (tgt := 118) d_297_113 (by decide) (by omega) (fun c549 => ?_) (fun c549 => ?_)
                · skip
                  have w1 := ov_WT_at W (c := 6 * y + x) (by omega)
                  refine ov_blk (ls2 := [(0, ov_r 90), (1, ov_i x), (2, ov_i y), (3, ov_i m), (4, ov_i bo), (5, ov_i w), (6, ov_i x6____), (7, ov_i x7____)]) (st2 := [ov_i 1, ov_i y, ov_i x, ov_r 90]) (pc2 := 122) b_297_118_4 rfl rfl ?_
                  refine ov_cV (as := [ov_i x, ov_i y, ov_i 1]) (st := []) (d2 := d - 1) d_297_122 lk_Mo_289 rfl (Nat.le_of_ble_eq_true rfl) (c := 1) (zb_90 I1) (zs_90 I1) ⟨by decide, rfl⟩ (by omega) (c_Mo_lightAt_90 (d - 1) (by omega) U I1 x y 1 (by omega) (by omega) (by omega) (by omega) (by omega)) ?_
                  rintro _ _ _ ⟨v551, rfl, rfl, rfl, f550⟩
                  show ov_R u d ov_m297 125 [(0, ov_r 90), (1, ov_i x), (2, ov_i y), (3, ov_i m), (4, ov_i bo), (5, ov_i w), (6, ov_i x6____), (7, ov_i x7____)] [ov_i v551] z (ov_up h 90 0 0) (P_Mo_wave_90 F z h x y m bo w)
                  have f552 : v551 = (h 96 (10 + 4 * (6 * y + x) + (1 : Int))) ∧ ((1 : Int) = 1 → 0 ≤ v551 ∧ v551 ≤ 60) ∧ ((1 : Int) = 2 → 0 ≤ v551 ∧ v551 ≤ 59) ∧ ((1 : Int) = 3 → 0 ≤ v551 ∧ v551 ≤ 60) := f550
                  clear f550
                  refine ov_blk (ls2 := [(0, ov_r 90), (1, ov_i x), (2, ov_i y), (3, ov_i m), (4, ov_i bo), (5, ov_i w), (6, ov_i x6____), (7, ov_i v551), (8, ov_i 0)]) (st2 := []) (pc2 := 130) b_297_125_3 rfl rfl ?_
                  have L556 : ∀ (n553 : Nat) (x8____ : Int) (z557 : ov_Z) (h558 : ov_H) (I559 : ov_N F z557 h558) (E560 : h558 92 = h 92) (E561 : h558 93 = h 93) (E562 : h558 94 = h 94) (E563 : h558 95 = h 95) (E564 : h558 96 = h 96) (E565 : h558 97 = h 97) (E566 : h558 98 = h 98) (E567 : h558 99 = h 99) (E568 : h558 100 = h 100) (E569 : h558 103 = h 103) (E570 : h558 105 = h 105) (E571 : h558 106 = h 106) (E572 : h558 109 = h 109) (E573 : h558 114 = h 114) (q555 : 0 ≤ x8____ ∧ x8____ ≤ 4 ∧ (h558 90 2) = (h 90 2) ∧ (h558 90 7) = (h 90 7) ∧ (h558 90 8) = (h 90 8) ∧ (h558 90 13) = (h 90 13) ∧ (h558 90 20) = (h 90 20) ∧ (h558 90 22) = (h 90 22) ∧ (h558 90 25) = (h 90 25) ∧ (h558 90 26) = (h 90 26) ∧ (h558 90 28) = (h 90 28) ∧ (h558 90 29) = (h 90 29) ∧ (h558 90 30) = (h 90 30) ∧ (h558 90 34) = (h 90 34)), 4 - x8____ < (n553 : Int) → ov_R u d ov_m297 130 [(0, ov_r 90), (1, ov_i x), (2, ov_i y), (3, ov_i m), (4, ov_i bo), (5, ov_i w), (6, ov_i x6____), (7, ov_i v551), (8, ov_i x8____)] [] z557 h558 (P_Mo_wave_90 F z h x y m bo w) := by
                    intro n553
                    induction n553 with
                    | zero =>
                      intro x8____ z557 h558 I559 E560 E561 E562 E563 E564 E565 E566 E567 E568 E569 E570 E571 E572 E573 q555 hn574
                      exact absurd hn574 (by omega)
                    | succ n553 ih554 =>
                      intro x8____ z557 h558 I559 E560 E561 E562 E563 E564 E565 E566 E567 E568 E569 E570 E571 E572 E573 q555 hn574
                      refine ov_blk (ls2 := [(0, ov_r 90), (1, ov_i x), (2, ov_i y), (3, ov_i m), (4, ov_i bo), (5, ov_i w), (6, ov_i x6____), (7, ov_i v551), (8, ov_i x8____)]) (st2 := [ov_i m, ov_i x8____]) (pc2 := 133) b_297_130_2 rfl rfl ?_
                      refine ov_icge (tgt := 241) d_297_133 (by decide) (by omega) (by omega) (fun c575 => ?_) (fun c575 => ?_)
                      · skip
                        refine ov_blk (ls2 := [(0, ov_r 90), (1, ov_i x), (2, ov_i y), (3, ov_i m), (4, ov_i bo), (5, ov_i w), (6, ov_i x6____), (7, ov_i v551), (8, ov_i x8____)]) (st2 := [ov_i (-1), ov_r 90]) (pc2 := 243) b_297_241_2 rfl rfl ?_
                        refine ov_putf (x := (-1)) d_297_243 fl_Mo_439 (zb_90 I559) (zs_90 I559) rfl nk_0 rfl ?_
                        have I576 := up_90_42 (x := (-1)) I559 (by omega)
                        refine ov_blk (ls2 := [(0, ov_r 90), (1, ov_i x), (2, ov_i y), (3, ov_i m), (4, ov_i bo), (5, ov_i w), (6, ov_i x6____), (7, ov_i v551), (8, ov_i x8____)]) (st2 := [ov_i 2, ov_i y, ov_i x, ov_r 90]) (pc2 := 250) b_297_246_4 rfl rfl ?_
                        refine ov_cV (as := [ov_i x, ov_i y, ov_i 2]) (st := []) (d2 := d - 1) d_297_250 lk_Mo_289 rfl (Nat.le_of_ble_eq_true rfl) (c := 1) (zb_90 I576) (zs_90 I576) ⟨by decide, rfl⟩ (by omega) (c_Mo_lightAt_90 (d - 1) (by omega) U I576 x y 2 (by omega) (by omega) (by omega) (by omega) (by omega)) ?_
                        rintro _ _ _ ⟨v578, rfl, rfl, rfl, f577⟩
                        show ov_R u d ov_m297 253 [(0, ov_r 90), (1, ov_i x), (2, ov_i y), (3, ov_i m), (4, ov_i bo), (5, ov_i w), (6, ov_i x6____), (7, ov_i v551), (8, ov_i x8____)] [ov_i v578] z557 (ov_up h558 90 42 (-1)) (P_Mo_wave_90 F z h x y m bo w)
                        rw [show (ov_up h558 90 42 (-1)) 96 = h 96 from E564] at f577
                        have f579 : v578 = (h 96 (10 + 4 * (6 * y + x) + (2 : Int))) ∧ ((2 : Int) = 1 → 0 ≤ v578 ∧ v578 ≤ 60) ∧ ((2 : Int) = 2 → 0 ≤ v578 ∧ v578 ≤ 59) ∧ ((2 : Int) = 3 → 0 ≤ v578 ∧ v578 ≤ 60) := f577
                        clear f577
                        refine ov_blk (ls2 := [(0, ov_r 90), (1, ov_i x), (2, ov_i y), (3, ov_i m), (4, ov_i bo), (5, ov_i w), (6, ov_i x6____), (7, ov_i v551), (8, ov_i x8____)]) (st2 := [ov_i 3, ov_i y, ov_i x, ov_r 90, ov_i v578]) (pc2 := 257) b_297_253_4 rfl rfl ?_
                        refine ov_cV (as := [ov_i x, ov_i y, ov_i 3]) (st := [ov_i v578]) (d2 := d - 1) d_297_257 lk_Mo_289 rfl (Nat.le_of_ble_eq_true rfl) (c := 1) (zb_90 I576) (zs_90 I576) ⟨by decide, rfl⟩ (by omega) (c_Mo_lightAt_90 (d - 1) (by omega) U I576 x y 3 (by omega) (by omega) (by omega) (by omega) (by omega)) ?_
                        rintro _ _ _ ⟨v581, rfl, rfl, rfl, f580⟩
                        show ov_R u d ov_m297 260 [(0, ov_r 90), (1, ov_i x), (2, ov_i y), (3, ov_i m), (4, ov_i bo), (5, ov_i w), (6, ov_i x6____), (7, ov_i v551), (8, ov_i x8____)] [ov_i v581, ov_i v578] z557 (ov_up h558 90 42 (-1)) (P_Mo_wave_90 F z h x y m bo w)
                        rw [show (ov_up h558 90 42 (-1)) 96 = h 96 from E564] at f580
                        have f582 : v581 = (h 96 (10 + 4 * (6 * y + x) + (3 : Int))) ∧ ((3 : Int) = 1 → 0 ≤ v581 ∧ v581 ≤ 60) ∧ ((3 : Int) = 2 → 0 ≤ v581 ∧ v581 ≤ 59) ∧ ((3 : Int) = 3 → 0 ≤ v581 ∧ v581 ≤ 60) := f580
                        clear f580
                        refine ov_blk (ls2 := [(0, ov_r 90), (1, ov_i x), (2, ov_i y), (3, ov_i m), (4, ov_i bo), (5, ov_i w), (6, ov_i x6____), (7, ov_i v551), (8, ov_i x8____)]) (st2 := [ov_i v551, ov_i (v578 + v581)]) (pc2 := 263) b_297_260_2 rfl rfl ?_
                        refine ov_irem d_297_263 (by omega) (by omega) (by omega) ?_
                        have g583 := ov_tmg (a := (v578 + v581)) (b := v551) (by omega) (by omega)
                        refine ov_havw (fun w584 gw584 qw584 => ?_)
                        refine ov_blk (ls2 := [(0, ov_r 90), (1, ov_i x), (2, ov_i y), (3, ov_i m), (4, ov_i bo), (5, ov_i w), (6, ov_i x6____), (7, ov_i v551), (8, ov_i w584)]) (st2 := [ov_r 90]) (pc2 := 267) b_297_264_2 rfl rfl ?_
                        refine ov_getf (v := ov_r 112) d_297_267 fl_Mo_138 (zb_90 I576) (zs_90 I576) (congrArg ov_r (rg_90_40 I576)) ?_
                        refine ov_blk (ls2 := [(0, ov_r 90), (1, ov_i x), (2, ov_i y), (3, ov_i m), (4, ov_i bo), (5, ov_i w), (6, ov_i x6____), (7, ov_i v551), (8, ov_i w584)]) (st2 := [ov_i w584, ov_i 0, ov_r 112]) (pc2 := 273) b_297_270_2 rfl rfl ?_
                        refine ov_iast d_297_273 (zb_112 I576) (zs_112 I576) (by omega) ?_
                        have I585 := ua_112 (k := 0) (x := w584) I576 (by omega)
                        refine ov_blk (ls2 := [(0, ov_r 90), (1, ov_i x), (2, ov_i y), (3, ov_i m), (4, ov_i bo), (5, ov_i w), (6, ov_i x6____), (7, ov_i v551), (8, ov_i w584)]) (st2 := [ov_r 90, ov_i v551, ov_i m, ov_i 1, ov_r 90]) (pc2 := 280) b_297_274_5 rfl rfl ?_
                        refine ov_getf (v := ov_r 110) d_297_280 fl_Mo_132 (zb_90 I585) (zs_90 I585) (congrArg ov_r (rg_90_38 I585)) ?_
                        refine ov_blk (ls2 := [(0, ov_r 90), (1, ov_i x), (2, ov_i y), (3, ov_i m), (4, ov_i bo), (5, ov_i w), (6, ov_i x6____), (7, ov_i v551), (8, ov_i w584)]) (st2 := [ov_i w584, ov_r 110, ov_i v551, ov_i m, ov_i 1, ov_r 90]) (pc2 := 285) b_297_283_1 rfl rfl ?_
                        refine ov_lald d_297_285 (zb_110 I585) (zs_110 I585) (by omega) ?_
                        show ov_R u d ov_m297 286 [(0, ov_r 90), (1, ov_i x), (2, ov_i y), (3, ov_i m), (4, ov_i bo), (5, ov_i w), (6, ov_i x6____), (7, ov_i v551), (8, ov_i w584)] [ov_l (h558 110 w584), ov_i v551, ov_i m, ov_i 1, ov_r 90] z557 (ov_up (ov_up h558 90 42 (-1)) 112 0 w584) (P_Mo_wave_90 F z h x y m bo w)
                        refine ov_blk (ls2 := [(0, ov_r 90), (1, ov_i x), (2, ov_i y), (3, ov_i m), (4, ov_i bo), (5, ov_i w), (6, ov_i x6____), (7, ov_i v551), (8, ov_i w584)]) (st2 := [ov_r 90, ov_l (h558 110 w584), ov_i v551, ov_i m, ov_i 1, ov_r 90]) (pc2 := 287) b_297_286_1 rfl rfl ?_
                        refine ov_getf (v := ov_r 111) d_297_287 fl_Mo_135 (zb_90 I585) (zs_90 I585) (congrArg ov_r (rg_90_39 I585)) ?_
                        refine ov_blk (ls2 := [(0, ov_r 90), (1, ov_i x), (2, ov_i y), (3, ov_i m), (4, ov_i bo), (5, ov_i w), (6, ov_i x6____), (7, ov_i v551), (8, ov_i w584)]) (st2 := [ov_i w584, ov_r 111, ov_l (h558 110 w584), ov_i v551, ov_i m, ov_i 1, ov_r 90]) (pc2 := 292) b_297_290_1 rfl rfl ?_
                        refine ov_lald d_297_292 (zb_111 I585) (zs_111 I585) (by omega) ?_
                        show ov_R u d ov_m297 293 [(0, ov_r 90), (1, ov_i x), (2, ov_i y), (3, ov_i m), (4, ov_i bo), (5, ov_i w), (6, ov_i x6____), (7, ov_i v551), (8, ov_i w584)] [ov_l (h558 111 w584), ov_l (h558 110 w584), ov_i v551, ov_i m, ov_i 1, ov_r 90] z557 (ov_up (ov_up h558 90 42 (-1)) 112 0 w584) (P_Mo_wave_90 F z h x y m bo w)
                        refine ov_blk (ls2 := [(0, ov_r 90), (1, ov_i x), (2, ov_i y), (3, ov_i m), (4, ov_i bo), (5, ov_i w), (6, ov_i x6____), (7, ov_i v551), (8, ov_i w584)]) (st2 := [ov_i bo, ov_l (h558 111 w584), ov_l (h558 110 w584), ov_i v551, ov_i m, ov_i 1, ov_r 90]) (pc2 := 295) b_297_293_1 rfl rfl ?_
                        refine ov_cV (as := [ov_i 1, ov_i m, ov_i v551, ov_l (h558 110 w584), ov_l (h558 111 w584), ov_i bo]) (st := []) (d2 := d - 1) d_297_295 lk_Mo_442 rfl (Nat.le_of_ble_eq_true rfl) (c := 1) (zb_90 I585) (zs_90 I585) ⟨by decide, rfl⟩ (by omega) (c_Mo_triesWave_90_all (Int.toNat ((m) - (1))) (d - 1) (by omega) U I585 1 m v551 (h558 110 w584) (h558 111 w584) bo (by omega) (by omega) (by omega) (by omega) (by omega) (by omega) (by omega)) ?_
                        rintro _ z601 h602 ⟨rfl, I603, f586, e587, e588, e589, e590, e591, e592, e593, e594, e595, e596, e597, e598, e599, e600⟩
                        have E604 : h602 92 = h 92 := Eq.trans e587 E560
                        have E605 : h602 93 = h 93 := Eq.trans e588 E561
                        have E606 : h602 94 = h 94 := Eq.trans e589 E562
                        have E607 : h602 95 = h 95 := Eq.trans e590 E563
                        have E608 : h602 96 = h 96 := Eq.trans e591 E564
                        have E609 : h602 97 = h 97 := Eq.trans e592 E565
                        have E610 : h602 98 = h 98 := Eq.trans e593 E566
                        have E611 : h602 99 = h 99 := Eq.trans e594 E567
                        have E612 : h602 100 = h 100 := Eq.trans e595 E568
                        have E613 : h602 103 = h 103 := Eq.trans e596 E569
                        have E614 : h602 105 = h 105 := Eq.trans e597 E570
                        have E615 : h602 106 = h 106 := Eq.trans e598 E571
                        have E616 : h602 109 = h 109 := Eq.trans e599 E572
                        have E617 : h602 114 = h 114 := Eq.trans e600 E573
                        show ov_R u d ov_m297 298 [(0, ov_r 90), (1, ov_i x), (2, ov_i y), (3, ov_i m), (4, ov_i bo), (5, ov_i w), (6, ov_i x6____), (7, ov_i v551), (8, ov_i w584)] [] z601 h602 (P_Mo_wave_90 F z h x y m bo w)
                        have f618 : (h602 90 2) = (h558 90 2) ∧ (h602 90 7) = (h558 90 7) ∧ (h602 90 8) = (h558 90 8) ∧ (h602 90 13) = (h558 90 13) ∧ (h602 90 20) = (h558 90 20) ∧ (h602 90 22) = (h558 90 22) ∧ (h602 90 25) = (h558 90 25) ∧ (h602 90 26) = (h558 90 26) ∧ (h602 90 28) = (h558 90 28) ∧ (h602 90 29) = (h558 90 29) ∧ (h602 90 30) = (h558 90 30) ∧ (h602 90 34) = (h558 90 34) := f586
                        clear f586
                        refine ov_blk (ls2 := [(0, ov_r 90), (1, ov_i x), (2, ov_i y), (3, ov_i m), (4, ov_i bo), (5, ov_i w), (6, ov_i x6____), (7, ov_i v551), (8, ov_i w584)]) (st2 := [ov_i w]) (pc2 := 300) b_297_298_1 rfl rfl ?_
                        refine ov_ifne (tgt := 310) d_297_300 (by decide) (by omega) (fun c619 => ?_) (fun c619 => ?_)
                        · skip
                          refine ov_blk (ls2 := [(0, ov_r 90), (1, ov_i x), (2, ov_i y), (3, ov_i m), (4, ov_i bo), (5, ov_i w), (6, ov_i x6____), (7, ov_i v551), (8, ov_i w584)]) (st2 := [ov_r 90]) (pc2 := 311) b_297_310_1 rfl rfl ?_
                          refine ov_getf (v := ov_r 113) d_297_311 fl_Mo_141 (zb_90 I603) (zs_90 I603) (congrArg ov_r (rg_90_41 I603)) ?_
                          refine ov_blk (ls2 := [(0, ov_r 90), (1, ov_i x), (2, ov_i y), (3, ov_i m), (4, ov_i bo), (5, ov_i w), (6, ov_i x6____), (7, ov_i v551), (8, ov_i w584)]) (st2 := [ov_i w, ov_r 113]) (pc2 := 316) b_297_314_1 rfl rfl ?_
                          refine ov_iald d_297_316 (zb_113 I603) (zs_113 I603) (by omega) ?_
                          have g620 := ra_113 I603 w
                          exact ov_reti (st := []) d_297_317 rfl ⟨_, rfl, I603, (by show (h602 90 2) = (h 90 2) ∧ (h602 90 7) = (h 90 7) ∧ (h602 90 8) = (h 90 8) ∧ (h602 90 13) = (h 90 13) ∧ (h602 90 20) = (h 90 20) ∧ (h602 90 22) = (h 90 22) ∧ (h602 90 25) = (h 90 25) ∧ (h602 90 26) = (h 90 26) ∧ (h602 90 28) = (h 90 28) ∧ (h602 90 29) = (h 90 29) ∧ (h602 90 30) = (h 90 30) ∧ (h602 90 34) = (h 90 34) ∧ -2147483648 ≤ (h602 113 w) ∧ (h602 113 w) ≤ 2147483647; omega), E604, E605, E606, E607, E608, E609, E610, E611, E612, E613, E614, E615, E616, E617⟩
                        · skip
                          refine ov_blk (ls2 := [(0, ov_r 90), (1, ov_i x), (2, ov_i y), (3, ov_i m), (4, ov_i bo), (5, ov_i w), (6, ov_i x6____), (7, ov_i v551), (8, ov_i w584)]) (st2 := [ov_r 90]) (pc2 := 304) b_297_303_1 rfl rfl ?_
                          refine ov_getf (v := ov_i (h602 90 42)) d_297_304 fl_Mo_439 (zb_90 I603) (zs_90 I603) rfl ?_
                          have g621 := rg_90_42 I603
                          refine ov_goto (tgt := 317) d_297_307 (by decide) ?_
                          exact ov_reti (st := []) d_297_317 rfl ⟨_, rfl, I603, (by show (h602 90 2) = (h 90 2) ∧ (h602 90 7) = (h 90 7) ∧ (h602 90 8) = (h 90 8) ∧ (h602 90 13) = (h 90 13) ∧ (h602 90 20) = (h 90 20) ∧ (h602 90 22) = (h 90 22) ∧ (h602 90 25) = (h 90 25) ∧ (h602 90 26) = (h 90 26) ∧ (h602 90 28) = (h 90 28) ∧ (h602 90 29) = (h 90 29) ∧ (h602 90 30) = (h 90 30) ∧ (h602 90 34) = (h 90 34) ∧ -2147483648 ≤ (h602 90 42) ∧ (h602 90 42) ≤ 2147483647; omega), E604, E605, E606, E607, E608, E609, E610, E611, E612, E613, E614, E615, E616, E617⟩
                      · skip
                        refine ov_blk (ls2 := [(0, ov_r 90), (1, ov_i x), (2, ov_i y), (3, ov_i m), (4, ov_i bo), (5, ov_i w), (6, ov_i x6____), (7, ov_i v551), (8, ov_i x8____)]) (st2 := [ov_i 3, ov_i (y + x8____), ov_i x, ov_r 90, ov_i v551]) (pc2 := 145) b_297_136_7 rfl rfl ?_
                        refine ov_cV (as := [ov_i x, ov_i (y + x8____), ov_i 3]) (st := [ov_i v551]) (d2 := d - 1) d_297_145 lk_Mo_289 rfl (Nat.le_of_ble_eq_true rfl) (c := 1) (zb_90 I559) (zs_90 I559) ⟨by decide, rfl⟩ (by omega) (c_Mo_lightAt_90 (d - 1) (by omega) U I559 x (y + x8____) 3 (by omega) (by omega) (by omega) (by omega) (by omega)) ?_
                        rintro _ _ _ ⟨v623, rfl, rfl, rfl, f622⟩
                        show ov_R u d ov_m297 148 [(0, ov_r 90), (1, ov_i x), (2, ov_i y), (3, ov_i m), (4, ov_i bo), (5, ov_i w), (6, ov_i x6____), (7, ov_i v551), (8, ov_i x8____)] [ov_i v623, ov_i v551] z557 h558 (P_Mo_wave_90 F z h x y m bo w)
                        rw [show h558 96 = h 96 from E564] at f622
                        have f624 : v623 = (h 96 (10 + 4 * (6 * (y + x8____) + x) + (3 : Int))) ∧ ((3 : Int) = 1 → 0 ≤ v623 ∧ v623 ≤ 60) ∧ ((3 : Int) = 2 → 0 ≤ v623 ∧ v623 ≤ 59) ∧ ((3 : Int) = 3 → 0 ≤ v623 ∧ v623 ≤ 60) := f622
                        clear f622
                        refine ov_blk (ls2 := [(0, ov_r 90), (1, ov_i x), (2, ov_i y), (3, ov_i m), (4, ov_i bo), (5, ov_i w), (6, ov_i x6____), (7, ov_i v551), (8, ov_i x8____), (9, ov_i (v551 - v623)), (10, ov_i 0)]) (st2 := []) (pc2 := 154) b_297_148_4 rfl rfl ?_
                        have L628 : ∀ (n625 : Nat) (x10____ : Int) (z629 : ov_Z) (h630 : ov_H) (I631 : ov_N F z629 h630) (E632 : h630 92 = h 92) (E633 : h630 93 = h 93) (E634 : h630 94 = h 94) (E635 : h630 95 = h 95) (E636 : h630 96 = h 96) (E637 : h630 97 = h 97) (E638 : h630 98 = h 98) (E639 : h630 99 = h 99) (E640 : h630 100 = h 100) (E641 : h630 103 = h 103) (E642 : h630 105 = h 105) (E643 : h630 106 = h 106) (E644 : h630 109 = h 109) (E645 : h630 114 = h 114) (q627 : 0 ≤ x10____ ∧ x10____ ≤ 60 ∧ (h630 90 2) = (h558 90 2) ∧ (h630 90 7) = (h558 90 7) ∧ (h630 90 8) = (h558 90 8) ∧ (h630 90 13) = (h558 90 13) ∧ (h630 90 20) = (h558 90 20) ∧ (h630 90 22) = (h558 90 22) ∧ (h630 90 25) = (h558 90 25) ∧ (h630 90 26) = (h558 90 26) ∧ (h630 90 28) = (h558 90 28) ∧ (h630 90 29) = (h558 90 29) ∧ (h630 90 30) = (h558 90 30) ∧ (h630 90 34) = (h558 90 34)), 60 - x10____ < (n625 : Int) → ov_R u d ov_m297 154 [(0, ov_r 90), (1, ov_i x), (2, ov_i y), (3, ov_i m), (4, ov_i bo), (5, ov_i w), (6, ov_i x6____), (7, ov_i v551), (8, ov_i x8____), (9, ov_i (v551 - v623)), (10, ov_i x10____)] [] z629 h630 (P_Mo_wave_90 F z h x y m bo w) := by
                          intro n625
                          induction n625 with
                          | zero =>
                            intro x10____ z629 h630 I631 E632 E633 E634 E635 E636 E637 E638 E639 E640 E641 E642 E643 E644 E645 q627 hn646
                            exact absurd hn646 (by omega)
                          | succ n625 ih626 =>
                            intro x10____ z629 h630 I631 E632 E633 E634 E635 E636 E637 E638 E639 E640 E641 E642 E643 E644 E645 q627 hn646
                            refine ov_blk (ls2 := [(0, ov_r 90), (1, ov_i x), (2, ov_i y), (3, ov_i m), (4, ov_i bo), (5, ov_i w), (6, ov_i x6____), (7, ov_i v551), (8, ov_i x8____), (9, ov_i (v551 - v623)), (10, ov_i x10____)]) (st2 := [ov_i v551, ov_i x10____]) (pc2 := 158) b_297_154_2 rfl rfl ?_
                            refine ov_icge (tgt := 235) d_297_158 (by decide) (by omega) (by omega) (fun c647 => ?_) (fun c647 => ?_)
                            · skip
                              refine ov_blk (ls2 := [(0, ov_r 90), (1, ov_i x), (2, ov_i y), (3, ov_i m), (4, ov_i bo), (5, ov_i w), (6, ov_i x6____), (7, ov_i v551), (8, ov_i (x8____ + 1)), (9, ov_i (v551 - v623)), (10, ov_i x10____)]) (st2 := []) (pc2 := 238) b_297_235_1 rfl rfl ?_
                              refine ov_goto (tgt := 130) d_297_238 (by decide) ?_
                              refine ov_sub (ls2 := [(0, ov_r 90), (1, ov_i x), (2, ov_i y), (3, ov_i m), (4, ov_i bo), (5, ov_i w), (6, ov_i x6____), (7, ov_i v551), (8, ov_i (x8____ + 1))]) (List.Sublist.subset (by repeat (first | exact List.Sublist.refl _ | apply List.Sublist.cons_cons | apply List.Sublist.cons))) ?_
                              exact ih554 (x8____ + 1) _ _ I631 E632 E633 E634 E635 E636 E637 E638 E639 E640 E641 E642 E643 E644 E645 (by show 0 ≤ (x8____ + 1) ∧ (x8____ + 1) ≤ 4 ∧ (h630 90 2) = (h 90 2) ∧ (h630 90 7) = (h 90 7) ∧ (h630 90 8) = (h 90 8) ∧ (h630 90 13) = (h 90 13) ∧ (h630 90 20) = (h 90 20) ∧ (h630 90 22) = (h 90 22) ∧ (h630 90 25) = (h 90 25) ∧ (h630 90 26) = (h 90 26) ∧ (h630 90 28) = (h 90 28) ∧ (h630 90 29) = (h 90 29) ∧ (h630 90 30) = (h 90 30) ∧ (h630 90 34) = (h 90 34); omega) (by omega)
                            · skip
                              refine ov_blk (ls2 := [(0, ov_r 90), (1, ov_i x), (2, ov_i y), (3, ov_i m), (4, ov_i bo), (5, ov_i w), (6, ov_i x6____), (7, ov_i v551), (8, ov_i x8____), (9, ov_i (v551 - v623)), (10, ov_i x10____)]) (st2 := [ov_r 90]) (pc2 := 162) b_297_161_1 rfl rfl ?_
                              refine ov_getf (v := ov_r 110) d_297_162 fl_Mo_132 (zb_90 I631) (zs_90 I631) (congrArg ov_r (rg_90_38 I631)) ?_
                              refine ov_blk (ls2 := [(0, ov_r 90), (1, ov_i x), (2, ov_i y), (3, ov_i m), (4, ov_i bo), (5, ov_i w), (6, ov_i x6____), (7, ov_i v551), (8, ov_i x8____), (9, ov_i (v551 - v623)), (10, ov_i x10____)]) (st2 := [ov_r 90, ov_i x8____, ov_i x10____, ov_i ((60 * x8____) + x10____), ov_r 110]) (pc2 := 178) b_297_165_8 rfl rfl ?_
                              refine ov_getf (v := ov_r 96) d_297_178 fl_Mo_81 (zb_90 I631) (zs_90 I631) (congrArg ov_r (rg_90_10 I631)) ?_
                              refine ov_blk (ls2 := [(0, ov_r 90), (1, ov_i x), (2, ov_i y), (3, ov_i m), (4, ov_i bo), (5, ov_i w), (6, ov_i x6____), (7, ov_i v551), (8, ov_i x8____), (9, ov_i (v551 - v623)), (10, ov_i x10____)]) (st2 := [ov_i 2, ov_r 96, ov_i x8____, ov_i x10____, ov_i ((60 * x8____) + x10____), ov_r 110]) (pc2 := 182) b_297_181_1 rfl rfl ?_
                              refine ov_iald d_297_182 (zb_96 I631) (zs_96 I631) (by omega) ?_
                              rw [show h630 96 = h 96 from E636]
                              have g648 := t96_2 I
                              have gm649 := ov_mulb (q := x8____) (b := (h 96 2)) (A := 4) (B := 30) (by omega) (by omega) (by omega) (by omega)
                              refine ov_blk (ls2 := [(0, ov_r 90), (1, ov_i x), (2, ov_i y), (3, ov_i m), (4, ov_i bo), (5, ov_i w), (6, ov_i x6____), (7, ov_i v551), (8, ov_i x8____), (9, ov_i (v551 - v623)), (10, ov_i x10____)]) (st2 := [ov_i v551, ov_i (v551 - v623), ov_i (x10____ - (x8____ * (h 96 2))), ov_i ((60 * x8____) + x10____), ov_r 110]) (pc2 := 189) b_297_183_4 rfl rfl ?_
                              refine ov_cS (as := [ov_i (x10____ - (x8____ * (h 96 2))), ov_i (v551 - v623), ov_i v551]) (st := [ov_i ((60 * x8____) + x10____), ov_r 110]) (d2 := d - 1) d_297_189 lk_Mo_446 rfl (Nat.le_of_ble_eq_true rfl) (by omega) (c_Mo_turned (d - 1) (by omega) U I631 (x10____ - (x8____ * (h 96 2))) (v551 - v623) v551 (by omega) (by omega) (by omega) (by omega) (by omega)) ?_
                              rintro _ _ _ ⟨v651, rfl, rfl, rfl, f650⟩
                              show ov_R u d ov_m297 192 [(0, ov_r 90), (1, ov_i x), (2, ov_i y), (3, ov_i m), (4, ov_i bo), (5, ov_i w), (6, ov_i x6____), (7, ov_i v551), (8, ov_i x8____), (9, ov_i (v551 - v623)), (10, ov_i x10____)] [ov_l v651, ov_i ((60 * x8____) + x10____), ov_r 110] z629 h630 (P_Mo_wave_90 F z h x y m bo w)
                              clear f650
                              refine ov_last d_297_192 (zb_110 I631) (zs_110 I631) (by omega) ?_
                              have I652 := ua_110 (k := ((60 * x8____) + x10____)) (x := v651) I631
                              refine ov_blk (ls2 := [(0, ov_r 90), (1, ov_i x), (2, ov_i y), (3, ov_i m), (4, ov_i bo), (5, ov_i w), (6, ov_i x6____), (7, ov_i v551), (8, ov_i x8____), (9, ov_i (v551 - v623)), (10, ov_i x10____)]) (st2 := [ov_r 90]) (pc2 := 194) b_297_193_1 rfl rfl ?_
                              refine ov_getf (v := ov_r 111) d_297_194 fl_Mo_135 (zb_90 I652) (zs_90 I652) (congrArg ov_r (rg_90_39 I652)) ?_
                              refine ov_blk (ls2 := [(0, ov_r 90), (1, ov_i x), (2, ov_i y), (3, ov_i m), (4, ov_i bo), (5, ov_i w), (6, ov_i x6____), (7, ov_i v551), (8, ov_i x8____), (9, ov_i (v551 - v623)), (10, ov_i x10____)]) (st2 := [ov_r 90, ov_i ((m - 1) - x8____), ov_i x10____, ov_i ((60 * x8____) + x10____), ov_r 111]) (pc2 := 214) b_297_197_12 rfl rfl ?_
                              refine ov_getf (v := ov_r 96) d_297_214 fl_Mo_81 (zb_90 I652) (zs_90 I652) (congrArg ov_r (rg_90_10 I652)) ?_
                              refine ov_blk (ls2 := [(0, ov_r 90), (1, ov_i x), (2, ov_i y), (3, ov_i m), (4, ov_i bo), (5, ov_i w), (6, ov_i x6____), (7, ov_i v551), (8, ov_i x8____), (9, ov_i (v551 - v623)), (10, ov_i x10____)]) (st2 := [ov_i 2, ov_r 96, ov_i ((m - 1) - x8____), ov_i x10____, ov_i ((60 * x8____) + x10____), ov_r 111]) (pc2 := 218) b_297_217_1 rfl rfl ?_
                              refine ov_iald d_297_218 (zb_96 I652) (zs_96 I652) (by omega) ?_
                              rw [show (ov_up h630 110 ((60 * x8____) + x10____) v651) 96 = h 96 from E636]
                              have gm654 := ov_mulb (q := ((m - 1) - x8____)) (b := (h 96 2)) (A := 4) (B := 30) (by omega) (by omega) (by omega) (by omega)
                              refine ov_blk (ls2 := [(0, ov_r 90), (1, ov_i x), (2, ov_i y), (3, ov_i m), (4, ov_i bo), (5, ov_i w), (6, ov_i x6____), (7, ov_i v551), (8, ov_i x8____), (9, ov_i (v551 - v623)), (10, ov_i x10____)]) (st2 := [ov_i v551, ov_i (v551 - v623), ov_i (x10____ - (((m - 1) - x8____) * (h 96 2))), ov_i ((60 * x8____) + x10____), ov_r 111]) (pc2 := 225) b_297_219_4 rfl rfl ?_
                              refine ov_cS (as := [ov_i (x10____ - (((m - 1) - x8____) * (h 96 2))), ov_i (v551 - v623), ov_i v551]) (st := [ov_i ((60 * x8____) + x10____), ov_r 111]) (d2 := d - 1) d_297_225 lk_Mo_446 rfl (Nat.le_of_ble_eq_true rfl) (by omega) (c_Mo_turned (d - 1) (by omega) U I652 (x10____ - (((m - 1) - x8____) * (h 96 2))) (v551 - v623) v551 (by omega) (by omega) (by omega) (by omega) (by omega)) ?_
                              rintro _ _ _ ⟨v656, rfl, rfl, rfl, f655⟩
                              show ov_R u d ov_m297 228 [(0, ov_r 90), (1, ov_i x), (2, ov_i y), (3, ov_i m), (4, ov_i bo), (5, ov_i w), (6, ov_i x6____), (7, ov_i v551), (8, ov_i x8____), (9, ov_i (v551 - v623)), (10, ov_i x10____)] [ov_l v656, ov_i ((60 * x8____) + x10____), ov_r 111] z629 (ov_up h630 110 ((60 * x8____) + x10____) v651) (P_Mo_wave_90 F z h x y m bo w)
                              clear f655
                              refine ov_last d_297_228 (zb_111 I652) (zs_111 I652) (by omega) ?_
                              have I657 := ua_111 (k := ((60 * x8____) + x10____)) (x := v656) I652
                              refine ov_blk (ls2 := [(0, ov_r 90), (1, ov_i x), (2, ov_i y), (3, ov_i m), (4, ov_i bo), (5, ov_i w), (6, ov_i x6____), (7, ov_i v551), (8, ov_i x8____), (9, ov_i (v551 - v623)), (10, ov_i (x10____ + 1))]) (st2 := []) (pc2 := 232) b_297_229_1 rfl rfl ?_
                              refine ov_goto (tgt := 154) d_297_232 (by decide) ?_
                              exact ih626 (x10____ + 1) _ _ I657 E632 E633 E634 E635 E636 E637 E638 E639 E640 E641 E642 E643 E644 E645 (by show 0 ≤ (x10____ + 1) ∧ (x10____ + 1) ≤ 60 ∧ (h630 90 2) = (h558 90 2) ∧ (h630 90 7) = (h558 90 7) ∧ (h630 90 8) = (h558 90 8) ∧ (h630 90 13) = (h558 90 13) ∧ (h630 90 20) = (h558 90 20) ∧ (h630 90 22) = (h558 90 22) ∧ (h630 90 25) = (h558 90 25) ∧ (h630 90 26) = (h558 90 26) ∧ (h630 90 28) = (h558 90 28) ∧ (h630 90 29) = (h558 90 29) ∧ (h630 90 30) = (h558 90 30) ∧ (h630 90 34) = (h558 90 34); omega) (by omega)
                        exact L628 61 0 _ _ I559 E560 E561 E562 E563 E564 E565 E566 E567 E568 E569 E570 E571 E572 E573 (by show 0 ≤ 0 ∧ 0 ≤ 60 ∧ (h558 90 2) = (h558 90 2) ∧ (h558 90 7) = (h558 90 7) ∧ (h558 90 8) = (h558 90 8) ∧ (h558 90 13) = (h558 90 13) ∧ (h558 90 20) = (h558 90 20) ∧ (h558 90 22) = (h558 90 22) ∧ (h558 90 25) = (h558 90 25) ∧ (h558 90 26) = (h558 90 26) ∧ (h558 90 28) = (h558 90 28) ∧ (h558 90 29) = (h558 90 29) ∧ (h558 90 30) = (h558 90 30) ∧ (h558 90 34) = (h558 90 34); omega) (by omega)
                  exact L556 5 0 _ _ I1 rfl rfl rfl rfl rfl rfl rfl rfl rfl rfl rfl rfl rfl rfl (by show 0 ≤ 0 ∧ 0 ≤ 4 ∧ (h 90 2) = (h 90 2) ∧ (h 90 7) = (h 90 7) ∧ (h 90 8) = (h 90 8) ∧ (h 90 13) = (h 90 13) ∧ (h 90 20) = (h 90 20) ∧ (h 90 22) = (h 90 22) ∧ (h 90 25) = (h 90 25) ∧ (h 90 26) = (h 90 26) ∧ (h 90 28) = (h 90 28) ∧ (h 90 29) = (h 90 29) ∧ (h 90 30) = (h 90 30) ∧ (h 90 34) = (h 90 34); omega) (by omega)
                · skip
                  refine ov_blk (ls2 := [(0, ov_r 90), (1, ov_i x), (2, ov_i y), (3, ov_i m), (4, ov_i bo), (5, ov_i w), (6, ov_i x6____), (7, ov_i x7____)]) (st2 := [ov_i (-1)]) (pc2 := 117) b_297_116_1 rfl rfl ?_
                  exact ov_reti (st := []) d_297_117 rfl ⟨_, rfl, I1, ⟨rfl, rfl, rfl, rfl, rfl, rfl, rfl, rfl, rfl, rfl, rfl, rfl, (by show -2147483648 ≤ (-1) ∧ (-1) ≤ 2147483647; omega)⟩, rfl, rfl, rfl, rfl, rfl, rfl, rfl, rfl, rfl, rfl, rfl, rfl, rfl, rfl⟩
              · skip
                refine ov_blk (ls2 := [(0, ov_r 90), (1, ov_i x), (2, ov_i y), (3, ov_i m), (4, ov_i bo), (5, ov_i w), (6, ov_i x6____), (7, ov_i x7____)]) (st2 := [ov_i x6____]) (pc2 := 63) b_297_61_1 rfl rfl ?_
                refine ov_ifeq (tgt := 111) d_297_63 (by decide) (by omega) (fun c658 => ?_) (fun c658 => ?_)
                · skip
                  refine ov_blk (ls2 := [(0, ov_r 90), (1, ov_i x), (2, ov_i y), (3, ov_i m), (4, ov_i bo), (5, ov_i w), (6, ov_i x6____), (7, ov_i x7____)]) (st2 := [ov_i x6____]) (pc2 := 113) b_297_111_1 rfl rfl ?_
                  refine ov_ifne (tgt := 118) d_297_113 (by decide) (by omega) (fun c659 => ?_) (fun c659 => ?_)
                  · omega
                  · skip
                    refine ov_blk (ls2 := [(0, ov_r 90), (1, ov_i x), (2, ov_i y), (3, ov_i m), (4, ov_i bo), (5, ov_i w), (6, ov_i x6____), (7, ov_i x7____)]) (st2 := [ov_i (-1)]) (pc2 := 117) b_297_116_1 rfl rfl ?_
                    exact ov_reti (st := []) d_297_117 rfl ⟨_, rfl, I1, ⟨rfl, rfl, rfl, rfl, rfl, rfl, rfl, rfl, rfl, rfl, rfl, rfl, (by show -2147483648 ≤ (-1) ∧ (-1) ≤ 2147483647; omega)⟩, rfl, rfl, rfl, rfl, rfl, rfl, rfl, rfl, rfl, rfl, rfl, rfl, rfl, rfl⟩
                · skip
                  refine ov_blk (ls2 := [(0, ov_r 90), (1, ov_i x), (2, ov_i y), (3, ov_i m), (4, ov_i bo), (5, ov_i w), (6, ov_i x6____), (7, ov_i x7____)]) (st2 := [ov_i (y + x7____), ov_i x, ov_r 90]) (pc2 := 72) b_297_66_5 rfl rfl ?_
                  refine ov_cV (as := [ov_i x, ov_i (y + x7____)]) (st := []) (d2 := d - 1) d_297_72 lk_Mo_285 rfl (Nat.le_of_ble_eq_true rfl) (c := 1) (zb_90 I1) (zs_90 I1) ⟨by decide, rfl⟩ (by omega) (c_Mo_isTimed_90 (d - 1) (by omega) U I1 x (y + x7____) (by omega) (by omega) (by omega)) ?_
                  rintro _ _ _ ⟨v661, rfl, rfl, rfl, f660⟩
                  show ov_R u d ov_m297 75 [(0, ov_r 90), (1, ov_i x), (2, ov_i y), (3, ov_i m), (4, ov_i bo), (5, ov_i w), (6, ov_i x6____), (7, ov_i x7____)] [ov_i v661] z (ov_up h 90 0 0) (P_Mo_wave_90 F z h x y m bo w)
                  have f662 : (v661 = 0 ∨ v661 = 1) ∧ (v661 = 1 → ((h 96 (10 + 4 * (6 * (y + x7____) + x))) = 1 ∨ (h 96 (10 + 4 * (6 * (y + x7____) + x))) = 2)) ∧ (v661 = 0 → ¬ ((h 96 (10 + 4 * (6 * (y + x7____) + x))) = 1 ∨ (h 96 (10 + 4 * (6 * (y + x7____) + x))) = 2)) := f660
                  clear f660
                  refine ov_ifeq (tgt := 102) d_297_75 (by decide) (by omega) (fun c663 => ?_) (fun c663 => ?_)
                  · skip
                    have f662_ : v661 = 0 := by omega
                    have f664 : ¬ ((h 96 (10 + 4 * (6 * (y + x7____) + x))) = 1 ∨ (h 96 (10 + 4 * (6 * (y + x7____) + x))) = 2) := f662.2.2 (by omega)
                    clear f662
                    refine ov_blk (ls2 := [(0, ov_r 90), (1, ov_i x), (2, ov_i y), (3, ov_i m), (4, ov_i bo), (5, ov_i w), (6, ov_i 0), (7, ov_i (x7____ + 1))]) (st2 := []) (pc2 := 108) b_297_102_3 rfl rfl ?_
                    refine ov_goto (tgt := 55) d_297_108 (by decide) ?_
                    exact ih544 0 (x7____ + 1) (by show (0 = 0 ∨ 0 = 1) ∧ 0 ≤ (x7____ + 1) ∧ (x7____ + 1) ≤ 4 ∧ (0 = 1 → 0 ≤ x ∧ x ≤ 5 ∧ 0 ≤ y ∧ y ≤ 8 ∧ 2 ≤ m ∧ m ≤ 4 ∧ y + m ≤ 9 ∧ 0 ≤ w ∧ w ≤ m - 1 ∧ (1 ≤ (x7____ + 1) → ((h 96 (10 + 4 * (6 * y + x))) = 1 ∨ (h 96 (10 + 4 * (6 * y + x))) = 2))); omega) (by omega)
                  · skip
                    have f662_ : v661 = 1 := by omega
                    have f665 : ((h 96 (10 + 4 * (6 * (y + x7____) + x))) = 1 ∨ (h 96 (10 + 4 * (6 * (y + x7____) + x))) = 2) := f662.2.1 (by omega)
                    clear f662
                    refine ov_blk (ls2 := [(0, ov_r 90), (1, ov_i x), (2, ov_i y), (3, ov_i m), (4, ov_i bo), (5, ov_i w), (6, ov_i x6____), (7, ov_i x7____)]) (st2 := [ov_i 1, ov_i (y + x7____), ov_i x, ov_r 90]) (pc2 := 85) b_297_78_6 rfl rfl ?_
                    refine ov_cV (as := [ov_i x, ov_i (y + x7____), ov_i 1]) (st := []) (d2 := d - 1) d_297_85 lk_Mo_289 rfl (Nat.le_of_ble_eq_true rfl) (c := 1) (zb_90 I1) (zs_90 I1) ⟨by decide, rfl⟩ (by omega) (c_Mo_lightAt_90 (d - 1) (by omega) U I1 x (y + x7____) 1 (by omega) (by omega) (by omega) (by omega) (by omega)) ?_
                    rintro _ _ _ ⟨v667, rfl, rfl, rfl, f666⟩
                    show ov_R u d ov_m297 88 [(0, ov_r 90), (1, ov_i x), (2, ov_i y), (3, ov_i m), (4, ov_i bo), (5, ov_i w), (6, ov_i x6____), (7, ov_i x7____)] [ov_i v667] z (ov_up h 90 0 0) (P_Mo_wave_90 F z h x y m bo w)
                    have f668 : v667 = (h 96 (10 + 4 * (6 * (y + x7____) + x) + (1 : Int))) ∧ ((1 : Int) = 1 → 0 ≤ v667 ∧ v667 ≤ 60) ∧ ((1 : Int) = 2 → 0 ≤ v667 ∧ v667 ≤ 59) ∧ ((1 : Int) = 3 → 0 ≤ v667 ∧ v667 ≤ 60) := f666
                    clear f666
                    refine ov_blk (ls2 := [(0, ov_r 90), (1, ov_i x), (2, ov_i y), (3, ov_i m), (4, ov_i bo), (5, ov_i w), (6, ov_i x6____), (7, ov_i x7____)]) (st2 := [ov_i 1, ov_i y, ov_i x, ov_r 90, ov_i v667]) (pc2 := 92) b_297_88_4 rfl rfl ?_
                    refine ov_cV (as := [ov_i x, ov_i y, ov_i 1]) (st := [ov_i v667]) (d2 := d - 1) d_297_92 lk_Mo_289 rfl (Nat.le_of_ble_eq_true rfl) (c := 1) (zb_90 I1) (zs_90 I1) ⟨by decide, rfl⟩ (by omega) (c_Mo_lightAt_90 (d - 1) (by omega) U I1 x y 1 (by omega) (by omega) (by omega) (by omega) (by omega)) ?_
                    rintro _ _ _ ⟨v670, rfl, rfl, rfl, f669⟩
                    show ov_R u d ov_m297 95 [(0, ov_r 90), (1, ov_i x), (2, ov_i y), (3, ov_i m), (4, ov_i bo), (5, ov_i w), (6, ov_i x6____), (7, ov_i x7____)] [ov_i v670, ov_i v667] z (ov_up h 90 0 0) (P_Mo_wave_90 F z h x y m bo w)
                    have f671 : v670 = (h 96 (10 + 4 * (6 * y + x) + (1 : Int))) ∧ ((1 : Int) = 1 → 0 ≤ v670 ∧ v670 ≤ 60) ∧ ((1 : Int) = 2 → 0 ≤ v670 ∧ v670 ≤ 59) ∧ ((1 : Int) = 3 → 0 ≤ v670 ∧ v670 ≤ 60) := f669
                    clear f669
                    refine ov_icne (tgt := 102) d_297_95 (by decide) (by omega) (by omega) (fun c672 => ?_) (fun c672 => ?_)
                    · skip
                      refine ov_blk (ls2 := [(0, ov_r 90), (1, ov_i x), (2, ov_i y), (3, ov_i m), (4, ov_i bo), (5, ov_i w), (6, ov_i 0), (7, ov_i (x7____ + 1))]) (st2 := []) (pc2 := 108) b_297_102_3 rfl rfl ?_
                      refine ov_goto (tgt := 55) d_297_108 (by decide) ?_
                      exact ih544 0 (x7____ + 1) (by show (0 = 0 ∨ 0 = 1) ∧ 0 ≤ (x7____ + 1) ∧ (x7____ + 1) ≤ 4 ∧ (0 = 1 → 0 ≤ x ∧ x ≤ 5 ∧ 0 ≤ y ∧ y ≤ 8 ∧ 2 ≤ m ∧ m ≤ 4 ∧ y + m ≤ 9 ∧ 0 ≤ w ∧ w ≤ m - 1 ∧ (1 ≤ (x7____ + 1) → ((h 96 (10 + 4 * (6 * y + x))) = 1 ∨ (h 96 (10 + 4 * (6 * y + x))) = 2))); omega) (by omega)
                    · skip
                      refine ov_blk (ls2 := [(0, ov_r 90), (1, ov_i x), (2, ov_i y), (3, ov_i m), (4, ov_i bo), (5, ov_i w), (6, ov_i x6____), (7, ov_i x7____)]) (st2 := [ov_i 1]) (pc2 := 99) b_297_98_1 rfl rfl ?_
                      refine ov_goto (tgt := 103) d_297_99 (by decide) ?_
                      refine ov_blk (ls2 := [(0, ov_r 90), (1, ov_i x), (2, ov_i y), (3, ov_i m), (4, ov_i bo), (5, ov_i w), (6, ov_i 1), (7, ov_i (x7____ + 1))]) (st2 := []) (pc2 := 108) b_297_103_2 rfl rfl ?_
                      refine ov_goto (tgt := 55) d_297_108 (by decide) ?_
                      exact ih544 1 (x7____ + 1) (by show (1 = 0 ∨ 1 = 1) ∧ 0 ≤ (x7____ + 1) ∧ (x7____ + 1) ≤ 4 ∧ (1 = 1 → 0 ≤ x ∧ x ≤ 5 ∧ 0 ≤ y ∧ y ≤ 8 ∧ 2 ≤ m ∧ m ≤ 4 ∧ y + m ≤ 9 ∧ 0 ≤ w ∧ w ≤ m - 1 ∧ (1 ≤ (x7____ + 1) → ((h 96 (10 + 4 * (6 * y + x))) = 1 ∨ (h 96 (10 + 4 * (6 * y + x))) = 2))); omega) (by omega)
          exact L546 5 1 0 (by show (1 = 0 ∨ 1 = 1) ∧ 0 ≤ 0 ∧ 0 ≤ 4 ∧ (1 = 1 → 0 ≤ x ∧ x ≤ 5 ∧ 0 ≤ y ∧ y ≤ 8 ∧ 2 ≤ m ∧ m ≤ 4 ∧ y + m ≤ 9 ∧ 0 ≤ w ∧ w ≤ m - 1 ∧ (1 ≤ 0 → ((h 96 (10 + 4 * (6 * y + x))) = 1 ∨ (h 96 (10 + 4 * (6 * y + x))) = 2))); omega) (by omega)

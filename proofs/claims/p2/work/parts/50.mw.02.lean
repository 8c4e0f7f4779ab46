abbrev P_Mo_wave_90 (F : ov_H × ov_Z) (z : ov_Z) (h : ov_H) (x : Int) (y : Int) (m : Int) (bo : Int) (w : Int) : Option ov_V → ov_Z → ov_H → Prop := fun r0 z' h' => ∃ r : Int, r0 = some (ov_i r) ∧ ov_N F z' h' ∧ (-2147483648 ≤ r ∧ r ≤ 2147483647 ∧ (h' 90 2) = (h 90 2) ∧ (h' 90 3) = (h 90 3) ∧ (h' 90 7) = (h 90 7) ∧ (h' 90 8) = (h 90 8) ∧ (h' 90 13) = (h 90 13) ∧ (h' 90 20) = (h 90 20) ∧ (h' 90 22) = (h 90 22) ∧ (h' 90 25) = (h 90 25) ∧ (h' 90 26) = (h 90 26) ∧ (h' 90 27) = (h 90 27) ∧ (h' 90 28) = (h 90 28) ∧ (h' 90 29) = (h 90 29) ∧ (h' 90 30) = (h 90 30) ∧ (h' 90 34) = (h 90 34) ∧ (h' 90 35) = (h 90 35) ∧ (h' 90 37) = (h 90 37)) ∧ h' 92 = h 92 ∧ h' 93 = h 93 ∧ h' 94 = h 94 ∧ h' 96 = h 96 ∧ h' 97 = h 97 ∧ h' 98 = h 98 ∧ h' 99 = h 99 ∧ h' 100 = h 100 ∧ h' 103 = h 103 ∧ h' 105 = h 105 ∧ h' 106 = h 106 ∧ h' 109 = h 109 ∧ h' 114 = h 114
set_option maxHeartbeats 4000000 in
theorem c_Mo_wave_90 {u : ov_U} {F : ov_H × ov_Z} {z : ov_Z} {h : ov_H} (d : Nat) (hd : 40 ≤ d) (U : ov_cap u) (I : ov_N F z h) (x : Int) (y : Int) (m : Int) (bo : Int) (w : Int) (g_x : ov_g x) (g_y : ov_g y) (g_m : ov_g m) (g_bo : bo = 0 ∨ bo = 1) (g_w : ov_g w) (W : ov_WT (h 96)) : ov_T u d ov_m297 [ov_r 90, ov_i x, ov_i y, ov_i m, ov_i bo, ov_i w] z h (P_Mo_wave_90 F z h x y m bo w) := by
  refine ov_en rfl (Nat.le_of_ble_eq_true rfl) ?_
  show ov_R u d ov_m297 0 [(0, ov_r 90), (1, ov_i x), (2, ov_i y), (3, ov_i m), (4, ov_i bo), (5, ov_i w)] [] z h (P_Mo_wave_90 F z h x y m bo w)
  refine ov_blk (ls2 := [(0, ov_r 90), (1, ov_i x), (2, ov_i y), (3, ov_i m), (4, ov_i bo), (5, ov_i w)]) (st2 := [ov_i 0, ov_r 90]) (pc2 := 2) b_297_0_2 rfl rfl ?_
  refine ov_putf (x := 0) d_297_2 fl_Mo_1 (zb_90 I) (zs_90 I) rfl nk_0 rfl ?_
  have I1 := up_90_0 (x := 0) I (by omega)
  refine ov_blk (ls2 := [(0, ov_r 90), (1, ov_i x), (2, ov_i y), (3, ov_i m), (4, ov_i bo), (5, ov_i w)]) (st2 := [ov_i y, ov_i x, ov_r 90]) (pc2 := 8) b_297_5_3 rfl rfl ?_
  refine ov_cV (as := [ov_i x, ov_i y]) (st := []) (d2 := d - 1) d_297_8 lk_Mo_296 rfl (Nat.le_of_ble_eq_true rfl) (c := 1) (zb_90 I1) (zs_90 I1) ⟨by decide, rfl⟩ (by omega) (c_Mo_isCorner_90 (d - 1) (by omega) U I1 x y (by omega) (by omega)) ?_
  rintro _ _ _ ⟨v3, rfl, rfl, rfl, f2⟩
  show ov_R u d ov_m297 11 [(0, ov_r 90), (1, ov_i x), (2, ov_i y), (3, ov_i m), (4, ov_i bo), (5, ov_i w)] [ov_i v3] z (ov_up h 90 0 0) (P_Mo_wave_90 F z h x y m bo w)
  have f4 : (v3 = 0 ∨ v3 = 1) ∧ (v3 = 1 → 0 ≤ x ∧ x ≤ 5 ∧ 0 ≤ y ∧ y ≤ 8 ∧ x < (h 96 0) ∧ y < (h 96 1)) := f2
  clear f2
  refine ov_ifeq (tgt := 49) d_297_11 (by decide) (by omega) (fun c5 => ?_) (fun c5 => ?_)
  · skip
    refine ov_blk (ls2 := [(0, ov_r 90), (1, ov_i x), (2, ov_i y), (3, ov_i m), (4, ov_i bo), (5, ov_i w), (6, ov_i 0), (7, ov_i 0)]) (st2 := []) (pc2 := 55) b_297_49_4 rfl rfl ?_
    have L9 : ∀ (n6 : Nat) (x6 : Int) (x7 : Int) (q8 : (x6 = 0 ∨ x6 = 1) ∧ 0 ≤ x7 ∧ x7 ≤ 4 ∧ (x6 = 1 → 0 ≤ x ∧ x ≤ 5 ∧ 0 ≤ y ∧ y ≤ 8 ∧ 2 ≤ m ∧ m ≤ 4 ∧ y + m ≤ 9 ∧ 0 ≤ w ∧ w ≤ m - 1 ∧ (1 ≤ x7 → ((h 96 (10 + 4 * (6 * y + x))) = 1 ∨ (h 96 (10 + 4 * (6 * y + x))) = 2)))), 4 - x7 < (n6 : Int) → ov_R u d ov_m297 55 [(0, ov_r 90), (1, ov_i x), (2, ov_i y), (3, ov_i m), (4, ov_i bo), (5, ov_i w), (6, ov_i x6), (7, ov_i x7)] [] z (ov_up h 90 0 0) (P_Mo_wave_90 F z h x y m bo w) := by
      intro n6
      induction n6 with
      | zero =>
        intro x6 x7 q8 hn10
        exact absurd hn10 (by omega)
      | succ n6 ih7 =>
        intro x6 x7 q8 hn10
        refine ov_blk (ls2 := [(0, ov_r 90), (1, ov_i x), (2, ov_i y), (3, ov_i m), (4, ov_i bo), (5, ov_i w), (6, ov_i x6), (7, ov_i x7)]) (st2 := [ov_i m, ov_i x7]) (pc2 := 58) b_297_55_2 rfl rfl ?_
        refine ov_icge (tgt := 111) d_297_58 (by decide) (by omega) (by omega) (fun c11 => ?_) (fun c11 => ?_)
        · skip
          refine ov_blk (ls2 := [(0, ov_r 90), (1, ov_i x), (2, ov_i y), (3, ov_i m), (4, ov_i bo), (5, ov_i w), (6, ov_i x6), (7, ov_i x7)]) (st2 := [ov_i x6]) (pc2 := 113) b_297_111_1 rfl rfl ?_
          refine ov_ifne (tgt := 118) d_297_113 (by decide) (by omega) (fun c12 => ?_) (fun c12 => ?_)
          · skip
            have w1 := ov_WT_at W (c := 6 * y + x) (by omega)
            refine ov_blk (ls2 := [(0, ov_r 90), (1, ov_i x), (2, ov_i y), (3, ov_i m), (4, ov_i bo), (5, ov_i w), (6, ov_i x6), (7, ov_i x7)]) (st2 := [ov_i 1, ov_i y, ov_i x, ov_r 90]) (pc2 := 122) b_297_118_4 rfl rfl ?_
            refine ov_cV (as := [ov_i x, ov_i y, ov_i 1]) (st := []) (d2 := d - 1) d_297_122 lk_Mo_289 rfl (Nat.le_of_ble_eq_true rfl) (c := 1) (zb_90 I1) (zs_90 I1) ⟨by decide, rfl⟩ (by omega) (c_Mo_lightAt_90 (d - 1) (by omega) U I1 x y 1 (by omega) (by omega) (by omega) (by omega) (by omega)) ?_
            rintro _ _ _ ⟨v14, rfl, rfl, rfl, f13⟩
            show ov_R u d ov_m297 125 [(0, ov_r 90), (1, ov_i x), (2, ov_i y), (3, ov_i m), (4, ov_i bo), (5, ov_i w), (6, ov_i x6), (7, ov_i x7)] [ov_i v14] z (ov_up h 90 0 0) (P_Mo_wave_90 F z h x y m bo w)
            have f15 : v14 = (h 96 (10 + 4 * (6 * y + x) + (1 : Int))) ∧ ((1 : Int) = 1 → 0 ≤ v14 ∧ v14 ≤ 60) ∧ ((1 : Int) = 2 → 0 ≤ v14 ∧ v14 ≤ 59) ∧ ((1 : Int) = 3 → 0 ≤ v14 ∧ v14 ≤ 60) := f13
            clear f13
            refine ov_blk (ls2 := [(0, ov_r 90), (1, ov_i x), (2, ov_i y), (3, ov_i m), (4, ov_i bo), (5, ov_i w), (6, ov_i x6), (7, ov_i v14), (8, ov_i 0)]) (st2 := []) (pc2 := 130) b_297_125_3 rfl rfl ?_
            have L19 : ∀ (n16 : Nat) (x8 : Int) (z20 : ov_Z) (h21 : ov_H) (I22 : ov_N F z20 h21) (E23 : h21 92 = h 92) (E24 : h21 93 = h 93) (E25 : h21 94 = h 94) (E26 : h21 96 = h 96) (E27 : h21 97 = h 97) (E28 : h21 98 = h 98) (E29 : h21 99 = h 99) (E30 : h21 100 = h 100) (E31 : h21 103 = h 103) (E32 : h21 105 = h 105) (E33 : h21 106 = h 106) (E34 : h21 109 = h 109) (E35 : h21 114 = h 114) (q18 : 0 ≤ x8 ∧ x8 ≤ 4 ∧ (h21 90 2) = (h 90 2) ∧ (h21 90 3) = (h 90 3) ∧ (h21 90 7) = (h 90 7) ∧ (h21 90 8) = (h 90 8) ∧ (h21 90 13) = (h 90 13) ∧ (h21 90 20) = (h 90 20) ∧ (h21 90 22) = (h 90 22) ∧ (h21 90 25) = (h 90 25) ∧ (h21 90 26) = (h 90 26) ∧ (h21 90 27) = (h 90 27) ∧ (h21 90 28) = (h 90 28) ∧ (h21 90 29) = (h 90 29) ∧ (h21 90 30) = (h 90 30) ∧ (h21 90 34) = (h 90 34) ∧ (h21 90 35) = (h 90 35) ∧ (h21 90 37) = (h 90 37)), 4 - x8 < (n16 : Int) → ov_R u d ov_m297 130 [(0, ov_r 90), (1, ov_i x), (2, ov_i y), (3, ov_i m), (4, ov_i bo), (5, ov_i w), (6, ov_i x6), (7, ov_i v14), (8, ov_i x8)] [] z20 h21 (P_Mo_wave_90 F z h x y m bo w) := by
              intro n16
              induction n16 with
              | zero =>
                intro x8 z20 h21 I22 E23 E24 E25 E26 E27 E28 E29 E30 E31 E32 E33 E34 E35 q18 hn36
                exact absurd hn36 (by omega)
              | succ n16 ih17 =>
                intro x8 z20 h21 I22 E23 E24 E25 E26 E27 E28 E29 E30 E31 E32 E33 E34 E35 q18 hn36
                refine ov_blk (ls2 := [(0, ov_r 90), (1, ov_i x), (2, ov_i y), (3, ov_i m), (4, ov_i bo), (5, ov_i w), (6, ov_i x6), (7, ov_i v14), (8, ov_i x8)]) (st2 := [ov_i m, ov_i x8]) (pc2 := 133) b_297_130_2 rfl rfl ?_
                refine ov_icge (tgt := 241) d_297_133 (by decide) (by omega) (by omega) (fun c37 => ?_) (fun c37 => ?_)
                · skip
                  refine ov_blk (ls2 := [(0, ov_r 90), (1, ov_i x), (2, ov_i y), (3, ov_i m), (4, ov_i bo), (5, ov_i w), (6, ov_i x6), (7, ov_i v14), (8, ov_i x8)]) (st2 := [ov_i (-1), ov_r 90]) (pc2 := 243) b_297_241_2 rfl rfl ?_
                  refine ov_putf (x := (-1)) d_297_243 fl_Mo_439 (zb_90 I22) (zs_90 I22) rfl nk_0 rfl ?_
                  have I38 := up_90_42 (x := (-1)) I22 (by omega)
                  refine ov_blk (ls2 := [(0, ov_r 90), (1, ov_i x), (2, ov_i y), (3, ov_i m), (4, ov_i bo), (5, ov_i w), (6, ov_i x6), (7, ov_i v14), (8, ov_i x8)]) (st2 := [ov_i 2, ov_i y, ov_i x, ov_r 90]) (pc2 := 250) b_297_246_4 rfl rfl ?_
                  refine ov_cV (as := [ov_i x, ov_i y, ov_i 2]) (st := []) (d2 := d - 1) d_297_250 lk_Mo_289 rfl (Nat.le_of_ble_eq_true rfl) (c := 1) (zb_90 I38) (zs_90 I38) ⟨by decide, rfl⟩ (by omega) (c_Mo_lightAt_90 (d - 1) (by omega) U I38 x y 2 (by omega) (by omega) (by omega) (by omega) (by omega)) ?_
                  rintro _ _ _ ⟨v40, rfl, rfl, rfl, f39⟩
                  show ov_R u d ov_m297 253 [(0, ov_r 90), (1, ov_i x), (2, ov_i y), (3, ov_i m), (4, ov_i bo), (5, ov_i w), (6, ov_i x6), (7, ov_i v14), (8, ov_i x8)] [ov_i v40] z20 (ov_up h21 90 42 (-1)) (P_Mo_wave_90 F z h x y m bo w)
                  rw [show (ov_up h21 90 42 (-1)) 96 = h 96 from E26] at f39
                  have f41 : v40 = (h 96 (10 + 4 * (6 * y + x) + (2 : Int))) ∧ ((2 : Int) = 1 → 0 ≤ v40 ∧ v40 ≤ 60) ∧ ((2 : Int) = 2 → 0 ≤ v40 ∧ v40 ≤ 59) ∧ ((2 : Int) = 3 → 0 ≤ v40 ∧ v40 ≤ 60) := f39
                  clear f39
                  refine ov_blk (ls2 := [(0, ov_r 90), (1, ov_i x), (2, ov_i y), (3, ov_i m), (4, ov_i bo), (5, ov_i w), (6, ov_i x6), (7, ov_i v14), (8, ov_i x8)]) (st2 := [ov_i 3, ov_i y, ov_i x, ov_r 90, ov_i v40]) (pc2 := 257) b_297_253_4 rfl rfl ?_
                  refine ov_cV (as := [ov_i x, ov_i y, ov_i 3]) (st := [ov_i v40]) (d2 := d - 1) d_297_257 lk_Mo_289 rfl (Nat.le_of_ble_eq_true rfl) (c := 1) (zb_90 I38) (zs_90 I38) ⟨by decide, rfl⟩ (by omega) (c_Mo_lightAt_90 (d - 1) (by omega) U I38 x y 3 (by omega) (by omega) (by omega) (by omega) (by omega)) ?_
                  rintro _ _ _ ⟨v43, rfl, rfl, rfl, f42⟩
                  show ov_R u d ov_m297 260 [(0, ov_r 90), (1, ov_i x), (2, ov_i y), (3, ov_i m), (4, ov_i bo), (5, ov_i w), (6, ov_i x6), (7, ov_i v14), (8, ov_i x8)] [ov_i v43, ov_i v40] z20 (ov_up h21 90 42 (-1)) (P_Mo_wave_90 F z h x y m bo w)
                  rw [show (ov_up h21 90 42 (-1)) 96 = h 96 from E26] at f42
                  have f44 : v43 = (h 96 (10 + 4 * (6 * y + x) + (3 : Int))) ∧ ((3 : Int) = 1 → 0 ≤ v43 ∧ v43 ≤ 60) ∧ ((3 : Int) = 2 → 0 ≤ v43 ∧ v43 ≤ 59) ∧ ((3 : Int) = 3 → 0 ≤ v43 ∧ v43 ≤ 60) := f42
                  clear f42
                  refine ov_blk (ls2 := [(0, ov_r 90), (1, ov_i x), (2, ov_i y), (3, ov_i m), (4, ov_i bo), (5, ov_i w), (6, ov_i x6), (7, ov_i v14), (8, ov_i x8)]) (st2 := [ov_i v14, ov_i (v40 + v43)]) (pc2 := 263) b_297_260_2 rfl rfl ?_
                  refine ov_irem d_297_263 (by omega) (by omega) (by omega) ?_
                  have g45 := ov_tmg (a := (v40 + v43)) (b := v14) (by omega) (by omega)
                  refine ov_havw (fun w46 gw46 qw46 => ?_)
                  refine ov_blk (ls2 := [(0, ov_r 90), (1, ov_i x), (2, ov_i y), (3, ov_i m), (4, ov_i bo), (5, ov_i w), (6, ov_i x6), (7, ov_i v14), (8, ov_i w46)]) (st2 := [ov_r 90]) (pc2 := 267) b_297_264_2 rfl rfl ?_
                  refine ov_getf (v := ov_r 112) d_297_267 fl_Mo_138 (zb_90 I38) (zs_90 I38) (congrArg ov_r (rg_90_40 I38)) ?_
                  refine ov_blk (ls2 := [(0, ov_r 90), (1, ov_i x), (2, ov_i y), (3, ov_i m), (4, ov_i bo), (5, ov_i w), (6, ov_i x6), (7, ov_i v14), (8, ov_i w46)]) (st2 := [ov_i w46, ov_i 0, ov_r 112]) (pc2 := 273) b_297_270_2 rfl rfl ?_
                  refine ov_iast d_297_273 (zb_112 I38) (zs_112 I38) (by omega) ?_
                  have I47 := ua_112 (k := 0) (x := w46) I38 (by omega)
                  refine ov_blk (ls2 := [(0, ov_r 90), (1, ov_i x), (2, ov_i y), (3, ov_i m), (4, ov_i bo), (5, ov_i w), (6, ov_i x6), (7, ov_i v14), (8, ov_i w46)]) (st2 := [ov_r 90, ov_i v14, ov_i m, ov_i 1, ov_r 90]) (pc2 := 280) b_297_274_5 rfl rfl ?_
                  refine ov_getf (v := ov_r 110) d_297_280 fl_Mo_132 (zb_90 I47) (zs_90 I47) (congrArg ov_r (rg_90_38 I47)) ?_
                  refine ov_blk (ls2 := [(0, ov_r 90), (1, ov_i x), (2, ov_i y), (3, ov_i m), (4, ov_i bo), (5, ov_i w), (6, ov_i x6), (7, ov_i v14), (8, ov_i w46)]) (st2 := [ov_i w46, ov_r 110, ov_i v14, ov_i m, ov_i 1, ov_r 90]) (pc2 := 285) b_297_283_1 rfl rfl ?_
                  refine ov_lald d_297_285 (zb_110 I47) (zs_110 I47) (by omega) ?_
                  show ov_R u d ov_m297 286 [(0, ov_r 90), (1, ov_i x), (2, ov_i y), (3, ov_i m), (4, ov_i bo), (5, ov_i w), (6, ov_i x6), (7, ov_i v14), (8, ov_i w46)] [ov_l (h21 110 w46), ov_i v14, ov_i m, ov_i 1, ov_r 90] z20 (ov_up (ov_up h21 90 42 (-1)) 112 0 w46) (P_Mo_wave_90 F z h x y m bo w)
                  refine ov_blk (ls2 := [(0, ov_r 90), (1, ov_i x), (2, ov_i y), (3, ov_i m), (4, ov_i bo), (5, ov_i w), (6, ov_i x6), (7, ov_i v14), (8, ov_i w46)]) (st2 := [ov_r 90, ov_l (h21 110 w46), ov_i v14, ov_i m, ov_i 1, ov_r 90]) (pc2 := 287) b_297_286_1 rfl rfl ?_
                  refine ov_getf (v := ov_r 111) d_297_287 fl_Mo_135 (zb_90 I47) (zs_90 I47) (congrArg ov_r (rg_90_39 I47)) ?_
                  refine ov_blk (ls2 := [(0, ov_r 90), (1, ov_i x), (2, ov_i y), (3, ov_i m), (4, ov_i bo), (5, ov_i w), (6, ov_i x6), (7, ov_i v14), (8, ov_i w46)]) (st2 := [ov_i w46, ov_r 111, ov_l (h21 110 w46), ov_i v14, ov_i m, ov_i 1, ov_r 90]) (pc2 := 292) b_297_290_1 rfl rfl ?_
                  refine ov_lald d_297_292 (zb_111 I47) (zs_111 I47) (by omega) ?_
                  show ov_R u d ov_m297 293 [(0, ov_r 90), (1, ov_i x), (2, ov_i y), (3, ov_i m), (4, ov_i bo), (5, ov_i w), (6, ov_i x6), (7, ov_i v14), (8, ov_i w46)] [ov_l (h21 111 w46), ov_l (h21 110 w46), ov_i v14, ov_i m, ov_i 1, ov_r 90] z20 (ov_up (ov_up h21 90 42 (-1)) 112 0 w46) (P_Mo_wave_90 F z h x y m bo w)
                  refine ov_blk (ls2 := [(0, ov_r 90), (1, ov_i x), (2, ov_i y), (3, ov_i m), (4, ov_i bo), (5, ov_i w), (6, ov_i x6), (7, ov_i v14), (8, ov_i w46)]) (st2 := [ov_i bo, ov_l (h21 111 w46), ov_l (h21 110 w46), ov_i v14, ov_i m, ov_i 1, ov_r 90]) (pc2 := 295) b_297_293_1 rfl rfl ?_
                  refine ov_cV (as := [ov_i 1, ov_i m, ov_i v14, ov_l (h21 110 w46), ov_l (h21 111 w46), ov_i bo]) (st := []) (d2 := d - 1) d_297_295 lk_Mo_442 rfl (Nat.le_of_ble_eq_true rfl) (c := 1) (zb_90 I47) (zs_90 I47) ⟨by decide, rfl⟩ (by omega) (c_Mo_triesWave_90_all (Int.toNat ((m) - (1))) (d - 1) (by omega) U I47 1 m v14 (h21 110 w46) (h21 111 w46) bo (by omega) (by omega) (by omega) (by omega) (by omega) (by omega) (by omega)) ?_
                  rintro _ z62 h63 ⟨rfl, I64, f48, e49, e50, e51, e52, e53, e54, e55, e56, e57, e58, e59, e60, e61⟩
                  have E65 : h63 92 = h 92 := Eq.trans e49 E23
                  have E66 : h63 93 = h 93 := Eq.trans e50 E24
                  have E67 : h63 94 = h 94 := Eq.trans e51 E25
                  have E68 : h63 96 = h 96 := Eq.trans e52 E26
                  have E69 : h63 97 = h 97 := Eq.trans e53 E27
                  have E70 : h63 98 = h 98 := Eq.trans e54 E28
                  have E71 : h63 99 = h 99 := Eq.trans e55 E29
                  have E72 : h63 100 = h 100 := Eq.trans e56 E30
                  have E73 : h63 103 = h 103 := Eq.trans e57 E31
                  have E74 : h63 105 = h 105 := Eq.trans e58 E32
                  have E75 : h63 106 = h 106 := Eq.trans e59 E33
                  have E76 : h63 109 = h 109 := Eq.trans e60 E34
                  have E77 : h63 114 = h 114 := Eq.trans e61 E35
                  show ov_R u d ov_m297 298 [(0, ov_r 90), (1, ov_i x), (2, ov_i y), (3, ov_i m), (4, ov_i bo), (5, ov_i w), (6, ov_i x6), (7, ov_i v14), (8, ov_i w46)] [] z62 h63 (P_Mo_wave_90 F z h x y m bo w)
                  have f78 : (h63 90 2) = (h21 90 2) ∧ (h63 90 3) = (h21 90 3) ∧ (h63 90 7) = (h21 90 7) ∧ (h63 90 8) = (h21 90 8) ∧ (h63 90 13) = (h21 90 13) ∧ (h63 90 20) = (h21 90 20) ∧ (h63 90 22) = (h21 90 22) ∧ (h63 90 25) = (h21 90 25) ∧ (h63 90 26) = (h21 90 26) ∧ (h63 90 27) = (h21 90 27) ∧ (h63 90 28) = (h21 90 28) ∧ (h63 90 29) = (h21 90 29) ∧ (h63 90 30) = (h21 90 30) ∧ (h63 90 34) = (h21 90 34) ∧ (h63 90 35) = (h21 90 35) ∧ (h63 90 37) = (h21 90 37) := f48
                  clear f48
                  refine ov_blk (ls2 := [(0, ov_r 90), (1, ov_i x), (2, ov_i y), (3, ov_i m), (4, ov_i bo), (5, ov_i w), (6, ov_i x6), (7, ov_i v14), (8, ov_i w46)]) (st2 := [ov_i w]) (pc2 := 300) b_297_298_1 rfl rfl ?_
                  refine ov_ifne (tgt := 310) d_297_300 (by decide) (by omega) (fun c79 => ?_) (fun c79 => ?_)
                  · skip
                    refine ov_blk (ls2 := [(0, ov_r 90), (1, ov_i x), (2, ov_i y), (3, ov_i m), (4, ov_i bo), (5, ov_i w), (6, ov_i x6), (7, ov_i v14), (8, ov_i w46)]) (st2 := [ov_r 90]) (pc2 := 311) b_297_310_1 rfl rfl ?_
                    refine ov_getf (v := ov_r 113) d_297_311 fl_Mo_141 (zb_90 I64) (zs_90 I64) (congrArg ov_r (rg_90_41 I64)) ?_
                    refine ov_blk (ls2 := [(0, ov_r 90), (1, ov_i x), (2, ov_i y), (3, ov_i m), (4, ov_i bo), (5, ov_i w), (6, ov_i x6), (7, ov_i v14), (8, ov_i w46)]) (st2 := [ov_i w, ov_r 113]) (pc2 := 316) b_297_314_1 rfl rfl ?_
                    refine ov_iald d_297_316 (zb_113 I64) (zs_113 I64) (by omega) ?_
                    have g80 := ra_113 I64 w
                    exact ov_reti (st := []) d_297_317 rfl ⟨_, rfl, I64, (by show -2147483648 ≤ (h63 113 w) ∧ (h63 113 w) ≤ 2147483647 ∧ (h63 90 2) = (h 90 2) ∧ (h63 90 3) = (h 90 3) ∧ (h63 90 7) = (h 90 7) ∧ (h63 90 8) = (h 90 8) ∧ (h63 90 13) = (h 90 13) ∧ (h63 90 20) = (h 90 20) ∧ (h63 90 22) = (h 90 22) ∧ (h63 90 25) = (h 90 25) ∧ (h63 90 26) = (h 90 26) ∧ (h63 90 27) = (h 90 27) ∧ (h63 90 28) = (h 90 28) ∧ (h63 90 29) = (h 90 29) ∧ (h63 90 30) = (h 90 30) ∧ (h63 90 34) = (h 90 34) ∧ (h63 90 35) = (h 90 35) ∧ (h63 90 37) = (h 90 37); omega), E65, E66, E67, E68, E69, E70, E71, E72, E73, E74, E75, E76, E77⟩
                  · skip
                    refine ov_blk (ls2 := [(0, ov_r 90), (1, ov_i x), (2, ov_i y), (3, ov_i m), (4, ov_i bo), (5, ov_i w), (6, ov_i x6), (7, ov_i v14), (8, ov_i w46)]) (st2 := [ov_r 90]) (pc2 := 304) b_297_303_1 rfl rfl ?_
                    refine ov_getf (v := ov_i (h63 90 42)) d_297_304 fl_Mo_439 (zb_90 I64) (zs_90 I64) rfl ?_
                    have g81 := rg_90_42 I64
                    refine ov_goto (tgt := 317) d_297_307 (by decide) ?_
                    exact ov_reti (st := []) d_297_317 rfl ⟨_, rfl, I64, (by show -2147483648 ≤ (h63 90 42) ∧ (h63 90 42) ≤ 2147483647 ∧ (h63 90 2) = (h 90 2) ∧ (h63 90 3) = (h 90 3) ∧ (h63 90 7) = (h 90 7) ∧ (h63 90 8) = (h 90 8) ∧ (h63 90 13) = (h 90 13) ∧ (h63 90 20) = (h 90 20) ∧ (h63 90 22) = (h 90 22) ∧ (h63 90 25) = (h 90 25) ∧ (h63 90 26) = (h 90 26) ∧ (h63 90 27) = (h 90 27) ∧ (h63 90 28) = (h 90 28) ∧ (h63 90 29) = (h 90 29) ∧ (h63 90 30) = (h 90 30) ∧ (h63 90 34) = (h 90 34) ∧ (h63 90 35) = (h 90 35) ∧ (h63 90 37) = (h 90 37); omega), E65, E66, E67, E68, E69, E70, E71, E72, E73, E74, E75, E76, E77⟩
                · skip
                  refine ov_blk (ls2 := [(0, ov_r 90), (1, ov_i x), (2, ov_i y), (3, ov_i m), (4, ov_i bo), (5, ov_i w), (6, ov_i x6), (7, ov_i v14), (8, ov_i x8)]) (st2 := [ov_i 3, ov_i (y + x8), ov_i x, ov_r 90, ov_i v14]) (pc2 := 145) b_297_136_7 rfl rfl ?_
                  refine ov_cV (as := [ov_i x, ov_i (y + x8), ov_i 3]) (st := [ov_i v14]) (d2 := d - 1) d_297_145 lk_Mo_289 rfl (Nat.le_of_ble_eq_true rfl) (c := 1) (zb_90 I22) (zs_90 I22) ⟨by decide, rfl⟩ (by omega) (c_Mo_lightAt_90 (d - 1) (by omega) U I22 x (y + x8) 3 (by omega) (by omega) (by omega) (by omega) (by omega)) ?_
                  rintro _ _ _ ⟨v83, rfl, rfl, rfl, f82⟩
                  show ov_R u d ov_m297 148 [(0, ov_r 90), (1, ov_i x), (2, ov_i y), (3, ov_i m), (4, ov_i bo), (5, ov_i w), (6, ov_i x6), (7, ov_i v14), (8, ov_i x8)] [ov_i v83, ov_i v14] z20 h21 (P_Mo_wave_90 F z h x y m bo w)
                  rw [show h21 96 = h 96 from E26] at f82
                  have f84 : v83 = (h 96 (10 + 4 * (6 * (y + x8) + x) + (3 : Int))) ∧ ((3 : Int) = 1 → 0 ≤ v83 ∧ v83 ≤ 60) ∧ ((3 : Int) = 2 → 0 ≤ v83 ∧ v83 ≤ 59) ∧ ((3 : Int) = 3 → 0 ≤ v83 ∧ v83 ≤ 60) := f82
                  clear f82
                  refine ov_blk (ls2 := [(0, ov_r 90), (1, ov_i x), (2, ov_i y), (3, ov_i m), (4, ov_i bo), (5, ov_i w), (6, ov_i x6), (7, ov_i v14), (8, ov_i x8), (9, ov_i (v14 - v83)), (10, ov_i 0)]) (st2 := []) (pc2 := 154) b_297_148_4 rfl rfl ?_
                  have L88 : ∀ (n85 : Nat) (x10 : Int) (z89 : ov_Z) (h90 : ov_H) (I91 : ov_N F z89 h90) (E92 : h90 92 = h 92) (E93 : h90 93 = h 93) (E94 : h90 94 = h 94) (E95 : h90 96 = h 96) (E96 : h90 97 = h 97) (E97 : h90 98 = h 98) (E98 : h90 99 = h 99) (E99 : h90 100 = h 100) (E100 : h90 103 = h 103) (E101 : h90 105 = h 105) (E102 : h90 106 = h 106) (E103 : h90 109 = h 109) (E104 : h90 114 = h 114) (q87 : 0 ≤ x10 ∧ x10 ≤ 60 ∧ (h90 90 2) = (h21 90 2) ∧ (h90 90 3) = (h21 90 3) ∧ (h90 90 7) = (h21 90 7) ∧ (h90 90 8) = (h21 90 8) ∧ (h90 90 13) = (h21 90 13) ∧ (h90 90 20) = (h21 90 20) ∧ (h90 90 22) = (h21 90 22) ∧ (h90 90 25) = (h21 90 25) ∧ (h90 90 26) = (h21 90 26) ∧ (h90 90 27) = (h21 90 27) ∧ (h90 90 28) = (h21 90 28) ∧ (h90 90 29) = (h21 90 29) ∧ (h90 90 30) = (h21 90 30) ∧ (h90 90 34) = (h21 90 34) ∧ (h90 90 35) = (h21 90 35) ∧ (h90 90 37) = (h21 90 37)), 60 - x10 < (n85 : Int) → ov_R u d ov_m297 154 [(0, ov_r 90), (1, ov_i x), (2, ov_i y), (3, ov_i m), (4, ov_i bo), (5, ov_i w), (6, ov_i x6), (7, ov_i v14), (8, ov_i x8), (9, ov_i (v14 - v83)), (10, ov_i x10)] [] z89 h90 (P_Mo_wave_90 F z h x y m bo w) := by
                    intro n85
                    induction n85 with
                    | zero =>
                      intro x10 z89 h90 I91 E92 E93 E94 E95 E96 E97 E98 E99 E100 E101 E102 E103 E104 q87 hn105
                      exact absurd hn105 (by omega)
                    | succ n85 ih86 =>
                      intro x10 z89 h90 I91 E92 E93 E94 E95 E96 E97 E98 E99 E100 E101 E102 E103 E104 q87 hn105
                      refine ov_blk (ls2 := [(0, ov_r 90), (1, ov_i x), (2, ov_i y), (3, ov_i m), (4, ov_i bo), (5, ov_i w), (6, ov_i x6), (7, ov_i v14), (8, ov_i x8), (9, ov_i (v14 - v83)), (10, ov_i x10)]) (st2 := [ov_i v14, ov_i x10]) (pc2 := 158) b_297_154_2 rfl rfl ?_
                      refine ov_icge (tgt := 235) d_297_158 (by decide) (by omega) (by omega) (fun c106 => ?_) (fun c106 => ?_)
                      · skip
                        refine ov_blk (ls2 := [(0, ov_r 90), (1, ov_i x), (2, ov_i y), (3, ov_i m), (4, ov_i bo), (5, ov_i w), (6, ov_i x6), (7, ov_i v14), (8, ov_i (x8 + 1)), (9, ov_i (v14 - v83)), (10, ov_i x10)]) (st2 := []) (pc2 := 238) b_297_235_1 rfl rfl ?_
                        refine ov_goto (tgt := 130) d_297_238 (by decide) ?_
                        refine ov_sub (ls2 := [(0, ov_r 90), (1, ov_i x), (2, ov_i y), (3, ov_i m), (4, ov_i bo), (5, ov_i w), (6, ov_i x6), (7, ov_i v14), (8, ov_i (x8 + 1))]) (List.Sublist.subset (by repeat (first | exact List.Sublist.refl _ | apply List.Sublist.cons_cons | apply List.Sublist.cons))) ?_
                        exact ih17 (x8 + 1) _ _ I91 E92 E93 E94 E95 E96 E97 E98 E99 E100 E101 E102 E103 E104 (by show 0 ≤ (x8 + 1) ∧ (x8 + 1) ≤ 4 ∧ (h90 90 2) = (h 90 2) ∧ (h90 90 3) = (h 90 3) ∧ (h90 90 7) = (h 90 7) ∧ (h90 90 8) = (h 90 8) ∧ (h90 90 13) = (h 90 13) ∧ (h90 90 20) = (h 90 20) ∧ (h90 90 22) = (h 90 22) ∧ (h90 90 25) = (h 90 25) ∧ (h90 90 26) = (h 90 26) ∧ (h90 90 27) = (h 90 27) ∧ (h90 90 28) = (h 90 28) ∧ (h90 90 29) = (h 90 29) ∧ (h90 90 30) = (h 90 30) ∧ (h90 90 34) = (h 90 34) ∧ (h90 90 35) = (h 90 35) ∧ (h90 90 37) = (h 90 37); omega) (by omega)
                      · skip
                        refine ov_blk (ls2 := [(0, ov_r 90), (1, ov_i x), (2, ov_i y), (3, ov_i m), (4, ov_i bo), (5, ov_i w), (6, ov_i x6), (7, ov_i v14), (8, ov_i x8), (9, ov_i (v14 - v83)), (10, ov_i x10)]) (st2 := [ov_r 90]) (pc2 := 162) b_297_161_1 rfl rfl ?_
                        refine ov_getf (v := ov_r 110) d_297_162 fl_Mo_132 (zb_90 I91) (zs_90 I91) (congrArg ov_r (rg_90_38 I91)) ?_
                        refine ov_blk (ls2 := [(0, ov_r 90), (1, ov_i x), (2, ov_i y), (3, ov_i m), (4, ov_i bo), (5, ov_i w), (6, ov_i x6), (7, ov_i v14), (8, ov_i x8), (9, ov_i (v14 - v83)), (10, ov_i x10)]) (st2 := [ov_r 90, ov_i x8, ov_i x10, ov_i ((60 * x8) + x10), ov_r 110]) (pc2 := 178) b_297_165_8 rfl rfl ?_
                        refine ov_getf (v := ov_r 96) d_297_178 fl_Mo_81 (zb_90 I91) (zs_90 I91) (congrArg ov_r (rg_90_10 I91)) ?_
                        refine ov_blk (ls2 := [(0, ov_r 90), (1, ov_i x), (2, ov_i y), (3, ov_i m), (4, ov_i bo), (5, ov_i w), (6, ov_i x6), (7, ov_i v14), (8, ov_i x8), (9, ov_i (v14 - v83)), (10, ov_i x10)]) (st2 := [ov_i 2, ov_r 96, ov_i x8, ov_i x10, ov_i ((60 * x8) + x10), ov_r 110]) (pc2 := 182) b_297_181_1 rfl rfl ?_
                        refine ov_iald d_297_182 (zb_96 I91) (zs_96 I91) (by omega) ?_
                        rw [show h90 96 = h 96 from E95]
                        have g107 := t96_2 I
                        have gm108 := ov_mulb (q := x8) (b := (h 96 2)) (A := 4) (B := 30) (by omega) (by omega) (by omega) (by omega)
                        refine ov_blk (ls2 := [(0, ov_r 90), (1, ov_i x), (2, ov_i y), (3, ov_i m), (4, ov_i bo), (5, ov_i w), (6, ov_i x6), (7, ov_i v14), (8, ov_i x8), (9, ov_i (v14 - v83)), (10, ov_i x10)]) (st2 := [ov_i v14, ov_i (v14 - v83), ov_i (x10 - (x8 * (h 96 2))), ov_i ((60 * x8) + x10), ov_r 110]) (pc2 := 189) b_297_183_4 rfl rfl ?_
                        refine ov_cS (as := [ov_i (x10 - (x8 * (h 96 2))), ov_i (v14 - v83), ov_i v14]) (st := [ov_i ((60 * x8) + x10), ov_r 110]) (d2 := d - 1) d_297_189 lk_Mo_446 rfl (Nat.le_of_ble_eq_true rfl) (by omega) (c_Mo_turned (d - 1) (by omega) U I91 (x10 - (x8 * (h 96 2))) (v14 - v83) v14 (by omega) (by omega) (by omega) (by omega) (by omega)) ?_
                        rintro _ _ _ ⟨v110, rfl, rfl, rfl, f109⟩
                        show ov_R u d ov_m297 192 [(0, ov_r 90), (1, ov_i x), (2, ov_i y), (3, ov_i m), (4, ov_i bo), (5, ov_i w), (6, ov_i x6), (7, ov_i v14), (8, ov_i x8), (9, ov_i (v14 - v83)), (10, ov_i x10)] [ov_l v110, ov_i ((60 * x8) + x10), ov_r 110] z89 h90 (P_Mo_wave_90 F z h x y m bo w)
                        clear f109
                        refine ov_last d_297_192 (zb_110 I91) (zs_110 I91) (by omega) ?_
                        have I111 := ua_110 (k := ((60 * x8) + x10)) (x := v110) I91
                        refine ov_blk (ls2 := [(0, ov_r 90), (1, ov_i x), (2, ov_i y), (3, ov_i m), (4, ov_i bo), (5, ov_i w), (6, ov_i x6), (7, ov_i v14), (8, ov_i x8), (9, ov_i (v14 - v83)), (10, ov_i x10)]) (st2 := [ov_r 90]) (pc2 := 194) b_297_193_1 rfl rfl ?_
                        refine ov_getf (v := ov_r 111) d_297_194 fl_Mo_135 (zb_90 I111) (zs_90 I111) (congrArg ov_r (rg_90_39 I111)) ?_
                        refine ov_blk (ls2 := [(0, ov_r 90), (1, ov_i x), (2, ov_i y), (3, ov_i m), (4, ov_i bo), (5, ov_i w), (6, ov_i x6), (7, ov_i v14), (8, ov_i x8), (9, ov_i (v14 - v83)), (10, ov_i x10)]) (st2 := [ov_r 90, ov_i ((m - 1) - x8), ov_i x10, ov_i ((60 * x8) + x10), ov_r 111]) (pc2 := 214) b_297_197_12 rfl rfl ?_
                        refine ov_getf (v := ov_r 96) d_297_214 fl_Mo_81 (zb_90 I111) (zs_90 I111) (congrArg ov_r (rg_90_10 I111)) ?_
                        refine ov_blk (ls2 := [(0, ov_r 90), (1, ov_i x), (2, ov_i y), (3, ov_i m), (4, ov_i bo), (5, ov_i w), (6, ov_i x6), (7, ov_i v14), (8, ov_i x8), (9, ov_i (v14 - v83)), (10, ov_i x10)]) (st2 := [ov_i 2, ov_r 96, ov_i ((m - 1) - x8), ov_i x10, ov_i ((60 * x8) + x10), ov_r 111]) (pc2 := 218) b_297_217_1 rfl rfl ?_
                        refine ov_iald d_297_218 (zb_96 I111) (zs_96 I111) (by omega) ?_
                        rw [show (ov_up h90 110 ((60 * x8) + x10) v110) 96 = h 96 from E95]
                        have gm113 := ov_mulb (q := ((m - 1) - x8)) (b := (h 96 2)) (A := 4) (B := 30) (by omega) (by omega) (by omega) (by omega)
                        refine ov_blk (ls2 := [(0, ov_r 90), (1, ov_i x), (2, ov_i y), (3, ov_i m), (4, ov_i bo), (5, ov_i w), (6, ov_i x6), (7, ov_i v14), (8, ov_i x8), (9, ov_i (v14 - v83)), (10, ov_i x10)]) (st2 := [ov_i v14, ov_i (v14 - v83), ov_i (x10 - (((m - 1) - x8) * (h 96 2))), ov_i ((60 * x8) + x10), ov_r 111]) (pc2 := 225) b_297_219_4 rfl rfl ?_
                        refine ov_cS (as := [ov_i (x10 - (((m - 1) - x8) * (h 96 2))), ov_i (v14 - v83), ov_i v14]) (st := [ov_i ((60 * x8) + x10), ov_r 111]) (d2 := d - 1) d_297_225 lk_Mo_446 rfl (Nat.le_of_ble_eq_true rfl) (by omega) (c_Mo_turned (d - 1) (by omega) U I111 (x10 - (((m - 1) - x8) * (h 96 2))) (v14 - v83) v14 (by omega) (by omega) (by omega) (by omega) (by omega)) ?_
                        rintro _ _ _ ⟨v115, rfl, rfl, rfl, f114⟩
                        show ov_R u d ov_m297 228 [(0, ov_r 90), (1, ov_i x), (2, ov_i y), (3, ov_i m), (4, ov_i bo), (5, ov_i w), (6, ov_i x6), (7, ov_i v14), (8, ov_i x8), (9, ov_i (v14 - v83)), (10, ov_i x10)] [ov_l v115, ov_i ((60 * x8) + x10), ov_r 111] z89 (ov_up h90 110 ((60 * x8) + x10) v110) (P_Mo_wave_90 F z h x y m bo w)
                        clear f114
                        refine ov_last d_297_228 (zb_111 I111) (zs_111 I111) (by omega) ?_
                        have I116 := ua_111 (k := ((60 * x8) + x10)) (x := v115) I111
                        refine ov_blk (ls2 := [(0, ov_r 90), (1, ov_i x), (2, ov_i y), (3, ov_i m), (4, ov_i bo), (5, ov_i w), (6, ov_i x6), (7, ov_i v14), (8, ov_i x8), (9, ov_i (v14 - v83)), (10, ov_i (x10 + 1))]) (st2 := []) (pc2 := 232) b_297_229_1 rfl rfl ?_
                        refine ov_goto (tgt := 154) d_297_232 (by decide) ?_
                        exact ih86 (x10 + 1) _ _ I116 E92 E93 E94 E95 E96 E97 E98 E99 E100 E101 E102 E103 E104 (by show 0 ≤ (x10 + 1) ∧ (x10 + 1) ≤ 60 ∧ (h90 90 2) = (h21 90 2) ∧ (h90 90 3) = (h21 90 3) ∧ (h90 90 7) = (h21 90 7) ∧ (h90 90 8) = (h21 90 8) ∧ (h90 90 13) = (h21 90 13) ∧ (h90 90 20) = (h21 90 20) ∧ (h90 90 22) = (h21 90 22) ∧ (h90 90 25) = (h21 90 25) ∧ (h90 90 26) = (h21 90 26) ∧ (h90 90 27) = (h21 90 27) ∧ (h90 90 28) = (h21 90 28) ∧ (h90 90 29) = (h21 90 29) ∧ (h90 90 30) = (h21 90 30) ∧ (h90 90 34) = (h21 90 34) ∧ (h90 90 35) = (h21 90 35) ∧ (h90 90 37) = (h21 90 37); omega) (by omega)
                  exact L88 61 0 _ _ I22 E23 E24 E25 E26 E27 E28 E29 E30 E31 E32 E33 E34 E35 (by show 0 ≤ 0 ∧ 0 ≤ 60 ∧ (h21 90 2) = (h21 90 2) ∧ (h21 90 3) = (h21 90 3) ∧ (h21 90 7) = (h21 90 7) ∧ (h21 90 8) = (h21 90 8) ∧ (h21 90 13) = (h21 90 13) ∧ (h21 90 20) = (h21 90 20) ∧ (h21 90 22) = (h21 90 22) ∧ (h21 90 25) = (h21 90 25) ∧ (h21 90 26) = (h21 90 26) ∧ (h21 90 27) = (h21 90 27) ∧ (h21 90 28) = (h21 90 28) ∧ (h21 90 29) = (h21 90 29) ∧ (h21 90 30) = (h21 90 30) ∧ (h21 90 34) = (h21 90 34) ∧ (h21 90 35) = (h21 90 35) ∧ (h21 90 37) = (h21 90 37); omega) (by omega)
            exact L19 5 0 _ _ I1 rfl rfl rfl rfl rfl rfl rfl rfl rfl rfl rfl rfl rfl (by show 0 ≤ 0 ∧ 0 ≤ 4 ∧ (h 90 2) = (h 90 2) ∧ (h 90 3) = (h 90 3) ∧ (h 90 7) = (h 90 7) ∧ (h 90 8) = (h 90 8) ∧ (h 90 13) = (h 90 13) ∧ (h 90 20) = (h 90 20) ∧ (h 90 22) = (h 90 22) ∧ (h 90 25) = (h 90 25) ∧ (h 90 26) = (h 90 26) ∧ (h 90 27) = (h 90 27) ∧ (h 90 28) = (h 90 28) ∧ (h 90 29) = (h 90 29) ∧ (h 90 30) = (h 90 30) ∧ (h 90 34) = (h 90 34) ∧ (h 90 35) = (h 90 35) ∧ (h 90 37) = (h 90 37); omega) (by omega)
          · skip
            refine ov_blk (ls2 := [(0, ov_r 90), (1, ov_i x), (2, ov_i y), (3, ov_i m), (4, ov_i bo), (5, ov_i w), (6, ov_i x6), (7, ov_i x7)]) (st2 := [ov_i (-1)]) (pc2 := 117) b_297_116_1 rfl rfl ?_
            exact ov_reti (st := []) d_297_117 rfl ⟨_, rfl, I1, (by show -2147483648 ≤ (-1) ∧ (-1) ≤ 2147483647 ∧ (h 90 2) = (h 90 2) ∧ (h 90 3) = (h 90 3) ∧ (h 90 7) = (h 90 7) ∧ (h 90 8) = (h 90 8) ∧ (h 90 13) = (h 90 13) ∧ (h 90 20) = (h 90 20) ∧ (h 90 22) = (h 90 22) ∧ (h 90 25) = (h 90 25) ∧ (h 90 26) = (h 90 26) ∧ (h 90 27) = (h 90 27) ∧ (h 90 28) = (h 90 28) ∧ (h 90 29) = (h 90 29) ∧ (h 90 30) = (h 90 30) ∧ (h 90 34) = (h 90 34) ∧ (h 90 35) = (h 90 35) ∧ (h 90 37) = (h 90 37); omega), rfl, rfl, rfl, rfl, rfl, rfl, rfl, rfl, rfl, rfl, rfl, rfl, rfl⟩
        · skip
          refine ov_blk (ls2 := [(0, ov_r 90), (1, ov_i x), (2, ov_i y), (3, ov_i m), (4, ov_i bo), (5, ov_i w), (6, ov_i x6), (7, ov_i x7)]) (st2 := [ov_i x6]) (pc2 := 63) b_297_61_1 rfl rfl ?_
          refine ov_ifeq (tgt := 111) d_297_63 (by decide) (by omega) (fun c117 => ?_) (fun c117 => ?_)
          · skip
            refine ov_blk (ls2 := [(0, ov_r 90), (1, ov_i x), (2, ov_i y), (3, ov_i m), (4, ov_i bo), (5, ov_i w), (6, ov_i x6), (7, ov_i x7)]) (st2 := [ov_i x6]) (pc2 := 113) b_297_111_1 rfl rfl ?_
            refine ov_ifne (tgt := 118) d_297_113 (by decide) (by omega) (fun c118 => ?_) (fun c118 => ?_)
            · skip
              have w1 := ov_WT_at W (c := 6 * y + x) (by omega)
              refine ov_blk (ls2 := [(0, ov_r 90), (1, ov_i x), (2, ov_i y), (3, ov_i m), (4, ov_i bo), (5, ov_i w), (6, ov_i x6), (7, ov_i x7)]) (st2 := [ov_i 1, ov_i y, ov_i x, ov_r 90]) (pc2 := 122) b_297_118_4 rfl rfl ?_
              refine ov_cV (as := [ov_i x, ov_i y, ov_i 1]) (st := []) (d2 := d - 1) d_297_122 lk_Mo_289 rfl (Nat.le_of_ble_eq_true rfl) (c := 1) (zb_90 I1) (zs_90 I1) ⟨by decide, rfl⟩ (by omega) (c_Mo_lightAt_90 (d - 1) (by omega) U I1 x y 1 (by omega) (by omega) (by omega) (by omega) (by omega)) ?_
              rintro _ _ _ ⟨v120, rfl, rfl, rfl, f119⟩
              show ov_R u d ov_m297 125 [(0, ov_r 90), (1, ov_i x), (2, ov_i y), (3, ov_i m), (4, ov_i bo), (5, ov_i w), (6, ov_i x6), (7, ov_i x7)] [ov_i v120] z (ov_up h 90 0 0) (P_Mo_wave_90 F z h x y m bo w)
              have f121 : v120 = (h 96 (10 + 4 * (6 * y + x) + (1 : Int))) ∧ ((1 : Int) = 1 → 0 ≤ v120 ∧ v120 ≤ 60) ∧ ((1 : Int) = 2 → 0 ≤ v120 ∧ v120 ≤ 59) ∧ ((1 : Int) = 3 → 0 ≤ v120 ∧ v120 ≤ 60) := f119
              clear f119
              refine ov_blk (ls2 := [(0, ov_r 90), (1, ov_i x), (2, ov_i y), (3, ov_i m), (4, ov_i bo), (5, ov_i w), (6, ov_i x6), (7, ov_i v120), (8, ov_i 0)]) (st2 := []) (pc2 := 130) b_297_125_3 rfl rfl ?_
              have L125 : ∀ (n122 : Nat) (x8_ : Int) (z126 : ov_Z) (h127 : ov_H) (I128 : ov_N F z126 h127) (E129 : h127 92 = h 92) (E130 : h127 93 = h 93) (E131 : h127 94 = h 94) (E132 : h127 96 = h 96) (E133 : h127 97 = h 97) (E134 : h127 98 = h 98) (E135 : h127 99 = h 99) (E136 : h127 100 = h 100) (E137 : h127 103 = h 103) (E138 : h127 105 = h 105) (E139 : h127 106 = h 106) (E140 : h127 109 = h 109) (E141 : h127 114 = h 114) (q124 : 0 ≤ x8_ ∧ x8_ ≤ 4 ∧ (h127 90 2) = (h 90 2) ∧ (h127 90 3) = (h 90 3) ∧ (h127 90 7) = (h 90 7) ∧ (h127 90 8) = (h 90 8) ∧ (h127 90 13) = (h 90 13) ∧ (h127 90 20) = (h 90 20) ∧ (h127 90 22) = (h 90 22) ∧ (h127 90 25) = (h 90 25) ∧ (h127 90 26) = (h 90 26) ∧ (h127 90 27) = (h 90 27) ∧ (h127 90 28) = (h 90 28) ∧ (h127 90 29) = (h 90 29) ∧ (h127 90 30) = (h 90 30) ∧ (h127 90 34) = (h 90 34) ∧ (h127 90 35) = (h 90 35) ∧ (h127 90 37) = (h 90 37)), 4 - x8_ < (n122 : Int) → ov_R u d ov_m297 130 [(0, ov_r 90), (1, ov_i x), (2, ov_i y), (3, ov_i m), (4, ov_i bo), (5, ov_i w), (6, ov_i x6), (7, ov_i v120), (8, ov_i x8_)] [] z126 h127 (P_Mo_wave_90 F z h x y m bo w) := by
                intro n122
                induction n122 with
                | zero =>
                  intro x8_ z126 h127 I128 E129 E130 E131 E132 E133 E134 E135 E136 E137 E138 E139 E140 E141 q124 hn142
                  exact absurd hn142 (by omega)
                | succ n122 ih123 =>
                  intro x8_ z126 h127 I128 E129 E130 E131 E132 E133 E134 E135 E136 E137 E138 E139 E140 E141 q124 hn142
                  refine ov_blk (ls2 := [(0, ov_r 90), (1, ov_i x), (2, ov_i y), (3, ov_i m), (4, ov_i bo), (5, ov_i w), (6, ov_i x6), (7, ov_i v120), (8, ov_i x8_)]) (st2 := [ov_i m, ov_i x8_]) (pc2 := 133) b_297_130_2 rfl rfl ?_
                  refine ov_icge (tgt := 241) d_297_133 (by decide) (by omega) (by omega) (fun c143 => ?_) (fun c143 => ?_)
                  · skip
                    refine ov_blk (ls2 := [(0, ov_r 90), (1, ov_i x), (2, ov_i y), (3, ov_i m), (4, ov_i bo), (5, ov_i w), (6, ov_i x6), (7, ov_i v120), (8, ov_i x8_)]) (st2 := [ov_i (-1), ov_r 90]) (pc2 := 243) b_297_241_2 rfl rfl ?_
                    refine ov_putf (x := (-1)) d_297_243 fl_Mo_439 (zb_90 I128) (zs_90 I128) rfl nk_0 rfl ?_
                    have I144 := up_90_42 (x := (-1)) I128 (by omega)
                    refine ov_blk (ls2 := [(0, ov_r 90), (1, ov_i x), (2, ov_i y), (3, ov_i m), (4, ov_i bo), (5, ov_i w), (6, ov_i x6), (7, ov_i v120), (8, ov_i x8_)]) (st2 := [ov_i 2, ov_i y, ov_i x, ov_r 90]) (pc2 := 250) b_297_246_4 rfl rfl ?_
                    refine ov_cV (as := [ov_i x, ov_i y, ov_i 2]) (st := []) (d2 := d - 1) d_297_250 lk_Mo_289 rfl (Nat.le_of_ble_eq_true rfl) (c := 1) (zb_90 I144) (zs_90 I144) ⟨by decide, rfl⟩ (by omega) (c_Mo_lightAt_90 (d - 1) (by omega) U I144 x y 2 (by omega) (by omega) (by omega) (by omega) (by omega)) ?_
                    rintro _ _ _ ⟨v146, rfl, rfl, rfl, f145⟩
                    show ov_R u d ov_m297 253 [(0, ov_r 90), (1, ov_i x), (2, ov_i y), (3, ov_i m), (4, ov_i bo), (5, ov_i w), (6, ov_i x6), (7, ov_i v120), (8, ov_i x8_)] [ov_i v146] z126 (ov_up h127 90 42 (-1)) (P_Mo_wave_90 F z h x y m bo w)
                    rw [show (ov_up h127 90 42 (-1)) 96 = h 96 from E132] at f145
                    have f147 : v146 = (h 96 (10 + 4 * (6 * y + x) + (2 : Int))) ∧ ((2 : Int) = 1 → 0 ≤ v146 ∧ v146 ≤ 60) ∧ ((2 : Int) = 2 → 0 ≤ v146 ∧ v146 ≤ 59) ∧ ((2 : Int) = 3 → 0 ≤ v146 ∧ v146 ≤ 60) := f145
                    clear f145
                    refine ov_blk (ls2 := [(0, ov_r 90), (1, ov_i x), (2, ov_i y), (3, ov_i m), (4, ov_i bo), (5, ov_i w), (6, ov_i x6), (7, ov_i v120), (8, ov_i x8_)]) (st2 := [ov_i 3, ov_i y, ov_i x, ov_r 90, ov_i v146]) (pc2 := 257) b_297_253_4 rfl rfl ?_
                    refine ov_cV (as := [ov_i x, ov_i y, ov_i 3]) (st := [ov_i v146]) (d2 := d - 1) d_297_257 lk_Mo_289 rfl (Nat.le_of_ble_eq_true rfl) (c := 1) (zb_90 I144) (zs_90 I144) ⟨by decide, rfl⟩ (by omega) (c_Mo_lightAt_90 (d - 1) (by omega) U I144 x y 3 (by omega) (by omega) (by omega) (by omega) (by omega)) ?_
                    rintro _ _ _ ⟨v149, rfl, rfl, rfl, f148⟩
                    show ov_R u d ov_m297 260 [(0, ov_r 90), (1, ov_i x), (2, ov_i y), (3, ov_i m), (4, ov_i bo), (5, ov_i w), (6, ov_i x6), (7, ov_i v120), (8, ov_i x8_)] [ov_i v149, ov_i v146] z126 (ov_up h127 90 42 (-1)) (P_Mo_wave_90 F z h x y m bo w)
                    rw [show (ov_up h127 90 42 (-1)) 96 = h 96 from E132] at f148
                    have f150 : v149 = (h 96 (10 + 4 * (6 * y + x) + (3 : Int))) ∧ ((3 : Int) = 1 → 0 ≤ v149 ∧ v149 ≤ 60) ∧ ((3 : Int) = 2 → 0 ≤ v149 ∧ v149 ≤ 59) ∧ ((3 : Int) = 3 → 0 ≤ v149 ∧ v149 ≤ 60) := f148
                    clear f148
                    refine ov_blk (ls2 := [(0, ov_r 90), (1, ov_i x), (2, ov_i y), (3, ov_i m), (4, ov_i bo), (5, ov_i w), (6, ov_i x6), (7, ov_i v120), (8, ov_i x8_)]) (st2 := [ov_i v120, ov_i (v146 + v149)]) (pc2 := 263) b_297_260_2 rfl rfl ?_
                    refine ov_irem d_297_263 (by omega) (by omega) (by omega) ?_
                    have g151 := ov_tmg (a := (v146 + v149)) (b := v120) (by omega) (by omega)
                    refine ov_havw (fun w152 gw152 qw152 => ?_)
                    refine ov_blk (ls2 := [(0, ov_r 90), (1, ov_i x), (2, ov_i y), (3, ov_i m), (4, ov_i bo), (5, ov_i w), (6, ov_i x6), (7, ov_i v120), (8, ov_i w152)]) (st2 := [ov_r 90]) (pc2 := 267) b_297_264_2 rfl rfl ?_
                    refine ov_getf (v := ov_r 112) d_297_267 fl_Mo_138 (zb_90 I144) (zs_90 I144) (congrArg ov_r (rg_90_40 I144)) ?_
                    refine ov_blk (ls2 := [(0, ov_r 90), (1, ov_i x), (2, ov_i y), (3, ov_i m), (4, ov_i bo), (5, ov_i w), (6, ov_i x6), (7, ov_i v120), (8, ov_i w152)]) (st2 := [ov_i w152, ov_i 0, ov_r 112]) (pc2 := 273) b_297_270_2 rfl rfl ?_
                    refine ov_iast d_297_273 (zb_112 I144) (zs_112 I144) (by omega) ?_
                    have I153 := ua_112 (k := 0) (x := w152) I144 (by omega)
                    refine ov_blk (ls2 := [(0, ov_r 90), (1, ov_i x), (2, ov_i y), (3, ov_i m), (4, ov_i bo), (5, ov_i w), (6, ov_i x6), (7, ov_i v120), (8, ov_i w152)]) (st2 := [ov_r 90, ov_i v120, ov_i m, ov_i 1, ov_r 90]) (pc2 := 280) b_297_274_5 rfl rfl ?_
                    refine ov_getf (v := ov_r 110) d_297_280 fl_Mo_132 (zb_90 I153) (zs_90 I153) (congrArg ov_r (rg_90_38 I153)) ?_
                    refine ov_blk (ls2 := [(0, ov_r 90), (1, ov_i x), (2, ov_i y), (3, ov_i m), (4, ov_i bo), (5, ov_i w), (6, ov_i x6), (7, ov_i v120), (8, ov_i w152)]) (st2 := [ov_i w152, ov_r 110, ov_i v120, ov_i m, ov_i 1, ov_r 90]) (pc2 := 285) b_297_283_1 rfl rfl ?_
                    refine ov_lald d_297_285 (zb_110 I153) (zs_110 I153) (by omega) ?_
                    show ov_R u d ov_m297 286 [(0, ov_r 90), (1, ov_i x), (2, ov_i y), (3, ov_i m), (4, ov_i bo), (5, ov_i w), (6, ov_i x6), (7, ov_i v120), (8, ov_i w152)] [ov_l (h127 110 w152), ov_i v120, ov_i m, ov_i 1, ov_r 90] z126 (ov_up (ov_up h127 90 42 (-1)) 112 0 w152) (P_Mo_wave_90 F z h x y m bo w)
                    refine ov_blk (ls2 := [(0, ov_r 90), (1, ov_i x), (2, ov_i y), (3, ov_i m), (4, ov_i bo), (5, ov_i w), (6, ov_i x6), (7, ov_i v120), (8, ov_i w152)]) (st2 := [ov_r 90, ov_l (h127 110 w152), ov_i v120, ov_i m, ov_i 1, ov_r 90]) (pc2 := 287) b_297_286_1 rfl rfl ?_
                    refine ov_getf (v := ov_r 111) d_297_287 fl_Mo_135 (zb_90 I153) (zs_90 I153) (congrArg ov_r (rg_90_39 I153)) ?_
                    refine ov_blk (ls2 := [(0, ov_r 90), (1, ov_i x), (2, ov_i y), (3, ov_i m), (4, ov_i bo), (5, ov_i w), (6, ov_i x6), (7, ov_i v120), (8, ov_i w152)]) (st2 := [ov_i w152, ov_r 111, ov_l (h127 110 w152), ov_i v120, ov_i m, ov_i 1, ov_r 90]) (pc2 := 292) b_297_290_1 rfl rfl ?_
                    refine ov_lald d_297_292 (zb_111 I153) (zs_111 I153) (by omega) ?_
                    show ov_R u d ov_m297 293 [(0, ov_r 90), (1, ov_i x), (2, ov_i y), (3, ov_i m), (4, ov_i bo), (5, ov_i w), (6, ov_i x6), (7, ov_i v120), (8, ov_i w152)] [ov_l (h127 111 w152), ov_l (h127 110 w152), ov_i v120, ov_i m, ov_i 1, ov_r 90] z126 (ov_up (ov_up h127 90 42 (-1)) 112 0 w152) (P_Mo_wave_90 F z h x y m bo w)
                    refine ov_blk (ls2 := [(0, ov_r 90), (1, ov_i x), (2, ov_i y), (3, ov_i m), (4, ov_i bo), (5, ov_i w), (6, ov_i x6), (7, ov_i v120), (8, ov_i w152)]) (st2 := [ov_i bo, ov_l (h127 111 w152), ov_l (h127 110 w152), ov_i v120, ov_i m, ov_i 1, ov_r 90]) (pc2 := 295) b_297_293_1 rfl rfl ?_
                    refine ov_cV (as := [ov_i 1, ov_i m, ov_i v120, ov_l (h127 110 w152), ov_l (h127 111 w152), ov_i bo]) (st := []) (d2 := d - 1) d_297_295 lk_Mo_442 rfl (Nat.le_of_ble_eq_true rfl) (c := 1) (zb_90 I153) (zs_90 I153) ⟨by decide, rfl⟩ (by omega) (c_Mo_triesWave_90_all (Int.toNat ((m) - (1))) (d - 1) (by omega) U I153 1 m v120 (h127 110 w152) (h127 111 w152) bo (by omega) (by omega) (by omega) (by omega) (by omega) (by omega) (by omega)) ?_
                    rintro _ z168 h169 ⟨rfl, I170, f154, e155, e156, e157, e158, e159, e160, e161, e162, e163, e164, e165, e166, e167⟩
                    have E171 : h169 92 = h 92 := Eq.trans e155 E129
                    have E172 : h169 93 = h 93 := Eq.trans e156 E130
                    have E173 : h169 94 = h 94 := Eq.trans e157 E131
                    have E174 : h169 96 = h 96 := Eq.trans e158 E132
                    have E175 : h169 97 = h 97 := Eq.trans e159 E133
                    have E176 : h169 98 = h 98 := Eq.trans e160 E134
                    have E177 : h169 99 = h 99 := Eq.trans e161 E135
                    have E178 : h169 100 = h 100 := Eq.trans e162 E136
                    have E179 : h169 103 = h 103 := Eq.trans e163 E137
                    have E180 : h169 105 = h 105 := Eq.trans e164 E138
                    have E181 : h169 106 = h 106 := Eq.trans e165 E139
                    have E182 : h169 109 = h 109 := Eq.trans e166 E140
                    have E183 : h169 114 = h 114 := Eq.trans e167 E141
                    show ov_R u d ov_m297 298 [(0, ov_r 90), (1, ov_i x), (2, ov_i y), (3, ov_i m), (4, ov_i bo), (5, ov_i w), (6, ov_i x6), (7, ov_i v120), (8, ov_i w152)] [] z168 h169 (P_Mo_wave_90 F z h x y m bo w)
                    have f184 : (h169 90 2) = (h127 90 2) ∧ (h169 90 3) = (h127 90 3) ∧ (h169 90 7) = (h127 90 7) ∧ (h169 90 8) = (h127 90 8) ∧ (h169 90 13) = (h127 90 13) ∧ (h169 90 20) = (h127 90 20) ∧ (h169 90 22) = (h127 90 22) ∧ (h169 90 25) = (h127 90 25) ∧ (h169 90 26) = (h127 90 26) ∧ (h169 90 27) = (h127 90 27) ∧ (h169 90 28) = (h127 90 28) ∧ (h169 90 29) = (h127 90 29) ∧ (h169 90 30) = (h127 90 30) ∧ (h169 90 34) = (h127 90 34) ∧ (h169 90 35) = (h127 90 35) ∧ (h169 90 37) = (h127 90 37) := f154
                    clear f154
                    refine ov_blk (ls2 := [(0, ov_r 90), (1, ov_i x), (2, ov_i y), (3, ov_i m), (4, ov_i bo), (5, ov_i w), (6, ov_i x6), (7, ov_i v120), (8, ov_i w152)]) (st2 := [ov_i w]) (pc2 := 300) b_297_298_1 rfl rfl ?_
                    refine ov_ifne (tgt := 310) d_297_300 (by decide) (by omega) (fun c185 => ?_) (fun c185 => ?_)
                    · skip
                      refine ov_blk (ls2 := [(0, ov_r 90), (1, ov_i x), (2, ov_i y), (3, ov_i m), (4, ov_i bo), (5, ov_i w), (6, ov_i x6), (7, ov_i v120), (8, ov_i w152)]) (st2 := [ov_r 90]) (pc2 := 311) b_297_310_1 rfl rfl ?_
                      refine ov_getf (v := ov_r 113) d_297_311 fl_Mo_141 (zb_90 I170) (zs_90 I170) (congrArg ov_r (rg_90_41 I170)) ?_
                      refine ov_blk (ls2 := [(0, ov_r 90), (1, ov_i x), (2, ov_i y), (3, ov_i m), (4, ov_i bo), (5, ov_i w), (6, ov_i x6), (7, ov_i v120), (8, ov_i w152)]) (st2 := [ov_i w, ov_r 113]) (pc2 := 316) b_297_314_1 rfl rfl ?_
                      refine ov_iald d_297_316 (zb_113 I170) (zs_113 I170) (by omega) ?_
                      have g186 := ra_113 I170 w
                      exact ov_reti (st := []) d_297_317 rfl ⟨_, rfl, I170, (by show -2147483648 ≤ (h169 113 w) ∧ (h169 113 w) ≤ 2147483647 ∧ (h169 90 2) = (h 90 2) ∧ (h169 90 3) = (h 90 3) ∧ (h169 90 7) = (h 90 7) ∧ (h169 90 8) = (h 90 8) ∧ (h169 90 13) = (h 90 13) ∧ (h169 90 20) = (h 90 20) ∧ (h169 90 22) = (h 90 22) ∧ (h169 90 25) = (h 90 25) ∧ (h169 90 26) = (h 90 26) ∧ (h169 90 27) = (h 90 27) ∧ (h169 90 28) = (h 90 28) ∧ (h169 90 29) = (h 90 29) ∧ (h169 90 30) = (h 90 30) ∧ (h169 90 34) = (h 90 34) ∧ (h169 90 35) = (h 90 35) ∧ (h169 90 37) = (h 90 37); omega), E171, E172, E173, E174, E175, E176, E177, E178, E179, E180, E181, E182, E183⟩
                    · skip
                      refine ov_blk (ls2 := [(0, ov_r 90), (1, ov_i x), (2, ov_i y), (3, ov_i m), (4, ov_i bo), (5, ov_i w), (6, ov_i x6), (7, ov_i v120), (8, ov_i w152)]) (st2 := [ov_r 90]) (pc2 := 304) b_297_303_1 rfl rfl ?_
                      refine ov_getf (v := ov_i (h169 90 42)) d_297_304 fl_Mo_439 (zb_90 I170) (zs_90 I170) rfl ?_
                      have g187 := rg_90_42 I170
                      refine ov_goto (tgt := 317) d_297_307 (by decide) ?_
                      exact ov_reti (st := []) d_297_317 rfl ⟨_, rfl, I170, (by show -2147483648 ≤ (h169 90 42) ∧ (h169 90 42) ≤ 2147483647 ∧ (h169 90 2) = (h 90 2) ∧ (h169 90 3) = (h 90 3) ∧ (h169 90 7) = (h 90 7) ∧ (h169 90 8) = (h 90 8) ∧ (h169 90 13) = (h 90 13) ∧ (h169 90 20) = (h 90 20) ∧ (h169 90 22) = (h 90 22) ∧ (h169 90 25) = (h 90 25) ∧ (h169 90 26) = (h 90 26) ∧ (h169 90 27) = (h 90 27) ∧ (h169 90 28) = (h 90 28) ∧ (h169 90 29) = (h 90 29) ∧ (h169 90 30) = (h 90 30) ∧ (h169 90 34) = (h 90 34) ∧ (h169 90 35) = (h 90 35) ∧ (h169 90 37) = (h 90 37); omega), E171, E172, E173, E174, E175, E176, E177, E178, E179, E180, E181, E182, E183⟩
                  · skip
                    refine ov_blk (ls2 := [(0, ov_r 90), (1, ov_i x), (2, ov_i y), (3, ov_i m), (4, ov_i bo), (5, ov_i w), (6, ov_i x6), (7, ov_i v120), (8, ov_i x8_)]) (st2 := [ov_i 3, ov_i (y + x8_), ov_i x, ov_r 90, ov_i v120]) (pc2 := 145) b_297_136_7 rfl rfl ?_
                    refine ov_cV (as := [ov_i x, ov_i (y + x8_), ov_i 3]) (st := [ov_i v120]) (d2 := d - 1) d_297_145 lk_Mo_289 rfl (Nat.le_of_ble_eq_true rfl) (c := 1) (zb_90 I128) (zs_90 I128) ⟨by decide, rfl⟩ (by omega) (c_Mo_lightAt_90 (d - 1) (by omega) U I128 x (y + x8_) 3 (by omega) (by omega) (by omega) (by omega) (by omega)) ?_
                    rintro _ _ _ ⟨v189, rfl, rfl, rfl, f188⟩
                    show ov_R u d ov_m297 148 [(0, ov_r 90), (1, ov_i x), (2, ov_i y), (3, ov_i m), (4, ov_i bo), (5, ov_i w), (6, ov_i x6), (7, ov_i v120), (8, ov_i x8_)] [ov_i v189, ov_i v120] z126 h127 (P_Mo_wave_90 F z h x y m bo w)
                    rw [show h127 96 = h 96 from E132] at f188
                    have f190 : v189 = (h 96 (10 + 4 * (6 * (y + x8_) + x) + (3 : Int))) ∧ ((3 : Int) = 1 → 0 ≤ v189 ∧ v189 ≤ 60) ∧ ((3 : Int) = 2 → 0 ≤ v189 ∧ v189 ≤ 59) ∧ ((3 : Int) = 3 → 0 ≤ v189 ∧ v189 ≤ 60) := f188
                    clear f188
                    refine ov_blk (ls2 := [(0, ov_r 90), (1, ov_i x), (2, ov_i y), (3, ov_i m), (4, ov_i bo), (5, ov_i w), (6, ov_i x6), (7, ov_i v120), (8, ov_i x8_), (9, ov_i (v120 - v189)), (10, ov_i 0)]) (st2 := []) (pc2 := 154) b_297_148_4 rfl rfl ?_
                    have L194 : ∀ (n191 : Nat) (x10_ : Int) (z195 : ov_Z) (h196 : ov_H) (I197 : ov_N F z195 h196) (E198 : h196 92 = h 92) (E199 : h196 93 = h 93) (E200 : h196 94 = h 94) (E201 : h196 96 = h 96) (E202 : h196 97 = h 97) (E203 : h196 98 = h 98) (E204 : h196 99 = h 99) (E205 : h196 100 = h 100) (E206 : h196 103 = h 103) (E207 : h196 105 = h 105) (E208 : h196 106 = h 106) (E209 : h196 109 = h 109) (E210 : h196 114 = h 114) (q193 : 0 ≤ x10_ ∧ x10_ ≤ 60 ∧ (h196 90 2) = (h127 90 2) ∧ (h196 90 3) = (h127 90 3) ∧ (h196 90 7) = (h127 90 7) ∧ (h196 90 8) = (h127 90 8) ∧ (h196 90 13) = (h127 90 13) ∧ (h196 90 20) = (h127 90 20) ∧ (h196 90 22) = (h127 90 22) ∧ (h196 90 25) = (h127 90 25) ∧ (h196 90 26) = (h127 90 26) ∧ (h196 90 27) = (h127 90 27) ∧ (h196 90 28) = (h127 90 28) ∧ (h196 90 29) = (h127 90 29) ∧ (h196 90 30) = (h127 90 30) ∧ (h196 90 34) = (h127 90 34) ∧ (h196 90 35) = (h127 90 35) ∧ (h196 90 37) = (h127 90 37)), 60 - x10_ < (n191 : Int) → ov_R u d ov_m297 154 [(0, ov_r 90), (1, ov_i x), (2, ov_i y), (3, ov_i m), (4, ov_i bo), (5, ov_i w), (6, ov_i x6), (7, ov_i v120), (8, ov_i x8_), (9, ov_i (v120 - v189)), (10, ov_i x10_)] [] z195 h196 (P_Mo_wave_90 F z h x y m bo w) := by
                      intro n191
                      induction n191 with
                      | zero =>
                        intro x10_ z195 h196 I197 E198 E199 E200 E201 E202 E203 E204 E205 E206 E207 E208 E209 E210 q193 hn211
                        exact absurd hn211 (by omega)
                      | succ n191 ih192 =>
                        intro x10_ z195 h196 I197 E198 E199 E200 E201 E202 E203 E204 E205 E206 E207 E208 E209 E210 q193 hn211
                        refine ov_blk (ls2 := [(0, ov_r 90), (1, ov_i x), (2, ov_i y), (3, ov_i m), (4, ov_i bo), (5, ov_i w), (6, ov_i x6), (7, ov_i v120), (8, ov_i x8_), (9, ov_i (v120 - v189)), (10, ov_i x10_)]) (st2 := [ov_i v120, ov_i x10_]) (pc2 := 158) b_297_154_2 rfl rfl ?_
                        refine ov_icge (tgt := 235) d_297_158 (by decide) (by omega) (by omega) (fun c212 => ?_) (fun c212 => ?_)
                        · skip
                          refine ov_blk (ls2 := [(0, ov_r 90), (1, ov_i x), (2, ov_i y), (3, ov_i m), (4, ov_i bo), (5, ov_i w), (6, ov_i x6), (7, ov_i v120), (8, ov_i (x8_ + 1)), (9, ov_i (v120 - v189)), (10, ov_i x10_)]) (st2 := []) (pc2 := 238) b_297_235_1 rfl rfl ?_
                          refine ov_goto (tgt := 130) d_297_238 (by decide) ?_
                          refine ov_sub (ls2 := [(0, ov_r 90), (1, ov_i x), (2, ov_i y), (3, ov_i m), (4, ov_i bo), (5, ov_i w), (6, ov_i x6), (7, ov_i v120), (8, ov_i (x8_ + 1))]) (List.Sublist.subset (by repeat (first | exact List.Sublist.refl _ | apply List.Sublist.cons_cons | apply List.Sublist.cons))) ?_
                          exact ih123 (x8_ + 1) _ _ I197 E198 E199 E200 E201 E202 E203 E204 E205 E206 E207 E208 E209 E210 (by show 0 ≤ (x8_ + 1) ∧ (x8_ + 1) ≤ 4 ∧ (h196 90 2) = (h 90 2) ∧ (h196 90 3) = (h 90 3) ∧ (h196 90 7) = (h 90 7) ∧ (h196 90 8) = (h 90 8) ∧ (h196 90 13) = (h 90 13) ∧ (h196 90 20) = (h 90 20) ∧ (h196 90 22) = (h 90 22) ∧ (h196 90 25) = (h 90 25) ∧ (h196 90 26) = (h 90 26) ∧ (h196 90 27) = (h 90 27) ∧ (h196 90 28) = (h 90 28) ∧ (h196 90 29) = (h 90 29) ∧ (h196 90 30) = (h 90 30) ∧ (h196 90 34) = (h 90 34) ∧ (h196 90 35) = (h 90 35) ∧ (h196 90 37) = (h 90 37); omega) (by omega)
                        · skip
                          refine ov_blk (ls2 := [(0, ov_r 90), (1, ov_i x), (2, ov_i y), (3, ov_i m), (4, ov_i bo), (5, ov_i w), (6, ov_i x6), (7, ov_i v120), (8, ov_i x8_), (9, ov_i (v120 - v189)), (10, ov_i x10_)]) (st2 := [ov_r 90]) (pc2 := 162) b_297_161_1 rfl rfl ?_
                          refine ov_getf (v := ov_r 110) d_297_162 fl_Mo_132 (zb_90 I197) (zs_90 I197) (congrArg ov_r (rg_90_38 I197)) ?_
                          refine ov_blk (ls2 := [(0, ov_r 90), (1, ov_i x), (2, ov_i y), (3, ov_i m), (4, ov_i bo), (5, ov_i w), (6, ov_i x6), (7, ov_i v120), (8, ov_i x8_), (9, ov_i (v120 - v189)), (10, ov_i x10_)]) (st2 := [ov_r 90, ov_i x8_, ov_i x10_, ov_i ((60 * x8_) + x10_), ov_r 110]) (pc2 := 178) b_297_165_8 rfl rfl ?_
                          refine ov_getf (v := ov_r 96) d_297_178 fl_Mo_81 (zb_90 I197) (zs_90 I197) (congrArg ov_r (rg_90_10 I197)) ?_
                          refine ov_blk (ls2 := [(0, ov_r 90), (1, ov_i x), (2, ov_i y), (3, ov_i m), (4, ov_i bo), (5, ov_i w), (6, ov_i x6), (7, ov_i v120), (8, ov_i x8_), (9, ov_i (v120 - v189)), (10, ov_i x10_)]) (st2 := [ov_i 2, ov_r 96, ov_i x8_, ov_i x10_, ov_i ((60 * x8_) + x10_), ov_r 110]) (pc2 := 182) b_297_181_1 rfl rfl ?_
                          refine ov_iald d_297_182 (zb_96 I197) (zs_96 I197) (by omega) ?_
                          rw [show h196 96 = h 96 from E201]
                          have g213 := t96_2 I
                          have gm214 := ov_mulb (q := x8_) (b := (h 96 2)) (A := 4) (B := 30) (by omega) (by omega) (by omega) (by omega)
                          refine ov_blk (ls2 := [(0, ov_r 90), (1, ov_i x), (2, ov_i y), (3, ov_i m), (4, ov_i bo), (5, ov_i w), (6, ov_i x6), (7, ov_i v120), (8, ov_i x8_), (9, ov_i (v120 - v189)), (10, ov_i x10_)]) (st2 := [ov_i v120, ov_i (v120 - v189), ov_i (x10_ - (x8_ * (h 96 2))), ov_i ((60 * x8_) + x10_), ov_r 110]) (pc2 := 189) b_297_183_4 rfl rfl ?_
                          refine ov_cS (as := [ov_i (x10_ - (x8_ * (h 96 2))), ov_i (v120 - v189), ov_i v120]) (st := [ov_i ((60 * x8_) + x10_), ov_r 110]) (d2 := d - 1) d_297_189 lk_Mo_446 rfl (Nat.le_of_ble_eq_true rfl) (by omega) (c_Mo_turned (d - 1) (by omega) U I197 (x10_ - (x8_ * (h 96 2))) (v120 - v189) v120 (by omega) (by omega) (by omega) (by omega) (by omega)) ?_
                          rintro _ _ _ ⟨v216, rfl, rfl, rfl, f215⟩
                          show ov_R u d ov_m297 192 [(0, ov_r 90), (1, ov_i x), (2, ov_i y), (3, ov_i m), (4, ov_i bo), (5, ov_i w), (6, ov_i x6), (7, ov_i v120), (8, ov_i x8_), (9, ov_i (v120 - v189)), (10, ov_i x10_)] [ov_l v216, ov_i ((60 * x8_) + x10_), ov_r 110] z195 h196 (P_Mo_wave_90 F z h x y m bo w)
                          clear f215
                          refine ov_last d_297_192 (zb_110 I197) (zs_110 I197) (by omega) ?_
                          have I217 := ua_110 (k := ((60 * x8_) + x10_)) (x := v216) I197
                          refine ov_blk (ls2 := [(0, ov_r 90), (1, ov_i x), (2, ov_i y), (3, ov_i m), (4, ov_i bo), (5, ov_i w), (6, ov_i x6), (7, ov_i v120), (8, ov_i x8_), (9, ov_i (v120 - v189)), (10, ov_i x10_)]) (st2 := [ov_r 90]) (pc2 := 194) b_297_193_1 rfl rfl ?_
                          refine ov_getf (v := ov_r 111) d_297_194 fl_Mo_135 (zb_90 I217) (zs_90 I217) (congrArg ov_r (rg_90_39 I217)) ?_
                          refine ov_blk (ls2 := [(0, ov_r 90), (1, ov_i x), (2, ov_i y), (3, ov_i m), (4, ov_i bo), (5, ov_i w), (6, ov_i x6), (7, ov_i v120), (8, ov_i x8_), (9, ov_i (v120 - v189)), (10, ov_i x10_)]) (st2 := [ov_r 90, ov_i ((m - 1) - x8_), ov_i x10_, ov_i ((60 * x8_) + x10_), ov_r 111]) (pc2 := 214) b_297_197_12 rfl rfl ?_
                          refine ov_getf (v := ov_r 96) d_297_214 fl_Mo_81 (zb_90 I217) (zs_90 I217) (congrArg ov_r (rg_90_10 I217)) ?_
                          refine ov_blk (ls2 := [(0, ov_r 90), (1, ov_i x), (2, ov_i y), (3, ov_i m), (4, ov_i bo), (5, ov_i w), (6, ov_i x6), (7, ov_i v120), (8, ov_i x8_), (9, ov_i (v120 - v189)), (10, ov_i x10_)]) (st2 := [ov_i 2, ov_r 96, ov_i ((m - 1) - x8_), ov_i x10_, ov_i ((60 * x8_) + x10_), ov_r 111]) (pc2 := 218) b_297_217_1 rfl rfl ?_
                          refine ov_iald d_297_218 (zb_96 I217) (zs_96 I217) (by omega) ?_
                          rw [show (ov_up h196 110 ((60 * x8_) + x10_) v216) 96 = h 96 from E201]
                          have gm219 := ov_mulb (q := ((m - 1) - x8_)) (b := (h 96 2)) (A := 4) (B := 30) (by omega) (by omega) (by omega) (by omega)
                          refine ov_blk (ls2 := [(0, ov_r 90), (1, ov_i x), (2, ov_i y), (3, ov_i m), (4, ov_i bo), (5, ov_i w), (6, ov_i x6), (7, ov_i v120), (8, ov_i x8_), (9, ov_i (v120 - v189)), (10, ov_i x10_)]) (st2 := [ov_i v120, ov_i (v120 - v189), ov_i (x10_ - (((m - 1) - x8_) * (h 96 2))), ov_i ((60 * x8_) + x10_), ov_r 111]) (pc2 := 225) b_297_219_4 rfl rfl ?_
                          refine ov_cS (as := [ov_i (x10_ - (((m - 1) - x8_) * (h 96 2))), ov_i (v120 - v189), ov_i v120]) (st := [ov_i ((60 * x8_) + x10_), ov_r 111]) (d2 := d - 1) d_297_225 lk_Mo_446 rfl (Nat.le_of_ble_eq_true rfl) (by omega) (c_Mo_turned (d - 1) (by omega) U I217 (x10_ - (((m - 1) - x8_) * (h 96 2))) (v120 - v189) v120 (by omega) (by omega) (by omega) (by omega) (by omega)) ?_
                          rintro _ _ _ ⟨v221, rfl, rfl, rfl, f220⟩
                          show ov_R u d ov_m297 228 [(0, ov_r 90), (1, ov_i x), (2, ov_i y), (3, ov_i m), (4, ov_i bo), (5, ov_i w), (6, ov_i x6), (7, ov_i v120), (8, ov_i x8_), (9, ov_i (v120 - v189)), (10, ov_i x10_)] [ov_l v221, ov_i ((60 * x8_) + x10_), ov_r 111] z195 (ov_up h196 110 ((60 * x8_) + x10_) v216) (P_Mo_wave_90 F z h x y m bo w)
                          clear f220
                          refine ov_last d_297_228 (zb_111 I217) (zs_111 I217) (by omega) ?_
                          have I222 := ua_111 (k := ((60 * x8_) + x10_)) (x := v221) I217
                          refine ov_blk (ls2 := [(0, ov_r 90), (1, ov_i x), (2, ov_i y), (3, ov_i m), (4, ov_i bo), (5, ov_i w), (6, ov_i x6), (7, ov_i v120), (8, ov_i x8_), (9, ov_i (v120 - v189)), (10, ov_i (x10_ + 1))]) (st2 := []) (pc2 := 232) b_297_229_1 rfl rfl ?_
                          refine ov_goto (tgt := 154) d_297_232 (by decide) ?_
                          exact ih192 (x10_ + 1) _ _ I222 E198 E199 E200 E201 E202 E203 E204 E205 E206 E207 E208 E209 E210 (by show 0 ≤ (x10_ + 1) ∧ (x10_ + 1) ≤ 60 ∧ (h196 90 2) = (h127 90 2) ∧ (h196 90 3) = (h127 90 3) ∧ (h196 90 7) = (h127 90 7) ∧ (h196 90 8) = (h127 90 8) ∧ (h196 90 13) = (h127 90 13) ∧ (h196 90 20) = (h127 90 20) ∧ (h196 90 22) = (h127 90 22) ∧ (h196 90 25) = (h127 90 25) ∧ (h196 90 26) = (h127 90 26) ∧ (h196 90 27) = (h127 90 27) ∧ (h196 90 28) = (h127 90 28) ∧ (h196 90 29) = (h127 90 29) ∧ (h196 90 30) = (h127 90 30) ∧ (h196 90 34) = (h127 90 34) ∧ (h196 90 35) = (h127 90 35) ∧ (h196 90 37) = (h127 90 37); omega) (by omega)
                    exact L194 61 0 _ _ I128 E129 E130 E131 E132 E133 E134 E135 E136 E137 E138 E139 E140 E141 (by show 0 ≤ 0 ∧ 0 ≤ 60 ∧ (h127 90 2) = (h127 90 2) ∧ (h127 90 3) = (h127 90 3) ∧ (h127 90 7) = (h127 90 7) ∧ (h127 90 8) = (h127 90 8) ∧ (h127 90 13) = (h127 90 13) ∧ (h127 90 20) = (h127 90 20) ∧ (h127 90 22) = (h127 90 22) ∧ (h127 90 25) = (h127 90 25) ∧ (h127 90 26) = (h127 90 26) ∧ (h127 90 27) = (h127 90 27) ∧ (h127 90 28) = (h127 90 28) ∧ (h127 90 29) = (h127 90 29) ∧ (h127 90 30) = (h127 90 30) ∧ (h127 90 34) = (h127 90 34) ∧ (h127 90 35) = (h127 90 35) ∧ (h127 90 37) = (h127 90 37); omega) (by omega)
              exact L125 5 0 _ _ I1 rfl rfl rfl rfl rfl rfl rfl rfl rfl rfl rfl rfl rfl (by show 0 ≤ 0 ∧ 0 ≤ 4 ∧ (h 90 2) = (h 90 2) ∧ (h 90 3) = (h 90 3) ∧ (h 90 7) = (h 90 7) ∧ (h 90 8) = (h 90 8) ∧ (h 90 13) = (h 90 13) ∧ (h 90 20) = (h 90 20) ∧ (h 90 22) = (h 90 22) ∧ (h 90 25) = (h 90 25) ∧ (h 90 26) = (h 90 26) ∧ (h 90 27) = (h 90 27) ∧ (h 90 28) = (h 90 28) ∧ (h 90 29) = (h 90 29) ∧ (h 90 30) = (h 90 30) ∧ (h 90 34) = (h 90 34) ∧ (h 90 35) = (h 90 35) ∧ (h 90 37) = (h 90 37); omega) (by omega)
            · skip
              refine ov_blk (ls2 := [(0, ov_r 90), (1, ov_i x), (2, ov_i y), (3, ov_i m), (4, ov_i bo), (5, ov_i w), (6, ov_i x6), (7, ov_i x7)]) (st2 := [ov_i (-1)]) (pc2 := 117) b_297_116_1 rfl rfl ?_
              exact ov_reti (st := []) d_297_117 rfl ⟨_, rfl, I1, (by show -2147483648 ≤ (-1) ∧ (-1) ≤ 2147483647 ∧ (h 90 2) = (h 90 2) ∧ (h 90 3) = (h 90 3) ∧ (h 90 7) = (h 90 7) ∧ (h 90 8) = (h 90 8) ∧ (h 90 13) = (h 90 13) ∧ (h 90 20) = (h 90 20) ∧ (h 90 22) = (h 90 22) ∧ (h 90 25) = (h 90 25) ∧ (h 90 26) = (h 90 26) ∧ (h 90 27) = (h 90 27) ∧ (h 90 28) = (h 90 28) ∧ (h 90 29) = (h 90 29) ∧ (h 90 30) = (h 90 30) ∧ (h 90 34) = (h 90 34) ∧ (h 90 35) = (h 90 35) ∧ (h 90 37) = (h 90 37); omega), rfl, rfl, rfl, rfl, rfl, rfl, rfl, rfl, rfl, rfl, rfl, rfl, rfl⟩
          · skip
            refine ov_blk (ls2 := [(0, ov_r 90), (1, ov_i x), (2, ov_i y), (3, ov_i m), (4, ov_i bo), (5, ov_i w), (6, ov_i x6), (7, ov_i x7)]) (st2 := [ov_i (y + x7), ov_i x, ov_r 90]) (pc2 := 72) b_297_66_5 rfl rfl ?_
            refine ov_cV (as := [ov_i x, ov_i (y + x7)]) (st := []) (d2 := d - 1) d_297_72 lk_Mo_285 rfl (Nat.le_of_ble_eq_true rfl) (c := 1) (zb_90 I1) (zs_90 I1) ⟨by decide, rfl⟩ (by omega) (c_Mo_isTimed_90 (d - 1) (by omega) U I1 x (y + x7) (by omega) (by omega) (by omega)) ?_
            rintro _ _ _ ⟨v224, rfl, rfl, rfl, f223⟩
            show ov_R u d ov_m297 75 [(0, ov_r 90), (1, ov_i x), (2, ov_i y), (3, ov_i m), (4, ov_i bo), (5, ov_i w), (6, ov_i x6), (7, ov_i x7)] [ov_i v224] z (ov_up h 90 0 0) (P_Mo_wave_90 F z h x y m bo w)
            have f225 : (v224 = 0 ∨ v224 = 1) ∧ (v224 = 1 → ((h 96 (10 + 4 * (6 * (y + x7) + x))) = 1 ∨ (h 96 (10 + 4 * (6 * (y + x7) + x))) = 2)) ∧ (v224 = 0 → ¬ ((h 96 (10 + 4 * (6 * (y + x7) + x))) = 1 ∨ (h 96 (10 + 4 * (6 * (y + x7) + x))) = 2)) := f223
            clear f223
            refine ov_ifeq (tgt := 102) d_297_75 (by decide) (by omega) (fun c226 => ?_) (fun c226 => ?_)
            · skip
              refine ov_blk (ls2 := [(0, ov_r 90), (1, ov_i x), (2, ov_i y), (3, ov_i m), (4, ov_i bo), (5, ov_i w), (6, ov_i 0), (7, ov_i (x7 + 1))]) (st2 := []) (pc2 := 108) b_297_102_3 rfl rfl ?_
              refine ov_goto (tgt := 55) d_297_108 (by decide) ?_
              exact ih7 0 (x7 + 1) (by show (0 = 0 ∨ 0 = 1) ∧ 0 ≤ (x7 + 1) ∧ (x7 + 1) ≤ 4 ∧ (0 = 1 → 0 ≤ x ∧ x ≤ 5 ∧ 0 ≤ y ∧ y ≤ 8 ∧ 2 ≤ m ∧ m ≤ 4 ∧ y + m ≤ 9 ∧ 0 ≤ w ∧ w ≤ m - 1 ∧ (1 ≤ (x7 + 1) → ((h 96 (10 + 4 * (6 * y + x))) = 1 ∨ (h 96 (10 + 4 * (6 * y + x))) = 2))); omega) (by omega)
            · skip
              refine ov_blk (ls2 := [(0, ov_r 90), (1, ov_i x), (2, ov_i y), (3, ov_i m), (4, ov_i bo), (5, ov_i w), (6, ov_i x6), (7, ov_i x7)]) (st2 := [ov_i 1, ov_i (y + x7), ov_i x, ov_r 90]) (pc2 := 85) b_297_78_6 rfl rfl ?_
              refine ov_cV (as := [ov_i x, ov_i (y + x7), ov_i 1]) (st := []) (d2 := d - 1) d_297_85 lk_Mo_289 rfl (Nat.le_of_ble_eq_true rfl) (c := 1) (zb_90 I1) (zs_90 I1) ⟨by decide, rfl⟩ (by omega) (c_Mo_lightAt_90 (d - 1) (by omega) U I1 x (y + x7) 1 (by omega) (by omega) (by omega) (by omega) (by omega)) ?_
              rintro _ _ _ ⟨v228, rfl, rfl, rfl, f227⟩
              show ov_R u d ov_m297 88 [(0, ov_r 90), (1, ov_i x), (2, ov_i y), (3, ov_i m), (4, ov_i bo), (5, ov_i w), (6, ov_i x6), (7, ov_i x7)] [ov_i v228] z (ov_up h 90 0 0) (P_Mo_wave_90 F z h x y m bo w)
              have f229 : v228 = (h 96 (10 + 4 * (6 * (y + x7) + x) + (1 : Int))) ∧ ((1 : Int) = 1 → 0 ≤ v228 ∧ v228 ≤ 60) ∧ ((1 : Int) = 2 → 0 ≤ v228 ∧ v228 ≤ 59) ∧ ((1 : Int) = 3 → 0 ≤ v228 ∧ v228 ≤ 60) := f227
              clear f227
              refine ov_blk (ls2 := [(0, ov_r 90), (1, ov_i x), (2, ov_i y), (3, ov_i m), (4, ov_i bo), (5, ov_i w), (6, ov_i x6), (7, ov_i x7)]) (st2 := [ov_i 1, ov_i y, ov_i x, ov_r 90, ov_i v228]) (pc2 := 92) b_297_88_4 rfl rfl ?_
              refine ov_cV (as := [ov_i x, ov_i y, ov_i 1]) (st := [ov_i v228]) (d2 := d - 1) d_297_92 lk_Mo_289 rfl (Nat.le_of_ble_eq_true rfl) (c := 1) (zb_90 I1) (zs_90 I1) ⟨by decide, rfl⟩ (by omega) (c_Mo_lightAt_90 (d - 1) (by omega) U I1 x y 1 (by omega) (by omega) (by omega) (by omega) (by omega)) ?_
              rintro _ _ _ ⟨v231, rfl, rfl, rfl, f230⟩
              show ov_R u d ov_m297 95 [(0, ov_r 90), (1, ov_i x), (2, ov_i y), (3, ov_i m), (4, ov_i bo), (5, ov_i w), (6, ov_i x6), (7, ov_i x7)] [ov_i v231, ov_i v228] z (ov_up h 90 0 0) (P_Mo_wave_90 F z h x y m bo w)
              have f232 : v231 = (h 96 (10 + 4 * (6 * y + x) + (1 : Int))) ∧ ((1 : Int) = 1 → 0 ≤ v231 ∧ v231 ≤ 60) ∧ ((1 : Int) = 2 → 0 ≤ v231 ∧ v231 ≤ 59) ∧ ((1 : Int) = 3 → 0 ≤ v231 ∧ v231 ≤ 60) := f230
              clear f230
              refine ov_icne (tgt := 102) d_297_95 (by decide) (by omega) (by omega) (fun c233 => ?_) (fun c233 => ?_)
              · skip
                refine ov_blk (ls2 := [(0, ov_r 90), (1, ov_i x), (2, ov_i y), (3, ov_i m), (4, ov_i bo), (5, ov_i w), (6, ov_i 0), (7, ov_i (x7 + 1))]) (st2 := []) (pc2 := 108) b_297_102_3 rfl rfl ?_
                refine ov_goto (tgt := 55) d_297_108 (by decide) ?_
                exact ih7 0 (x7 + 1) (by show (0 = 0 ∨ 0 = 1) ∧ 0 ≤ (x7 + 1) ∧ (x7 + 1) ≤ 4 ∧ (0 = 1 → 0 ≤ x ∧ x ≤ 5 ∧ 0 ≤ y ∧ y ≤ 8 ∧ 2 ≤ m ∧ m ≤ 4 ∧ y + m ≤ 9 ∧ 0 ≤ w ∧ w ≤ m - 1 ∧ (1 ≤ (x7 + 1) → ((h 96 (10 + 4 * (6 * y + x))) = 1 ∨ (h 96 (10 + 4 * (6 * y + x))) = 2))); omega) (by omega)
              · skip
                refine ov_blk (ls2 := [(0, ov_r 90), (1, ov_i x), (2, ov_i y), (3, ov_i m), (4, ov_i bo), (5, ov_i w), (6, ov_i x6), (7, ov_i x7)]) (st2 := [ov_i 1]) (pc2 := 99) b_297_98_1 rfl rfl ?_
                refine ov_goto (tgt := 103) d_297_99 (by decide) ?_
                refine ov_blk (ls2 := [(0, ov_r 90), (1, ov_i x), (2, ov_i y), (3, ov_i m), (4, ov_i bo), (5, ov_i w), (6, ov_i 1), (7, ov_i (x7 + 1))]) (st2 := []) (pc2 := 108) b_297_103_2 rfl rfl ?_
                refine ov_goto (tgt := 55) d_297_108 (by decide) ?_
                exact ih7 1 (x7 + 1) (by show (1 = 0 ∨ 1 = 1) ∧ 0 ≤ (x7 + 1) ∧ (x7 + 1) ≤ 4 ∧ (1 = 1 → 0 ≤ x ∧ x ≤ 5 ∧ 0 ≤ y ∧ y ≤ 8 ∧ 2 ≤ m ∧ m ≤ 4 ∧ y + m ≤ 9 ∧ 0 ≤ w ∧ w ≤ m - 1 ∧ (1 ≤ (x7 + 1) → ((h 96 (10 + 4 * (6 * y + x))) = 1 ∨ (h 96 (10 + 4 * (6 * y + x))) = 2))); omega) (by omega)
    exact L9 5 0 0 (by show (0 = 0 ∨ 0 = 1) ∧ 0 ≤ 0 ∧ 0 ≤ 4 ∧ (0 = 1 → 0 ≤ x ∧ x ≤ 5 ∧ 0 ≤ y ∧ y ≤ 8 ∧ 2 ≤ m ∧ m ≤ 4 ∧ y + m ≤ 9 ∧ 0 ≤ w ∧ w ≤ m - 1 ∧ (1 ≤ 0 → ((h 96 (10 + 4 * (6 * y + x))) = 1 ∨ (h 96 (10 + 4 * (6 * y + x))) = 2))); omega) (by omega)
  · skip
    refine ov_blk (ls2 := [(0, ov_r 90), (1, ov_i x), (2, ov_i y), (3, ov_i m), (4, ov_i bo), (5, ov_i w)]) (st2 := [ov_i 4, ov_i 2, ov_i m]) (pc2 := 17) b_297_14_3 rfl rfl ?_
    refine ov_cS (as := [ov_i m, ov_i 2, ov_i 4]) (st := []) (d2 := d - 1) d_297_17 lk_Mo_299 rfl (Nat.le_of_ble_eq_true rfl) (by omega) (c_Mo_within (d - 1) (by omega) U I1 m 2 4 (by omega) (by omega) (by omega)) ?_
    rintro _ _ _ ⟨v235, rfl, rfl, rfl, f234⟩
    show ov_R u d ov_m297 20 [(0, ov_r 90), (1, ov_i x), (2, ov_i y), (3, ov_i m), (4, ov_i bo), (5, ov_i w)] [ov_i v235] z (ov_up h 90 0 0) (P_Mo_wave_90 F z h x y m bo w)
    have f236 : (v235 = 0 ∨ v235 = 1) ∧ (v235 = 1 → (2 : Int) ≤ m ∧ m ≤ (4 : Int)) ∧ (v235 = 0 → m < (2 : Int) ∨ (4 : Int) < m) := f234
    clear f234
    refine ov_ifeq (tgt := 49) d_297_20 (by decide) (by omega) (fun c237 => ?_) (fun c237 => ?_)
    · skip
      refine ov_blk (ls2 := [(0, ov_r 90), (1, ov_i x), (2, ov_i y), (3, ov_i m), (4, ov_i bo), (5, ov_i w), (6, ov_i 0), (7, ov_i 0)]) (st2 := []) (pc2 := 55) b_297_49_4 rfl rfl ?_
      have L241 : ∀ (n238 : Nat) (x6_ : Int) (x7_ : Int) (q240 : (x6_ = 0 ∨ x6_ = 1) ∧ 0 ≤ x7_ ∧ x7_ ≤ 4 ∧ (x6_ = 1 → 0 ≤ x ∧ x ≤ 5 ∧ 0 ≤ y ∧ y ≤ 8 ∧ 2 ≤ m ∧ m ≤ 4 ∧ y + m ≤ 9 ∧ 0 ≤ w ∧ w ≤ m - 1 ∧ (1 ≤ x7_ → ((h 96 (10 + 4 * (6 * y + x))) = 1 ∨ (h 96 (10 + 4 * (6 * y + x))) = 2)))), 4 - x7_ < (n238 : Int) → ov_R u d ov_m297 55 [(0, ov_r 90), (1, ov_i x), (2, ov_i y), (3, ov_i m), (4, ov_i bo), (5, ov_i w), (6, ov_i x6_), (7, ov_i x7_)] [] z (ov_up h 90 0 0) (P_Mo_wave_90 F z h x y m bo w) := by
        intro n238
        induction n238 with
        | zero =>
          intro x6_ x7_ q240 hn242
          exact absurd hn242 (by omega)
        | succ n238 ih239 =>
          intro x6_ x7_ q240 hn242
          refine ov_blk (ls2 := [(0, ov_r 90), (1, ov_i x), (2, ov_i y), (3, ov_i m), (4, ov_i bo), (5, ov_i w), (6, ov_i x6_), (7, ov_i x7_)]) (st2 := [ov_i m, ov_i x7_]) (pc2 := 58) b_297_55_2 rfl rfl ?_
          refine ov_icge (tgt := 111) d_297_58 (by decide) (by omega) (by omega) (fun c243 => ?_) (fun c243 => ?_)
          · skip
            refine ov_blk (ls2 := [(0, ov_r 90), (1, ov_i x), (2, ov_i y), (3, ov_i m), (4, ov_i bo), (5, ov_i w), (6, ov_i x6_), (7, ov_i x7_)]) (st2 := [ov_i x6_]) (pc2 := 113) b_297_111_1 rfl rfl ?_
            refine ov_ifne (tgt := 118) d_297_113 (by decide) (by omega) (fun c244 => ?_) (fun c244 => ?_)
            · skip
              have w1 := ov_WT_at W (c := 6 * y + x) (by omega)
              refine ov_blk (ls2 := [(0, ov_r 90), (1, ov_i x), (2, ov_i y), (3, ov_i m), (4, ov_i bo), (5, ov_i w), (6, ov_i x6_), (7, ov_i x7_)]) (st2 := [ov_i 1, ov_i y, ov_i x, ov_r 90]) (pc2 := 122) b_297_118_4 rfl rfl ?_
              refine ov_cV (as := [ov_i x, ov_i y, ov_i 1]) (st := []) (d2 := d - 1) d_297_122 lk_Mo_289 rfl (Nat.le_of_ble_eq_true rfl) (c := 1) (zb_90 I1) (zs_90 I1) ⟨by decide, rfl⟩ (by omega) (c_Mo_lightAt_90 (d - 1) (by omega) U I1 x y 1 (by omega) (by omega) (by omega) (by omega) (by omega)) ?_
              rintro _ _ _ ⟨v246, rfl, rfl, rfl, f245⟩
              show ov_R u d ov_m297 125 [(0, ov_r 90), (1, ov_i x), (2, ov_i y), (3, ov_i m), (4, ov_i bo), (5, ov_i w), (6, ov_i x6_), (7, ov_i x7_)] [ov_i v246] z (ov_up h 90 0 0) (P_Mo_wave_90 F z h x y m bo w)
              have f247 : v246 = (h 96 (10 + 4 * (6 * y + x) + (1 : Int))) ∧ ((1 : Int) = 1 → 0 ≤ v246 ∧ v246 ≤ 60) ∧ ((1 : Int) = 2 → 0 ≤ v246 ∧ v246 ≤ 59) ∧ ((1 : Int) = 3 → 0 ≤ v246 ∧ v246 ≤ 60) := f245
              clear f245
              refine ov_blk (ls2 := [(0, ov_r 90), (1, ov_i x), (2, ov_i y), (3, ov_i m), (4, ov_i bo), (5, ov_i w), (6, ov_i x6_), (7, ov_i v246), (8, ov_i 0)]) (st2 := []) (pc2 := 130) b_297_125_3 rfl rfl ?_
              have L251 : ∀ (n248 : Nat) (x8__ : Int) (z252 : ov_Z) (h253 : ov_H) (I254 : ov_N F z252 h253) (E255 : h253 92 = h 92) (E256 : h253 93 = h 93) (E257 : h253 94 = h 94) (E258 : h253 96 = h 96) (E259 : h253 97 = h 97) (E260 : h253 98 = h 98) (E261 : h253 99 = h 99) (E262 : h253 100 = h 100) (E263 : h253 103 = h 103) (E264 : h253 105 = h 105) (E265 : h253 106 = h 106) (E266 : h253 109 = h 109) (E267 : h253 114 = h 114) (q250 : 0 ≤ x8__ ∧ x8__ ≤ 4 ∧ (h253 90 2) = (h 90 2) ∧ (h253 90 3) = (h 90 3) ∧ (h253 90 7) = (h 90 7) ∧ (h253 90 8) = (h 90 8) ∧ (h253 90 13) = (h 90 13) ∧ (h253 90 20) = (h 90 20) ∧ (h253 90 22) = (h 90 22) ∧ (h253 90 25) = (h 90 25) ∧ (h253 90 26) = (h 90 26) ∧ (h253 90 27) = (h 90 27) ∧ (h253 90 28) = (h 90 28) ∧ (h253 90 29) = (h 90 29) ∧ (h253 90 30) = (h 90 30) ∧ (h253 90 34) = (h 90 34) ∧ (h253 90 35) = (h 90 35) ∧ (h253 90 37) = (h 90 37)), 4 - x8__ < (n248 : Int) → ov_R u d ov_m297 130 [(0, ov_r 90), (1, ov_i x), (2, ov_i y), (3, ov_i m), (4, ov_i bo), (5, ov_i w), (6, ov_i x6_), (7, ov_i v246), (8, ov_i x8__)] [] z252 h253 (P_Mo_wave_90 F z h x y m bo w) := by
                intro n248
                induction n248 with
                | zero =>
                  intro x8__ z252 h253 I254 E255 E256 E257 E258 E259 E260 E261 E262 E263 E264 E265 E266 E267 q250 hn268
                  exact absurd hn268 (by omega)
                | succ n248 ih249 =>
                  intro x8__ z252 h253 I254 E255 E256 E257 E258 E259 E260 E261 E262 E263 E264 E265 E266 E267 q250 hn268
                  refine ov_blk (ls2 := [(0, ov_r 90), (1, ov_i x), (2, ov_i y), (3, ov_i m), (4, ov_i bo), (5, ov_i w), (6, ov_i x6_), (7, ov_i v246), (8, ov_i x8__)]) (st2 := [ov_i m, ov_i x8__]) (pc2 := 133) b_297_130_2 rfl rfl ?_
                  refine ov_icge (tgt := 241) d_297_133 (by decide) (by omega) (by omega) (fun c269 => ?_) (fun c269 => ?_)
                  · skip
                    refine ov_blk (ls2 := [(0, ov_r 90), (1, ov_i x), (2, ov_i y), (3, ov_i m), (4, ov_i bo), (5, ov_i w), (6, ov_i x6_), (7, ov_i v246), (8, ov_i x8__)]) (st2 := [ov_i (-1), ov_r 90]) (pc2 := 243) b_297_241_2 rfl rfl ?_
                    refine ov_putf (x := (-1)) d_297_243 fl_Mo_439 (zb_90 I254) (zs_90 I254) rfl nk_0 rfl ?_
                    have I270 := up_90_42 (x := (-1)) I254 (by omega)
                    refine ov_blk (ls2 := [(0, ov_r 90), (1, ov_i x), (2, ov_i y), (3, ov_i m), (4, ov_i bo), (5, ov_i w), (6, ov_i x6_), (7, ov_i v246), (8, ov_i x8__)]) (st2 := [ov_i 2, ov_i y, ov_i x, ov_r 90]) (pc2 := 250) b_297_246_4 rfl rfl ?_
                    refine ov_cV (as := [ov_i x, ov_i y, ov_i 2]) (st := []) (d2 := d - 1) d_297_250 lk_Mo_289 rfl (Nat.le_of_ble_eq_true rfl) (c := 1) (zb_90 I270) (zs_90 I270) ⟨by decide, rfl⟩ (by omega) (c_Mo_lightAt_90 (d - 1) (by omega) U I270 x y 2 (by omega) (by omega) (by omega) (by omega) (by omega)) ?_
                    rintro _ _ _ ⟨v272, rfl, rfl, rfl, f271⟩
                    show ov_R u d ov_m297 253 [(0, ov_r 90), (1, ov_i x), (2, ov_i y), (3, ov_i m), (4, ov_i bo), (5, ov_i w), (6, ov_i x6_), (7, ov_i v246), (8, ov_i x8__)] [ov_i v272] z252 (ov_up h253 90 42 (-1)) (P_Mo_wave_90 F z h x y m bo w)
                    rw [show (ov_up h253 90 42 (-1)) 96 = h 96 from E258] at f271
                    have f273 : v272 = (h 96 (10 + 4 * (6 * y + x) + (2 : Int))) ∧ ((2 : Int) = 1 → 0 ≤ v272 ∧ v272 ≤ 60) ∧ ((2 : Int) = 2 → 0 ≤ v272 ∧ v272 ≤ 59) ∧ ((2 : Int) = 3 → 0 ≤ v272 ∧ v272 ≤ 60) := f271
                    clear f271
                    refine ov_blk (ls2 := [(0, ov_r 90), (1, ov_i x), (2, ov_i y), (3, ov_i m), (4, ov_i bo), (5, ov_i w), (6, ov_i x6_), (7, ov_i v246), (8, ov_i x8__)]) (st2 := [ov_i 3, ov_i y, ov_i x, ov_r 90, ov_i v272]) (pc2 := 257) b_297_253_4 rfl rfl ?_
                    refine ov_cV (as := [ov_i x, ov_i y, ov_i 3]) (st := [ov_i v272]) (d2 := d - 1) d_297_257 lk_Mo_289 rfl (Nat.le_of_ble_eq_true rfl) (c := 1) (zb_90 I270) (zs_90 I270) ⟨by decide, rfl⟩ (by omega) (c_Mo_lightAt_90 (d - 1) (by omega) U I270 x y 3 (by omega) (by omega) (by omega) (by omega) (by omega)) ?_
                    rintro _ _ _ ⟨v275, rfl, rfl, rfl, f274⟩
                    show ov_R u d ov_m297 260 [(0, ov_r 90), (1, ov_i x), (2, ov_i y), (3, ov_i m), (4, ov_i bo), (5, ov_i w), (6, ov_i x6_), (7, ov_i v246), (8, ov_i x8__)] [ov_i v275, ov_i v272] z252 (ov_up h253 90 42 (-1)) (P_Mo_wave_90 F z h x y m bo w)
                    rw [show (ov_up h253 90 42 (-1)) 96 = h 96 from E258] at f274
                    have f276 : v275 = (h 96 (10 + 4 * (6 * y + x) + (3 : Int))) ∧ ((3 : Int) = 1 → 0 ≤ v275 ∧ v275 ≤ 60) ∧ ((3 : Int) = 2 → 0 ≤ v275 ∧ v275 ≤ 59) ∧ ((3 : Int) = 3 → 0 ≤ v275 ∧ v275 ≤ 60) := f274
                    clear f274
                    refine ov_blk (ls2 := [(0, ov_r 90), (1, ov_i x), (2, ov_i y), (3, ov_i m), (4, ov_i bo), (5, ov_i w), (6, ov_i x6_), (7, ov_i v246), (8, ov_i x8__)]) (st2 := [ov_i v246, ov_i (v272 + v275)]) (pc2 := 263) b_297_260_2 rfl rfl ?_
                    refine ov_irem d_297_263 (by omega) (by omega) (by omega) ?_
                    have g277 := ov_tmg (a := (v272 + v275)) (b := v246) (by omega) (by omega)
                    refine ov_havw (fun w278 gw278 qw278 => ?_)
                    refine ov_blk (ls2 := [(0, ov_r 90), (1, ov_i x), (2, ov_i y), (3, ov_i m), (4, ov_i bo), (5, ov_i w), (6, ov_i x6_), (7, ov_i v246), (8, ov_i w278)]) (st2 := [ov_r 90]) (pc2 := 267) b_297_264_2 rfl rfl ?_
                    refine ov_getf (v := ov_r 112) d_297_267 fl_Mo_138 (zb_90 I270) (zs_90 I270) (congrArg ov_r (rg_90_40 I270)) ?_
                    refine ov_blk (ls2 := [(0, ov_r 90), (1, ov_i x), (2, ov_i y), (3, ov_i m), (4, ov_i bo), (5, ov_i w), (6, ov_i x6_), (7, ov_i v246), (8, ov_i w278)]) (st2 := [ov_i w278, ov_i 0, ov_r 112]) (pc2 := 273) b_297_270_2 rfl rfl ?_
                    refine ov_iast d_297_273 (zb_112 I270) (zs_112 I270) (by omega) ?_
                    have I279 := ua_112 (k := 0) (x := w278) I270 (by omega)
                    refine ov_blk (ls2 := [(0, ov_r 90), (1, ov_i x), (2, ov_i y), (3, ov_i m), (4, ov_i bo), (5, ov_i w), (6, ov_i x6_), (7, ov_i v246), (8, ov_i w278)]) (st2 := [ov_r 90, ov_i v246, ov_i m, ov_i 1, ov_r 90]) (pc2 := 280) b_297_274_5 rfl rfl ?_
                    refine ov_getf (v := ov_r 110) d_297_280 fl_Mo_132 (zb_90 I279) (zs_90 I279) (congrArg ov_r (rg_90_38 I279)) ?_
                    refine ov_blk (ls2 := [(0, ov_r 90), (1, ov_i x), (2, ov_i y), (3, ov_i m), (4, ov_i bo), (5, ov_i w), (6, ov_i x6_), (7, ov_i v246), (8, ov_i w278)]) (st2 := [ov_i w278, ov_r 110, ov_i v246, ov_i m, ov_i 1, ov_r 90]) (pc2 := 285) b_297_283_1 rfl rfl ?_
                    refine ov_lald d_297_285 (zb_110 I279) (zs_110 I279) (by omega) ?_
                    show ov_R u d ov_m297 286 [(0, ov_r 90), (1, ov_i x), (2, ov_i y), (3, ov_i m), (4, ov_i bo), (5, ov_i w), (6, ov_i x6_), (7, ov_i v246), (8, ov_i w278)] [ov_l (h253 110 w278), ov_i v246, ov_i m, ov_i 1, ov_r 90] z252 (ov_up (ov_up h253 90 42 (-1)) 112 0 w278) (P_Mo_wave_90 F z h x y m bo w)
                    refine ov_blk (ls2 := [(0, ov_r 90), (1, ov_i x), (2, ov_i y), (3, ov_i m), (4, ov_i bo), (5, ov_i w), (6, ov_i x6_), (7, ov_i v246), (8, ov_i w278)]) (st2 := [ov_r 90, ov_l (h253 110 w278), ov_i v246, ov_i m, ov_i 1, ov_r 90]) (pc2 := 287) b_297_286_1 rfl rfl ?_
                    refine ov_getf (v := ov_r 111) d_297_287 fl_Mo_135 (zb_90 I279) (zs_90 I279) (congrArg ov_r (rg_90_39 I279)) ?_
                    refine ov_blk (ls2 := [(0, ov_r 90), (1, ov_i x), (2, ov_i y), (3, ov_i m), (4, ov_i bo), (5, ov_i w), (6, ov_i x6_), (7, ov_i v246), (8, ov_i w278)]) (st2 := [ov_i w278, ov_r 111, ov_l (h253 110 w278), ov_i v246, ov_i m, ov_i 1, ov_r 90]) (pc2 := 292) b_297_290_1 rfl rfl ?_
                    refine ov_lald d_297_292 (zb_111 I279) (zs_111 I279) (by omega) ?_
                    show ov_R u d ov_m297 293 [(0, ov_r 90), (1, ov_i x), (2, ov_i y), (3, ov_i m), (4, ov_i bo), (5, ov_i w), (6, ov_i x6_), (7, ov_i v246), (8, ov_i w278)] [ov_l (h253 111 w278), ov_l (h253 110 w278), ov_i v246, ov_i m, ov_i 1, ov_r 90] z252 (ov_up (ov_up h253 90 42 (-1)) 112 0 w278) (P_Mo_wave_90 F z h x y m bo w)
                    refine ov_blk (ls2 := [(0, ov_r 90), (1, ov_i x), (2, ov_i y), (3, ov_i m), (4, ov_i bo), (5, ov_i w), (6, ov_i x6_), (7, ov_i v246), (8, ov_i w278)]) (st2 := [ov_i bo, ov_l (h253 111 w278), ov_l (h253 110 w278), ov_i v246, ov_i m, ov_i 1, ov_r 90]) (pc2 := 295) b_297_293_1 rfl rfl ?_
                    refine ov_cV (as := [ov_i 1, ov_i m, ov_i v246, ov_l (h253 110 w278), ov_l (h253 111 w278), ov_i bo]) (st := []) (d2 := d - 1) d_297_295 lk_Mo_442 rfl (Nat.le_of_ble_eq_true rfl) (c := 1) (zb_90 I279) (zs_90 I279) ⟨by decide, rfl⟩ (by omega) (c_Mo_triesWave_90_all (Int.toNat ((m) - (1))) (d - 1) (by omega) U I279 1 m v246 (h253 110 w278) (h253 111 w278) bo (by omega) (by omega) (by omega) (by omega) (by omega) (by omega) (by omega)) ?_
                    rintro _ z294 h295 ⟨rfl, I296, f280, e281, e282, e283, e284, e285, e286, e287, e288, e289, e290, e291, e292, e293⟩
                    have E297 : h295 92 = h 92 := Eq.trans e281 E255
                    have E298 : h295 93 = h 93 := Eq.trans e282 E256
                    have E299 : h295 94 = h 94 := Eq.trans e283 E257
                    have E300 : h295 96 = h 96 := Eq.trans e284 E258
                    have E301 : h295 97 = h 97 := Eq.trans e285 E259
                    have E302 : h295 98 = h 98 := Eq.trans e286 E260
                    have E303 : h295 99 = h 99 := Eq.trans e287 E261
                    have E304 : h295 100 = h 100 := Eq.trans e288 E262
                    have E305 : h295 103 = h 103 := Eq.trans e289 E263
                    have E306 : h295 105 = h 105 := Eq.trans e290 E264
                    have E307 : h295 106 = h 106 := Eq.trans e291 E265
                    have E308 : h295 109 = h 109 := Eq.trans e292 E266
                    have E309 : h295 114 = h 114 := Eq.trans e293 E267
                    show ov_R u d ov_m297 298 [(0, ov_r 90), (1, ov_i x), (2, ov_i y), (3, ov_i m), (4, ov_i bo), (5, ov_i w), (6, ov_i x6_), (7, ov_i v246), (8, ov_i w278)] [] z294 h295 (P_Mo_wave_90 F z h x y m bo w)
                    have f310 : (h295 90 2) = (h253 90 2) ∧ (h295 90 3) = (h253 90 3) ∧ (h295 90 7) = (h253 90 7) ∧ (h295 90 8) = (h253 90 8) ∧ (h295 90 13) = (h253 90 13) ∧ (h295 90 20) = (h253 90 20) ∧ (h295 90 22) = (h253 90 22) ∧ (h295 90 25) = (h253 90 25) ∧ (h295 90 26) = (h253 90 26) ∧ (h295 90 27) = (h253 90 27) ∧ (h295 90 28) = (h253 90 28) ∧ (h295 90 29) = (h253 90 29) ∧ (h295 90 30) = (h253 90 30) ∧ (h295 90 34) = (h253 90 34) ∧ (h295 90 35) = (h253 90 35) ∧ (h295 90 37) = (h253 90 37) := f280
                    clear f280
                    refine ov_blk (ls2 := [(0, ov_r 90), (1, ov_i x), (2, ov_i y), (3, ov_i m), (4, ov_i bo), (5, ov_i w), (6, ov_i x6_), (7, ov_i v246), (8, ov_i w278)]) (st2 := [ov_i w]) (pc2 := 300) b_297_298_1 rfl rfl ?_
                    refine ov_ifne (tgt := 310) d_297_300 (by decide) (by omega) (fun c311 => ?_) (fun c311 => ?_)
                    · skip
                      refine ov_blk (ls2 := [(0, ov_r 90), (1, ov_i x), (2, ov_i y), (3, ov_i m), (4, ov_i bo), (5, ov_i w), (6, ov_i x6_), (7, ov_i v246), (8, ov_i w278)]) (st2 := [ov_r 90]) (pc2 := 311) b_297_310_1 rfl rfl ?_
                      refine ov_getf (v := ov_r 113) d_297_311 fl_Mo_141 (zb_90 I296) (zs_90 I296) (congrArg ov_r (rg_90_41 I296)) ?_
                      refine ov_blk (ls2 := [(0, ov_r 90), (1, ov_i x), (2, ov_i y), (3, ov_i m), (4, ov_i bo), (5, ov_i w), (6, ov_i x6_), (7, ov_i v246), (8, ov_i w278)]) (st2 := [ov_i w, ov_r 113]) (pc2 := 316) b_297_314_1 rfl rfl ?_
                      refine ov_iald d_297_316 (zb_113 I296) (zs_113 I296) (by omega) ?_
                      have g312 := ra_113 I296 w
                      exact ov_reti (st := []) d_297_317 rfl ⟨_, rfl, I296, (by show -2147483648 ≤ (h295 113 w) ∧ (h295 113 w) ≤ 2147483647 ∧ (h295 90 2) = (h 90 2) ∧ (h295 90 3) = (h 90 3) ∧ (h295 90 7) = (h 90 7) ∧ (h295 90 8) = (h 90 8) ∧ (h295 90 13) = (h 90 13) ∧ (h295 90 20) = (h 90 20) ∧ (h295 90 22) = (h 90 22) ∧ (h295 90 25) = (h 90 25) ∧ (h295 90 26) = (h 90 26) ∧ (h295 90 27) = (h 90 27) ∧ (h295 90 28) = (h 90 28) ∧ (h295 90 29) = (h 90 29) ∧ (h295 90 30) = (h 90 30) ∧ (h295 90 34) = (h 90 34) ∧ (h295 90 35) = (h 90 35) ∧ (h295 90 37) = (h 90 37); omega), E297, E298, E299, E300, E301, E302, E303, E304, E305, E306, E307, E308, E309⟩
                    · skip
                      refine ov_blk (ls2 := [(0, ov_r 90), (1, ov_i x), (2, ov_i y), (3, ov_i m), (4, ov_i bo), (5, ov_i w), (6, ov_i x6_), (7, ov_i v246), (8, ov_i w278)]) (st2 := [ov_r 90]) (pc2 := 304) b_297_303_1 rfl rfl ?_
                      refine ov_getf (v := ov_i (h295 90 42)) d_297_304 fl_Mo_439 (zb_90 I296) (zs_90 I296) rfl ?_
                      have g313 := rg_90_42 I296
                      refine ov_goto (tgt := 317) d_297_307 (by decide) ?_
                      exact ov_reti (st := []) d_297_317 rfl ⟨_, rfl, I296, (by show -2147483648 ≤ (h295 90 42) ∧ (h295 90 42) ≤ 2147483647 ∧ (h295 90 2) = (h 90 2) ∧ (h295 90 3) = (h 90 3) ∧ (h295 90 7) = (h 90 7) ∧ (h295 90 8) = (h 90 8) ∧ (h295 90 13) = (h 90 13) ∧ (h295 90 20) = (h 90 20) ∧ (h295 90 22) = (h 90 22) ∧ (h295 90 25) = (h 90 25) ∧ (h295 90 26) = (h 90 26) ∧ (h295 90 27) = (h 90 27) ∧ (h295 90 28) = (h 90 28) ∧ (h295 90 29) = (h 90 29) ∧ (h295 90 30) = (h 90 30) ∧ (h295 90 34) = (h 90 34) ∧ (h295 90 35) = (h 90 35) ∧ (h295 90 37) = (h 90 37); omega), E297, E298, E299, E300, E301, E302, E303, E304, E305, E306, E307, E308, E309⟩
                  · skip
                    refine ov_blk (ls2 := [(0, ov_r 90), (1, ov_i x), (2, ov_i y), (3, ov_i m), (4, ov_i bo), (5, ov_i w), (6, ov_i x6_), (7, ov_i v246), (8, ov_i x8__)]) (st2 := [ov_i 3, ov_i (y + x8__), ov_i x, ov_r 90, ov_i v246]) (pc2 := 145) b_297_136_7 rfl rfl ?_
                    refine ov_cV (as := [ov_i x, ov_i (y + x8__), ov_i 3]) (st := [ov_i v246]) (d2 := d - 1) d_297_145 lk_Mo_289 rfl (Nat.le_of_ble_eq_true rfl) (c := 1) (zb_90 I254) (zs_90 I254) ⟨by decide, rfl⟩ (by omega) (c_Mo_lightAt_90 (d - 1) (by omega) U I254 x (y + x8__) 3 (by omega) (by omega) (by omega) (by omega) (by omega)) ?_
                    rintro _ _ _ ⟨v315, rfl, rfl, rfl, f314⟩
                    show ov_R u d ov_m297 148 [(0, ov_r 90), (1, ov_i x), (2, ov_i y), (3, ov_i m), (4, ov_i bo), (5, ov_i w), (6, ov_i x6_), (7, ov_i v246), (8, ov_i x8__)] [ov_i v315, ov_i v246] z252 h253 (P_Mo_wave_90 F z h x y m bo w)
                    rw [show h253 96 = h 96 from E258] at f314
                    have f316 : v315 = (h 96 (10 + 4 * (6 * (y + x8__) + x) + (3 : Int))) ∧ ((3 : Int) = 1 → 0 ≤ v315 ∧ v315 ≤ 60) ∧ ((3 : Int) = 2 → 0 ≤ v315 ∧ v315 ≤ 59) ∧ ((3 : Int) = 3 → 0 ≤ v315 ∧ v315 ≤ 60) := f314
                    clear f314
                    refine ov_blk (ls2 := [(0, ov_r 90), (1, ov_i x), (2, ov_i y), (3, ov_i m), (4, ov_i bo), (5, ov_i w), (6, ov_i x6_), (7, ov_i v246), (8, ov_i x8__), (9, ov_i (v246 - v315)), (10, ov_i 0)]) (st2 := []) (pc2 := 154) b_297_148_4 rfl rfl ?_
                    have L320 : ∀ (n317 : Nat) (x10__ : Int) (z321 : ov_Z) (h322 : ov_H) (I323 : ov_N F z321 h322) (E324 : h322 92 = h 92) (E325 : h322 93 = h 93) (E326 : h322 94 = h 94) (E327 : h322 96 = h 96) (E328 : h322 97 = h 97) (E329 : h322 98 = h 98) (E330 : h322 99 = h 99) (E331 : h322 100 = h 100) (E332 : h322 103 = h 103) (E333 : h322 105 = h 105) (E334 : h322 106 = h 106) (E335 : h322 109 = h 109) (E336 : h322 114 = h 114) (q319 : 0 ≤ x10__ ∧ x10__ ≤ 60 ∧ (h322 90 2) = (h253 90 2) ∧ (h322 90 3) = (h253 90 3) ∧ (h322 90 7) = (h253 90 7) ∧ (h322 90 8) = (h253 90 8) ∧ (h322 90 13) = (h253 90 13) ∧ (h322 90 20) = (h253 90 20) ∧ (h322 90 22) = (h253 90 22) ∧ (h322 90 25) = (h253 90 25) ∧ (h322 90 26) = (h253 90 26) ∧ (h322 90 27) = (h253 90 27) ∧ (h322 90 28) = (h253 90 28) ∧ (h322 90 29) = (h253 90 29) ∧ (h322 90 30) = (h253 90 30) ∧ (h322 90 34) = (h253 90 34) ∧ (h322 90 35) = (h253 90 35) ∧ (h322 90 37) = (h253 90 37)), 60 - x10__ < (n317 : Int) → ov_R u d ov_m297 154 [(0, ov_r 90), (1, ov_i x), (2, ov_i y), (3, ov_i m), (4, ov_i bo), (5, ov_i w), (6, ov_i x6_), (7, ov_i v246), (8, ov_i x8__), (9, ov_i (v246 - v315)), (10, ov_i x10__)] [] z321 h322 (P_Mo_wave_90 F z h x y m bo w) := by
                      intro n317
                      induction n317 with
                      | zero =>
                        intro x10__ z321 h322 I323 E324 E325 E326 E327 E328 E329 E330 E331 E332 E333 E334 E335 E336 q319 hn337
                        exact absurd hn337 (by omega)
                      | succ n317 ih318 =>
                        intro x10__ z321 h322 I323 E324 E325 E326 E327 E328 E329 E330 E331 E332 E333 E334 E335 E336 q319 hn337
                        refine ov_blk (ls2 := [(0, ov_r 90), (1, ov_i x), (2, ov_i y), (3, ov_i m), (4, ov_i bo), (5, ov_i w), (6, ov_i x6_), (7, ov_i v246), (8, ov_i x8__), (9, ov_i (v246 - v315)), (10, ov_i x10__)]) (st2 := [ov_i v246, ov_i x10__]) (pc2 := 158) b_297_154_2 rfl rfl ?_
                        refine ov_icge (tgt := 235) d_297_158 (by decide) (by omega) (by omega) (fun c338 => ?_) (fun c338 => ?_)
                        · skip
                          refine ov_blk (ls2 := [(0, ov_r 90), (1, ov_i x), (2, ov_i y), (3, ov_i m), (4, ov_i bo), (5, ov_i w), (6, ov_i x6_), (7, ov_i v246), (8, ov_i (x8__ + 1)), (9, ov_i (v246 - v315)), (10, ov_i x10__)]) (st2 := []) (pc2 := 238) b_297_235_1 rfl rfl ?_
                          refine ov_goto (tgt := 130) d_297_238 (by decide) ?_
                          refine ov_sub (ls2 := [(0, ov_r 90), (1, ov_i x), (2, ov_i y), (3, ov_i m), (4, ov_i bo), (5, ov_i w), (6, ov_i x6_), (7, ov_i v246), (8, ov_i (x8__ + 1))]) (List.Sublist.subset (by repeat (first | exact List.Sublist.refl _ | apply List.Sublist.cons_cons | apply List.Sublist.cons))) ?_
                          exact ih249 (x8__ + 1) _ _ I323 E324 E325 E326 E327 E328 E329 E330 E331 E332 E333 E334 E335 E336 (by show 0 ≤ (x8__ + 1) ∧ (x8__ + 1) ≤ 4 ∧ (h322 90 2) = (h 90 2) ∧ (h322 90 3) = (h 90 3) ∧ (h322 90 7) = (h 90 7) ∧ (h322 90 8) = (h 90 8) ∧ (h322 90 13) = (h 90 13) ∧ (h322 90 20) = (h 90 20) ∧ (h322 90 22) = (h 90 22) ∧ (h322 90 25) = (h 90 25) ∧ (h322 90 26) = (h 90 26) ∧ (h322 90 27) = (h 90 27) ∧ (h322 90 28) = (h 90 28) ∧ (h322 90 29) = (h 90 29) ∧ (h322 90 30) = (h 90 30) ∧ (h322 90 34) = (h 90 34) ∧ (h322 90 35) = (h 90 35) ∧ (h322 90 37) = (h 90 37); omega) (by omega)
                        · skip
                          refine ov_blk (ls2 := [(0, ov_r 90), (1, ov_i x), (2, ov_i y), (3, ov_i m), (4, ov_i bo), (5, ov_i w), (6, ov_i x6_), (7, ov_i v246), (8, ov_i x8__), (9, ov_i (v246 - v315)), (10, ov_i x10__)]) (st2 := [ov_r 90]) (pc2 := 162) b_297_161_1 rfl rfl ?_
                          refine ov_getf (v := ov_r 110) d_297_162 fl_Mo_132 (zb_90 I323) (zs_90 I323) (congrArg ov_r (rg_90_38 I323)) ?_
                          refine ov_blk (ls2 := [(0, ov_r 90), (1, ov_i x), (2, ov_i y), (3, ov_i m), (4, ov_i bo), (5, ov_i w), (6, ov_i x6_), (7, ov_i v246), (8, ov_i x8__), (9, ov_i (v246 - v315)), (10, ov_i x10__)]) (st2 := [ov_r 90, ov_i x8__, ov_i x10__, ov_i ((60 * x8__) + x10__), ov_r 110]) (pc2 := 178) b_297_165_8 rfl rfl ?_
                          refine ov_getf (v := ov_r 96) d_297_178 fl_Mo_81 (zb_90 I323) (zs_90 I323) (congrArg ov_r (rg_90_10 I323)) ?_
                          refine ov_blk (ls2 := [(0, ov_r 90), (1, ov_i x), (2, ov_i y), (3, ov_i m), (4, ov_i bo), (5, ov_i w), (6, ov_i x6_), (7, ov_i v246), (8, ov_i x8__), (9, ov_i (v246 - v315)), (10, ov_i x10__)]) (st2 := [ov_i 2, ov_r 96, ov_i x8__, ov_i x10__, ov_i ((60 * x8__) + x10__), ov_r 110]) (pc2 := 182) b_297_181_1 rfl rfl ?_
                          refine ov_iald d_297_182 (zb_96 I323) (zs_96 I323) (by omega) ?_
                          rw [show h322 96 = h 96 from E327]
                          have g339 := t96_2 I
                          have gm340 := ov_mulb (q := x8__) (b := (h 96 2)) (A := 4) (B := 30) (by omega) (by omega) (by omega) (by omega)
                          refine ov_blk (ls2 := [(0, ov_r 90), (1, ov_i x), (2, ov_i y), (3, ov_i m), (4, ov_i bo), (5, ov_i w), (6, ov_i x6_), (7, ov_i v246), (8, ov_i x8__), (9, ov_i (v246 - v315)), (10, ov_i x10__)]) (st2 := [ov_i v246, ov_i (v246 - v315), ov_i (x10__ - (x8__ * (h 96 2))), ov_i ((60 * x8__) + x10__), ov_r 110]) (pc2 := 189) b_297_183_4 rfl rfl ?_
                          refine ov_cS (as := [ov_i (x10__ - (x8__ * (h 96 2))), ov_i (v246 - v315), ov_i v246]) (st := [ov_i ((60 * x8__) + x10__), ov_r 110]) (d2 := d - 1) d_297_189 lk_Mo_446 rfl (Nat.le_of_ble_eq_true rfl) (by omega) (c_Mo_turned (d - 1) (by omega) U I323 (x10__ - (x8__ * (h 96 2))) (v246 - v315) v246 (by omega) (by omega) (by omega) (by omega) (by omega)) ?_
                          rintro _ _ _ ⟨v342, rfl, rfl, rfl, f341⟩
                          show ov_R u d ov_m297 192 [(0, ov_r 90), (1, ov_i x), (2, ov_i y), (3, ov_i m), (4, ov_i bo), (5, ov_i w), (6, ov_i x6_), (7, ov_i v246), (8, ov_i x8__), (9, ov_i (v246 - v315)), (10, ov_i x10__)] [ov_l v342, ov_i ((60 * x8__) + x10__), ov_r 110] z321 h322 (P_Mo_wave_90 F z h x y m bo w)
                          clear f341
                          refine ov_last d_297_192 (zb_110 I323) (zs_110 I323) (by omega) ?_
                          have I343 := ua_110 (k := ((60 * x8__) + x10__)) (x := v342) I323
                          refine ov_blk (ls2 := [(0, ov_r 90), (1, ov_i x), (2, ov_i y), (3, ov_i m), (4, ov_i bo), (5, ov_i w), (6, ov_i x6_), (7, ov_i v246), (8, ov_i x8__), (9, ov_i (v246 - v315)), (10, ov_i x10__)]) (st2 := [ov_r 90]) (pc2 := 194) b_297_193_1 rfl rfl ?_
                          refine ov_getf (v := ov_r 111) d_297_194 fl_Mo_135 (zb_90 I343) (zs_90 I343) (congrArg ov_r (rg_90_39 I343)) ?_
                          refine ov_blk (ls2 := [(0, ov_r 90), (1, ov_i x), (2, ov_i y), (3, ov_i m), (4, ov_i bo), (5, ov_i w), (6, ov_i x6_), (7, ov_i v246), (8, ov_i x8__), (9, ov_i (v246 - v315)), (10, ov_i x10__)]) (st2 := [ov_r 90, ov_i ((m - 1) - x8__), ov_i x10__, ov_i ((60 * x8__) + x10__), ov_r 111]) (pc2 := 214) b_297_197_12 rfl rfl ?_
                          refine ov_getf (v := ov_r 96) d_297_214 fl_Mo_81 (zb_90 I343) (zs_90 I343) (congrArg ov_r (rg_90_10 I343)) ?_
                          refine ov_blk (ls2 := [(0, ov_r 90), (1, ov_i x), (2, ov_i y), (3, ov_i m), (4, ov_i bo), (5, ov_i w), (6, ov_i x6_), (7, ov_i v246), (8, ov_i x8__), (9, ov_i (v246 - v315)), (10, ov_i x10__)]) (st2 := [ov_i 2, ov_r 96, ov_i ((m - 1) - x8__), ov_i x10__, ov_i ((60 * x8__) + x10__), ov_r 111]) (pc2 := 218) b_297_217_1 rfl rfl ?_
                          refine ov_iald d_297_218 (zb_96 I343) (zs_96 I343) (by omega) ?_
                          rw [show (ov_up h322 110 ((60 * x8__) + x10__) v342) 96 = h 96 from E327]
                          have gm345 := ov_mulb (q := ((m - 1) - x8__)) (b := (h 96 2)) (A := 4) (B := 30) (by omega) (by omega) (by omega) (by omega)
                          refine ov_blk (ls2 := [(0, ov_r 90), (1, ov_i x), (2, ov_i y), (3, ov_i m), (4, ov_i bo), (5, ov_i w), (6, ov_i x6_), (7, ov_i v246), (8, ov_i x8__), (9, ov_i (v246 - v315)), (10, ov_i x10__)]) (st2 := [ov_i v246, ov_i (v246 - v315), ov_i (x10__ - (((m - 1) - x8__) * (h 96 2))), ov_i ((60 * x8__) + x10__), ov_r 111]) (pc2 := 225) b_297_219_4 rfl rfl ?_
                          refine ov_cS (as := [ov_i (x10__ - (((m - 1) - x8__) * (h 96 2))), ov_i (v246 - v315), ov_i v246]) (st := [ov_i ((60 * x8__) + x10__), ov_r 111]) (d2 := d - 1) d_297_225 lk_Mo_446 rfl (Nat.le_of_ble_eq_true rfl) (by omega) (c_Mo_turned (d - 1) (by omega) U I343 (x10__ - (((m - 1) - x8__) * (h 96 2))) (v246 - v315) v246 (by omega) (by omega) (by omega) (by omega) (by omega)) ?_
                          rintro _ _ _ ⟨v347, rfl, rfl, rfl, f346⟩
                          show ov_R u d ov_m297 228 [(0, ov_r 90), (1, ov_i x), (2, ov_i y), (3, ov_i m), (4, ov_i bo), (5, ov_i w), (6, ov_i x6_), (7, ov_i v246), (8, ov_i x8__), (9, ov_i (v246 - v315)), (10, ov_i x10__)] [ov_l v347, ov_i ((60 * x8__) + x10__), ov_r 111] z321 (ov_up h322 110 ((60 * x8__) + x10__) v342) (P_Mo_wave_90 F z h x y m bo w)
                          clear f346
                          refine ov_last d_297_228 (zb_111 I343) (zs_111 I343) (by omega) ?_
                          have I348 := ua_111 (k := ((60 * x8__) + x10__)) (x := v347) I343
                          refine ov_blk (ls2 := [(0, ov_r 90), (1, ov_i x), (2, ov_i y), (3, ov_i m), (4, ov_i bo), (5, ov_i w), (6, ov_i x6_), (7, ov_i v246), (8, ov_i x8__), (9, ov_i (v246 - v315)), (10, ov_i (x10__ + 1))]) (st2 := []) (pc2 := 232) b_297_229_1 rfl rfl ?_
                          refine ov_goto (tgt := 154) d_297_232 (by decide) ?_
                          exact ih318 (x10__ + 1) _ _ I348 E324 E325 E326 E327 E328 E329 E330 E331 E332 E333 E334 E335 E336 (by show 0 ≤ (x10__ + 1) ∧ (x10__ + 1) ≤ 60 ∧ (h322 90 2) = (h253 90 2) ∧ (h322 90 3) = (h253 90 3) ∧ (h322 90 7) = (h253 90 7) ∧ (h322 90 8) = (h253 90 8) ∧ (h322 90 13) = (h253 90 13) ∧ (h322 90 20) = (h253 90 20) ∧ (h322 90 22) = (h253 90 22) ∧ (h322 90 25) = (h253 90 25) ∧ (h322 90 26) = (h253 90 26) ∧ (h322 90 27) = (h253 90 27) ∧ (h322 90 28) = (h253 90 28) ∧ (h322 90 29) = (h253 90 29) ∧ (h322 90 30) = (h253 90 30) ∧ (h322 90 34) = (h253 90 34) ∧ (h322 90 35) = (h253 90 35) ∧ (h322 90 37) = (h253 90 37); omega) (by omega)
                    exact L320 61 0 _ _ I254 E255 E256 E257 E258 E259 E260 E261 E262 E263 E264 E265 E266 E267 (by show 0 ≤ 0 ∧ 0 ≤ 60 ∧ (h253 90 2) = (h253 90 2) ∧ (h253 90 3) = (h253 90 3) ∧ (h253 90 7) = (h253 90 7) ∧ (h253 90 8) = (h253 90 8) ∧ (h253 90 13) = (h253 90 13) ∧ (h253 90 20) = (h253 90 20) ∧ (h253 90 22) = (h253 90 22) ∧ (h253 90 25) = (h253 90 25) ∧ (h253 90 26) = (h253 90 26) ∧ (h253 90 27) = (h253 90 27) ∧ (h253 90 28) = (h253 90 28) ∧ (h253 90 29) = (h253 90 29) ∧ (h253 90 30) = (h253 90 30) ∧ (h253 90 34) = (h253 90 34) ∧ (h253 90 35) = (h253 90 35) ∧ (h253 90 37) = (h253 90 37); omega) (by omega)
              exact L251 5 0 _ _ I1 rfl rfl rfl rfl rfl rfl rfl rfl rfl rfl rfl rfl rfl (by show 0 ≤ 0 ∧ 0 ≤ 4 ∧ (h 90 2) = (h 90 2) ∧ (h 90 3) = (h 90 3) ∧ (h 90 7) = (h 90 7) ∧ (h 90 8) = (h 90 8) ∧ (h 90 13) = (h 90 13) ∧ (h 90 20) = (h 90 20) ∧ (h 90 22) = (h 90 22) ∧ (h 90 25) = (h 90 25) ∧ (h 90 26) = (h 90 26) ∧ (h 90 27) = (h 90 27) ∧ (h 90 28) = (h 90 28) ∧ (h 90 29) = (h 90 29) ∧ (h 90 30) = (h 90 30) ∧ (h 90 34) = (h 90 34) ∧ (h 90 35) = (h 90 35) ∧ (h 90 37) = (h 90 37); omega) (by omega)
            · skip
              refine ov_blk (ls2 := [(0, ov_r 90), (1, ov_i x), (2, ov_i y), (3, ov_i m), (4, ov_i bo), (5, ov_i w), (6, ov_i x6_), (7, ov_i x7_)]) (st2 := [ov_i (-1)]) (pc2 := 117) b_297_116_1 rfl rfl ?_
              exact ov_reti (st := []) d_297_117 rfl ⟨_, rfl, I1, (by show -2147483648 ≤ (-1) ∧ (-1) ≤ 2147483647 ∧ (h 90 2) = (h 90 2) ∧ (h 90 3) = (h 90 3) ∧ (h 90 7) = (h 90 7) ∧ (h 90 8) = (h 90 8) ∧ (h 90 13) = (h 90 13) ∧ (h 90 20) = (h 90 20) ∧ (h 90 22) = (h 90 22) ∧ (h 90 25) = (h 90 25) ∧ (h 90 26) = (h 90 26) ∧ (h 90 27) = (h 90 27) ∧ (h 90 28) = (h 90 28) ∧ (h 90 29) = (h 90 29) ∧ (h 90 30) = (h 90 30) ∧ (h 90 34) = (h 90 34) ∧ (h 90 35) = (h 90 35) ∧ (h 90 37) = (h 90 37); omega), rfl, rfl, rfl, rfl, rfl, rfl, rfl, rfl, rfl, rfl, rfl, rfl, rfl⟩
          · skip
            refine ov_blk (ls2 := [(0, ov_r 90), (1, ov_i x), (2, ov_i y), (3, ov_i m), (4, ov_i bo), (5, ov_i w), (6, ov_i x6_), (7, ov_i x7_)]) (st2 := [ov_i x6_]) (pc2 := 63) b_297_61_1 rfl rfl ?_
            refine ov_ifeq (tgt := 111) d_297_63 (by decide) (by omega) (fun c349 => ?_) (fun c349 => ?_)
            · skip
              refine ov_blk (ls2 := [(0, ov_r 90), (1, ov_i x), (2, ov_i y), (3, ov_i m), (4, ov_i bo), (5, ov_i w), (6, ov_i x6_), (7, ov_i x7_)]) (st2 := [ov_i x6_]) (pc2 := 113) b_297_111_1 rfl rfl ?_
              refine ov_ifne (tgt := 118) d_297_113 (by decide) (by omega) (fun c350 => ?_) (fun c350 => ?_)
              · skip
                have w1 := ov_WT_at W (c := 6 * y + x) (by omega)
                refine ov_blk (ls2 := [(0, ov_r 90), (1, ov_i x), (2, ov_i y), (3, ov_i m), (4, ov_i bo), (5, ov_i w), (6, ov_i x6_), (7, ov_i x7_)]) (st2 := [ov_i 1, ov_i y, ov_i x, ov_r 90]) (pc2 := 122) b_297_118_4 rfl rfl ?_
                refine ov_cV (as := [ov_i x, ov_i y, ov_i 1]) (st := []) (d2 := d - 1) d_297_122 lk_Mo_289 rfl (Nat.le_of_ble_eq_true rfl) (c := 1) (zb_90 I1) (zs_90 I1) ⟨by decide, rfl⟩ (by omega) (c_Mo_lightAt_90 (d - 1) (by omega) U I1 x y 1 (by omega) (by omega) (by omega) (by omega) (by omega)) ?_
                rintro _ _ _ ⟨v352, rfl, rfl, rfl, f351⟩
                show ov_R u d ov_m297 125 [(0, ov_r 90), (1, ov_i x), (2, ov_i y), (3, ov_i m), (4, ov_i bo), (5, ov_i w), (6, ov_i x6_), (7, ov_i x7_)] [ov_i v352] z (ov_up h 90 0 0) (P_Mo_wave_90 F z h x y m bo w)
                have f353 : v352 = (h 96 (10 + 4 * (6 * y + x) + (1 : Int))) ∧ ((1 : Int) = 1 → 0 ≤ v352 ∧ v352 ≤ 60) ∧ ((1 : Int) = 2 → 0 ≤ v352 ∧ v352 ≤ 59) ∧ ((1 : Int) = 3 → 0 ≤ v352 ∧ v352 ≤ 60) := f351
                clear f351
                refine ov_blk (ls2 := [(0, ov_r 90), (1, ov_i x), (2, ov_i y), (3, ov_i m), (4, ov_i bo), (5, ov_i w), (6, ov_i x6_), (7, ov_i v352), (8, ov_i 0)]) (st2 := []) (pc2 := 130) b_297_125_3 rfl rfl ?_
                have L357 : ∀ (n354 : Nat) (x8___ : Int) (z358 : ov_Z) (h359 : ov_H) (I360 : ov_N F z358 h359) (E361 : h359 92 = h 92) (E362 : h359 93 = h 93) (E363 : h359 94 = h 94) (E364 : h359 96 = h 96) (E365 : h359 97 = h 97) (E366 : h359 98 = h 98) (E367 : h359 99 = h 99) (E368 : h359 100 = h 100) (E369 : h359 103 = h 103) (E370 : h359 105 = h 105) (E371 : h359 106 = h 106) (E372 : h359 109 = h 109) (E373 : h359 114 = h 114) (q356 : 0 ≤ x8___ ∧ x8___ ≤ 4 ∧ (h359 90 2) = (h 90 2) ∧ (h359 90 3) = (h 90 3) ∧ (h359 90 7) = (h 90 7) ∧ (h359 90 8) = (h 90 8) ∧ (h359 90 13) = (h 90 13) ∧ (h359 90 20) = (h 90 20) ∧ (h359 90 22) = (h 90 22) ∧ (h359 90 25) = (h 90 25) ∧ (h359 90 26) = (h 90 26) ∧ (h359 90 27) = (h 90 27) ∧ (h359 90 28) = (h 90 28) ∧ (h359 90 29) = (h 90 29) ∧ (h359 90 30) = (h 90 30) ∧ (h359 90 34) = (h 90 34) ∧ (h359 90 35) = (h 90 35) ∧ (h359 90 37) = (h 90 37)), 4 - x8___ < (n354 : Int) → ov_R u d ov_m297 130 [(0, ov_r 90), (1, ov_i x), (2, ov_i y), (3, ov_i m), (4, ov_i bo), (5, ov_i w), (6, ov_i x6_), (7, ov_i v352), (8, ov_i x8___)] [] z358 h359 (P_Mo_wave_90 F z h x y m bo w) := by
                  intro n354
                  induction n354 with
                  | zero =>
                    intro x8___ z358 h359 I360 E361 E362 E363 E364 E365 E366 E367 E368 E369 E370 E371 E372 E373 q356 hn374
                    exact absurd hn374 (by omega)
                  | succ n354 ih355 =>
                    intro x8___ z358 h359 I360 E361 E362 E363 E364 E365 E366 E367 E368 E369 E370 E371 E372 E373 q356 hn374
                    refine ov_blk (ls2 := [(0, ov_r 90), (1, ov_i x), (2, ov_i y), (3, ov_i m), (4, ov_i bo), (5, ov_i w), (6, ov_i x6_), (7, ov_i v352), (8, ov_i x8___)]) (st2 := [ov_i m, ov_i x8___]) (pc2 := 133) b_297_130_2 rfl rfl ?_
                    refine ov_icge (tgt := 241) d_297_133 (by decide) (by omega) (by omega) (fun c375 => ?_) (fun c375 => ?_)
                    · skip
                      refine ov_blk (ls2 := [(0, ov_r 90), (1, ov_i x), (2, ov_i y), (3, ov_i m), (4, ov_i bo), (5, ov_i w), (6, ov_i x6_), (7, ov_i v352), (8, ov_i x8___)]) (st2 := [ov_i (-1), ov_r 90]) (pc2 := 243) b_297_241_2 rfl rfl ?_
                      refine ov_putf (x := (-1)) d_297_243 fl_Mo_439 (zb_90 I360) (zs_90 I360) rfl nk_0 rfl ?_
                      have I376 := up_90_42 (x := (-1)) I360 (by omega)
                      refine ov_blk (ls2 := [(0, ov_r 90), (1, ov_i x), (2, ov_i y), (3, ov_i m), (4, ov_i bo), (5, ov_i w), (6, ov_i x6_), (7, ov_i v352), (8, ov_i x8___)]) (st2 := [ov_i 2, ov_i y, ov_i x, ov_r 90]) (pc2 := 250) b_297_246_4 rfl rfl ?_
                      refine ov_cV (as := [ov_i x, ov_i y, ov_i 2]) (st := []) (d2 := d - 1) d_297_250 lk_Mo_289 rfl (Nat.le_of_ble_eq_true rfl) (c := 1) (zb_90 I376) (zs_90 I376) ⟨by decide, rfl⟩ (by omega) (c_Mo_lightAt_90 (d - 1) (by omega) U I376 x y 2 (by omega) (by omega) (by omega) (by omega) (by omega)) ?_
                      rintro _ _ _ ⟨v378, rfl, rfl, rfl, f377⟩
                      show ov_R u d ov_m297 253 [(0, ov_r 90), (1, ov_i x), (2, ov_i y), (3, ov_i m), (4, ov_i bo), (5, ov_i w), (6, ov_i x6_), (7, ov_i v352), (8, ov_i x8___)] [ov_i v378] z358 (ov_up h359 90 42 (-1)) (P_Mo_wave_90 F z h x y m bo w)
                      rw [show (ov_up h359 90 42 (-1)) 96 = h 96 from E364] at f377
                      have f379 : v378 = (h 96 (10 + 4 * (6 * y + x) + (2 : Int))) ∧ ((2 : Int) = 1 → 0 ≤ v378 ∧ v378 ≤ 60) ∧ ((2 : Int) = 2 → 0 ≤ v378 ∧ v378 ≤ 59) ∧ ((2 : Int) = 3 → 0 ≤ v378 ∧ v378 ≤ 60) := f377
                      clear f377
                      refine ov_blk (ls2 := [(0, ov_r 90), (1, ov_i x), (2, ov_i y), (3, ov_i m), (4, ov_i bo), (5, ov_i w), (6, ov_i x6_), (7, ov_i v352), (8, ov_i x8___)]) (st2 := [ov_i 3, ov_i y, ov_i x, ov_r 90, ov_i v378]) (pc2 := 257) b_297_253_4 rfl rfl ?_
                      refine ov_cV (as := [ov_i x, ov_i y, ov_i 3]) (st := [ov_i v378]) (d2 := d - 1) d_297_257 lk_Mo_289 rfl (Nat.le_of_ble_eq_true rfl) (c := 1) (zb_90 I376) (zs_90 I376) ⟨by decide, rfl⟩ (by omega) (c_Mo_lightAt_90 (d - 1) (by omega) U I376 x y 3 (by omega) (by omega) (by omega) (by omega) (by omega)) ?_
                      rintro _ _ _ ⟨v381, rfl, rfl, rfl, f380⟩
                      show ov_R u d ov_m297 260 [(0, ov_r 90), (1, ov_i x), (2, ov_i y), (3, ov_i m), (4, ov_i bo), (5, ov_i w), (6, ov_i x6_), (7, ov_i v352), (8, ov_i x8___)] [ov_i v381, ov_i v378] z358 (ov_up h359 90 42 (-1)) (P_Mo_wave_90 F z h x y m bo w)
                      rw [show (ov_up h359 90 42 (-1)) 96 = h 96 from E364] at f380
                      have f382 : v381 = (h 96 (10 + 4 * (6 * y + x) + (3 : Int))) ∧ ((3 : Int) = 1 → 0 ≤ v381 ∧ v381 ≤ 60) ∧ ((3 : Int) = 2 → 0 ≤ v381 ∧ v381 ≤ 59) ∧ ((3 : Int) = 3 → 0 ≤ v381 ∧ v381 ≤ 60) := f380
                      clear f380
                      refine ov_blk (ls2 := [(0, ov_r 90), (1, ov_i x), (2, ov_i y), (3, ov_i m), (4, ov_i bo), (5, ov_i w), (6, ov_i x6_), (7, ov_i v352), (8, ov_i x8___)]) (st2 := [ov_i v352, ov_i (v378 + v381)]) (pc2 := 263) b_297_260_2 rfl rfl ?_
                      refine ov_irem d_297_263 (by omega) (by omega) (by omega) ?_
                      have g383 := ov_tmg (a := (v378 + v381)) (b := v352) (by omega) (by omega)
                      refine ov_havw (fun w384 gw384 qw384 => ?_)
                      refine ov_blk (ls2 := [(0, ov_r 90), (1, ov_i x), (2, ov_i y), (3, ov_i m), (4, ov_i bo), (5, ov_i w), (6, ov_i x6_), (7, ov_i v352), (8, ov_i w384)]) (st2 := [ov_r 90]) (pc2 := 267) b_297_264_2 rfl rfl ?_
                      refine ov_getf (v := ov_r 112) d_297_267 fl_Mo_138 (zb_90 I376) (zs_90 I376) (congrArg ov_r (rg_90_40 I376)) ?_
                      refine ov_blk (ls2 := [(0, ov_r 90), (1, ov_i x), (2, ov_i y), (3, ov_i m), (4, ov_i bo), (5, ov_i w), (6, ov_i x6_), (7, ov_i v352), (8, ov_i w384)]) (st2 := [ov_i w384, ov_i 0, ov_r 112]) (pc2 := 273) b_297_270_2 rfl rfl ?_
                      refine ov_iast d_297_273 (zb_112 I376) (zs_112 I376) (by omega) ?_
                      have I385 := ua_112 (k := 0) (x := w384) I376 (by omega)
                      refine ov_blk (ls2 := [(0, ov_r 90), (1, ov_i x), (2, ov_i y), (3, ov_i m), (4, ov_i bo), (5, ov_i w), (6, ov_i x6_), (7, ov_i v352), (8, ov_i w384)]) (st2 := [ov_r 90, ov_i v352, ov_i m, ov_i 1, ov_r 90]) (pc2 := 280) b_297_274_5 rfl rfl ?_
                      refine ov_getf (v := ov_r 110) d_297_280 fl_Mo_132 (zb_90 I385) (zs_90 I385) (congrArg ov_r (rg_90_38 I385)) ?_
                      refine ov_blk (ls2 := [(0, ov_r 90), (1, ov_i x), (2, ov_i y), (3, ov_i m), (4, ov_i bo), (5, ov_i w), (6, ov_i x6_), (7, ov_i v352), (8, ov_i w384)]) (st2 := [ov_i w384, ov_r 110, ov_i v352, ov_i m, ov_i 1, ov_r 90]) (pc2 := 285) b_297_283_1 rfl rfl ?_
                      refine ov_lald d_297_285 (zb_110 I385) (zs_110 I385) (by omega) ?_
                      show ov_R u d ov_m297 286 [(0, ov_r 90), (1, ov_i x), (2, ov_i y), (3, ov_i m), (4, ov_i bo), (5, ov_i w), (6, ov_i x6_), (7, ov_i v352), (8, ov_i w384)] [ov_l (h359 110 w384), ov_i v352, ov_i m, ov_i 1, ov_r 90] z358 (ov_up (ov_up h359 90 42 (-1)) 112 0 w384) (P_Mo_wave_90 F z h x y m bo w)
                      refine ov_blk (ls2 := [(0, ov_r 90), (1, ov_i x), (2, ov_i y), (3, ov_i m), (4, ov_i bo), (5, ov_i w), (6, ov_i x6_), (7, ov_i v352), (8, ov_i w384)]) (st2 := [ov_r 90, ov_l (h359 110 w384), ov_i v352, ov_i m, ov_i 1, ov_r 90]) (pc2 := 287) b_297_286_1 rfl rfl ?_
                      refine ov_getf (v := ov_r 111) d_297_287 fl_Mo_135 (zb_90 I385) (zs_90 I385) (congrArg ov_r (rg_90_39 I385)) ?_
                      refine ov_blk (ls2 := [(0, ov_r 90), (1, ov_i x), (2, ov_i y), (3, ov_i m), (4, ov_i bo), (5, ov_i w), (6, ov_i x6_), (7, ov_i v352), (8, ov_i w384)]) (st2 := [ov_i w384, ov_r 111, ov_l (h359 110 w384), ov_i v352, ov_i m, ov_i 1, ov_r 90]) (pc2 := 292) b_297_290_1 rfl rfl ?_
                      refine ov_lald d_297_292 (zb_111 I385) (zs_111 I385) (by omega) ?_
                      show ov_R u d ov_m297 293 [(0, ov_r 90), (1, ov_i x), (2, ov_i y), (3, ov_i m), (4, ov_i bo), (5, ov_i w), (6, ov_i x6_), (7, ov_i v352), (8, ov_i w384)] [ov_l (h359 111 w384), ov_l (h359 110 w384), ov_i v352, ov_i m, ov_i 1, ov_r 90] z358 (ov_up (ov_up h359 90 42 (-1)) 112 0 w384) (P_Mo_wave_90 F z h x y m bo w)
                      refine ov_blk (ls2 := [(0, ov_r 90), (1, ov_i x), (2, ov_i y), (3, ov_i m), (4, ov_i bo), (5, ov_i w), (6, ov_i x6_), (7, ov_i v352), (8, ov_i w384)]) (st2 := [ov_i bo, ov_l (h359 111 w384), ov_l (h359 110 w384), ov_i v352, ov_i m, ov_i 1, ov_r 90]) (pc2 := 295) b_297_293_1 rfl rfl ?_
                      refine ov_cV (as := [ov_i 1, ov_i m, ov_i v352, ov_l (h359 110 w384), ov_l (h359 111 w384), ov_i bo]) (st := []) (d2 := d - 1) d_297_295 lk_Mo_442 rfl (Nat.le_of_ble_eq_true rfl) (c := 1) (zb_90 I385) (zs_90 I385) ⟨by decide, rfl⟩ (by omega) (c_Mo_triesWave_90_all (Int.toNat ((m) - (1))) (d - 1) (by omega) U I385 1 m v352 (h359 110 w384) (h359 111 w384) bo (by omega) (by omega) (by omega) (by omega) (by omega) (by omega) (by omega)) ?_
                      rintro _ z400 h401 ⟨rfl, I402, f386, e387, e388, e389, e390, e391, e392, e393, e394, e395, e396, e397, e398, e399⟩
                      have E403 : h401 92 = h 92 := Eq.trans e387 E361
                      have E404 : h401 93 = h 93 := Eq.trans e388 E362
                      have E405 : h401 94 = h 94 := Eq.trans e389 E363
                      have E406 : h401 96 = h 96 := Eq.trans e390 E364
                      have E407 : h401 97 = h 97 := Eq.trans e391 E365
                      have E408 : h401 98 = h 98 := Eq.trans e392 E366
                      have E409 : h401 99 = h 99 := Eq.trans e393 E367
                      have E410 : h401 100 = h 100 := Eq.trans e394 E368
                      have E411 : h401 103 = h 103 := Eq.trans e395 E369
                      have E412 : h401 105 = h 105 := Eq.trans e396 E370
                      have E413 : h401 106 = h 106 := Eq.trans e397 E371
                      have E414 : h401 109 = h 109 := Eq.trans e398 E372
                      have E415 : h401 114 = h 114 := Eq.trans e399 E373
                      show ov_R u d ov_m297 298 [(0, ov_r 90), (1, ov_i x), (2, ov_i y), (3, ov_i m), (4, ov_i bo), (5, ov_i w), (6, ov_i x6_), (7, ov_i v352), (8, ov_i w384)] [] z400 h401 (P_Mo_wave_90 F z h x y m bo w)
                      have f416 : (h401 90 2) = (h359 90 2) ∧ (h401 90 3) = (h359 90 3) ∧ (h401 90 7) = (h359 90 7) ∧ (h401 90 8) = (h359 90 8) ∧ (h401 90 13) = (h359 90 13) ∧ (h401 90 20) = (h359 90 20) ∧ (h401 90 22) = (h359 90 22) ∧ (h401 90 25) = (h359 90 25) ∧ (h401 90 26) = (h359 90 26) ∧ (h401 90 27) = (h359 90 27) ∧ (h401 90 28) = (h359 90 28) ∧ (h401 90 29) = (h359 90 29) ∧ (h401 90 30) = (h359 90 30) ∧ (h401 90 34) = (h359 90 34) ∧ (h401 90 35) = (h359 90 35) ∧ (h401 90 37) = (h359 90 37) := f386
                      clear f386
                      refine ov_blk (ls2 := [(0, ov_r 90), (1, ov_i x), (2, ov_i y), (3, ov_i m), (4, ov_i bo), (5, ov_i w), (6, ov_i x6_), (7, ov_i v352), (8, ov_i w384)]) (st2 := [ov_i w]) (pc2 := 300) b_297_298_1 rfl rfl ?_
                      refine ov_ifne (tgt := 310) d_297_300 (by decide) (by omega) (fun c417 => ?_) (fun c417 => ?_)
                      · skip
                        refine ov_blk (ls2 := [(0, ov_r 90), (1, ov_i x), (2, ov_i y), (3, ov_i m), (4, ov_i bo), (5, ov_i w), (6, ov_i x6_), (7, ov_i v352), (8, ov_i w384)]) (st2 := [ov_r 90]) (pc2 := 311) b_297_310_1 rfl rfl ?_
                        refine ov_getf (v := ov_r 113) d_297_311 fl_Mo_141 (zb_90 I402) (zs_90 I402) (congrArg ov_r (rg_90_41 I402)) ?_
                        refine ov_blk (ls2 := [(0, ov_r 90), (1, ov_i x), (2, ov_i y), (3, ov_i m), (4, ov_i bo), (5, ov_i w), (6, ov_i x6_), (7, ov_i v352), (8, ov_i w384)]) (st2 := [ov_i w, ov_r 113]) (pc2 := 316) b_297_314_1 rfl rfl ?_
                        refine ov_iald d_297_316 (zb_113 I402) (zs_113 I402) (by omega) ?_
                        have g418 := ra_113 I402 w
                        exact ov_reti (st := []) d_297_317 rfl ⟨_, rfl, I402, (by show -2147483648 ≤ (h401 113 w) ∧ (h401 113 w) ≤ 2147483647 ∧ (h401 90 2) = (h 90 2) ∧ (h401 90 3) = (h 90 3) ∧ (h401 90 7) = (h 90 7) ∧ (h401 90 8) = (h 90 8) ∧ (h401 90 13) = (h 90 13) ∧ (h401 90 20) = (h 90 20) ∧ (h401 90 22) = (h 90 22) ∧ (h401 90 25) = (h 90 25) ∧ (h401 90 26) = (h 90 26) ∧ (h401 90 27) = (h 90 27) ∧ (h401 90 28) = (h 90 28) ∧ (h401 90 29) = (h 90 29) ∧ (h401 90 30) = (h 90 30) ∧ (h401 90 34) = (h 90 34) ∧ (h401 90 35) = (h 90 35) ∧ (h401 90 37) = (h 90 37); omega), E403, E404, E405, E406, E407, E408, E409, E410, E411, E412, E413, E414, E415⟩
                      · skip
                        refine ov_blk (ls2 := [(0, ov_r 90), (1, ov_i x), (2, ov_i y), (3, ov_i m), (4, ov_i bo), (5, ov_i w), (6, ov_i x6_), (7, ov_i v352), (8, ov_i w384)]) (st2 := [ov_r 90]) (pc2 := 304) b_297_303_1 rfl rfl ?_
                        refine ov_getf (v := ov_i (h401 90 42)) d_297_304 fl_Mo_439 (zb_90 I402) (zs_90 I402) rfl ?_
                        have g419 := rg_90_42 I402
                        refine ov_goto (tgt := 317) d_297_307 (by decide) ?_
                        exact ov_reti (st := []) d_297_317 rfl ⟨_, rfl, I402, (by show -2147483648 ≤ (h401 90 42) ∧ (h401 90 42) ≤ 2147483647 ∧ (h401 90 2) = (h 90 2) ∧ (h401 90 3) = (h 90 3) ∧ (h401 90 7) = (h 90 7) ∧ (h401 90 8) = (h 90 8) ∧ (h401 90 13) = (h 90 13) ∧ (h401 90 20) = (h 90 20) ∧ (h401 90 22) = (h 90 22) ∧ (h401 90 25) = (h 90 25) ∧ (h401 90 26) = (h 90 26) ∧ (h401 90 27) = (h 90 27) ∧ (h401 90 28) = (h 90 28) ∧ (h401 90 29) = (h 90 29) ∧ (h401 90 30) = (h 90 30) ∧ (h401 90 34) = (h 90 34) ∧ (h401 90 35) = (h 90 35) ∧ (h401 90 37) = (h 90 37); omega), E403, E404, E405, E406, E407, E408, E409, E410, E411, E412, E413, E414, E415⟩
                    · skip
                      refine ov_blk (ls2 := [(0, ov_r 90), (1, ov_i x), (2, ov_i y), (3, ov_i m), (4, ov_i bo), (5, ov_i w), (6, ov_i x6_), (7, ov_i v352), (8, ov_i x8___)]) (st2 := [ov_i 3, ov_i (y + x8___), ov_i x, ov_r 90, ov_i v352]) (pc2 := 145) b_297_136_7 rfl rfl ?_
                      refine ov_cV (as := [ov_i x, ov_i (y + x8___), ov_i 3]) (st := [ov_i v352]) (d2 := d - 1) d_297_145 lk_Mo_289 rfl (Nat.le_of_ble_eq_true rfl) (c := 1) (zb_90 I360) (zs_90 I360) ⟨by decide, rfl⟩ (by omega) (c_Mo_lightAt_90 (d - 1) (by omega) U I360 x (y + x8___) 3 (by omega) (by omega) (by omega) (by omega) (by omega)) ?_
                      rintro _ _ _ ⟨v421, rfl, rfl, rfl, f420⟩
                      show ov_R u d ov_m297 148 [(0, ov_r 90), (1, ov_i x), (2, ov_i y), (3, ov_i m), (4, ov_i bo), (5, ov_i w), (6, ov_i x6_), (7, ov_i v352), (8, ov_i x8___)] [ov_i v421, ov_i v352] z358 h359 (P_Mo_wave_90 F z h x y m bo w)
                      rw [show h359 96 = h 96 from E364] at f420
                      have f422 : v421 = (h 96 (10 + 4 * (6 * (y + x8___) + x) + (3 : Int))) ∧ ((3 : Int) = 1 → 0 ≤ v421 ∧ v421 ≤ 60) ∧ ((3 : Int) = 2 → 0 ≤ v421 ∧ v421 ≤ 59) ∧ ((3 : Int) = 3 → 0 ≤ v421 ∧ v421 ≤ 60) := f420
                      clear f420
                      refine ov_blk (ls2 := [(0, ov_r 90), (1, ov_i x), (2, ov_i y), (3, ov_i m), (4, ov_i bo), (5, ov_i w), (6, ov_i x6_), (7, ov_i v352), (8, ov_i x8___), (9, ov_i (v352 - v421)), (10, ov_i 0)]) (st2 := []) (pc2 := 154) b_297_148_4 rfl rfl ?_
                      have L426 : ∀ (n423 : Nat) (x10___ : Int) (z427 : ov_Z) (h428 : ov_H) (I429 : ov_N F z427 h428) (E430 : h428 92 = h 92) (E431 : h428 93 = h 93) (E432 : h428 94 = h 94) (E433 : h428 96 = h 96) (E434 : h428 97 = h 97) (E435 : h428 98 = h 98) (E436 : h428 99 = h 99) (E437 : h428 100 = h 100) (E438 : h428 103 = h 103) (E439 : h428 105 = h 105) (E440 : h428 106 = h 106) (E441 : h428 109 = h 109) (E442 : h428 114 = h 114) (q425 : 0 ≤ x10___ ∧ x10___ ≤ 60 ∧ (h428 90 2) = (h359 90 2) ∧ (h428 90 3) = (h359 90 3) ∧ (h428 90 7) = (h359 90 7) ∧ (h428 90 8) = (h359 90 8) ∧ (h428 90 13) = (h359 90 13) ∧ (h428 90 20) = (h359 90 20) ∧ (h428 90 22) = (h359 90 22) ∧ (h428 90 25) = (h359 90 25) ∧ (h428 90 26) = (h359 90 26) ∧ (h428 90 27) = (h359 90 27) ∧ (h428 90 28) = (h359 90 28) ∧ (h428 90 29) = (h359 90 29) ∧ (h428 90 30) = (h359 90 30) ∧ (h428 90 34) = (h359 90 34) ∧ (h428 90 35) = (h359 90 35) ∧ (h428 90 37) = (h359 90 37)), 60 - x10___ < (n423 : Int) → ov_R u d ov_m297 154 [(0, ov_r 90), (1, ov_i x), (2, ov_i y), (3, ov_i m), (4, ov_i bo), (5, ov_i w), (6, ov_i x6_), (7, ov_i v352), (8, ov_i x8___), (9, ov_i (v352 - v421)), (10, ov_i x10___)] [] z427 h428 (P_Mo_wave_90 F z h x y m bo w) := by
                        intro n423
                        induction n423 with
                        | zero =>
                          intro x10___ z427 h428 I429 E430 E431 E432 E433 E434 E435 E436 E437 E438 E439 E440 E441 E442 q425 hn443
                          exact absurd hn443 (by omega)
                        | succ n423 ih424 =>
                          intro x10___ z427 h428 I429 E430 E431 E432 E433 E434 E435 E436 E437 E438 E439 E440 E441 E442 q425 hn443
                          refine ov_blk (ls2 := [(0, ov_r 90), (1, ov_i x), (2, ov_i y), (3, ov_i m), (4, ov_i bo), (5, ov_i w), (6, ov_i x6_), (7, ov_i v352), (8, ov_i x8___), (9, ov_i (v352 - v421)), (10, ov_i x10___)]) (st2 := [ov_i v352, ov_i x10___]) (pc2 := 158) b_297_154_2 rfl rfl ?_
                          refine ov_icge (tgt := 235) d_297_158 (by decide) (by omega) (by omega) (fun c444 => ?_) (fun c444 => ?_)
                          · skip
                            refine ov_blk (ls2 := [(0, ov_r 90), (1, ov_i x), (2, ov_i y), (3, ov_i m), (4, ov_i bo), (5, ov_i w), (6, ov_i x6_), (7, ov_i v352), (8, ov_i (x8___ + 1)), (9, ov_i (v352 - v421)), (10, ov_i x10___)]) (st2 := []) (pc2 := 238) b_297_235_1 rfl rfl ?_
                            refine ov_goto (tgt := 130) d_297_238 (by decide) ?_
                            refine ov_sub (ls2 := [(0, ov_r 90), (1, ov_i x), (2, ov_i y), (3, ov_i m), (4, ov_i bo), (5, ov_i w), (6, ov_i x6_), (7, ov_i v352), (8, ov_i (x8___ + 1))]) (List.Sublist.subset (by repeat (first | exact List.Sublist.refl _ | apply List.Sublist.cons_cons | apply List.Sublist.cons))) ?_
                            exact ih355 (x8___ + 1) _ _ I429 E430 E431 E432 E433 E434 E435 E436 E437 E438 E439 E440 E441 E442 (by show 0 ≤ (x8___ + 1) ∧ (x8___ + 1) ≤ 4 ∧ (h428 90 2) = (h 90 2) ∧ (h428 90 3) = (h 90 3) ∧ (h428 90 7) = (h 90 7) ∧ (h428 90 8) = (h 90 8) ∧ (h428 90 13) = (h 90 13) ∧ (h428 90 20) = (h 90 20) ∧ (h428 90 22) = (h 90 22) ∧ (h428 90 25) = (h 90 25) ∧ (h428 90 26) = (h 90 26) ∧ (h428 90 27) = (h 90 27) ∧ (h428 90 28) = (h 90 28) ∧ (h428 90 29) = (h 90 29) ∧ (h428 90 30) = (h 90 30) ∧ (h428 90 34) = (h 90 34) ∧ (h428 90 35) = (h 90 35) ∧ (h428 90 37) = (h 90 37); omega) (by omega)
                          · skip
                            refine ov_blk (ls2 := [(0, ov_r 90), (1, ov_i x), (2, ov_i y), (3, ov_i m), (4, ov_i bo), (5, ov_i w), (6, ov_i x6_), (7, ov_i v352), (8, ov_i x8___), (9, ov_i (v352 - v421)), (10, ov_i x10___)]) (st2 := [ov_r 90]) (pc2 := 162) b_297_161_1 rfl rfl ?_
                            refine ov_getf (v := ov_r 110) d_297_162 fl_Mo_132 (zb_90 I429) (zs_90 I429) (congrArg ov_r (rg_90_38 I429)) ?_
                            refine ov_blk (ls2 := [(0, ov_r 90), (1, ov_i x), (2, ov_i y), (3, ov_i m), (4, ov_i bo), (5, ov_i w), (6, ov_i x6_), (7, ov_i v352), (8, ov_i x8___), (9, ov_i (v352 - v421)), (10, ov_i x10___)]) (st2 := [ov_r 90, ov_i x8___, ov_i x10___, ov_i ((60 * x8___) + x10___), ov_r 110]) (pc2 := 178) b_297_165_8 rfl rfl ?_
                            refine ov_getf (v := ov_r 96) d_297_178 fl_Mo_81 (zb_90 I429) (zs_90 I429) (congrArg ov_r (rg_90_10 I429)) ?_
                            refine ov_blk (ls2 := [(0, ov_r 90), (1, ov_i x), (2, ov_i y), (3, ov_i m), (4, ov_i bo), (5, ov_i w), (6, ov_i x6_), (7, ov_i v352), (8, ov_i x8___), (9, ov_i (v352 - v421)), (10, ov_i x10___)]) (st2 := [ov_i 2, ov_r 96, ov_i x8___, ov_i x10___, ov_i ((60 * x8___) + x10___), ov_r 110]) (pc2 := 182) b_297_181_1 rfl rfl ?_
                            refine ov_iald d_297_182 (zb_96 I429) (zs_96 I429) (by omega) ?_
                            rw [show h428 96 = h 96 from E433]
                            have g445 := t96_2 I
                            have gm446 := ov_mulb (q := x8___) (b := (h 96 2)) (A := 4) (B := 30) (by omega) (by omega) (by omega) (by omega)
                            refine ov_blk (ls2 := [(0, ov_r 90), (1, ov_i x), (2, ov_i y), (3, ov_i m), (4, ov_i bo), (5, ov_i w), (6, ov_i x6_), (7, ov_i v352), (8, ov_i x8___), (9, ov_i (v352 - v421)), (10, ov_i x10___)]) (st2 := [ov_i v352, ov_i (v352 - v421), ov_i (x10___ - (x8___ * (h 96 2))), ov_i ((60 * x8___) + x10___), ov_r 110]) (pc2 := 189) b_297_183_4 rfl rfl ?_
                            refine ov_cS (as := [ov_i (x10___ - (x8___ * (h 96 2))), ov_i (v352 - v421), ov_i v352]) (st := [ov_i ((60 * x8___) + x10___), ov_r 110]) (d2 := d - 1) d_297_189 lk_Mo_446 rfl (Nat.le_of_ble_eq_true rfl) (by omega) (c_Mo_turned (d - 1) (by omega) U I429 (x10___ - (x8___ * (h 96 2))) (v352 - v421) v352 (by omega) (by omega) (by omega) (by omega) (by omega)) ?_
                            rintro _ _ _ ⟨v448, rfl, rfl, rfl, f447⟩
                            show ov_R u d ov_m297 192 [(0, ov_r 90), (1, ov_i x), (2, ov_i y), (3, ov_i m), (4, ov_i bo), (5, ov_i w), (6, ov_i x6_), (7, ov_i v352), (8, ov_i x8___), (9, ov_i (v352 - v421)), (10, ov_i x10___)] [ov_l v448, ov_i ((60 * x8___) + x10___), ov_r 110] z427 h428 (P_Mo_wave_90 F z h x y m bo w)
                            clear f447
                            refine ov_last d_297_192 (zb_110 I429) (zs_110 I429) (by omega) ?_
                            have I449 := ua_110 (k := ((60 * x8___) + x10___)) (x := v448) I429
                            refine ov_blk (ls2 := [(0, ov_r 90), (1, ov_i x), (2, ov_i y), (3, ov_i m), (4, ov_i bo), (5, ov_i w), (6, ov_i x6_), (7, ov_i v352), (8, ov_i x8___), (9, ov_i (v352 - v421)), (10, ov_i x10___)]) (st2 := [ov_r 90]) (pc2 := 194) b_297_193_1 rfl rfl ?_
                            refine ov_getf (v := ov_r 111) d_297_194 fl_Mo_135 (zb_90 I449) (zs_90 I449) (congrArg ov_r (rg_90_39 I449)) ?_
                            refine ov_blk (ls2 := [(0, ov_r 90), (1, ov_i x), (2, ov_i y), (3, ov_i m), (4, ov_i bo), (5, ov_i w), (6, ov_i x6_), (7, ov_i v352), (8, ov_i x8___), (9, ov_i (v352 - v421)), (10, ov_i x10___)]) (st2 := [ov_r 90, ov_i ((m - 1) - x8___), ov_i x10___, ov_i ((60 * x8___) + x10___), ov_r 111]) (pc2 := 214) b_297_197_12 rfl rfl ?_
                            refine ov_getf (v := ov_r 96) d_297_214 fl_Mo_81 (zb_90 I449) (zs_90 I449) (congrArg ov_r (rg_90_10 I449)) ?_
                            refine ov_blk (ls2 := [(0, ov_r 90), (1, ov_i x), (2, ov_i y), (3, ov_i m), (4, ov_i bo), (5, ov_i w), (6, ov_i x6_), (7, ov_i v352), (8, ov_i x8___), (9, ov_i (v352 - v421)), (10, ov_i x10___)]) (st2 := [ov_i 2, ov_r 96, ov_i ((m - 1) - x8___), ov_i x10___, ov_i ((60 * x8___) + x10___), ov_r 111]) (pc2 := 218) b_297_217_1 rfl rfl ?_
                            refine ov_iald d_297_218 (zb_96 I449) (zs_96 I449) (by omega) ?_
                            rw [show (ov_up h428 110 ((60 * x8___) + x10___) v448) 96 = h 96 from E433]
                            have gm451 := ov_mulb (q := ((m - 1) - x8___)) (b := (h 96 2)) (A := 4) (B := 30) (by omega) (by omega) (by omega) (by omega)
                            refine ov_blk (ls2 := [(0, ov_r 90), (1, ov_i x), (2, ov_i y), (3, ov_i m), (4, ov_i bo), (5, ov_i w), (6, ov_i x6_), (7, ov_i v352), (8, ov_i x8___), (9, ov_i (v352 - v421)), (10, ov_i x10___)]) (st2 := [ov_i v352, ov_i (v352 - v421), ov_i (x10___ - (((m - 1) - x8___) * (h 96 2))), ov_i ((60 * x8___) + x10___), ov_r 111]) (pc2 := 225) b_297_219_4 rfl rfl ?_
                            refine ov_cS (as := [ov_i (x10___ - (((m - 1) - x8___) * (h 96 2))), ov_i (v352 - v421), ov_i v352]) (st := [ov_i ((60 * x8___) + x10___), ov_r 111]) (d2 := d - 1) d_297_225 lk_Mo_446 rfl (Nat.le_of_ble_eq_true rfl) (by omega) (c_Mo_turned (d - 1) (by omega) U I449 (x10___ - (((m - 1) - x8___) * (h 96 2))) (v352 - v421) v352 (by omega) (by omega) (by omega) (by omega) (by omega)) ?_
                            rintro _ _ _ ⟨v453, rfl, rfl, rfl, f452⟩
                            show ov_R u d ov_m297 228 [(0, ov_r 90), (1, ov_i x), (2, ov_i y), (3, ov_i m), (4, ov_i bo), (5, ov_i w), (6, ov_i x6_), (7, ov_i v352), (8, ov_i x8___), (9, ov_i (v352 - v421)), (10, ov_i x10___)] [ov_l v453, ov_i ((60 * x8___) + x10___), ov_r 111] z427 (ov_up h428 110 ((60 * x8___) + x10___) v448) (P_Mo_wave_90 F z h x y m bo w)
                            clear f452
                            refine ov_last d_297_228 (zb_111 I449) (zs_111 I449) (by omega) ?_
                            have I454 := ua_111 (k := ((60 * x8___) + x10___)) (x := v453) I449
                            refine ov_blk (ls2 := [(0, ov_r 90), (1, ov_i x), (2, ov_i y), (3, ov_i m), (4, ov_i bo), (5, ov_i w), (6, ov_i x6_), (7, ov_i v352), (8, ov_i x8___), (9, ov_i (v352 - v421)), (10, ov_i (x10___ + 1))]) (st2 := []) (pc2 := 232) b_297_229_1 rfl rfl ?_
                            refine ov_goto (tgt := 154) d_297_232 (by decide) ?_
                            exact ih424 (x10___ + 1) _ _ I454 E430 E431 E432 E433 E434 E435 E436 E437 E438 E439 E440 E441 E442 (by show 0 ≤ (x10___ + 1) ∧ (x10___ + 1) ≤ 60 ∧ (h428 90 2) = (h359 90 2) ∧ (h428 90 3) = (h359 90 3) ∧ (h428 90 7) = (h359 90 7) ∧ (h428 90 8) = (h359 90 8) ∧ (h428 90 13) = (h359 90 13) ∧ (h428 90 20) = (h359 90 20) ∧ (h428 90 22) = (h359 90 22) ∧ (h428 90 25) = (h359 90 25) ∧ (h428 90 26) = (h359 90 26) ∧ (h428 90 27) = (h359 90 27) ∧ (h428 90 28) = (h359 90 28) ∧ (h428 90 29) = (h359 90 29) ∧ (h428 90 30) = (h359 90 30) ∧ (h428 90 34) = (h359 90 34) ∧ (h428 90 35) = (h359 90 35) ∧ (h428 90 37) = (h359 90 37); omega) (by omega)
                      exact L426 61 0 _ _ I360 E361 E362 E363 E364 E365 E366 E367 E368 E369 E370 E371 E372 E373 (by show 0 ≤ 0 ∧ 0 ≤ 60 ∧ (h359 90 2) = (h359 90 2) ∧ (h359 90 3) = (h359 90 3) ∧ (h359 90 7) = (h359 90 7) ∧ (h359 90 8) = (h359 90 8) ∧ (h359 90 13) = (h359 90 13) ∧ (h359 90 20) = (h359 90 20) ∧ (h359 90 22) = (h359 90 22) ∧ (h359 90 25) = (h359 90 25) ∧ (h359 90 26) = (h359 90 26) ∧ (h359 90 27) = (h359 90 27) ∧ (h359 90 28) = (h359 90 28) ∧ (h359 90 29) = (h359 90 29) ∧ (h359 90 30) = (h359 90 30) ∧ (h359 90 34) = (h359 90 34) ∧ (h359 90 35) = (h359 90 35) ∧ (h359 90 37) = (h359 90 37); omega) (by omega)
                exact L357 5 0 _ _ I1 rfl rfl rfl rfl rfl rfl rfl rfl rfl rfl rfl rfl rfl (by show 0 ≤ 0 ∧ 0 ≤ 4 ∧ (h 90 2) = (h 90 2) ∧ (h 90 3) = (h 90 3) ∧ (h 90 7) = (h 90 7) ∧ (h 90 8) = (h 90 8) ∧ (h 90 13) = (h 90 13) ∧ (h 90 20) = (h 90 20) ∧ (h 90 22) = (h 90 22) ∧ (h 90 25) = (h 90 25) ∧ (h 90 26) = (h 90 26) ∧ (h 90 27) = (h 90 27) ∧ (h 90 28) = (h 90 28) ∧ (h 90 29) = (h 90 29) ∧ (h 90 30) = (h 90 30) ∧ (h 90 34) = (h 90 34) ∧ (h 90 35) = (h 90 35) ∧ (h 90 37) = (h 90 37); omega) (by omega)
              · skip
                refine ov_blk (ls2 := [(0, ov_r 90), (1, ov_i x), (2, ov_i y), (3, ov_i m), (4, ov_i bo), (5, ov_i w), (6, ov_i x6_), (7, ov_i x7_)]) (st2 := [ov_i (-1)]) (pc2 := 117) b_297_116_1 rfl rfl ?_
                exact ov_reti (st := []) d_297_117 rfl ⟨_, rfl, I1, (by show -2147483648 ≤ (-1) ∧ (-1) ≤ 2147483647 ∧ (h 90 2) = (h 90 2) ∧ (h 90 3) = (h 90 3) ∧ (h 90 7) = (h 90 7) ∧ (h 90 8) = (h 90 8) ∧ (h 90 13) = (h 90 13) ∧ (h 90 20) = (h 90 20) ∧ (h 90 22) = (h 90 22) ∧ (h 90 25) = (h 90 25) ∧ (h 90 26) = (h 90 26) ∧ (h 90 27) = (h 90 27) ∧ (h 90 28) = (h 90 28) ∧ (h 90 29) = (h 90 29) ∧ (h 90 30) = (h 90 30) ∧ (h 90 34) = (h 90 34) ∧ (h 90 35) = (h 90 35) ∧ (h 90 37) = (h 90 37); omega), rfl, rfl, rfl, rfl, rfl, rfl, rfl, rfl, rfl, rfl, rfl, rfl, rfl⟩
            · skip
              refine ov_blk (ls2 := [(0, ov_r 90), (1, ov_i x), (2, ov_i y), (3, ov_i m), (4, ov_i bo), (5, ov_i w), (6, ov_i x6_), (7, ov_i x7_)]) (st2 := [ov_i (y + x7_), ov_i x, ov_r 90]) (pc2 := 72) b_297_66_5 rfl rfl ?_
              refine ov_cV (as := [ov_i x, ov_i (y + x7_)]) (st := []) (d2 := d - 1) d_297_72 lk_Mo_285 rfl (Nat.le_of_ble_eq_true rfl) (c := 1) (zb_90 I1) (zs_90 I1) ⟨by decide, rfl⟩ (by omega) (c_Mo_isTimed_90 (d - 1) (by omega) U I1 x (y + x7_) (by omega) (by omega) (by omega)) ?_
              rintro _ _ _ ⟨v456, rfl, rfl, rfl, f455⟩
              show ov_R u d ov_m297 75 [(0, ov_r 90), (1, ov_i x), (2, ov_i y), (3, ov_i m), (4, ov_i bo), (5, ov_i w), (6, ov_i x6_), (7, ov_i x7_)] [ov_i v456] z (ov_up h 90 0 0) (P_Mo_wave_90 F z h x y m bo w)
              have f457 : (v456 = 0 ∨ v456 = 1) ∧ (v456 = 1 → ((h 96 (10 + 4 * (6 * (y + x7_) + x))) = 1 ∨ (h 96 (10 + 4 * (6 * (y + x7_) + x))) = 2)) ∧ (v456 = 0 → ¬ ((h 96 (10 + 4 * (6 * (y + x7_) + x))) = 1 ∨ (h 96 (10 + 4 * (6 * (y + x7_) + x))) = 2)) := f455
              clear f455
              refine ov_ifeq (tgt := 102) d_297_75 (by decide) (by omega) (fun c458 => ?_) (fun c458 => ?_)
              · skip
                refine ov_blk (ls2 := [(0, ov_r 90), (1, ov_i x), (2, ov_i y), (3, ov_i m), (4, ov_i bo), (5, ov_i w), (6, ov_i 0), (7, ov_i (x7_ + 1))]) (st2 := []) (pc2 := 108) b_297_102_3 rfl rfl ?_
                refine ov_goto (tgt := 55) d_297_108 (by decide) ?_
                exact ih239 0 (x7_ + 1) (by show (0 = 0 ∨ 0 = 1) ∧ 0 ≤ (x7_ + 1) ∧ (x7_ + 1) ≤ 4 ∧ (0 = 1 → 0 ≤ x ∧ x ≤ 5 ∧ 0 ≤ y ∧ y ≤ 8 ∧ 2 ≤ m ∧ m ≤ 4 ∧ y + m ≤ 9 ∧ 0 ≤ w ∧ w ≤ m - 1 ∧ (1 ≤ (x7_ + 1) → ((h 96 (10 + 4 * (6 * y + x))) = 1 ∨ (h 96 (10 + 4 * (6 * y + x))) = 2))); omega) (by omega)
              · skip
                refine ov_blk (ls2 := [(0, ov_r 90), (1, ov_i x), (2, ov_i y), (3, ov_i m), (4, ov_i bo), (5, ov_i w), (6, ov_i x6_), (7, ov_i x7_)]) (st2 := [ov_i 1, ov_i (y + x7_), ov_i x, ov_r 90]) (pc2 := 85) b_297_78_6 rfl rfl ?_
                refine ov_cV (as := [ov_i x, ov_i (y + x7_), ov_i 1]) (st := []) (d2 := d - 1) d_297_85 lk_Mo_289 rfl (Nat.le_of_ble_eq_true rfl) (c := 1) (zb_90 I1) (zs_90 I1) ⟨by decide, rfl⟩ (by omega) (c_Mo_lightAt_90 (d - 1) (by omega) U I1 x (y + x7_) 1 (by omega) (by omega) (by omega) (by omega) (by omega)) ?_
                rintro _ _ _ ⟨v460, rfl, rfl, rfl, f459⟩
                show ov_R u d ov_m297 88 [(0, ov_r 90), (1, ov_i x), (2, ov_i y), (3, ov_i m), (4, ov_i bo), (5, ov_i w), (6, ov_i x6_), (7, ov_i x7_)] [ov_i v460] z (ov_up h 90 0 0) (P_Mo_wave_90 F z h x y m bo w)
                have f461 : v460 = (h 96 (10 + 4 * (6 * (y + x7_) + x) + (1 : Int))) ∧ ((1 : Int) = 1 → 0 ≤ v460 ∧ v460 ≤ 60) ∧ ((1 : Int) = 2 → 0 ≤ v460 ∧ v460 ≤ 59) ∧ ((1 : Int) = 3 → 0 ≤ v460 ∧ v460 ≤ 60) := f459
                clear f459
                refine ov_blk (ls2 := [(0, ov_r 90), (1, ov_i x), (2, ov_i y), (3, ov_i m), (4, ov_i bo), (5, ov_i w), (6, ov_i x6_), (7, ov_i x7_)]) (st2 := [ov_i 1, ov_i y, ov_i x, ov_r 90, ov_i v460]) (pc2 := 92) b_297_88_4 rfl rfl ?_
                refine ov_cV (as := [ov_i x, ov_i y, ov_i 1]) (st := [ov_i v460]) (d2 := d - 1) d_297_92 lk_Mo_289 rfl (Nat.le_of_ble_eq_true rfl) (c := 1) (zb_90 I1) (zs_90 I1) ⟨by decide, rfl⟩ (by omega) (c_Mo_lightAt_90 (d - 1) (by omega) U I1 x y 1 (by omega) (by omega) (by omega) (by omega) (by omega)) ?_
                rintro _ _ _ ⟨v463, rfl, rfl, rfl, f462⟩
                show ov_R u d ov_m297 95 [(0, ov_r 90), (1, ov_i x), (2, ov_i y), (3, ov_i m), (4, ov_i bo), (5, ov_i w), (6, ov_i x6_), (7, ov_i x7_)] [ov_i v463, ov_i v460] z (ov_up h 90 0 0) (P_Mo_wave_90 F z h x y m bo w)
                have f464 : v463 = (h 96 (10 + 4 * (6 * y + x) + (1 : Int))) ∧ ((1 : Int) = 1 → 0 ≤ v463 ∧ v463 ≤ 60) ∧ ((1 : Int) = 2 → 0 ≤ v463 ∧ v463 ≤ 59) ∧ ((1 : Int) = 3 → 0 ≤ v463 ∧ v463 ≤ 60) := f462
                clear f462
                refine ov_icne (tgt := 102) d_297_95 (by decide) (by omega) (by omega) (fun c465 => ?_) (fun c465 => ?_)
                · skip
                  refine ov_blk (ls2 := [(0, ov_r 90), (1, ov_i x), (2, ov_i y), (3, ov_i m), (4, ov_i bo), (5, ov_i w), (6, ov_i 0), (7, ov_i (x7_ + 1))]) (st2 := []) (pc2 := 108) b_297_102_3 rfl rfl ?_
                  refine ov_goto (tgt := 55) d_297_108 (by decide) ?_
                  exact ih239 0 (x7_ + 1) (by show (0 = 0 ∨ 0 = 1) ∧ 0 ≤ (x7_ + 1) ∧ (x7_ + 1) ≤ 4 ∧ (0 = 1 → 0 ≤ x ∧ x ≤ 5 ∧ 0 ≤ y ∧ y ≤ 8 ∧ 2 ≤ m ∧ m ≤ 4 ∧ y + m ≤ 9 ∧ 0 ≤ w ∧ w ≤ m - 1 ∧ (1 ≤ (x7_ + 1) → ((h 96 (10 + 4 * (6 * y + x))) = 1 ∨ (h 96 (10 + 4 * (6 * y + x))) = 2))); omega) (by omega)
                · skip
                  refine ov_blk (ls2 := [(0, ov_r 90), (1, ov_i x), (2, ov_i y), (3, ov_i m), (4, ov_i bo), (5, ov_i w), (6, ov_i x6_), (7, ov_i x7_)]) (st2 := [ov_i 1]) (pc2 := 99) b_297_98_1 rfl rfl ?_
                  refine ov_goto (tgt := 103) d_297_99 (by decide) ?_
                  refine ov_blk (ls2 := [(0, ov_r 90), (1, ov_i x), (2, ov_i y), (3, ov_i m), (4, ov_i bo), (5, ov_i w), (6, ov_i 1), (7, ov_i (x7_ + 1))]) (st2 := []) (pc2 := 108) b_297_103_2 rfl rfl ?_
                  refine ov_goto (tgt := 55) d_297_108 (by decide) ?_
                  exact ih239 1 (x7_ + 1) (by show (1 = 0 ∨ 1 = 1) ∧ 0 ≤ (x7_ + 1) ∧ (x7_ + 1) ≤ 4 ∧ (1 = 1 → 0 ≤ x ∧ x ≤ 5 ∧ 0 ≤ y ∧ y ≤ 8 ∧ 2 ≤ m ∧ m ≤ 4 ∧ y + m ≤ 9 ∧ 0 ≤ w ∧ w ≤ m - 1 ∧ (1 ≤ (x7_ + 1) → ((h 96 (10 + 4 * (6 * y + x))) = 1 ∨ (h 96 (10 + 4 * (6 * y + x))) = 2))); omega) (by omega)
      exact L241 5 0 0 (by show (0 = 0 ∨ 0 = 1) ∧ 0 ≤ 0 ∧ 0 ≤ 4 ∧ (0 = 1 → 0 ≤ x ∧ x ≤ 5 ∧ 0 ≤ y ∧ y ≤ 8 ∧ 2 ≤ m ∧ m ≤ 4 ∧ y + m ≤ 9 ∧ 0 ≤ w ∧ w ≤ m - 1 ∧ (1 ≤ 0 → ((h 96 (10 + 4 * (6 * y + x))) = 1 ∨ (h 96 (10 + 4 * (6 * y + x))) = 2))); omega) (by omega)
    · skip
      refine ov_blk (ls2 := [(0, ov_r 90), (1, ov_i x), (2, ov_i y), (3, ov_i m), (4, ov_i bo), (5, ov_i w)]) (st2 := [ov_r 90, ov_i (y + m)]) (pc2 := 27) b_297_23_4 rfl rfl ?_
      refine ov_cV (as := []) (st := [ov_i (y + m)]) (d2 := d - 1) d_297_27 lk_Mo_279 rfl (Nat.le_of_ble_eq_true rfl) (c := 1) (zb_90 I1) (zs_90 I1) ⟨by decide, rfl⟩ (by omega) (c_Mo_deep_90 (d - 1) (by omega) U I1) ?_
      rintro _ _ _ ⟨v467, rfl, rfl, rfl, f466⟩
      show ov_R u d ov_m297 30 [(0, ov_r 90), (1, ov_i x), (2, ov_i y), (3, ov_i m), (4, ov_i bo), (5, ov_i w)] [ov_i v467, ov_i (y + m)] z (ov_up h 90 0 0) (P_Mo_wave_90 F z h x y m bo w)
      have f468 : v467 = (h 96 1) ∧ 1 ≤ v467 ∧ v467 ≤ 9 := f466
      clear f466
      refine ov_icgt (tgt := 49) d_297_30 (by decide) (by omega) (by omega) (fun c469 => ?_) (fun c469 => ?_)
      · skip
        refine ov_blk (ls2 := [(0, ov_r 90), (1, ov_i x), (2, ov_i y), (3, ov_i m), (4, ov_i bo), (5, ov_i w), (6, ov_i 0), (7, ov_i 0)]) (st2 := []) (pc2 := 55) b_297_49_4 rfl rfl ?_
        have L473 : ∀ (n470 : Nat) (x6__ : Int) (x7__ : Int) (q472 : (x6__ = 0 ∨ x6__ = 1) ∧ 0 ≤ x7__ ∧ x7__ ≤ 4 ∧ (x6__ = 1 → 0 ≤ x ∧ x ≤ 5 ∧ 0 ≤ y ∧ y ≤ 8 ∧ 2 ≤ m ∧ m ≤ 4 ∧ y + m ≤ 9 ∧ 0 ≤ w ∧ w ≤ m - 1 ∧ (1 ≤ x7__ → ((h 96 (10 + 4 * (6 * y + x))) = 1 ∨ (h 96 (10 + 4 * (6 * y + x))) = 2)))), 4 - x7__ < (n470 : Int) → ov_R u d ov_m297 55 [(0, ov_r 90), (1, ov_i x), (2, ov_i y), (3, ov_i m), (4, ov_i bo), (5, ov_i w), (6, ov_i x6__), (7, ov_i x7__)] [] z (ov_up h 90 0 0) (P_Mo_wave_90 F z h x y m bo w) := by
          intro n470
          induction n470 with
          | zero =>
            intro x6__ x7__ q472 hn474
            exact absurd hn474 (by omega)
          | succ n470 ih471 =>
            intro x6__ x7__ q472 hn474
            refine ov_blk (ls2 := [(0, ov_r 90), (1, ov_i x), (2, ov_i y), (3, ov_i m), (4, ov_i bo), (5, ov_i w), (6, ov_i x6__), (7, ov_i x7__)]) (st2 := [ov_i m, ov_i x7__]) (pc2 := 58) b_297_55_2 rfl rfl ?_
            refine ov_icge (tgt := 111) d_297_58 (by decide) (by omega) (by omega) (fun c475 => ?_) (fun c475 => ?_)
            · skip
              refine ov_blk (ls2 := [(0, ov_r 90), (1, ov_i x), (2, ov_i y), (3, ov_i m), (4, ov_i bo), (5, ov_i w), (6, ov_i x6__), (7, ov_i x7__)]) (st2 := [ov_i x6__]) (pc2 := 113) b_297_111_1 rfl rfl ?_
              refine ov_ifne (tgt := 118) d_297_113 (by decide) (by omega) (fun c476 => ?_) (fun c476 => ?_)
              · skip
                have w1 := ov_WT_at W (c := 6 * y + x) (by omega)
                refine ov_blk (ls2 := [(0, ov_r 90), (1, ov_i x), (2, ov_i y), (3, ov_i m), (4, ov_i bo), (5, ov_i w), (6, ov_i x6__), (7, ov_i x7__)]) (st2 := [ov_i 1, ov_i y, ov_i x, ov_r 90]) (pc2 := 122) b_297_118_4 rfl rfl ?_
                refine ov_cV (as := [ov_i x, ov_i y, ov_i 1]) (st := []) (d2 := d - 1) d_297_122 lk_Mo_289 rfl (Nat.le_of_ble_eq_true rfl) (c := 1) (zb_90 I1) (zs_90 I1) ⟨by decide, rfl⟩ (by omega) (c_Mo_lightAt_90 (d - 1) (by omega) U I1 x y 1 (by omega) (by omega) (by omega) (by omega) (by omega)) ?_
                rintro _ _ _ ⟨v478, rfl, rfl, rfl, f477⟩
                show ov_R u d ov_m297 125 [(0, ov_r 90), (1, ov_i x), (2, ov_i y), (3, ov_i m), (4, ov_i bo), (5, ov_i w), (6, ov_i x6__), (7, ov_i x7__)] [ov_i v478] z (ov_up h 90 0 0) (P_Mo_wave_90 F z h x y m bo w)
                have f479 : v478 = (h 96 (10 + 4 * (6 * y + x) + (1 : Int))) ∧ ((1 : Int) = 1 → 0 ≤ v478 ∧ v478 ≤ 60) ∧ ((1 : Int) = 2 → 0 ≤ v478 ∧ v478 ≤ 59) ∧ ((1 : Int) = 3 → 0 ≤ v478 ∧ v478 ≤ 60) := f477
                clear f477
                refine ov_blk (ls2 := [(0, ov_r 90), (1, ov_i x), (2, ov_i y), (3, ov_i m), (4, ov_i bo), (5, ov_i w), (6, ov_i x6__), (7, ov_i v478), (8, ov_i 0)]) (st2 := []) (pc2 := 130) b_297_125_3 rfl rfl ?_
                have L483 : ∀ (n480 : Nat) (x8____ : Int) (z484 : ov_Z) (h485 : ov_H) (I486 : ov_N F z484 h485) (E487 : h485 92 = h 92) (E488 : h485 93 = h 93) (E489 : h485 94 = h 94) (E490 : h485 96 = h 96) (E491 : h485 97 = h 97) (E492 : h485 98 = h 98) (E493 : h485 99 = h 99) (E494 : h485 100 = h 100) (E495 : h485 103 = h 103) (E496 : h485 105 = h 105) (E497 : h485 106 = h 106) (E498 : h485 109 = h 109) (E499 : h485 114 = h 114) (q482 : 0 ≤ x8____ ∧ x8____ ≤ 4 ∧ (h485 90 2) = (h 90 2) ∧ (h485 90 3) = (h 90 3) ∧ (h485 90 7) = (h 90 7) ∧ (h485 90 8) = (h 90 8) ∧ (h485 90 13) = (h 90 13) ∧ (h485 90 20) = (h 90 20) ∧ (h485 90 22) = (h 90 22) ∧ (h485 90 25) = (h 90 25) ∧ (h485 90 26) = (h 90 26) ∧ (h485 90 27) = (h 90 27) ∧ (h485 90 28) = (h 90 28) ∧ (h485 90 29) = (h 90 29) ∧ (h485 90 30) = (h 90 30) ∧ (h485 90 34) = (h 90 34) ∧ (h485 90 35) = (h 90 35) ∧ (h485 90 37) = (h 90 37)), 4 - x8____ < (n480 : Int) → ov_R u d ov_m297 130 [(0, ov_r 90), (1, ov_i x), (2, ov_i y), (3, ov_i m), (4, ov_i bo), (5, ov_i w), (6, ov_i x6__), (7, ov_i v478), (8, ov_i x8____)] [] z484 h485 (P_Mo_wave_90 F z h x y m bo w) := by
                  intro n480
                  induction n480 with
                  | zero =>
                    intro x8____ z484 h485 I486 E487 E488 E489 E490 E491 E492 E493 E494 E495 E496 E497 E498 E499 q482 hn500
                    exact absurd hn500 (by omega)
                  | succ n480 ih481 =>
                    intro x8____ z484 h485 I486 E487 E488 E489 E490 E491 E492 E493 E494 E495 E496 E497 E498 E499 q482 hn500
                    refine ov_blk (ls2 := [(0, ov_r 90), (1, ov_i x), (2, ov_i y), (3, ov_i m), (4, ov_i bo), (5, ov_i w), (6, ov_i x6__), (7, ov_i v478), (8, ov_i x8____)]) (st2 := [ov_i m, ov_i x8____]) (pc2 := 133) b_297_130_2 rfl rfl ?_
                    refine ov_icge (tgt := 241) d_297_133 (by decide) (by omega) (by omega) (fun c501 => ?_) (fun c501 => ?_)
                    · skip
                      refine ov_blk (ls2 := [(0, ov_r 90), (1, ov_i x), (2, ov_i y), (3, ov_i m), (4, ov_i bo), (5, ov_i w), (6, ov_i x6__), (7, ov_i v478), (8, ov_i x8____)]) (st2 := [ov_i (-1), ov_r 90]) (pc2 := 243) b_297_241_2 rfl rfl ?_
                      refine ov_putf (x := (-1)) d_297_243 fl_Mo_439 (zb_90 I486) (zs_90 I486) rfl nk_0 rfl ?_
                      have I502 := up_90_42 (x := (-1)) I486 (by omega)
                      refine ov_blk (ls2 := [(0, ov_r 90), (1, ov_i x), (2, ov_i y), (3, ov_i m), (4, ov_i bo), (5, ov_i w), (6, ov_i x6__), (7, ov_i v478), (8, ov_i x8____)]) (st2 := [ov_i 2, ov_i y, ov_i x, ov_r 90]) (pc2 := 250) b_297_246_4 rfl rfl ?_
                      refine ov_cV (as := [ov_i x, ov_i y, ov_i 2]) (st := []) (d2 := d - 1) d_297_250 lk_Mo_289 rfl (Nat.le_of_ble_eq_true rfl) (c := 1) (zb_90 I502) (zs_90 I502) ⟨by decide, rfl⟩ (by omega) (c_Mo_lightAt_90 (d - 1) (by omega) U I502 x y 2 (by omega) (by omega) (by omega) (by omega) (by omega)) ?_
                      rintro _ _ _ ⟨v504, rfl, rfl, rfl, f503⟩
                      show ov_R u d ov_m297 253 [(0, ov_r 90), (1, ov_i x), (2, ov_i y), (3, ov_i m), (4, ov_i bo), (5, ov_i w), (6, ov_i x6__), (7, ov_i v478), (8, ov_i x8____)] [ov_i v504] z484 (ov_up h485 90 42 (-1)) (P_Mo_wave_90 F z h x y m bo w)
                      rw [show (ov_up h485 90 42 (-1)) 96 = h 96 from E490] at f503
                      have f505 : v504 = (h 96 (10 + 4 * (6 * y + x) + (2 : Int))) ∧ ((2 : Int) = 1 → 0 ≤ v504 ∧ v504 ≤ 60) ∧ ((2 : Int) = 2 → 0 ≤ v504 ∧ v504 ≤ 59) ∧ ((2 : Int) = 3 → 0 ≤ v504 ∧ v504 ≤ 60) := f503
                      clear f503
                      refine ov_blk (ls2 := [(0, ov_r 90), (1, ov_i x), (2, ov_i y), (3, ov_i m), (4, ov_i bo), (5, ov_i w), (6, ov_i x6__), (7, ov_i v478), (8, ov_i x8____)]) (st2 := [ov_i 3, ov_i y, ov_i x, ov_r 90, ov_i v504]) (pc2 := 257) b_297_253_4 rfl rfl ?_
                      refine ov_cV (as := [ov_i x, ov_i y, ov_i 3]) (st := [ov_i v504]) (d2 := d - 1) d_297_257 lk_Mo_289 rfl (Nat.le_of_ble_eq_true rfl) (c := 1) (zb_90 I502) (zs_90 I502) ⟨by decide, rfl⟩ (by omega) (c_Mo_lightAt_90 (d - 1) (by omega) U I502 x y 3 (by omega) (by omega) (by omega) (by omega) (by omega)) ?_
                      rintro _ _ _ ⟨v507, rfl, rfl, rfl, f506⟩
                      show ov_R u d ov_m297 260 [(0, ov_r 90), (1, ov_i x), (2, ov_i y), (3, ov_i m), (4, ov_i bo), (5, ov_i w), (6, ov_i x6__), (7, ov_i v478), (8, ov_i x8____)] [ov_i v507, ov_i v504] z484 (ov_up h485 90 42 (-1)) (P_Mo_wave_90 F z h x y m bo w)
                      rw [show (ov_up h485 90 42 (-1)) 96 = h 96 from E490] at f506
                      have f508 : v507 = (h 96 (10 + 4 * (6 * y + x) + (3 : Int))) ∧ ((3 : Int) = 1 → 0 ≤ v507 ∧ v507 ≤ 60) ∧ ((3 : Int) = 2 → 0 ≤ v507 ∧ v507 ≤ 59) ∧ ((3 : Int) = 3 → 0 ≤ v507 ∧ v507 ≤ 60) := f506
                      clear f506
                      refine ov_blk (ls2 := [(0, ov_r 90), (1, ov_i x), (2, ov_i y), (3, ov_i m), (4, ov_i bo), (5, ov_i w), (6, ov_i x6__), (7, ov_i v478), (8, ov_i x8____)]) (st2 := [ov_i v478, ov_i (v504 + v507)]) (pc2 := 263) b_297_260_2 rfl rfl ?_
                      refine ov_irem d_297_263 (by omega) (by omega) (by omega) ?_
                      have g509 := ov_tmg (a := (v504 + v507)) (b := v478) (by omega) (by omega)
                      refine ov_havw (fun w510 gw510 qw510 => ?_)
                      refine ov_blk (ls2 := [(0, ov_r 90), (1, ov_i x), (2, ov_i y), (3, ov_i m), (4, ov_i bo), (5, ov_i w), (6, ov_i x6__), (7, ov_i v478), (8, ov_i w510)]) (st2 := [ov_r 90]) (pc2 := 267) b_297_264_2 rfl rfl ?_
                      refine ov_getf (v := ov_r 112) d_297_267 fl_Mo_138 (zb_90 I502) (zs_90 I502) (congrArg ov_r (rg_90_40 I502)) ?_
                      refine ov_blk (ls2 := [(0, ov_r 90), (1, ov_i x), (2, ov_i y), (3, ov_i m), (4, ov_i bo), (5, ov_i w), (6, ov_i x6__), (7, ov_i v478), (8, ov_i w510)]) (st2 := [ov_i w510, ov_i 0, ov_r 112]) (pc2 := 273) b_297_270_2 rfl rfl ?_
                      refine ov_iast d_297_273 (zb_112 I502) (zs_112 I502) (by omega) ?_
                      have I511 := ua_112 (k := 0) (x := w510) I502 (by omega)
                      refine ov_blk (ls2 := [(0, ov_r 90), (1, ov_i x), (2, ov_i y), (3, ov_i m), (4, ov_i bo), (5, ov_i w), (6, ov_i x6__), (7, ov_i v478), (8, ov_i w510)]) (st2 := [ov_r 90, ov_i v478, ov_i m, ov_i 1, ov_r 90]) (pc2 := 280) b_297_274_5 rfl rfl ?_
                      refine ov_getf (v := ov_r 110) d_297_280 fl_Mo_132 (zb_90 I511) (zs_90 I511) (congrArg ov_r (rg_90_38 I511)) ?_
                      refine ov_blk (ls2 := [(0, ov_r 90), (1, ov_i x), (2, ov_i y), (3, ov_i m), (4, ov_i bo), (5, ov_i w), (6, ov_i x6__), (7, ov_i v478), (8, ov_i w510)]) (st2 := [ov_i w510, ov_r 110, ov_i v478, ov_i m, ov_i 1, ov_r 90]) (pc2 := 285) b_297_283_1 rfl rfl ?_
                      refine ov_lald d_297_285 (zb_110 I511) (zs_110 I511) (by omega) ?_
                      show ov_R u d ov_m297 286 [(0, ov_r 90), (1, ov_i x), (2, ov_i y), (3, ov_i m), (4, ov_i bo), (5, ov_i w), (6, ov_i x6__), (7, ov_i v478), (8, ov_i w510)] [ov_l (h485 110 w510), ov_i v478, ov_i m, ov_i 1, ov_r 90] z484 (ov_up (ov_up h485 90 42 (-1)) 112 0 w510) (P_Mo_wave_90 F z h x y m bo w)
                      refine ov_blk (ls2 := [(0, ov_r 90), (1, ov_i x), (2, ov_i y), (3, ov_i m), (4, ov_i bo), (5, ov_i w), (6, ov_i x6__), (7, ov_i v478), (8, ov_i w510)]) (st2 := [ov_r 90, ov_l (h485 110 w510), ov_i v478, ov_i m, ov_i 1, ov_r 90]) (pc2 := 287) b_297_286_1 rfl rfl ?_
                      refine ov_getf (v := ov_r 111) d_297_287 fl_Mo_135 (zb_90 I511) (zs_90 I511) (congrArg ov_r (rg_90_39 I511)) ?_
                      refine ov_blk (ls2 := [(0, ov_r 90), (1, ov_i x), (2, ov_i y), (3, ov_i m), (4, ov_i bo), (5, ov_i w), (6, ov_i x6__), (7, ov_i v478), (8, ov_i w510)]) (st2 := [ov_i w510, ov_r 111, ov_l (h485 110 w510), ov_i v478, ov_i m, ov_i 1, ov_r 90]) (pc2 := 292) b_297_290_1 rfl rfl ?_
                      refine ov_lald d_297_292 (zb_111 I511) (zs_111 I511) (by omega) ?_
                      show ov_R u d ov_m297 293 [(0, ov_r 90), (1, ov_i x), (2, ov_i y), (3, ov_i m), (4, ov_i bo), (5, ov_i w), (6, ov_i x6__), (7, ov_i v478), (8, ov_i w510)] [ov_l (h485 111 w510), ov_l (h485 110 w510), ov_i v478, ov_i m, ov_i 1, ov_r 90] z484 (ov_up (ov_up h485 90 42 (-1)) 112 0 w510) (P_Mo_wave_90 F z h x y m bo w)
                      refine ov_blk (ls2 := [(0, ov_r 90), (1, ov_i x), (2, ov_i y), (3, ov_i m), (4, ov_i bo), (5, ov_i w), (6, ov_i x6__), (7, ov_i v478), (8, ov_i w510)]) (st2 := [ov_i bo, ov_l (h485 111 w510), ov_l (h485 110 w510), ov_i v478, ov_i m, ov_i 1, ov_r 90]) (pc2 := 295) b_297_293_1 rfl rfl ?_
                      refine ov_cV (as := [ov_i 1, ov_i m, ov_i v478, ov_l (h485 110 w510), ov_l (h485 111 w510), ov_i bo]) (st := []) (d2 := d - 1) d_297_295 lk_Mo_442 rfl (Nat.le_of_ble_eq_true rfl) (c := 1) (zb_90 I511) (zs_90 I511) ⟨by decide, rfl⟩ (by omega) (c_Mo_triesWave_90_all (Int.toNat ((m) - (1))) (d - 1) (by omega) U I511 1 m v478 (h485 110 w510) (h485 111 w510) bo (by omega) (by omega) (by omega) (by omega) (by omega) (by omega) (by omega)) ?_
                      rintro _ z526 h527 ⟨rfl, I528, f512, e513, e514, e515, e516, e517, e518, e519, e520, e521, e522, e523, e524, e525⟩
                      have E529 : h527 92 = h 92 := Eq.trans e513 E487
                      have E530 : h527 93 = h 93 := Eq.trans e514 E488
                      have E531 : h527 94 = h 94 := Eq.trans e515 E489
                      have E532 : h527 96 = h 96 := Eq.trans e516 E490
                      have E533 : h527 97 = h 97 := Eq.trans e517 E491
                      have E534 : h527 98 = h 98 := Eq.trans e518 E492
                      have E535 : h527 99 = h 99 := Eq.trans e519 E493
                      have E536 : h527 100 = h 100 := Eq.trans e520 E494
                      have E537 : h527 103 = h 103 := Eq.trans e521 E495
                      have E538 : h527 105 = h 105 := Eq.trans e522 E496
                      have E539 : h527 106 = h 106 := Eq.trans e523 E497
                      have E540 : h527 109 = h 109 := Eq.trans e524 E498
                      have E541 : h527 114 = h 114 := Eq.trans e525 E499
                      show ov_R u d ov_m297 298 [(0, ov_r 90), (1, ov_i x), (2, ov_i y), (3, ov_i m), (4, ov_i bo), (5, ov_i w), (6, ov_i x6__), (7, ov_i v478), (8, ov_i w510)] [] z526 h527 (P_Mo_wave_90 F z h x y m bo w)
                      have f542 : (h527 90 2) = (h485 90 2) ∧ (h527 90 3) = (h485 90 3) ∧ (h527 90 7) = (h485 90 7) ∧ (h527 90 8) = (h485 90 8) ∧ (h527 90 13) = (h485 90 13) ∧ (h527 90 20) = (h485 90 20) ∧ (h527 90 22) = (h485 90 22) ∧ (h527 90 25) = (h485 90 25) ∧ (h527 90 26) = (h485 90 26) ∧ (h527 90 27) = (h485 90 27) ∧ (h527 90 28) = (h485 90 28) ∧ (h527 90 29) = (h485 90 29) ∧ (h527 90 30) = (h485 90 30) ∧ (h527 90 34) = (h485 90 34) ∧ (h527 90 35) = (h485 90 35) ∧ (h527 90 37) = (h485 90 37) := f512
                      clear f512
                      refine ov_blk (ls2 := [(0, ov_r 90), (1, ov_i x), (2, ov_i y), (3, ov_i m), (4, ov_i bo), (5, ov_i w), (6, ov_i x6__), (7, ov_i v478), (8, ov_i w510)]) (st2 := [ov_i w]) (pc2 := 300) b_297_298_1 rfl rfl ?_
                      refine ov_ifne (tgt := 310) d_297_300 (by decide) (by omega) (fun c543 => ?_) (fun c543 => ?_)
                      · skip
                        refine ov_blk (ls2 := [(0, ov_r 90), (1, ov_i x), (2, ov_i y), (3, ov_i m), (4, ov_i bo), (5, ov_i w), (6, ov_i x6__), (7, ov_i v478), (8, ov_i w510)]) (st2 := [ov_r 90]) (pc2 := 311) b_297_310_1 rfl rfl ?_
                        refine ov_getf (v := ov_r 113) d_297_311 fl_Mo_141 (zb_90 I528) (zs_90 I528) (congrArg ov_r (rg_90_41 I528)) ?_
                        refine ov_blk (ls2 := [(0, ov_r 90), (1, ov_i x), (2, ov_i y), (3, ov_i m), (4, ov_i bo), (5, ov_i w), (6, ov_i x6__), (7, ov_i v478), (8, ov_i w510)]) (st2 := [ov_i w, ov_r 113]) (pc2 := 316) b_297_314_1 rfl rfl ?_
                        refine ov_iald d_297_316 (zb_113 I528) (zs_113 I528) (by omega) ?_
                        have g544 := ra_113 I528 w
                        exact ov_reti (st := []) d_297_317 rfl ⟨_, rfl, I528, (by show -2147483648 ≤ (h527 113 w) ∧ (h527 113 w) ≤ 2147483647 ∧ (h527 90 2) = (h 90 2) ∧ (h527 90 3) = (h 90 3) ∧ (h527 90 7) = (h 90 7) ∧ (h527 90 8) = (h 90 8) ∧ (h527 90 13) = (h 90 13) ∧ (h527 90 20) = (h 90 20) ∧ (h527 90 22) = (h 90 22) ∧ (h527 90 25) = (h 90 25) ∧ (h527 90 26) = (h 90 26) ∧ (h527 90 27) = (h 90 27) ∧ (h527 90 28) = (h 90 28) ∧ (h527 90 29) = (h 90 29) ∧ (h527 90 30) = (h 90 30) ∧ (h527 90 34) = (h 90 34) ∧ (h527 90 35) = (h 90 35) ∧ (h527 90 37) = (h 90 37); omega), E529, E530, E531, E532, E533, E534, E535, E536, E537, E538, E539, E540, E541⟩
                      · skip
                        refine ov_blk (ls2 := [(0, ov_r 90), (1, ov_i x), (2, ov_i y), (3, ov_i m), (4, ov_i bo), (5, ov_i w), (6, ov_i x6__), (7, ov_i v478), (8, ov_i w510)]) (st2 := [ov_r 90]) (pc2 := 304) b_297_303_1 rfl rfl ?_
                        refine ov_getf (v := ov_i (h527 90 42)) d_297_304 fl_Mo_439 (zb_90 I528) (zs_90 I528) rfl ?_
                        have g545 := rg_90_42 I528
                        refine ov_goto (tgt := 317) d_297_307 (by decide) ?_
                        exact ov_reti (st := []) d_297_317 rfl ⟨_, rfl, I528, (by show -2147483648 ≤ (h527 90 42) ∧ (h527 90 42) ≤ 2147483647 ∧ (h527 90 2) = (h 90 2) ∧ (h527 90 3) = (h 90 3) ∧ (h527 90 7) = (h 90 7) ∧ (h527 90 8) = (h 90 8) ∧ (h527 90 13) = (h 90 13) ∧ (h527 90 20) = (h 90 20) ∧ (h527 90 22) = (h 90 22) ∧ (h527 90 25) = (h 90 25) ∧ (h527 90 26) = (h 90 26) ∧ (h527 90 27) = (h 90 27) ∧ (h527 90 28) = (h 90 28) ∧ (h527 90 29) = (h 90 29) ∧ (h527 90 30) = (h 90 30) ∧ (h527 90 34) = (h 90 34) ∧ (h527 90 35) = (h 90 35) ∧ (h527 90 37) = (h 90 37); omega), E529, E530, E531, E532, E533, E534, E535, E536, E537, E538, E539, E540, E541⟩
                    · skip
                      refine ov_blk (ls2 := [(0, ov_r 90), (1, ov_i x), (2, ov_i y), (3, ov_i m), (4, ov_i bo), (5, ov_i w), (6, ov_i x6__), (7, ov_i v478), (8, ov_i x8____)]) (st2 := [ov_i 3, ov_i (y + x8____), ov_i x, ov_r 90, ov_i v478]) (pc2 := 145) b_297_136_7 rfl rfl ?_
                      refine ov_cV (as := [ov_i x, ov_i (y + x8____), ov_i 3]) (st := [ov_i v478]) (d2 := d - 1) d_297_145 lk_Mo_289 rfl (Nat.le_of_ble_eq_true rfl) (c := 1) (zb_90 I486) (zs_90 I486) ⟨by decide, rfl⟩ (by omega) (c_Mo_lightAt_90 (d - 1) (by omega) U I486 x (y + x8____) 3 (by omega) (by omega) (by omega) (by omega) (by omega)) ?_
                      rintro _ _ _ ⟨v547, rfl, rfl, rfl, f546⟩
                      show ov_R u d ov_m297 148 [(0, ov_r 90), (1, ov_i x), (2, ov_i y), (3, ov_i m), (4, ov_i bo), (5, ov_i w), (6, ov_i x6__), (7, ov_i v478), (8, ov_i x8____)] [ov_i v547, ov_i v478] z484 h485 (P_Mo_wave_90 F z h x y m bo w)
                      rw [show h485 96 = h 96 from E490] at f546
                      have f548 : v547 = (h 96 (10 + 4 * (6 * (y + x8____) + x) + (3 : Int))) ∧ ((3 : Int) = 1 → 0 ≤ v547 ∧ v547 ≤ 60) ∧ ((3 : Int) = 2 → 0 ≤ v547 ∧ v547 ≤ 59) ∧ ((3 : Int) = 3 → 0 ≤ v547 ∧ v547 ≤ 60) := f546
                      clear f546
                      refine ov_blk (ls2 := [(0, ov_r 90), (1, ov_i x), (2, ov_i y), (3, ov_i m), (4, ov_i bo), (5, ov_i w), (6, ov_i x6__), (7, ov_i v478), (8, ov_i x8____), (9, ov_i (v478 - v547)), (10, ov_i 0)]) (st2 := []) (pc2 := 154) b_297_148_4 rfl rfl ?_
                      have L552 : ∀ (n549 : Nat) (x10____ : Int) (z553 : ov_Z) (h554 : ov_H) (I555 : ov_N F z553 h554) (E556 : h554 92 = h 92) (E557 : h554 93 = h 93) (E558 : h554 94 = h 94) (E559 : h554 96 = h 96) (E560 : h554 97 = h 97) (E561 : h554 98 = h 98) (E562 : h554 99 = h 99) (E563 : h554 100 = h 100) (E564 : h554 103 = h 103) (E565 : h554 105 = h 105) (E566 : h554 106 = h 106) (E567 : h554 109 = h 109) (E568 : h554 114 = h 114) (q551 : 0 ≤ x10____ ∧ x10____ ≤ 60 ∧ (h554 90 2) = (h485 90 2) ∧ (h554 90 3) = (h485 90 3) ∧ (h554 90 7) = (h485 90 7) ∧ (h554 90 8) = (h485 90 8) ∧ (h554 90 13) = (h485 90 13) ∧ (h554 90 20) = (h485 90 20) ∧ (h554 90 22) = (h485 90 22) ∧ (h554 90 25) = (h485 90 25) ∧ (h554 90 26) = (h485 90 26) ∧ (h554 90 27) = (h485 90 27) ∧ (h554 90 28) = (h485 90 28) ∧ (h554 90 29) = (h485 90 29) ∧ (h554 90 30) = (h485 90 30) ∧ (h554 90 34) = (h485 90 34) ∧ (h554 90 35) = (h485 90 35) ∧ (h554 90 37) = (h485 90 37)), 60 - x10____ < (n549 : Int) → ov_R u d ov_m297 154 [(0, ov_r 90), (1, ov_i x), (2, ov_i y), (3, ov_i m), (4, ov_i bo), (5, ov_i w), (6, ov_i x6__), (7, ov_i v478), (8, ov_i x8____), (9, ov_i (v478 - v547)), (10, ov_i x10____)] [] z553 h554 (P_Mo_wave_90 F z h x y m bo w) := by
                        intro n549
                        induction n549 with
                        | zero =>
                          intro x10____ z553 h554 I555 E556 E557 E558 E559 E560 E561 E562 E563 E564 E565 E566 E567 E568 q551 hn569
                          exact absurd hn569 (by omega)
                        | succ n549 ih550 =>
                          intro x10____ z553 h554 I555 E556 E557 E558 E559 E560 E561 E562 E563 E564 E565 E566 E567 E568 q551 hn569
                          refine ov_blk (ls2 := [(0, ov_r 90), (1, ov_i x), (2, ov_i y), (3, ov_i m), (4, ov_i bo), (5, ov_i w), (6, ov_i x6__), (7, ov_i v478), (8, ov_i x8____), (9, ov_i (v478 - v547)), (10, ov_i x10____)]) (st2 := [ov_i v478, ov_i x10____]) (pc2 := 158) b_297_154_2 rfl rfl ?_
                          refine ov_icge (tgt := 235) d_297_158 (by decide) (by omega) (by omega) (fun c570 => ?_) (fun c570 => ?_)
                          · skip
                            refine ov_blk (ls2 := [(0, ov_r 90), (1, ov_i x), (2, ov_i y), (3, ov_i m), (4, ov_i bo), (5, ov_i w), (6, ov_i x6__), (7, ov_i v478), (8, ov_i (x8____ + 1)), (9, ov_i (v478 - v547)), (10, ov_i x10____)]) (st2 := []) (pc2 := 238) b_297_235_1 rfl rfl ?_
                            refine ov_goto (tgt := 130) d_297_238 (by decide) ?_
                            refine ov_sub (ls2 := [(0, ov_r 90), (1, ov_i x), (2, ov_i y), (3, ov_i m), (4, ov_i bo), (5, ov_i w), (6, ov_i x6__), (7, ov_i v478), (8, ov_i (x8____ + 1))]) (List.Sublist.subset (by repeat (first | exact List.Sublist.refl _ | apply List.Sublist.cons_cons | apply List.Sublist.cons))) ?_
                            exact ih481 (x8____ + 1) _ _ I555 E556 E557 E558 E559 E560 E561 E562 E563 E564 E565 E566 E567 E568 (by show 0 ≤ (x8____ + 1) ∧ (x8____ + 1) ≤ 4 ∧ (h554 90 2) = (h 90 2) ∧ (h554 90 3) = (h 90 3) ∧ (h554 90 7) = (h 90 7) ∧ (h554 90 8) = (h 90 8) ∧ (h554 90 13) = (h 90 13) ∧ (h554 90 20) = (h 90 20) ∧ (h554 90 22) = (h 90 22) ∧ (h554 90 25) = (h 90 25) ∧ (h554 90 26) = (h 90 26) ∧ (h554 90 27) = (h 90 27) ∧ (h554 90 28) = (h 90 28) ∧ (h554 90 29) = (h 90 29) ∧ (h554 90 30) = (h 90 30) ∧ (h554 90 34) = (h 90 34) ∧ (h554 90 35) = (h 90 35) ∧ (h554 90 37) = (h 90 37); omega) (by omega)
                          · skip
                            refine ov_blk (ls2 := [(0, ov_r 90), (1, ov_i x), (2, ov_i y), (3, ov_i m), (4, ov_i bo), (5, ov_i w), (6, ov_i x6__), (7, ov_i v478), (8, ov_i x8____), (9, ov_i (v478 - v547)), (10, ov_i x10____)]) (st2 := [ov_r 90]) (pc2 := 162) b_297_161_1 rfl rfl ?_
                            refine ov_getf (v := ov_r 110) d_297_162 fl_Mo_132 (zb_90 I555) (zs_90 I555) (congrArg ov_r (rg_90_38 I555)) ?_
                            refine ov_blk (ls2 := [(0, ov_r 90), (1, ov_i x), (2, ov_i y), (3, ov_i m), (4, ov_i bo), (5, ov_i w), (6, ov_i x6__), (7, ov_i v478), (8, ov_i x8____), (9, ov_i (v478 - v547)), (10, ov_i x10____)]) (st2 := [ov_r 90, ov_i x8____, ov_i x10____, ov_i ((60 * x8____) + x10____), ov_r 110]) (pc2 := 178) b_297_165_8 rfl rfl ?_
                            refine ov_getf (v := ov_r 96) d_297_178 fl_Mo_81 (zb_90 I555) (zs_90 I555) (congrArg ov_r (rg_90_10 I555)) ?_
                            refine ov_blk (ls2 := [(0, ov_r 90), (1, ov_i x), (2, ov_i y), (3, ov_i m), (4, ov_i bo), (5, ov_i w), (6, ov_i x6__), (7, ov_i v478), (8, ov_i x8____), (9, ov_i (v478 - v547)), (10, ov_i x10____)]) (st2 := [ov_i 2, ov_r 96, ov_i x8____, ov_i x10____, ov_i ((60 * x8____) + x10____), ov_r 110]) (pc2 := 182) b_297_181_1 rfl rfl ?_
                            refine ov_iald d_297_182 (zb_96 I555) (zs_96 I555) (by omega) ?_
                            rw [show h554 96 = h 96 from E559]
                            have g571 := t96_2 I
                            have gm572 := ov_mulb (q := x8____) (b := (h 96 2)) (A := 4) (B := 30) (by omega) (by omega) (by omega) (by omega)
                            refine ov_blk (ls2 := [(0, ov_r 90), (1, ov_i x), (2, ov_i y), (3, ov_i m), (4, ov_i bo), (5, ov_i w), (6, ov_i x6__), (7, ov_i v478), (8, ov_i x8____), (9, ov_i (v478 - v547)), (10, ov_i x10____)]) (st2 := [ov_i v478, ov_i (v478 - v547), ov_i (x10____ - (x8____ * (h 96 2))), ov_i ((60 * x8____) + x10____), ov_r 110]) (pc2 := 189) b_297_183_4 rfl rfl ?_
                            refine ov_cS (as := [ov_i (x10____ - (x8____ * (h 96 2))), ov_i (v478 - v547), ov_i v478]) (st := [ov_i ((60 * x8____) + x10____), ov_r 110]) (d2 := d - 1) d_297_189 lk_Mo_446 rfl (Nat.le_of_ble_eq_true rfl) (by omega) (c_Mo_turned (d - 1) (by omega) U I555 (x10____ - (x8____ * (h 96 2))) (v478 - v547) v478 (by omega) (by omega) (by omega) (by omega) (by omega)) ?_
                            rintro _ _ _ ⟨v574, rfl, rfl, rfl, f573⟩
                            show ov_R u d ov_m297 192 [(0, ov_r 90), (1, ov_i x), (2, ov_i y), (3, ov_i m), (4, ov_i bo), (5, ov_i w), (6, ov_i x6__), (7, ov_i v478), (8, ov_i x8____), (9, ov_i (v478 - v547)), (10, ov_i x10____)] [ov_l v574, ov_i ((60 * x8____) + x10____), ov_r 110] z553 h554 (P_Mo_wave_90 F z h x y m bo w)
                            clear f573
                            refine ov_last d_297_192 (zb_110 I555) (zs_110 I555) (by omega) ?_
                            have I575 := ua_110 (k := ((60 * x8____) + x10____)) (x := v574) I555
                            refine ov_blk (ls2 := [(0, ov_r 90), (1, ov_i x), (2, ov_i y), (3, ov_i m), (4, ov_i bo), (5, ov_i w), (6, ov_i x6__), (7, ov_i v478), (8, ov_i x8____), (9, ov_i (v478 - v547)), (10, ov_i x10____)]) (st2 := [ov_r 90]) (pc2 := 194) b_297_193_1 rfl rfl ?_
                            refine ov_getf (v := ov_r 111) d_297_194 fl_Mo_135 (zb_90 I575) (zs_90 I575) (congrArg ov_r (rg_90_39 I575)) ?_
                            refine ov_blk (ls2 := [(0, ov_r 90), (1, ov_i x), (2, ov_i y), (3, ov_i m), (4, ov_i bo), (5, ov_i w), (6, ov_i x6__), (7, ov_i v478), (8, ov_i x8____), (9, ov_i (v478 - v547)), (10, ov_i x10____)]) (st2 := [ov_r 90, ov_i ((m - 1) - x8____), ov_i x10____, ov_i ((60 * x8____) + x10____), ov_r 111]) (pc2 := 214) b_297_197_12 rfl rfl ?_
                            refine ov_getf (v := ov_r 96) d_297_214 fl_Mo_81 (zb_90 I575) (zs_90 I575) (congrArg ov_r (rg_90_10 I575)) ?_
                            refine ov_blk (ls2 := [(0, ov_r 90), (1, ov_i x), (2, ov_i y), (3, ov_i m), (4, ov_i bo), (5, ov_i w), (6, ov_i x6__), (7, ov_i v478), (8, ov_i x8____), (9, ov_i (v478 - v547)), (10, ov_i x10____)]) (st2 := [ov_i 2, ov_r 96, ov_i ((m - 1) - x8____), ov_i x10____, ov_i ((60 * x8____) + x10____), ov_r 111]) (pc2 := 218) b_297_217_1 rfl rfl ?_
                            refine ov_iald d_297_218 (zb_96 I575) (zs_96 I575) (by omega) ?_
                            rw [show (ov_up h554 110 ((60 * x8____) + x10____) v574) 96 = h 96 from E559]
                            have gm577 := ov_mulb (q := ((m - 1) - x8____)) (b := (h 96 2)) (A := 4) (B := 30) (by omega) (by omega) (by omega) (by omega)
                            refine ov_blk (ls2 := [(0, ov_r 90), (1, ov_i x), (2, ov_i y), (3, ov_i m), (4, ov_i bo), (5, ov_i w), (6, ov_i x6__), (7, ov_i v478), (8, ov_i x8____), (9, ov_i (v478 - v547)), (10, ov_i x10____)]) (st2 := [ov_i v478, ov_i (v478 - v547), ov_i (x10____ - (((m - 1) - x8____) * (h 96 2))), ov_i ((60 * x8____) + x10____), ov_r 111]) (pc2 := 225) b_297_219_4 rfl rfl ?_
                            refine ov_cS (as := [ov_i (x10____ - (((m - 1) - x8____) * (h 96 2))), ov_i (v478 - v547), ov_i v478]) (st := [ov_i ((60 * x8____) + x10____), ov_r 111]) (d2 := d - 1) d_297_225 lk_Mo_446 rfl (Nat.le_of_ble_eq_true rfl) (by omega) (c_Mo_turned (d - 1) (by omega) U I575 (x10____ - (((m - 1) - x8____) * (h 96 2))) (v478 - v547) v478 (by omega) (by omega) (by omega) (by omega) (by omega)) ?_
                            rintro _ _ _ ⟨v579, rfl, rfl, rfl, f578⟩
                            show ov_R u d ov_m297 228 [(0, ov_r 90), (1, ov_i x), (2, ov_i y), (3, ov_i m), (4, ov_i bo), (5, ov_i w), (6, ov_i x6__), (7, ov_i v478), (8, ov_i x8____), (9, ov_i (v478 - v547)), (10, ov_i x10____)] [ov_l v579, ov_i ((60 * x8____) + x10____), ov_r 111] z553 (ov_up h554 110 ((60 * x8____) + x10____) v574) (P_Mo_wave_90 F z h x y m bo w)
                            clear f578
                            refine ov_last d_297_228 (zb_111 I575) (zs_111 I575) (by omega) ?_
                            have I580 := ua_111 (k := ((60 * x8____) + x10____)) (x := v579) I575
                            refine ov_blk (ls2 := [(0, ov_r 90), (1, ov_i x), (2, ov_i y), (3, ov_i m), (4, ov_i bo), (5, ov_i w), (6, ov_i x6__), (7, ov_i v478), (8, ov_i x8____), (9, ov_i (v478 - v547)), (10, ov_i (x10____ + 1))]) (st2 := []) (pc2 := 232) b_297_229_1 rfl rfl ?_
                            refine ov_goto (tgt := 154) d_297_232 (by decide) ?_
                            exact ih550 (x10____ + 1) _ _ I580 E556 E557 E558 E559 E560 E561 E562 E563 E564 E565 E566 E567 E568 (by show 0 ≤ (x10____ + 1) ∧ (x10____ + 1) ≤ 60 ∧ (h554 90 2) = (h485 90 2) ∧ (h554 90 3) = (h485 90 3) ∧ (h554 90 7) = (h485 90 7) ∧ (h554 90 8) = (h485 90 8) ∧ (h554 90 13) = (h485 90 13) ∧ (h554 90 20) = (h485 90 20) ∧ (h554 90 22) = (h485 90 22) ∧ (h554 90 25) = (h485 90 25) ∧ (h554 90 26) = (h485 90 26) ∧ (h554 90 27) = (h485 90 27) ∧ (h554 90 28) = (h485 90 28) ∧ (h554 90 29) = (h485 90 29) ∧ (h554 90 30) = (h485 90 30) ∧ (h554 90 34) = (h485 90 34) ∧ (h554 90 35) = (h485 90 35) ∧ (h554 90 37) = (h485 90 37); omega) (by omega)
                      exact L552 61 0 _ _ I486 E487 E488 E489 E490 E491 E492 E493 E494 E495 E496 E497 E498 E499 (by show 0 ≤ 0 ∧ 0 ≤ 60 ∧ (h485 90 2) = (h485 90 2) ∧ (h485 90 3) = (h485 90 3) ∧ (h485 90 7) = (h485 90 7) ∧ (h485 90 8) = (h485 90 8) ∧ (h485 90 13) = (h485 90 13) ∧ (h485 90 20) = (h485 90 20) ∧ (h485 90 22) = (h485 90 22) ∧ (h485 90 25) = (h485 90 25) ∧ (h485 90 26) = (h485 90 26) ∧ (h485 90 27) = (h485 90 27) ∧ (h485 90 28) = (h485 90 28) ∧ (h485 90 29) = (h485 90 29) ∧ (h485 90 30) = (h485 90 30) ∧ (h485 90 34) = (h485 90 34) ∧ (h485 90 35) = (h485 90 35) ∧ (h485 90 37) = (h485 90 37); omega) (by omega)
                exact L483 5 0 _ _ I1 rfl rfl rfl rfl rfl rfl rfl rfl rfl rfl rfl rfl rfl (by show 0 ≤ 0 ∧ 0 ≤ 4 ∧ (h 90 2) = (h 90 2) ∧ (h 90 3) = (h 90 3) ∧ (h 90 7) = (h 90 7) ∧ (h 90 8) = (h 90 8) ∧ (h 90 13) = (h 90 13) ∧ (h 90 20) = (h 90 20) ∧ (h 90 22) = (h 90 22) ∧ (h 90 25) = (h 90 25) ∧ (h 90 26) = (h 90 26) ∧ (h 90 27) = (h 90 27) ∧ (h 90 28) = (h 90 28) ∧ (h 90 29) = (h 90 29) ∧ (h 90 30) = (h 90 30) ∧ (h 90 34) = (h 90 34) ∧ (h 90 35) = (h 90 35) ∧ (h 90 37) = (h 90 37); omega) (by omega)
              · skip
                refine ov_blk (ls2 := [(0, ov_r 90), (1, ov_i x), (2, ov_i y), (3, ov_i m), (4, ov_i bo), (5, ov_i w), (6, ov_i x6__), (7, ov_i x7__)]) (st2 := [ov_i (-1)]) (pc2 := 117) b_297_116_1 rfl rfl ?_
                exact ov_reti (st := []) d_297_117 rfl ⟨_, rfl, I1, (by show -2147483648 ≤ (-1) ∧ (-1) ≤ 2147483647 ∧ (h 90 2) = (h 90 2) ∧ (h 90 3) = (h 90 3) ∧ (h 90 7) = (h 90 7) ∧ (h 90 8) = (h 90 8) ∧ (h 90 13) = (h 90 13) ∧ (h 90 20) = (h 90 20) ∧ (h 90 22) = (h 90 22) ∧ (h 90 25) = (h 90 25) ∧ (h 90 26) = (h 90 26) ∧ (h 90 27) = (h 90 27) ∧ (h 90 28) = (h 90 28) ∧ (h 90 29) = (h 90 29) ∧ (h 90 30) = (h 90 30) ∧ (h 90 34) = (h 90 34) ∧ (h 90 35) = (h 90 35) ∧ (h 90 37) = (h 90 37); omega), rfl, rfl, rfl, rfl, rfl, rfl, rfl, rfl, rfl, rfl, rfl, rfl, rfl⟩
            · skip
              refine ov_blk (ls2 := [(0, ov_r 90), (1, ov_i x), (2, ov_i y), (3, ov_i m), (4, ov_i bo), (5, ov_i w), (6, ov_i x6__), (7, ov_i x7__)]) (st2 := [ov_i x6__]) (pc2 := 63) b_297_61_1 rfl rfl ?_
              refine ov_ifeq (tgt := 111) d_297_63 (by decide) (by omega) (fun c581 => ?_) (fun c581 => ?_)
              · skip
                refine ov_blk (ls2 := [(0, ov_r 90), (1, ov_i x), (2, ov_i y), (3, ov_i m), (4, ov_i bo), (5, ov_i w), (6, ov_i x6__), (7, ov_i x7__)]) (st2 := [ov_i x6__]) (pc2 := 113) b_297_111_1 rfl rfl ?_
                refine ov_ifne (tgt := 118) d_297_113 (by decide) (by omega) (fun c582 => ?_) (fun c582 => ?_)
                · skip
                  have w1 := ov_WT_at W (c := 6 * y + x) (by omega)
                  refine ov_blk (ls2 := [(0, ov_r 90), (1, ov_i x), (2, ov_i y), (3, ov_i m), (4, ov_i bo), (5, ov_i w), (6, ov_i x6__), (7, ov_i x7__)]) (st2 := [ov_i 1, ov_i y, ov_i x, ov_r 90]) (pc2 := 122) b_297_118_4 rfl rfl ?_
                  refine ov_cV (as := [ov_i x, ov_i y, ov_i 1]) (st := []) (d2 := d - 1) d_297_122 lk_Mo_289 rfl (Nat.le_of_ble_eq_true rfl) (c := 1) (zb_90 I1) (zs_90 I1) ⟨by decide, rfl⟩ (by omega) (c_Mo_lightAt_90 (d - 1) (by omega) U I1 x y 1 (by omega) (by omega) (by omega) (by omega) (by omega)) ?_
                  rintro _ _ _ ⟨v584, rfl, rfl, rfl, f583⟩
                  show ov_R u d ov_m297 125 [(0, ov_r 90), (1, ov_i x), (2, ov_i y), (3, ov_i m), (4, ov_i bo), (5, ov_i w), (6, ov_i x6__), (7, ov_i x7__)] [ov_i v584] z (ov_up h 90 0 0) (P_Mo_wave_90 F z h x y m bo w)
                  have f585 : v584 = (h 96 (10 + 4 * (6 * y + x) + (1 : Int))) ∧ ((1 : Int) = 1 → 0 ≤ v584 ∧ v584 ≤ 60) ∧ ((1 : Int) = 2 → 0 ≤ v584 ∧ v584 ≤ 59) ∧ ((1 : Int) = 3 → 0 ≤ v584 ∧ v584 ≤ 60) := f583
                  clear f583
                  refine ov_blk (ls2 := [(0, ov_r 90), (1, ov_i x), (2, ov_i y), (3, ov_i m), (4, ov_i bo), (5, ov_i w), (6, ov_i x6__), (7, ov_i v584), (8, ov_i 0)]) (st2 := []) (pc2 := 130) b_297_125_3 rfl rfl ?_
                  have L589 : ∀ (n586 : Nat) (x8_____ : Int) (z590 : ov_Z) (h591 : ov_H) (I592 : ov_N F z590 h591) (E593 : h591 92 = h 92) (E594 : h591 93 = h 93) (E595 : h591 94 = h 94) (E596 : h591 96 = h 96) (E597 : h591 97 = h 97) (E598 : h591 98 = h 98) (E599 : h591 99 = h 99) (E600 : h591 100 = h 100) (E601 : h591 103 = h 103) (E602 : h591 105 = h 105) (E603 : h591 106 = h 106) (E604 : h591 109 = h 109) (E605 : h591 114 = h 114) (q588 : 0 ≤ x8_____ ∧ x8_____ ≤ 4 ∧ (h591 90 2) = (h 90 2) ∧ (h591 90 3) = (h 90 3) ∧ (h591 90 7) = (h 90 7) ∧ (h591 90 8) = (h 90 8) ∧ (h591 90 13) = (h 90 13) ∧ (h591 90 20) = (h 90 20) ∧ (h591 90 22) = (h 90 22) ∧ (h591 90 25) = (h 90 25) ∧ (h591 90 26) = (h 90 26) ∧ (h591 90 27) = (h 90 27) ∧ (h591 90 28) = (h 90 28) ∧ (h591 90 29) = (h 90 29) ∧ (h591 90 30) = (h 90 30) ∧ (h591 90 34) = (h 90 34) ∧ (h591 90 35) = (h 90 35) ∧ (h591 90 37) = (h 90 37)), 4 - x8_____ < (n586 : Int) → ov_R u d ov_m297 130 [(0, ov_r 90), (1, ov_i x), (2, ov_i y), (3, ov_i m), (4, ov_i bo), (5, ov_i w), (6, ov_i x6__), (7, ov_i v584), (8, ov_i x8_____)] [] z590 h591 (P_Mo_wave_90 F z h x y m bo w) := by
                    intro n586
                    induction n586 with
                    | zero =>
                      intro x8_____ z590 h591 I592 E593 E594 E595 E596 E597 E598 E599 E600 E601 E602 E603 E604 E605 q588 hn606
                      exact absurd hn606 (by omega)
                    | succ n586 ih587 =>
                      intro x8_____ z590 h591 I592 E593 E594 E595 E596 E597 E598 E599 E600 E601 E602 E603 E604 E605 q588 hn606
                      refine ov_blk (ls2 := [(0, ov_r 90), (1, ov_i x), (2, ov_i y), (3, ov_i m), (4, ov_i bo), (5, ov_i w), (6, ov_i x6__), (7, ov_i v584), (8, ov_i x8_____)]) (st2 := [ov_i m, ov_i x8_____]) (pc2 := 133) b_297_130_2 rfl rfl ?_
                      refine ov_icge (tgt := 241) d_297_133 (by decide) (by omega) (by omega) (fun c607 => ?_) (fun c607 => ?_)
                      · skip
                        refine ov_blk (ls2 := [(0, ov_r 90), (1, ov_i x), (2, ov_i y), (3, ov_i m), (4, ov_i bo), (5, ov_i w), (6, ov_i x6__), (7, ov_i v584), (8, ov_i x8_____)]) (st2 := [ov_i (-1), ov_r 90]) (pc2 := 243) b_297_241_2 rfl rfl ?_
                        refine ov_putf (x := (-1)) d_297_243 fl_Mo_439 (zb_90 I592) (zs_90 I592) rfl nk_0 rfl ?_
                        have I608 := up_90_42 (x := (-1)) I592 (by omega)
                        refine ov_blk (ls2 := [(0, ov_r 90), (1, ov_i x), (2, ov_i y), (3, ov_i m), (4, ov_i bo), (5, ov_i w), (6, ov_i x6__), (7, ov_i v584), (8, ov_i x8_____)]) (st2 := [ov_i 2, ov_i y, ov_i x, ov_r 90]) (pc2 := 250) b_297_246_4 rfl rfl ?_
                        refine ov_cV (as := [ov_i x, ov_i y, ov_i 2]) (st := []) (d2 := d - 1) d_297_250 lk_Mo_289 rfl (Nat.le_of_ble_eq_true rfl) (c := 1) (zb_90 I608) (zs_90 I608) ⟨by decide, rfl⟩ (by omega) (c_Mo_lightAt_90 (d - 1) (by omega) U I608 x y 2 (by omega) (by omega) (by omega) (by omega) (by omega)) ?_
                        rintro _ _ _ ⟨v610, rfl, rfl, rfl, f609⟩
                        show ov_R u d ov_m297 253 [(0, ov_r 90), (1, ov_i x), (2, ov_i y), (3, ov_i m), (4, ov_i bo), (5, ov_i w), (6, ov_i x6__), (7, ov_i v584), (8, ov_i x8_____)] [ov_i v610] z590 (ov_up h591 90 42 (-1)) (P_Mo_wave_90 F z h x y m bo w)
                        rw [show (ov_up h591 90 42 (-1)) 96 = h 96 from E596] at f609
                        have f611 : v610 = (h 96 (10 + 4 * (6 * y + x) + (2 : Int))) ∧ ((2 : Int) = 1 → 0 ≤ v610 ∧ v610 ≤ 60) ∧ ((2 : Int) = 2 → 0 ≤ v610 ∧ v610 ≤ 59) ∧ ((2 : Int) = 3 → 0 ≤ v610 ∧ v610 ≤ 60) := f609
                        clear f609
                        refine ov_blk (ls2 := [(0, ov_r 90), (1, ov_i x), (2, ov_i y), (3, ov_i m), (4, ov_i bo), (5, ov_i w), (6, ov_i x6__), (7, ov_i v584), (8, ov_i x8_____)]) (st2 := [ov_i 3, ov_i y, ov_i x, ov_r 90, ov_i v610]) (pc2 := 257) b_297_253_4 rfl rfl ?_
                        refine ov_cV (as := [ov_i x, ov_i y, ov_i 3]) (st := [ov_i v610]) (d2 := d - 1) d_297_257 lk_Mo_289 rfl (Nat.le_of_ble_eq_true rfl) (c := 1) (zb_90 I608) (zs_90 I608) ⟨by decide, rfl⟩ (by omega) (c_Mo_lightAt_90 (d - 1) (by omega) U I608 x y 3 (by omega) (by omega) (by omega) (by omega) (by omega)) ?_
                        rintro _ _ _ ⟨v613, rfl, rfl, rfl, f612⟩
                        show ov_R u d ov_m297 260 [(0, ov_r 90), (1, ov_i x), (2, ov_i y), (3, ov_i m), (4, ov_i bo), (5, ov_i w), (6, ov_i x6__), (7, ov_i v584), (8, ov_i x8_____)] [ov_i v613, ov_i v610] z590 (ov_up h591 90 42 (-1)) (P_Mo_wave_90 F z h x y m bo w)
                        rw [show (ov_up h591 90 42 (-1)) 96 = h 96 from E596] at f612
                        have f614 : v613 = (h 96 (10 + 4 * (6 * y + x) + (3 : Int))) ∧ ((3 : Int) = 1 → 0 ≤ v613 ∧ v613 ≤ 60) ∧ ((3 : Int) = 2 → 0 ≤ v613 ∧ v613 ≤ 59) ∧ ((3 : Int) = 3 → 0 ≤ v613 ∧ v613 ≤ 60) := f612
                        clear f612
                        refine ov_blk (ls2 := [(0, ov_r 90), (1, ov_i x), (2, ov_i y), (3, ov_i m), (4, ov_i bo), (5, ov_i w), (6, ov_i x6__), (7, ov_i v584), (8, ov_i x8_____)]) (st2 := [ov_i v584, ov_i (v610 + v613)]) (pc2 := 263) b_297_260_2 rfl rfl ?_
                        refine ov_irem d_297_263 (by omega) (by omega) (by omega) ?_
                        have g615 := ov_tmg (a := (v610 + v613)) (b := v584) (by omega) (by omega)
                        refine ov_havw (fun w616 gw616 qw616 => ?_)
                        refine ov_blk (ls2 := [(0, ov_r 90), (1, ov_i x), (2, ov_i y), (3, ov_i m), (4, ov_i bo), (5, ov_i w), (6, ov_i x6__), (7, ov_i v584), (8, ov_i w616)]) (st2 := [ov_r 90]) (pc2 := 267) b_297_264_2 rfl rfl ?_
                        refine ov_getf (v := ov_r 112) d_297_267 fl_Mo_138 (zb_90 I608) (zs_90 I608) (congrArg ov_r (rg_90_40 I608)) ?_
                        refine ov_blk (ls2 := [(0, ov_r 90), (1, ov_i x), (2, ov_i y), (3, ov_i m), (4, ov_i bo), (5, ov_i w), (6, ov_i x6__), (7, ov_i v584), (8, ov_i w616)]) (st2 := [ov_i w616, ov_i 0, ov_r 112]) (pc2 := 273) b_297_270_2 rfl rfl ?_
                        refine ov_iast d_297_273 (zb_112 I608) (zs_112 I608) (by omega) ?_
                        have I617 := ua_112 (k := 0) (x := w616) I608 (by omega)
                        refine ov_blk (ls2 := [(0, ov_r 90), (1, ov_i x), (2, ov_i y), (3, ov_i m), (4, ov_i bo), (5, ov_i w), (6, ov_i x6__), (7, ov_i v584), (8, ov_i w616)]) (st2 := [ov_r 90, ov_i v584, ov_i m, ov_i 1, ov_r 90]) (pc2 := 280) b_297_274_5 rfl rfl ?_
                        refine ov_getf (v := ov_r 110) d_297_280 fl_Mo_132 (zb_90 I617) (zs_90 I617) (congrArg ov_r (rg_90_38 I617)) ?_
                        refine ov_blk (ls2 := [(0, ov_r 90), (1, ov_i x), (2, ov_i y), (3, ov_i m), (4, ov_i bo), (5, ov_i w), (6, ov_i x6__), (7, ov_i v584), (8, ov_i w616)]) (st2 := [ov_i w616, ov_r 110, ov_i v584, ov_i m, ov_i 1, ov_r 90]) (pc2 := 285) b_297_283_1 rfl rfl ?_
                        refine ov_lald d_297_285 (zb_110 I617) (zs_110 I617) (by omega) ?_
                        show ov_R u d ov_m297 286 [(0, ov_r 90), (1, ov_i x), (2, ov_i y), (3, ov_i m), (4, ov_i bo), (5, ov_i w), (6, ov_i x6__), (7, ov_i v584), (8, ov_i w616)] [ov_l (h591 110 w616), ov_i v584, ov_i m, ov_i 1, ov_r 90] z590 (ov_up (ov_up h591 90 42 (-1)) 112 0 w616) (P_Mo_wave_90 F z h x y m bo w)
                        refine ov_blk (ls2 := [(0, ov_r 90), (1, ov_i x), (2, ov_i y), (3, ov_i m), (4, ov_i bo), (5, ov_i w), (6, ov_i x6__), (7, ov_i v584), (8, ov_i w616)]) (st2 := [ov_r 90, ov_l (h591 110 w616), ov_i v584, ov_i m, ov_i 1, ov_r 90]) (pc2 := 287) b_297_286_1 rfl rfl ?_
                        refine ov_getf (v := ov_r 111) d_297_287 fl_Mo_135 (zb_90 I617) (zs_90 I617) (congrArg ov_r (rg_90_39 I617)) ?_
                        refine ov_blk (ls2 := [(0, ov_r 90), (1, ov_i x), (2, ov_i y), (3, ov_i m), (4, ov_i bo), (5, ov_i w), (6, ov_i x6__), (7, ov_i v584), (8, ov_i w616)]) (st2 := [ov_i w616, ov_r 111, ov_l (h591 110 w616), ov_i v584, ov_i m, ov_i 1, ov_r 90]) (pc2 := 292) b_297_290_1 rfl rfl ?_
                        refine ov_lald d_297_292 (zb_111 I617) (zs_111 I617) (by omega) ?_
                        show ov_R u d ov_m297 293 [(0, ov_r 90), (1, ov_i x), (2, ov_i y), (3, ov_i m), (4, ov_i bo), (5, ov_i w), (6, ov_i x6__), (7, ov_i v584), (8, ov_i w616)] [ov_l (h591 111 w616), ov_l (h591 110 w616), ov_i v584, ov_i m, ov_i 1, ov_r 90] z590 (ov_up (ov_up h591 90 42 (-1)) 112 0 w616) (P_Mo_wave_90 F z h x y m bo w)
                        refine ov_blk (ls2 := [(0, ov_r 90), (1, ov_i x), (2, ov_i y), (3, ov_i m), (4, ov_i bo), (5, ov_i w), (6, ov_i x6__), (7, ov_i v584), (8, ov_i w616)]) (st2 := [ov_i bo, ov_l (h591 111 w616), ov_l (h591 110 w616), ov_i v584, ov_i m, ov_i 1, ov_r 90]) (pc2 := 295) b_297_293_1 rfl rfl ?_
                        refine ov_cV (as := [ov_i 1, ov_i m, ov_i v584, ov_l (h591 110 w616), ov_l (h591 111 w616), ov_i bo]) (st := []) (d2 := d - 1) d_297_295 lk_Mo_442 rfl (Nat.le_of_ble_eq_true rfl) (c := 1) (zb_90 I617) (zs_90 I617) ⟨by decide, rfl⟩ (by omega) (c_Mo_triesWave_90_all (Int.toNat ((m) - (1))) (d - 1) (by omega) U I617 1 m v584 (h591 110 w616) (h591 111 w616) bo (by omega) (by omega) (by omega) (by omega) (by omega) (by omega) (by omega)) ?_
                        rintro _ z632 h633 ⟨rfl, I634, f618, e619, e620, e621, e622, e623, e624, e625, e626, e627, e628, e629, e630, e631⟩
                        have E635 : h633 92 = h 92 := Eq.trans e619 E593
                        have E636 : h633 93 = h 93 := Eq.trans e620 E594
                        have E637 : h633 94 = h 94 := Eq.trans e621 E595
                        have E638 : h633 96 = h 96 := Eq.trans e622 E596
                        have E639 : h633 97 = h 97 := Eq.trans e623 E597
                        have E640 : h633 98 = h 98 := Eq.trans e624 E598
                        have E641 : h633 99 = h 99 := Eq.trans e625 E599
                        have E642 : h633 100 = h 100 := Eq.trans e626 E600
                        have E643 : h633 103 = h 103 := Eq.trans e627 E601
                        have E644 : h633 105 = h 105 := Eq.trans e628 E602
                        have E645 : h633 106 = h 106 := Eq.trans e629 E603
                        have E646 : h633 109 = h 109 := Eq.trans e630 E604
                        have E647 : h633 114 = h 114 := Eq.trans e631 E605
                        show ov_R u d ov_m297 298 [(0, ov_r 90), (1, ov_i x), (2, ov_i y), (3, ov_i m), (4, ov_i bo), (5, ov_i w), (6, ov_i x6__), (7, ov_i v584), (8, ov_i w616)] [] z632 h633 (P_Mo_wave_90 F z h x y m bo w)
                        have f648 : (h633 90 2) = (h591 90 2) ∧ (h633 90 3) = (h591 90 3) ∧ (h633 90 7) = (h591 90 7) ∧ (h633 90 8) = (h591 90 8) ∧ (h633 90 13) = (h591 90 13) ∧ (h633 90 20) = (h591 90 20) ∧ (h633 90 22) = (h591 90 22) ∧ (h633 90 25) = (h591 90 25) ∧ (h633 90 26) = (h591 90 26) ∧ (h633 90 27) = (h591 90 27) ∧ (h633 90 28) = (h591 90 28) ∧ (h633 90 29) = (h591 90 29) ∧ (h633 90 30) = (h591 90 30) ∧ (h633 90 34) = (h591 90 34) ∧ (h633 90 35) = (h591 90 35) ∧ (h633 90 37) = (h591 90 37) := f618
                        clear f618
                        refine ov_blk (ls2 := [(0, ov_r 90), (1, ov_i x), (2, ov_i y), (3, ov_i m), (4, ov_i bo), (5, ov_i w), (6, ov_i x6__), (7, ov_i v584), (8, ov_i w616)]) (st2 := [ov_i w]) (pc2 := 300) b_297_298_1 rfl rfl ?_
                        refine ov_ifne (tgt := 310) d_297_300 (by decide) (by omega) (fun c649 => ?_) (fun c649 => ?_)
                        · skip
                          refine ov_blk (ls2 := [(0, ov_r 90), (1, ov_i x), (2, ov_i y), (3, ov_i m), (4, ov_i bo), (5, ov_i w), (6, ov_i x6__), (7, ov_i v584), (8, ov_i w616)]) (st2 := [ov_r 90]) (pc2 := 311) b_297_310_1 rfl rfl ?_
                          refine ov_getf (v := ov_r 113) d_297_311 fl_Mo_141 (zb_90 I634) (zs_90 I634) (congrArg ov_r (rg_90_41 I634)) ?_
                          refine ov_blk (ls2 := [(0, ov_r 90), (1, ov_i x), (2, ov_i y), (3, ov_i m), (4, ov_i bo), (5, ov_i w), (6, ov_i x6__), (7, ov_i v584), (8, ov_i w616)]) (st2 := [ov_i w, ov_r 113]) (pc2 := 316) b_297_314_1 rfl rfl ?_
                          refine ov_iald d_297_316 (zb_113 I634) (zs_113 I634) (by omega) ?_
                          have g650 := ra_113 I634 w
                          exact ov_reti (st := []) d_297_317 rfl ⟨_, rfl, I634, (by show -2147483648 ≤ (h633 113 w) ∧ (h633 113 w) ≤ 2147483647 ∧ (h633 90 2) = (h 90 2) ∧ (h633 90 3) = (h 90 3) ∧ (h633 90 7) = (h 90 7) ∧ (h633 90 8) = (h 90 8) ∧ (h633 90 13) = (h 90 13) ∧ (h633 90 20) = (h 90 20) ∧ (h633 90 22) = (h 90 22) ∧ (h633 90 25) = (h 90 25) ∧ (h633 90 26) = (h 90 26) ∧ (h633 90 27) = (h 90 27) ∧ (h633 90 28) = (h 90 28) ∧ (h633 90 29) = (h 90 29) ∧ (h633 90 30) = (h 90 30) ∧ (h633 90 34) = (h 90 34) ∧ (h633 90 35) = (h 90 35) ∧ (h633 90 37) = (h 90 37); omega), E635, E636, E637, E638, E639, E640, E641, E642, E643, E644, E645, E646, E647⟩
                        · skip
                          refine ov_blk (ls2 := [(0, ov_r 90), (1, ov_i x), (2, ov_i y), (3, ov_i m), (4, ov_i bo), (5, ov_i w), (6, ov_i x6__), (7, ov_i v584), (8, ov_i w616)]) (st2 := [ov_r 90]) (pc2 := 304) b_297_303_1 rfl rfl ?_
                          refine ov_getf (v := ov_i (h633 90 42)) d_297_304 fl_Mo_439 (zb_90 I634) (zs_90 I634) rfl ?_
                          have g651 := rg_90_42 I634
                          refine ov_goto (tgt := 317) d_297_307 (by decide) ?_
                          exact ov_reti (st := []) d_297_317 rfl ⟨_, rfl, I634, (by show -2147483648 ≤ (h633 90 42) ∧ (h633 90 42) ≤ 2147483647 ∧ (h633 90 2) = (h 90 2) ∧ (h633 90 3) = (h 90 3) ∧ (h633 90 7) = (h 90 7) ∧ (h633 90 8) = (h 90 8) ∧ (h633 90 13) = (h 90 13) ∧ (h633 90 20) = (h 90 20) ∧ (h633 90 22) = (h 90 22) ∧ (h633 90 25) = (h 90 25) ∧ (h633 90 26) = (h 90 26) ∧ (h633 90 27) = (h 90 27) ∧ (h633 90 28) = (h 90 28) ∧ (h633 90 29) = (h 90 29) ∧ (h633 90 30) = (h 90 30) ∧ (h633 90 34) = (h 90 34) ∧ (h633 90 35) = (h 90 35) ∧ (h633 90 37) = (h 90 37); omega), E635, E636, E637, E638, E639, E640, E641, E642, E643, E644, E645, E646, E647⟩
                      · skip
                        refine ov_blk (ls2 := [(0, ov_r 90), (1, ov_i x), (2, ov_i y), (3, ov_i m), (4, ov_i bo), (5, ov_i w), (6, ov_i x6__), (7, ov_i v584), (8, ov_i x8_____)]) (st2 := [ov_i 3, ov_i (y + x8_____), ov_i x, ov_r 90, ov_i v584]) (pc2 := 145) b_297_136_7 rfl rfl ?_
                        refine ov_cV (as := [ov_i x, ov_i (y + x8_____), ov_i 3]) (st := [ov_i v584]) (d2 := d - 1) d_297_145 lk_Mo_289 rfl (Nat.le_of_ble_eq_true rfl) (c := 1) (zb_90 I592) (zs_90 I592) ⟨by decide, rfl⟩ (by omega) (c_Mo_lightAt_90 (d - 1) (by omega) U I592 x (y + x8_____) 3 (by omega) (by omega) (by omega) (by omega) (by omega)) ?_
                        rintro _ _ _ ⟨v653, rfl, rfl, rfl, f652⟩
                        show ov_R u d ov_m297 148 [(0, ov_r 90), (1, ov_i x), (2, ov_i y), (3, ov_i m), (4, ov_i bo), (5, ov_i w), (6, ov_i x6__), (7, ov_i v584), (8, ov_i x8_____)] [ov_i v653, ov_i v584] z590 h591 (P_Mo_wave_90 F z h x y m bo w)
                        rw [show h591 96 = h 96 from E596] at f652
                        have f654 : v653 = (h 96 (10 + 4 * (6 * (y + x8_____) + x) + (3 : Int))) ∧ ((3 : Int) = 1 → 0 ≤ v653 ∧ v653 ≤ 60) ∧ ((3 : Int) = 2 → 0 ≤ v653 ∧ v653 ≤ 59) ∧ ((3 : Int) = 3 → 0 ≤ v653 ∧ v653 ≤ 60) := f652
                        clear f652
                        refine ov_blk (ls2 := [(0, ov_r 90), (1, ov_i x), (2, ov_i y), (3, ov_i m), (4, ov_i bo), (5, ov_i w), (6, ov_i x6__), (7, ov_i v584), (8, ov_i x8_____), (9, ov_i (v584 - v653)), (10, ov_i 0)]) (st2 := []) (pc2 := 154) b_297_148_4 rfl rfl ?_
                        have L658 : ∀ (n655 : Nat) (x10_____ : Int) (z659 : ov_Z) (h660 : ov_H) (I661 : ov_N F z659 h660) (E662 : h660 92 = h 92) (E663 : h660 93 = h 93) (E664 : h660 94 = h 94) (E665 : h660 96 = h 96) (E666 : h660 97 = h 97) (E667 : h660 98 = h 98) (E668 : h660 99 = h 99) (E669 : h660 100 = h 100) (E670 : h660 103 = h 103) (E671 : h660 105 = h 105) (E672 : h660 106 = h 106) (E673 : h660 109 = h 109) (E674 : h660 114 = h 114) (q657 : 0 ≤ x10_____ ∧ x10_____ ≤ 60 ∧ (h660 90 2) = (h591 90 2) ∧ (h660 90 3) = (h591 90 3) ∧ (h660 90 7) = (h591 90 7) ∧ (h660 90 8) = (h591 90 8) ∧ (h660 90 13) = (h591 90 13) ∧ (h660 90 20) = (h591 90 20) ∧ (h660 90 22) = (h591 90 22) ∧ (h660 90 25) = (h591 90 25) ∧ (h660 90 26) = (h591 90 26) ∧ (h660 90 27) = (h591 90 27) ∧ (h660 90 28) = (h591 90 28) ∧ (h660 90 29) = (h591 90 29) ∧ (h660 90 30) = (h591 90 30) ∧ (h660 90 34) = (h591 90 34) ∧ (h660 90 35) = (h591 90 35) ∧ (h660 90 37) = (h591 90 37)), 60 - x10_____ < (n655 : Int) → ov_R u d ov_m297 154 [(0, ov_r 90), (1, ov_i x), (2, ov_i y), (3, ov_i m), (4, ov_i bo), (5, ov_i w), (6, ov_i x6__), (7, ov_i v584), (8, ov_i x8_____), (9, ov_i (v584 - v653)), (10, ov_i x10_____)] [] z659 h660 (P_Mo_wave_90 F z h x y m bo w) := by
                          intro n655
                          induction n655 with
                          | zero =>
                            intro x10_____ z659 h660 I661 E662 E663 E664 E665 E666 E667 E668 E669 E670 E671 E672 E673 E674 q657 hn675
                            exact absurd hn675 (by omega)
                          | succ n655 ih656 =>
                            intro x10_____ z659 h660 I661 E662 E663 E664 E665 E666 E667 E668 E669 E670 E671 E672 E673 E674 q657 hn675
                            refine ov_blk (ls2 := [(0, ov_r 90), (1, ov_i x), (2, ov_i y), (3, ov_i m), (4, ov_i bo), (5, ov_i w), (6, ov_i x6__), (7, ov_i v584), (8, ov_i x8_____), (9, ov_i (v584 - v653)), (10, ov_i x10_____)]) (st2 := [ov_i v584, ov_i x10_____]) (pc2 := 158) b_297_154_2 rfl rfl ?_
                            refine ov_icge (tgt := 235) d_297_158 (by decide) (by omega) (by omega) (fun c676 => ?_) (fun c676 => ?_)
                            · skip
                              refine ov_blk (ls2 := [(0, ov_r 90), (1, ov_i x), (2, ov_i y), (3, ov_i m), (4, ov_i bo), (5, ov_i w), (6, ov_i x6__), (7, ov_i v584), (8, ov_i (x8_____ + 1)), (9, ov_i (v584 - v653)), (10, ov_i x10_____)]) (st2 := []) (pc2 := 238) b_297_235_1 rfl rfl ?_
                              refine ov_goto (tgt := 130) d_297_238 (by decide) ?_
                              refine ov_sub (ls2 := [(0, ov_r 90), (1, ov_i x), (2, ov_i y), (3, ov_i m), (4, ov_i bo), (5, ov_i w), (6, ov_i x6__), (7, ov_i v584), (8, ov_i (x8_____ + 1))]) (List.Sublist.subset (by repeat (first | exact List.Sublist.refl _ | apply List.Sublist.cons_cons | apply List.Sublist.cons))) ?_
                              exact ih587 (x8_____ + 1) _ _ I661 E662 E663 E664 E665 E666 E667 E668 E669 E670 E671 E672 E673 E674 (by show 0 ≤ (x8_____ + 1) ∧ (x8_____ + 1) ≤ 4 ∧ (h660 90 2) = (h 90 2) ∧ (h660 90 3) = (h 90 3) ∧ (h660 90 7) = (h 90 7) ∧ (h660 90 8) = (h 90 8) ∧ (h660 90 13) = (h 90 13) ∧ (h660 90 20) = (h 90 20) ∧ (h660 90 22) = (h 90 22) ∧ (h660 90 25) = (h 90 25) ∧ (h660 90 26) = (h 90 26) ∧ (h660 90 27) = (h 90 27) ∧ (h660 90 28) = (h 90 28) ∧ (h660 90 29) = (h 90 29) ∧ (h660 90 30) = (h 90 30) ∧ (h660 90 34) = (h 90 34) ∧ (h660 90 35) = (h 90 35) ∧ (h660 90 37) = (h 90 37); omega) (by omega)
                            · skip
                              refine ov_blk (ls2 := [(0, ov_r 90), (1, ov_i x), (2, ov_i y), (3, ov_i m), (4, ov_i bo), (5, ov_i w), (6, ov_i x6__), (7, ov_i v584), (8, ov_i x8_____), (9, ov_i (v584 - v653)), (10, ov_i x10_____)]) (st2 := [ov_r 90]) (pc2 := 162) b_297_161_1 rfl rfl ?_
                              refine ov_getf (v := ov_r 110) d_297_162 fl_Mo_132 (zb_90 I661) (zs_90 I661) (congrArg ov_r (rg_90_38 I661)) ?_
                              refine ov_blk (ls2 := [(0, ov_r 90), (1, ov_i x), (2, ov_i y), (3, ov_i m), (4, ov_i bo), (5, ov_i w), (6, ov_i x6__), (7, ov_i v584), (8, ov_i x8_____), (9, ov_i (v584 - v653)), (10, ov_i x10_____)]) (st2 := [ov_r 90, ov_i x8_____, ov_i x10_____, ov_i ((60 * x8_____) + x10_____), ov_r 110]) (pc2 := 178) b_297_165_8 rfl rfl ?_
                              refine ov_getf (v := ov_r 96) d_297_178 fl_Mo_81 (zb_90 I661) (zs_90 I661) (congrArg ov_r (rg_90_10 I661)) ?_
                              refine ov_blk (ls2 := [(0, ov_r 90), (1, ov_i x), (2, ov_i y), (3, ov_i m), (4, ov_i bo), (5, ov_i w), (6, ov_i x6__), (7, ov_i v584), (8, ov_i x8_____), (9, ov_i (v584 - v653)), (10, ov_i x10_____)]) (st2 := [ov_i 2, ov_r 96, ov_i x8_____, ov_i x10_____, ov_i ((60 * x8_____) + x10_____), ov_r 110]) (pc2 := 182) b_297_181_1 rfl rfl ?_
                              refine ov_iald d_297_182 (zb_96 I661) (zs_96 I661) (by omega) ?_
                              rw [show h660 96 = h 96 from E665]
                              have g677 := t96_2 I
                              have gm678 := ov_mulb (q := x8_____) (b := (h 96 2)) (A := 4) (B := 30) (by omega) (by omega) (by omega) (by omega)
                              refine ov_blk (ls2 := [(0, ov_r 90), (1, ov_i x), (2, ov_i y), (3, ov_i m), (4, ov_i bo), (5, ov_i w), (6, ov_i x6__), (7, ov_i v584), (8, ov_i x8_____), (9, ov_i (v584 - v653)), (10, ov_i x10_____)]) (st2 := [ov_i v584, ov_i (v584 - v653), ov_i (x10_____ - (x8_____ * (h 96 2))), ov_i ((60 * x8_____) + x10_____), ov_r 110]) (pc2 := 189) b_297_183_4 rfl rfl ?_
                              refine ov_cS (as := [ov_i (x10_____ - (x8_____ * (h 96 2))), ov_i (v584 - v653), ov_i v584]) (st := [ov_i ((60 * x8_____) + x10_____), ov_r 110]) (d2 := d - 1) d_297_189 lk_Mo_446 rfl (Nat.le_of_ble_eq_true rfl) (by omega) (c_Mo_turned (d - 1) (by omega) U I661 (x10_____ - (x8_____ * (h 96 2))) (v584 - v653) v584 (by omega) (by omega) (by omega) (by omega) (by omega)) ?_
                              rintro _ _ _ ⟨v680, rfl, rfl, rfl, f679⟩
                              show ov_R u d ov_m297 192 [(0, ov_r 90), (1, ov_i x), (2, ov_i y), (3, ov_i m), (4, ov_i bo), (5, ov_i w), (6, ov_i x6__), (7, ov_i v584), (8, ov_i x8_____), (9, ov_i (v584 - v653)), (10, ov_i x10_____)] [ov_l v680, ov_i ((60 * x8_____) + x10_____), ov_r 110] z659 h660 (P_Mo_wave_90 F z h x y m bo w)
                              clear f679
                              refine ov_last d_297_192 (zb_110 I661) (zs_110 I661) (by omega) ?_
                              have I681 := ua_110 (k := ((60 * x8_____) + x10_____)) (x := v680) I661
                              refine ov_blk (ls2 := [(0, ov_r 90), (1, ov_i x), (2, ov_i y), (3, ov_i m), (4, ov_i bo), (5, ov_i w), (6, ov_i x6__), (7, ov_i v584), (8, ov_i x8_____), (9, ov_i (v584 - v653)), (10, ov_i x10_____)]) (st2 := [ov_r 90]) (pc2 := 194) b_297_193_1 rfl rfl ?_
                              refine ov_getf (v := ov_r 111) d_297_194 fl_Mo_135 (zb_90 I681) (zs_90 I681) (congrArg ov_r (rg_90_39 I681)) ?_
                              refine ov_blk (ls2 := [(0, ov_r 90), (1, ov_i x), (2, ov_i y), (3, ov_i m), (4, ov_i bo), (5, ov_i w), (6, ov_i x6__), (7, ov_i v584), (8, ov_i x8_____), (9, ov_i (v584 - v653)), (10, ov_i x10_____)]) (st2 := [ov_r 90, ov_i ((m - 1) - x8_____), ov_i x10_____, ov_i ((60 * x8_____) + x10_____), ov_r 111]) (pc2 := 214) b_297_197_12 rfl rfl ?_
                              refine ov_getf (v := ov_r 96) d_297_214 fl_Mo_81 (zb_90 I681) (zs_90 I681) (congrArg ov_r (rg_90_10 I681)) ?_
                              refine ov_blk (ls2 := [(0, ov_r 90), (1, ov_i x), (2, ov_i y), (3, ov_i m), (4, ov_i bo), (5, ov_i w), (6, ov_i x6__), (7, ov_i v584), (8, ov_i x8_____), (9, ov_i (v584 - v653)), (10, ov_i x10_____)]) (st2 := [ov_i 2, ov_r 96, ov_i ((m - 1) - x8_____), ov_i x10_____, ov_i ((60 * x8_____) + x10_____), ov_r 111]) (pc2 := 218) b_297_217_1 rfl rfl ?_
                              refine ov_iald d_297_218 (zb_96 I681) (zs_96 I681) (by omega) ?_
                              rw [show (ov_up h660 110 ((60 * x8_____) + x10_____) v680) 96 = h 96 from E665]
                              have gm683 := ov_mulb (q := ((m - 1) - x8_____)) (b := (h 96 2)) (A := 4) (B := 30) (by omega) (by omega) (by omega) (by omega)
                              refine ov_blk (ls2 := [(0, ov_r 90), (1, ov_i x), (2, ov_i y), (3, ov_i m), (4, ov_i bo), (5, ov_i w), (6, ov_i x6__), (7, ov_i v584), (8, ov_i x8_____), (9, ov_i (v584 - v653)), (10, ov_i x10_____)]) (st2 := [ov_i v584, ov_i (v584 - v653), ov_i (x10_____ - (((m - 1) - x8_____) * (h 96 2))), ov_i ((60 * x8_____) + x10_____), ov_r 111]) (pc2 := 225) b_297_219_4 rfl rfl ?_
                              refine ov_cS (as := [ov_i (x10_____ - (((m - 1) - x8_____) * (h 96 2))), ov_i (v584 - v653), ov_i v584]) (st := [ov_i ((60 * x8_____) + x10_____), ov_r 111]) (d2 := d - 1) d_297_225 lk_Mo_446 rfl (Nat.le_of_ble_eq_true rfl) (by omega) (c_Mo_turned (d - 1) (by omega) U I681 (x10_____ - (((m - 1) - x8_____) * (h 96 2))) (v584 - v653) v584 (by omega) (by omega) (by omega) (by omega) (by omega)) ?_
                              rintro _ _ _ ⟨v685, rfl, rfl, rfl, f684⟩
                              show ov_R u d ov_m297 228 [(0, ov_r 90), (1, ov_i x), (2, ov_i y), (3, ov_i m), (4, ov_i bo), (5, ov_i w), (6, ov_i x6__), (7, ov_i v584), (8, ov_i x8_____), (9, ov_i (v584 - v653)), (10, ov_i x10_____)] [ov_l v685, ov_i ((60 * x8_____) + x10_____), ov_r 111] z659 (ov_up h660 110 ((60 * x8_____) + x10_____) v680) (P_Mo_wave_90 F z h x y m bo w)
                              clear f684
                              refine ov_last d_297_228 (zb_111 I681) (zs_111 I681) (by omega) ?_
                              have I686 := ua_111 (k := ((60 * x8_____) + x10_____)) (x := v685) I681
                              refine ov_blk (ls2 := [(0, ov_r 90), (1, ov_i x), (2, ov_i y), (3, ov_i m), (4, ov_i bo), (5, ov_i w), (6, ov_i x6__), (7, ov_i v584), (8, ov_i x8_____), (9, ov_i (v584 - v653)), (10, ov_i (x10_____ + 1))]) (st2 := []) (pc2 := 232) b_297_229_1 rfl rfl ?_
                              refine ov_goto (tgt := 154) d_297_232 (by decide) ?_
                              exact ih656 (x10_____ + 1) _ _ I686 E662 E663 E664 E665 E666 E667 E668 E669 E670 E671 E672 E673 E674 (by show 0 ≤ (x10_____ + 1) ∧ (x10_____ + 1) ≤ 60 ∧ (h660 90 2) = (h591 90 2) ∧ (h660 90 3) = (h591 90 3) ∧ (h660 90 7) = (h591 90 7) ∧ (h660 90 8) = (h591 90 8) ∧ (h660 90 13) = (h591 90 13) ∧ (h660 90 20) = (h591 90 20) ∧ (h660 90 22) = (h591 90 22) ∧ (h660 90 25) = (h591 90 25) ∧ (h660 90 26) = (h591 90 26) ∧ (h660 90 27) = (h591 90 27) ∧ (h660 90 28) = (h591 90 28) ∧ (h660 90 29) = (h591 90 29) ∧ (h660 90 30) = (h591 90 30) ∧ (h660 90 34) = (h591 90 34) ∧ (h660 90 35) = (h591 90 35) ∧ (h660 90 37) = (h591 90 37); omega) (by omega)
                        exact L658 61 0 _ _ I592 E593 E594 E595 E596 E597 E598 E599 E600 E601 E602 E603 E604 E605 (by show 0 ≤ 0 ∧ 0 ≤ 60 ∧ (h591 90 2) = (h591 90 2) ∧ (h591 90 3) = (h591 90 3) ∧ (h591 90 7) = (h591 90 7) ∧ (h591 90 8) = (h591 90 8) ∧ (h591 90 13) = (h591 90 13) ∧ (h591 90 20) = (h591 90 20) ∧ (h591 90 22) = (h591 90 22) ∧ (h591 90 25) = (h591 90 25) ∧ (h591 90 26) = (h591 90 26) ∧ (h591 90 27) = (h591 90 27) ∧ (h591 90 28) = (h591 90 28) ∧ (h591 90 29) = (h591 90 29) ∧ (h591 90 30) = (h591 90 30) ∧ (h591 90 34) = (h591 90 34) ∧ (h591 90 35) = (h591 90 35) ∧ (h591 90 37) = (h591 90 37); omega) (by omega)
                  exact L589 5 0 _ _ I1 rfl rfl rfl rfl rfl rfl rfl rfl rfl rfl rfl rfl rfl (by show 0 ≤ 0 ∧ 0 ≤ 4 ∧ (h 90 2) = (h 90 2) ∧ (h 90 3) = (h 90 3) ∧ (h 90 7) = (h 90 7) ∧ (h 90 8) = (h 90 8) ∧ (h 90 13) = (h 90 13) ∧ (h 90 20) = (h 90 20) ∧ (h 90 22) = (h 90 22) ∧ (h 90 25) = (h 90 25) ∧ (h 90 26) = (h 90 26) ∧ (h 90 27) = (h 90 27) ∧ (h 90 28) = (h 90 28) ∧ (h 90 29) = (h 90 29) ∧ (h 90 30) = (h 90 30) ∧ (h 90 34) = (h 90 34) ∧ (h 90 35) = (h 90 35) ∧ (h 90 37) = (h 90 37); omega) (by omega)
                · skip
                  refine ov_blk (ls2 := [(0, ov_r 90), (1, ov_i x), (2, ov_i y), (3, ov_i m), (4, ov_i bo), (5, ov_i w), (6, ov_i x6__), (7, ov_i x7__)]) (st2 := [ov_i (-1)]) (pc2 := 117) b_297_116_1 rfl rfl ?_
                  exact ov_reti (st := []) d_297_117 rfl ⟨_, rfl, I1, (by show -2147483648 ≤ (-1) ∧ (-1) ≤ 2147483647 ∧ (h 90 2) = (h 90 2) ∧ (h 90 3) = (h 90 3) ∧ (h 90 7) = (h 90 7) ∧ (h 90 8) = (h 90 8) ∧ (h 90 13) = (h 90 13) ∧ (h 90 20) = (h 90 20) ∧ (h 90 22) = (h 90 22) ∧ (h 90 25) = (h 90 25) ∧ (h 90 26) = (h 90 26) ∧ (h 90 27) = (h 90 27) ∧ (h 90 28) = (h 90 28) ∧ (h 90 29) = (h 90 29) ∧ (h 90 30) = (h 90 30) ∧ (h 90 34) = (h 90 34) ∧ (h 90 35) = (h 90 35) ∧ (h 90 37) = (h 90 37); omega), rfl, rfl, rfl, rfl, rfl, rfl, rfl, rfl, rfl, rfl, rfl, rfl, rfl⟩
              · skip
                refine ov_blk (ls2 := [(0, ov_r 90), (1, ov_i x), (2, ov_i y), (3, ov_i m), (4, ov_i bo), (5, ov_i w), (6, ov_i x6__), (7, ov_i x7__)]) (st2 := [ov_i (y + x7__), ov_i x, ov_r 90]) (pc2 := 72) b_297_66_5 rfl rfl ?_
                refine ov_cV (as := [ov_i x, ov_i (y + x7__)]) (st := []) (d2 := d - 1) d_297_72 lk_Mo_285 rfl (Nat.le_of_ble_eq_true rfl) (c := 1) (zb_90 I1) (zs_90 I1) ⟨by decide, rfl⟩ (by omega) (c_Mo_isTimed_90 (d - 1) (by omega) U I1 x (y + x7__) (by omega) (by omega) (by omega)) ?_
                rintro _ _ _ ⟨v688, rfl, rfl, rfl, f687⟩
                show ov_R u d ov_m297 75 [(0, ov_r 90), (1, ov_i x), (2, ov_i y), (3, ov_i m), (4, ov_i bo), (5, ov_i w), (6, ov_i x6__), (7, ov_i x7__)] [ov_i v688] z (ov_up h 90 0 0) (P_Mo_wave_90 F z h x y m bo w)
                have f689 : (v688 = 0 ∨ v688 = 1) ∧ (v688 = 1 → ((h 96 (10 + 4 * (6 * (y + x7__) + x))) = 1 ∨ (h 96 (10 + 4 * (6 * (y + x7__) + x))) = 2)) ∧ (v688 = 0 → ¬ ((h 96 (10 + 4 * (6 * (y + x7__) + x))) = 1 ∨ (h 96 (10 + 4 * (6 * (y + x7__) + x))) = 2)) := f687
                clear f687
                refine ov_ifeq (tgt := 102) d_297_75 (by decide) (by omega) (fun c690 => ?_) (fun c690 => ?_)
                · skip
                  refine ov_blk (ls2 := [(0, ov_r 90), (1, ov_i x), (2, ov_i y), (3, ov_i m), (4, ov_i bo), (5, ov_i w), (6, ov_i 0), (7, ov_i (x7__ + 1))]) (st2 := []) (pc2 := 108) b_297_102_3 rfl rfl ?_
                  refine ov_goto (tgt := 55) d_297_108 (by decide) ?_
                  exact ih471 0 (x7__ + 1) (by show (0 = 0 ∨ 0 = 1) ∧ 0 ≤ (x7__ + 1) ∧ (x7__ + 1) ≤ 4 ∧ (0 = 1 → 0 ≤ x ∧ x ≤ 5 ∧ 0 ≤ y ∧ y ≤ 8 ∧ 2 ≤ m ∧ m ≤ 4 ∧ y + m ≤ 9 ∧ 0 ≤ w ∧ w ≤ m - 1 ∧ (1 ≤ (x7__ + 1) → ((h 96 (10 + 4 * (6 * y + x))) = 1 ∨ (h 96 (10 + 4 * (6 * y + x))) = 2))); omega) (by omega)
                · skip
                  refine ov_blk (ls2 := [(0, ov_r 90), (1, ov_i x), (2, ov_i y), (3, ov_i m), (4, ov_i bo), (5, ov_i w), (6, ov_i x6__), (7, ov_i x7__)]) (st2 := [ov_i 1, ov_i (y + x7__), ov_i x, ov_r 90]) (pc2 := 85) b_297_78_6 rfl rfl ?_
                  refine ov_cV (as := [ov_i x, ov_i (y + x7__), ov_i 1]) (st := []) (d2 := d - 1) d_297_85 lk_Mo_289 rfl (Nat.le_of_ble_eq_true rfl) (c := 1) (zb_90 I1) (zs_90 I1) ⟨by decide, rfl⟩ (by omega) (c_Mo_lightAt_90 (d - 1) (by omega) U I1 x (y + x7__) 1 (by omega) (by omega) (by omega) (by omega) (by omega)) ?_
                  rintro _ _ _ ⟨v692, rfl, rfl, rfl, f691⟩
                  show ov_R u d ov_m297 88 [(0, ov_r 90), (1, ov_i x), (2, ov_i y), (3, ov_i m), (4, ov_i bo), (5, ov_i w), (6, ov_i x6__), (7, ov_i x7__)] [ov_i v692] z (ov_up h 90 0 0) (P_Mo_wave_90 F z h x y m bo w)
                  have f693 : v692 = (h 96 (10 + 4 * (6 * (y + x7__) + x) + (1 : Int))) ∧ ((1 : Int) = 1 → 0 ≤ v692 ∧ v692 ≤ 60) ∧ ((1 : Int) = 2 → 0 ≤ v692 ∧ v692 ≤ 59) ∧ ((1 : Int) = 3 → 0 ≤ v692 ∧ v692 ≤ 60) := f691
                  clear f691
                  refine ov_blk (ls2 := [(0, ov_r 90), (1, ov_i x), (2, ov_i y), (3, ov_i m), (4, ov_i bo), (5, ov_i w), (6, ov_i x6__), (7, ov_i x7__)]) (st2 := [ov_i 1, ov_i y, ov_i x, ov_r 90, ov_i v692]) (pc2 := 92) b_297_88_4 rfl rfl ?_
                  refine ov_cV (as := [ov_i x, ov_i y, ov_i 1]) (st := [ov_i v692]) (d2 := d - 1) d_297_92 lk_Mo_289 rfl (Nat.le_of_ble_eq_true rfl) (c := 1) (zb_90 I1) (zs_90 I1) ⟨by decide, rfl⟩ (by omega) (c_Mo_lightAt_90 (d - 1) (by omega) U I1 x y 1 (by omega) (by omega) (by omega) (by omega) (by omega)) ?_
                  rintro _ _ _ ⟨v695, rfl, rfl, rfl, f694⟩
                  show ov_R u d ov_m297 95 [(0, ov_r 90), (1, ov_i x), (2, ov_i y), (3, ov_i m), (4, ov_i bo), (5, ov_i w), (6, ov_i x6__), (7, ov_i x7__)] [ov_i v695, ov_i v692] z (ov_up h 90 0 0) (P_Mo_wave_90 F z h x y m bo w)
                  have f696 : v695 = (h 96 (10 + 4 * (6 * y + x) + (1 : Int))) ∧ ((1 : Int) = 1 → 0 ≤ v695 ∧ v695 ≤ 60) ∧ ((1 : Int) = 2 → 0 ≤ v695 ∧ v695 ≤ 59) ∧ ((1 : Int) = 3 → 0 ≤ v695 ∧ v695 ≤ 60) := f694
                  clear f694
                  refine ov_icne (tgt := 102) d_297_95 (by decide) (by omega) (by omega) (fun c697 => ?_) (fun c697 => ?_)
                  · skip
                    refine ov_blk (ls2 := [(0, ov_r 90), (1, ov_i x), (2, ov_i y), (3, ov_i m), (4, ov_i bo), (5, ov_i w), (6, ov_i 0), (7, ov_i (x7__ + 1))]) (st2 := []) (pc2 := 108) b_297_102_3 rfl rfl ?_
                    refine ov_goto (tgt := 55) d_297_108 (by decide) ?_
                    exact ih471 0 (x7__ + 1) (by show (0 = 0 ∨ 0 = 1) ∧ 0 ≤ (x7__ + 1) ∧ (x7__ + 1) ≤ 4 ∧ (0 = 1 → 0 ≤ x ∧ x ≤ 5 ∧ 0 ≤ y ∧ y ≤ 8 ∧ 2 ≤ m ∧ m ≤ 4 ∧ y + m ≤ 9 ∧ 0 ≤ w ∧ w ≤ m - 1 ∧ (1 ≤ (x7__ + 1) → ((h 96 (10 + 4 * (6 * y + x))) = 1 ∨ (h 96 (10 + 4 * (6 * y + x))) = 2))); omega) (by omega)
                  · skip
                    refine ov_blk (ls2 := [(0, ov_r 90), (1, ov_i x), (2, ov_i y), (3, ov_i m), (4, ov_i bo), (5, ov_i w), (6, ov_i x6__), (7, ov_i x7__)]) (st2 := [ov_i 1]) (pc2 := 99) b_297_98_1 rfl rfl ?_
                    refine ov_goto (tgt := 103) d_297_99 (by decide) ?_
                    refine ov_blk (ls2 := [(0, ov_r 90), (1, ov_i x), (2, ov_i y), (3, ov_i m), (4, ov_i bo), (5, ov_i w), (6, ov_i 1), (7, ov_i (x7__ + 1))]) (st2 := []) (pc2 := 108) b_297_103_2 rfl rfl ?_
                    refine ov_goto (tgt := 55) d_297_108 (by decide) ?_
                    exact ih471 1 (x7__ + 1) (by show (1 = 0 ∨ 1 = 1) ∧ 0 ≤ (x7__ + 1) ∧ (x7__ + 1) ≤ 4 ∧ (1 = 1 → 0 ≤ x ∧ x ≤ 5 ∧ 0 ≤ y ∧ y ≤ 8 ∧ 2 ≤ m ∧ m ≤ 4 ∧ y + m ≤ 9 ∧ 0 ≤ w ∧ w ≤ m - 1 ∧ (1 ≤ (x7__ + 1) → ((h 96 (10 + 4 * (6 * y + x))) = 1 ∨ (h 96 (10 + 4 * (6 * y + x))) = 2))); omega) (by omega)
        exact L473 5 0 0 (by show (0 = 0 ∨ 0 = 1) ∧ 0 ≤ 0 ∧ 0 ≤ 4 ∧ (0 = 1 → 0 ≤ x ∧ x ≤ 5 ∧ 0 ≤ y ∧ y ≤ 8 ∧ 2 ≤ m ∧ m ≤ 4 ∧ y + m ≤ 9 ∧ 0 ≤ w ∧ w ≤ m - 1 ∧ (1 ≤ 0 → ((h 96 (10 + 4 * (6 * y + x))) = 1 ∨ (h 96 (10 + 4 * (6 * y + x))) = 2))); omega) (by omega)
      · skip
        refine ov_blk (ls2 := [(0, ov_r 90), (1, ov_i x), (2, ov_i y), (3, ov_i m), (4, ov_i bo), (5, ov_i w)]) (st2 := [ov_i (m - 1), ov_i 0, ov_i w]) (pc2 := 39) b_297_33_5 rfl rfl ?_
        refine ov_cS (as := [ov_i w, ov_i 0, ov_i (m - 1)]) (st := []) (d2 := d - 1) d_297_39 lk_Mo_299 rfl (Nat.le_of_ble_eq_true rfl) (by omega) (c_Mo_within (d - 1) (by omega) U I1 w 0 (m - 1) (by omega) (by omega) (by omega)) ?_
        rintro _ _ _ ⟨v699, rfl, rfl, rfl, f698⟩
        show ov_R u d ov_m297 42 [(0, ov_r 90), (1, ov_i x), (2, ov_i y), (3, ov_i m), (4, ov_i bo), (5, ov_i w)] [ov_i v699] z (ov_up h 90 0 0) (P_Mo_wave_90 F z h x y m bo w)
        have f700 : (v699 = 0 ∨ v699 = 1) ∧ (v699 = 1 → (0 : Int) ≤ w ∧ w ≤ (m - 1)) ∧ (v699 = 0 → w < (0 : Int) ∨ (m - 1) < w) := f698
        clear f698
        refine ov_ifeq (tgt := 49) d_297_42 (by decide) (by omega) (fun c701 => ?_) (fun c701 => ?_)
        · skip
          refine ov_blk (ls2 := [(0, ov_r 90), (1, ov_i x), (2, ov_i y), (3, ov_i m), (4, ov_i bo), (5, ov_i w), (6, ov_i 0), (7, ov_i 0)]) (st2 := []) (pc2 := 55) b_297_49_4 rfl rfl ?_
          have L705 : ∀ (n702 : Nat) (x6___ : Int) (x7___ : Int) (q704 : (x6___ = 0 ∨ x6___ = 1) ∧ 0 ≤ x7___ ∧ x7___ ≤ 4 ∧ (x6___ = 1 → 0 ≤ x ∧ x ≤ 5 ∧ 0 ≤ y ∧ y ≤ 8 ∧ 2 ≤ m ∧ m ≤ 4 ∧ y + m ≤ 9 ∧ 0 ≤ w ∧ w ≤ m - 1 ∧ (1 ≤ x7___ → ((h 96 (10 + 4 * (6 * y + x))) = 1 ∨ (h 96 (10 + 4 * (6 * y + x))) = 2)))), 4 - x7___ < (n702 : Int) → ov_R u d ov_m297 55 [(0, ov_r 90), (1, ov_i x), (2, ov_i y), (3, ov_i m), (4, ov_i bo), (5, ov_i w), (6, ov_i x6___), (7, ov_i x7___)] [] z (ov_up h 90 0 0) (P_Mo_wave_90 F z h x y m bo w) := by
            intro n702
            induction n702 with
            | zero =>
              intro x6___ x7___ q704 hn706
              exact absurd hn706 (by omega)
            | succ n702 ih703 =>
              intro x6___ x7___ q704 hn706
              refine ov_blk (ls2 := [(0, ov_r 90), (1, ov_i x), (2, ov_i y), (3, ov_i m), (4, ov_i bo), (5, ov_i w), (6, ov_i x6___), (7, ov_i x7___)]) (st2 := [ov_i m, ov_i x7___]) (pc2 := 58) b_297_55_2 rfl rfl ?_
              refine ov_icge (tgt := 111) d_297_58 (by decide) (by omega) (by omega) (fun c707 => ?_) (fun c707 => ?_)
              · skip
                refine ov_blk (ls2 := [(0, ov_r 90), (1, ov_i x), (2, ov_i y), (3, ov_i m), (4, ov_i bo), (5, ov_i w), (6, ov_i x6___), (7, ov_i x7___)]) (st2 := [ov_i x6___]) (pc2 := 113) b_297_111_1 rfl rfl ?_
                refine ov_ifne (tgt := 118) d_297_113 (by decide) (by omega) (fun c708 => ?_) (fun c708 => ?_)
                · skip
                  have w1 := ov_WT_at W (c := 6 * y + x) (by omega)
                  refine ov_blk (ls2 := [(0, ov_r 90), (1, ov_i x), (2, ov_i y), (3, ov_i m), (4, ov_i bo), (5, ov_i w), (6, ov_i x6___), (7, ov_i x7___)]) (st2 := [ov_i 1, ov_i y, ov_i x, ov_r 90]) (pc2 := 122) b_297_118_4 rfl rfl ?_
                  refine ov_cV (as := [ov_i x, ov_i y, ov_i 1]) (st := []) (d2 := d - 1) d_297_122 lk_Mo_289 rfl (Nat.le_of_ble_eq_true rfl) (c := 1) (zb_90 I1) (zs_90 I1) ⟨by decide, rfl⟩ (by omega) (c_Mo_lightAt_90 (d - 1) (by omega) U I1 x y 1 (by omega) (by omega) (by omega) (by omega) (by omega)) ?_
                  rintro _ _ _ ⟨v710, rfl, rfl, rfl, f709⟩
                  show ov_R u d ov_m297 125 [(0, ov_r 90), (1, ov_i x), (2, ov_i y), (3, ov_i m), (4, ov_i bo), (5, ov_i w), (6, ov_i x6___), (7, ov_i x7___)] [ov_i v710] z (ov_up h 90 0 0) (P_Mo_wave_90 F z h x y m bo w)
                  have f711 : v710 = (h 96 (10 + 4 * (6 * y + x) + (1 : Int))) ∧ ((1 : Int) = 1 → 0 ≤ v710 ∧ v710 ≤ 60) ∧ ((1 : Int) = 2 → 0 ≤ v710 ∧ v710 ≤ 59) ∧ ((1 : Int) = 3 → 0 ≤ v710 ∧ v710 ≤ 60) := f709
                  clear f709
                  refine ov_blk (ls2 := [(0, ov_r 90), (1, ov_i x), (2, ov_i y), (3, ov_i m), (4, ov_i bo), (5, ov_i w), (6, ov_i x6___), (7, ov_i v710), (8, ov_i 0)]) (st2 := []) (pc2 := 130) b_297_125_3 rfl rfl ?_
                  have L715 : ∀ (n712 : Nat) (x8______ : Int) (z716 : ov_Z) (h717 : ov_H) (I718 : ov_N F z716 h717) (E719 : h717 92 = h 92) (E720 : h717 93 = h 93) (E721 : h717 94 = h 94) (E722 : h717 96 = h 96) (E723 : h717 97 = h 97) (E724 : h717 98 = h 98) (E725 : h717 99 = h 99) (E726 : h717 100 = h 100) (E727 : h717 103 = h 103) (E728 : h717 105 = h 105) (E729 : h717 106 = h 106) (E730 : h717 109 = h 109) (E731 : h717 114 = h 114) (q714 : 0 ≤ x8______ ∧ x8______ ≤ 4 ∧ (h717 90 2) = (h 90 2) ∧ (h717 90 3) = (h 90 3) ∧ (h717 90 7) = (h 90 7) ∧ (h717 90 8) = (h 90 8) ∧ (h717 90 13) = (h 90 13) ∧ (h717 90 20) = (h 90 20) ∧ (h717 90 22) = (h 90 22) ∧ (h717 90 25) = (h 90 25) ∧ (h717 90 26) = (h 90 26) ∧ (h717 90 27) = (h 90 27) ∧ (h717 90 28) = (h 90 28) ∧ (h717 90 29) = (h 90 29) ∧ (h717 90 30) = (h 90 30) ∧ (h717 90 34) = (h 90 34) ∧ (h717 90 35) = (h 90 35) ∧ (h717 90 37) = (h 90 37)), 4 - x8______ < (n712 : Int) → ov_R u d ov_m297 130 [(0, ov_r 90), (1, ov_i x), (2, ov_i y), (3, ov_i m), (4, ov_i bo), (5, ov_i w), (6, ov_i x6___), (7, ov_i v710), (8, ov_i x8______)] [] z716 h717 (P_Mo_wave_90 F z h x y m bo w) := by
                    intro n712
                    induction n712 with
                    | zero =>
                      intro x8______ z716 h717 I718 E719 E720 E721 E722 E723 E724 E725 E726 E727 E728 E729 E730 E731 q714 hn732
                      exact absurd hn732 (by omega)
                    | succ n712 ih713 =>
                      intro x8______ z716 h717 I718 E719 E720 E721 E722 E723 E724 E725 E726 E727 E728 E729 E730 E731 q714 hn732
                      refine ov_blk (ls2 := [(0, ov_r 90), (1, ov_i x), (2, ov_i y), (3, ov_i m), (4, ov_i bo), (5, ov_i w), (6, ov_i x6___), (7, ov_i v710), (8, ov_i x8______)]) (st2 := [ov_i m, ov_i x8______]) (pc2 := 133) b_297_130_2 rfl rfl ?_
                      refine ov_icge (tgt := 241) d_297_133 (by decide) (by omega) (by omega) (fun c733 => ?_) (fun c733 => ?_)
                      · skip
                        refine ov_blk (ls2 := [(0, ov_r 90), (1, ov_i x), (2, ov_i y), (3, ov_i m), (4, ov_i bo), (5, ov_i w), (6, ov_i x6___), (7, ov_i v710), (8, ov_i x8______)]) (st2 := [ov_i (-1), ov_r 90]) (pc2 := 243) b_297_241_2 rfl rfl ?_
                        refine ov_putf (x := (-1)) d_297_243 fl_Mo_439 (zb_90 I718) (zs_90 I718) rfl nk_0 rfl ?_
                        have I734 := up_90_42 (x := (-1)) I718 (by omega)
                        refine ov_blk (ls2 := [(0, ov_r 90), (1, ov_i x), (2, ov_i y), (3, ov_i m), (4, ov_i bo), (5, ov_i w), (6, ov_i x6___), (7, ov_i v710), (8, ov_i x8______)]) (st2 := [ov_i 2, ov_i y, ov_i x, ov_r 90]) (pc2 := 250) b_297_246_4 rfl rfl ?_
                        refine ov_cV (as := [ov_i x, ov_i y, ov_i 2]) (st := []) (d2 := d - 1) d_297_250 lk_Mo_289 rfl (Nat.le_of_ble_eq_true rfl) (c := 1) (zb_90 I734) (zs_90 I734) ⟨by decide, rfl⟩ (by omega) (c_Mo_lightAt_90 (d - 1) (by omega) U I734 x y 2 (by omega) (by omega) (by omega) (by omega) (by omega)) ?_
                        rintro _ _ _ ⟨v736, rfl, rfl, rfl, f735⟩
                        show ov_R u d ov_m297 253 [(0, ov_r 90), (1, ov_i x), (2, ov_i y), (3, ov_i m), (4, ov_i bo), (5, ov_i w), (6, ov_i x6___), (7, ov_i v710), (8, ov_i x8______)] [ov_i v736] z716 (ov_up h717 90 42 (-1)) (P_Mo_wave_90 F z h x y m bo w)
                        rw [show (ov_up h717 90 42 (-1)) 96 = h 96 from E722] at f735
                        have f737 : v736 = (h 96 (10 + 4 * (6 * y + x) + (2 : Int))) ∧ ((2 : Int) = 1 → 0 ≤ v736 ∧ v736 ≤ 60) ∧ ((2 : Int) = 2 → 0 ≤ v736 ∧ v736 ≤ 59) ∧ ((2 : Int) = 3 → 0 ≤ v736 ∧ v736 ≤ 60) := f735
                        clear f735
                        refine ov_blk (ls2 := [(0, ov_r 90), (1, ov_i x), (2, ov_i y), (3, ov_i m), (4, ov_i bo), (5, ov_i w), (6, ov_i x6___), (7, ov_i v710), (8, ov_i x8______)]) (st2 := [ov_i 3, ov_i y, ov_i x, ov_r 90, ov_i v736]) (pc2 := 257) b_297_253_4 rfl rfl ?_
                        refine ov_cV (as := [ov_i x, ov_i y, ov_i 3]) (st := [ov_i v736]) (d2 := d - 1) d_297_257 lk_Mo_289 rfl (Nat.le_of_ble_eq_true rfl) (c := 1) (zb_90 I734) (zs_90 I734) ⟨by decide, rfl⟩ (by omega) (c_Mo_lightAt_90 (d - 1) (by omega) U I734 x y 3 (by omega) (by omega) (by omega) (by omega) (by omega)) ?_
                        rintro _ _ _ ⟨v739, rfl, rfl, rfl, f738⟩
                        show ov_R u d ov_m297 260 [(0, ov_r 90), (1, ov_i x), (2, ov_i y), (3, ov_i m), (4, ov_i bo), (5, ov_i w), (6, ov_i x6___), (7, ov_i v710), (8, ov_i x8______)] [ov_i v739, ov_i v736] z716 (ov_up h717 90 42 (-1)) (P_Mo_wave_90 F z h x y m bo w)
                        rw [show (ov_up h717 90 42 (-1)) 96 = h 96 from E722] at f738
                        have f740 : v739 = (h 96 (10 + 4 * (6 * y + x) + (3 : Int))) ∧ ((3 : Int) = 1 → 0 ≤ v739 ∧ v739 ≤ 60) ∧ ((3 : Int) = 2 → 0 ≤ v739 ∧ v739 ≤ 59) ∧ ((3 : Int) = 3 → 0 ≤ v739 ∧ v739 ≤ 60) := f738
                        clear f738
                        refine ov_blk (ls2 := [(0, ov_r 90), (1, ov_i x), (2, ov_i y), (3, ov_i m), (4, ov_i bo), (5, ov_i w), (6, ov_i x6___), (7, ov_i v710), (8, ov_i x8______)]) (st2 := [ov_i v710, ov_i (v736 + v739)]) (pc2 := 263) b_297_260_2 rfl rfl ?_
                        refine ov_irem d_297_263 (by omega) (by omega) (by omega) ?_
                        have g741 := ov_tmg (a := (v736 + v739)) (b := v710) (by omega) (by omega)
                        refine ov_havw (fun w742 gw742 qw742 => ?_)
                        refine ov_blk (ls2 := [(0, ov_r 90), (1, ov_i x), (2, ov_i y), (3, ov_i m), (4, ov_i bo), (5, ov_i w), (6, ov_i x6___), (7, ov_i v710), (8, ov_i w742)]) (st2 := [ov_r 90]) (pc2 := 267) b_297_264_2 rfl rfl ?_
                        refine ov_getf (v := ov_r 112) d_297_267 fl_Mo_138 (zb_90 I734) (zs_90 I734) (congrArg ov_r (rg_90_40 I734)) ?_
                        refine ov_blk (ls2 := [(0, ov_r 90), (1, ov_i x), (2, ov_i y), (3, ov_i m), (4, ov_i bo), (5, ov_i w), (6, ov_i x6___), (7, ov_i v710), (8, ov_i w742)]) (st2 := [ov_i w742, ov_i 0, ov_r 112]) (pc2 := 273) b_297_270_2 rfl rfl ?_
                        refine ov_iast d_297_273 (zb_112 I734) (zs_112 I734) (by omega) ?_
                        have I743 := ua_112 (k := 0) (x := w742) I734 (by omega)
                        refine ov_blk (ls2 := [(0, ov_r 90), (1, ov_i x), (2, ov_i y), (3, ov_i m), (4, ov_i bo), (5, ov_i w), (6, ov_i x6___), (7, ov_i v710), (8, ov_i w742)]) (st2 := [ov_r 90, ov_i v710, ov_i m, ov_i 1, ov_r 90]) (pc2 := 280) b_297_274_5 rfl rfl ?_
                        refine ov_getf (v := ov_r 110) d_297_280 fl_Mo_132 (zb_90 I743) (zs_90 I743) (congrArg ov_r (rg_90_38 I743)) ?_
                        refine ov_blk (ls2 := [(0, ov_r 90), (1, ov_i x), (2, ov_i y), (3, ov_i m), (4, ov_i bo), (5, ov_i w), (6, ov_i x6___), (7, ov_i v710), (8, ov_i w742)]) (st2 := [ov_i w742, ov_r 110, ov_i v710, ov_i m, ov_i 1, ov_r 90]) (pc2 := 285) b_297_283_1 rfl rfl ?_
                        refine ov_lald d_297_285 (zb_110 I743) (zs_110 I743) (by omega) ?_
                        show ov_R u d ov_m297 286 [(0, ov_r 90), (1, ov_i x), (2, ov_i y), (3, ov_i m), (4, ov_i bo), (5, ov_i w), (6, ov_i x6___), (7, ov_i v710), (8, ov_i w742)] [ov_l (h717 110 w742), ov_i v710, ov_i m, ov_i 1, ov_r 90] z716 (ov_up (ov_up h717 90 42 (-1)) 112 0 w742) (P_Mo_wave_90 F z h x y m bo w)
                        refine ov_blk (ls2 := [(0, ov_r 90), (1, ov_i x), (2, ov_i y), (3, ov_i m), (4, ov_i bo), (5, ov_i w), (6, ov_i x6___), (7, ov_i v710), (8, ov_i w742)]) (st2 := [ov_r 90, ov_l (h717 110 w742), ov_i v710, ov_i m, ov_i 1, ov_r 90]) (pc2 := 287) b_297_286_1 rfl rfl ?_
                        refine ov_getf (v := ov_r 111) d_297_287 fl_Mo_135 (zb_90 I743) (zs_90 I743) (congrArg ov_r (rg_90_39 I743)) ?_
                        refine ov_blk (ls2 := [(0, ov_r 90), (1, ov_i x), (2, ov_i y), (3, ov_i m), (4, ov_i bo), (5, ov_i w), (6, ov_i x6___), (7, ov_i v710), (8, ov_i w742)]) (st2 := [ov_i w742, ov_r 111, ov_l (h717 110 w742), ov_i v710, ov_i m, ov_i 1, ov_r 90]) (pc2 := 292) b_297_290_1 rfl rfl ?_
                        refine ov_lald d_297_292 (zb_111 I743) (zs_111 I743) (by omega) ?_
                        show ov_R u d ov_m297 293 [(0, ov_r 90), (1, ov_i x), (2, ov_i y), (3, ov_i m), (4, ov_i bo), (5, ov_i w), (6, ov_i x6___), (7, ov_i v710), (8, ov_i w742)] [ov_l (h717 111 w742), ov_l (h717 110 w742), ov_i v710, ov_i m, ov_i 1, ov_r 90] z716 (ov_up (ov_up h717 90 42 (-1)) 112 0 w742) (P_Mo_wave_90 F z h x y m bo w)
                        refine ov_blk (ls2 := [(0, ov_r 90), (1, ov_i x), (2, ov_i y), (3, ov_i m), (4, ov_i bo), (5, ov_i w), (6, ov_i x6___), (7, ov_i v710), (8, ov_i w742)]) (st2 := [ov_i bo, ov_l (h717 111 w742), ov_l (h717 110 w742), ov_i v710, ov_i m, ov_i 1, ov_r 90]) (pc2 := 295) b_297_293_1 rfl rfl ?_
                        refine ov_cV (as := [ov_i 1, ov_i m, ov_i v710, ov_l (h717 110 w742), ov_l (h717 111 w742), ov_i bo]) (st := []) (d2 := d - 1) d_297_295 lk_Mo_442 rfl (Nat.le_of_ble_eq_true rfl) (c := 1) (zb_90 I743) (zs_90 I743) ⟨by decide, rfl⟩ (by omega) (c_Mo_triesWave_90_all (Int.toNat ((m) - (1))) (d - 1) (by omega) U I743 1 m v710 (h717 110 w742) (h717 111 w742) bo (by omega) (by omega) (by omega) (by omega) (by omega) (by omega) (by omega)) ?_
                        rintro _ z758 h759 ⟨rfl, I760, f744, e745, e746, e747, e748, e749, e750, e751, e752, e753, e754, e755, e756, e757⟩
                        have E761 : h759 92 = h 92 := Eq.trans e745 E719
                        have E762 : h759 93 = h 93 := Eq.trans e746 E720
                        have E763 : h759 94 = h 94 := Eq.trans e747 E721
                        have E764 : h759 96 = h 96 := Eq.trans e748 E722
                        have E765 : h759 97 = h 97 := Eq.trans e749 E723
                        have E766 : h759 98 = h 98 := Eq.trans e750 E724
                        have E767 : h759 99 = h 99 := Eq.trans e751 E725
                        have E768 : h759 100 = h 100 := Eq.trans e752 E726
                        have E769 : h759 103 = h 103 := Eq.trans e753 E727
                        have E770 : h759 105 = h 105 := Eq.trans e754 E728
                        have E771 : h759 106 = h 106 := Eq.trans e755 E729
                        have E772 : h759 109 = h 109 := Eq.trans e756 E730
                        have E773 : h759 114 = h 114 := Eq.trans e757 E731
                        show ov_R u d ov_m297 298 [(0, ov_r 90), (1, ov_i x), (2, ov_i y), (3, ov_i m), (4, ov_i bo), (5, ov_i w), (6, ov_i x6___), (7, ov_i v710), (8, ov_i w742)] [] z758 h759 (P_Mo_wave_90 F z h x y m bo w)
                        have f774 : (h759 90 2) = (h717 90 2) ∧ (h759 90 3) = (h717 90 3) ∧ (h759 90 7) = (h717 90 7) ∧ (h759 90 8) = (h717 90 8) ∧ (h759 90 13) = (h717 90 13) ∧ (h759 90 20) = (h717 90 20) ∧ (h759 90 22) = (h717 90 22) ∧ (h759 90 25) = (h717 90 25) ∧ (h759 90 26) = (h717 90 26) ∧ (h759 90 27) = (h717 90 27) ∧ (h759 90 28) = (h717 90 28) ∧ (h759 90 29) = (h717 90 29) ∧ (h759 90 30) = (h717 90 30) ∧ (h759 90 34) = (h717 90 34) ∧ (h759 90 35) = (h717 90 35) ∧ (h759 90 37) = (h717 90 37) := f744
                        clear f744
                        refine ov_blk (ls2 := [(0, ov_r 90), (1, ov_i x), (2, ov_i y), (3, ov_i m), (4, ov_i bo), (5, ov_i w), (6, ov_i x6___), (7, ov_i v710), (8, ov_i w742)]) (st2 := [ov_i w]) (pc2 := 300) b_297_298_1 rfl rfl ?_
                        refine ov_ifne (tgt := 310) d_297_300 (by decide) (by omega) (fun c775 => ?_) (fun c775 => ?_)
                        · skip
                          refine ov_blk (ls2 := [(0, ov_r 90), (1, ov_i x), (2, ov_i y), (3, ov_i m), (4, ov_i bo), (5, ov_i w), (6, ov_i x6___), (7, ov_i v710), (8, ov_i w742)]) (st2 := [ov_r 90]) (pc2 := 311) b_297_310_1 rfl rfl ?_
                          refine ov_getf (v := ov_r 113) d_297_311 fl_Mo_141 (zb_90 I760) (zs_90 I760) (congrArg ov_r (rg_90_41 I760)) ?_
                          refine ov_blk (ls2 := [(0, ov_r 90), (1, ov_i x), (2, ov_i y), (3, ov_i m), (4, ov_i bo), (5, ov_i w), (6, ov_i x6___), (7, ov_i v710), (8, ov_i w742)]) (st2 := [ov_i w, ov_r 113]) (pc2 := 316) b_297_314_1 rfl rfl ?_
                          refine ov_iald d_297_316 (zb_113 I760) (zs_113 I760) (by omega) ?_
                          have g776 := ra_113 I760 w
                          exact ov_reti (st := []) d_297_317 rfl ⟨_, rfl, I760, (by show -2147483648 ≤ (h759 113 w) ∧ (h759 113 w) ≤ 2147483647 ∧ (h759 90 2) = (h 90 2) ∧ (h759 90 3) = (h 90 3) ∧ (h759 90 7) = (h 90 7) ∧ (h759 90 8) = (h 90 8) ∧ (h759 90 13) = (h 90 13) ∧ (h759 90 20) = (h 90 20) ∧ (h759 90 22) = (h 90 22) ∧ (h759 90 25) = (h 90 25) ∧ (h759 90 26) = (h 90 26) ∧ (h759 90 27) = (h 90 27) ∧ (h759 90 28) = (h 90 28) ∧ (h759 90 29) = (h 90 29) ∧ (h759 90 30) = (h 90 30) ∧ (h759 90 34) = (h 90 34) ∧ (h759 90 35) = (h 90 35) ∧ (h759 90 37) = (h 90 37); omega), E761, E762, E763, E764, E765, E766, E767, E768, E769, E770, E771, E772, E773⟩
                        · skip
                          refine ov_blk (ls2 := [(0, ov_r 90), (1, ov_i x), (2, ov_i y), (3, ov_i m), (4, ov_i bo), (5, ov_i w), (6, ov_i x6___), (7, ov_i v710), (8, ov_i w742)]) (st2 := [ov_r 90]) (pc2 := 304) b_297_303_1 rfl rfl ?_
                          refine ov_getf (v := ov_i (h759 90 42)) d_297_304 fl_Mo_439 (zb_90 I760) (zs_90 I760) rfl ?_
                          have g777 := rg_90_42 I760
                          refine ov_goto (tgt := 317) d_297_307 (by decide) ?_
                          exact ov_reti (st := []) d_297_317 rfl ⟨_, rfl, I760, (by show -2147483648 ≤ (h759 90 42) ∧ (h759 90 42) ≤ 2147483647 ∧ (h759 90 2) = (h 90 2) ∧ (h759 90 3) = (h 90 3) ∧ (h759 90 7) = (h 90 7) ∧ (h759 90 8) = (h 90 8) ∧ (h759 90 13) = (h 90 13) ∧ (h759 90 20) = (h 90 20) ∧ (h759 90 22) = (h 90 22) ∧ (h759 90 25) = (h 90 25) ∧ (h759 90 26) = (h 90 26) ∧ (h759 90 27) = (h 90 27) ∧ (h759 90 28) = (h 90 28) ∧ (h759 90 29) = (h 90 29) ∧ (h759 90 30) = (h 90 30) ∧ (h759 90 34) = (h 90 34) ∧ (h759 90 35) = (h 90 35) ∧ (h759 90 37) = (h 90 37); omega), E761, E762, E763, E764, E765, E766, E767, E768, E769, E770, E771, E772, E773⟩
                      · skip
                        refine ov_blk (ls2 := [(0, ov_r 90), (1, ov_i x), (2, ov_i y), (3, ov_i m), (4, ov_i bo), (5, ov_i w), (6, ov_i x6___), (7, ov_i v710), (8, ov_i x8______)]) (st2 := [ov_i 3, ov_i (y + x8______), ov_i x, ov_r 90, ov_i v710]) (pc2 := 145) b_297_136_7 rfl rfl ?_
                        refine ov_cV (as := [ov_i x, ov_i (y + x8______), ov_i 3]) (st := [ov_i v710]) (d2 := d - 1) d_297_145 lk_Mo_289 rfl (Nat.le_of_ble_eq_true rfl) (c := 1) (zb_90 I718) (zs_90 I718) ⟨by decide, rfl⟩ (by omega) (c_Mo_lightAt_90 (d - 1) (by omega) U I718 x (y + x8______) 3 (by omega) (by omega) (by omega) (by omega) (by omega)) ?_
                        rintro _ _ _ ⟨v779, rfl, rfl, rfl, f778⟩
                        show ov_R u d ov_m297 148 [(0, ov_r 90), (1, ov_i x), (2, ov_i y), (3, ov_i m), (4, ov_i bo), (5, ov_i w), (6, ov_i x6___), (7, ov_i v710), (8, ov_i x8______)] [ov_i v779, ov_i v710] z716 h717 (P_Mo_wave_90 F z h x y m bo w)
                        rw [show h717 96 = h 96 from E722] at f778
                        have f780 : v779 = (h 96 (10 + 4 * (6 * (y + x8______) + x) + (3 : Int))) ∧ ((3 : Int) = 1 → 0 ≤ v779 ∧ v779 ≤ 60) ∧ ((3 : Int) = 2 → 0 ≤ v779 ∧ v779 ≤ 59) ∧ ((3 : Int) = 3 → 0 ≤ v779 ∧ v779 ≤ 60) := f778
                        clear f778
                        refine ov_blk (ls2 := [(0, ov_r 90), (1, ov_i x), (2, ov_i y), (3, ov_i m), (4, ov_i bo), (5, ov_i w), (6, ov_i x6___), (7, ov_i v710), (8, ov_i x8______), (9, ov_i (v710 - v779)), (10, ov_i 0)]) (st2 := []) (pc2 := 154) b_297_148_4 rfl rfl ?_
                        have L784 : ∀ (n781 : Nat) (x10______ : Int) (z785 : ov_Z) (h786 : ov_H) (I787 : ov_N F z785 h786) (E788 : h786 92 = h 92) (E789 : h786 93 = h 93) (E790 : h786 94 = h 94) (E791 : h786 96 = h 96) (E792 : h786 97 = h 97) (E793 : h786 98 = h 98) (E794 : h786 99 = h 99) (E795 : h786 100 = h 100) (E796 : h786 103 = h 103) (E797 : h786 105 = h 105) (E798 : h786 106 = h 106) (E799 : h786 109 = h 109) (E800 : h786 114 = h 114) (q783 : 0 ≤ x10______ ∧ x10______ ≤ 60 ∧ (h786 90 2) = (h717 90 2) ∧ (h786 90 3) = (h717 90 3) ∧ (h786 90 7) = (h717 90 7) ∧ (h786 90 8) = (h717 90 8) ∧ (h786 90 13) = (h717 90 13) ∧ (h786 90 20) = (h717 90 20) ∧ (h786 90 22) = (h717 90 22) ∧ (h786 90 25) = (h717 90 25) ∧ (h786 90 26) = (h717 90 26) ∧ (h786 90 27) = (h717 90 27) ∧ (h786 90 28) = (h717 90 28) ∧ (h786 90 29) = (h717 90 29) ∧ (h786 90 30) = (h717 90 30) ∧ (h786 90 34) = (h717 90 34) ∧ (h786 90 35) = (h717 90 35) ∧ (h786 90 37) = (h717 90 37)), 60 - x10______ < (n781 : Int) → ov_R u d ov_m297 154 [(0, ov_r 90), (1, ov_i x), (2, ov_i y), (3, ov_i m), (4, ov_i bo), (5, ov_i w), (6, ov_i x6___), (7, ov_i v710), (8, ov_i x8______), (9, ov_i (v710 - v779)), (10, ov_i x10______)] [] z785 h786 (P_Mo_wave_90 F z h x y m bo w) := by
                          intro n781
                          induction n781 with
                          | zero =>
                            intro x10______ z785 h786 I787 E788 E789 E790 E791 E792 E793 E794 E795 E796 E797 E798 E799 E800 q783 hn801
                            exact absurd hn801 (by omega)
                          | succ n781 ih782 =>
                            intro x10______ z785 h786 I787 E788 E789 E790 E791 E792 E793 E794 E795 E796 E797 E798 E799 E800 q783 hn801
                            refine ov_blk (ls2 := [(0, ov_r 90), (1, ov_i x), (2, ov_i y), (3, ov_i m), (4, ov_i bo), (5, ov_i w), (6, ov_i x6___), (7, ov_i v710), (8, ov_i x8______), (9, ov_i (v710 - v779)), (10, ov_i x10______)]) (st2 := [ov_i v710, ov_i x10______]) (pc2 := 158) b_297_154_2 rfl rfl ?_
                            refine ov_icge (tgt := 235) d_297_158 (by decide) (by omega) (by omega) (fun c802 => ?_) (fun c802 => ?_)
                            · skip
                              refine ov_blk (ls2 := [(0, ov_r 90), (1, ov_i x), (2, ov_i y), (3, ov_i m), (4, ov_i bo), (5, ov_i w), (6, ov_i x6___), (7, ov_i v710), (8, ov_i (x8______ + 1)), (9, ov_i (v710 - v779)), (10, ov_i x10______)]) (st2 := []) (pc2 := 238) b_297_235_1 rfl rfl ?_
                              refine ov_goto (tgt := 130) d_297_238 (by decide) ?_
                              refine ov_sub (ls2 := [(0, ov_r 90), (1, ov_i x), (2, ov_i y), (3, ov_i m), (4, ov_i bo), (5, ov_i w), (6, ov_i x6___), (7, ov_i v710), (8, ov_i (x8______ + 1))]) (List.Sublist.subset (by repeat (first | exact List.Sublist.refl _ | apply List.Sublist.cons_cons | apply List.Sublist.cons))) ?_
                              exact ih713 (x8______ + 1) _ _ I787 E788 E789 E790 E791 E792 E793 E794 E795 E796 E797 E798 E799 E800 (by show 0 ≤ (x8______ + 1) ∧ (x8______ + 1) ≤ 4 ∧ (h786 90 2) = (h 90 2) ∧ (h786 90 3) = (h 90 3) ∧ (h786 90 7) = (h 90 7) ∧ (h786 90 8) = (h 90 8) ∧ (h786 90 13) = (h 90 13) ∧ (h786 90 20) = (h 90 20) ∧ (h786 90 22) = (h 90 22) ∧ (h786 90 25) = (h 90 25) ∧ (h786 90 26) = (h 90 26) ∧ (h786 90 27) = (h 90 27) ∧ (h786 90 28) = (h 90 28) ∧ (h786 90 29) = (h 90 29) ∧ (h786 90 30) = (h 90 30) ∧ (h786 90 34) = (h 90 34) ∧ (h786 90 35) = (h 90 35) ∧ (h786 90 37) = (h 90 37); omega) (by omega)
                            · skip
                              refine ov_blk (ls2 := [(0, ov_r 90), (1, ov_i x), (2, ov_i y), (3, ov_i m), (4, ov_i bo), (5, ov_i w), (6, ov_i x6___), (7, ov_i v710), (8, ov_i x8______), (9, ov_i (v710 - v779)), (10, ov_i x10______)]) (st2 := [ov_r 90]) (pc2 := 162) b_297_161_1 rfl rfl ?_
                              refine ov_getf (v := ov_r 110) d_297_162 fl_Mo_132 (zb_90 I787) (zs_90 I787) (congrArg ov_r (rg_90_38 I787)) ?_
                              refine ov_blk (ls2 := [(0, ov_r 90), (1, ov_i x), (2, ov_i y), (3, ov_i m), (4, ov_i bo), (5, ov_i w), (6, ov_i x6___), (7, ov_i v710), (8, ov_i x8______), (9, ov_i (v710 - v779)), (10, ov_i x10______)]) (st2 := [ov_r 90, ov_i x8______, ov_i x10______, ov_i ((60 * x8______) + x10______), ov_r 110]) (pc2 := 178) b_297_165_8 rfl rfl ?_
                              refine ov_getf (v := ov_r 96) d_297_178 fl_Mo_81 (zb_90 I787) (zs_90 I787) (congrArg ov_r (rg_90_10 I787)) ?_
                              refine ov_blk (ls2 := [(0, ov_r 90), (1, ov_i x), (2, ov_i y), (3, ov_i m), (4, ov_i bo), (5, ov_i w), (6, ov_i x6___), (7, ov_i v710), (8, ov_i x8______), (9, ov_i (v710 - v779)), (10, ov_i x10______)]) (st2 := [ov_i 2, ov_r 96, ov_i x8______, ov_i x10______, ov_i ((60 * x8______) + x10______), ov_r 110]) (pc2 := 182) b_297_181_1 rfl rfl ?_
                              refine ov_iald d_297_182 (zb_96 I787) (zs_96 I787) (by omega) ?_
                              rw [show h786 96 = h 96 from E791]
                              have g803 := t96_2 I
                              have gm804 := ov_mulb (q := x8______) (b := (h 96 2)) (A := 4) (B := 30) (by omega) (by omega) (by omega) (by omega)
                              refine ov_blk (ls2 := [(0, ov_r 90), (1, ov_i x), (2, ov_i y), (3, ov_i m), (4, ov_i bo), (5, ov_i w), (6, ov_i x6___), (7, ov_i v710), (8, ov_i x8______), (9, ov_i (v710 - v779)), (10, ov_i x10______)]) (st2 := [ov_i v710, ov_i (v710 - v779), ov_i (x10______ - (x8______ * (h 96 2))), ov_i ((60 * x8______) + x10______), ov_r 110]) (pc2 := 189) b_297_183_4 rfl rfl ?_
                              refine ov_cS (as := [ov_i (x10______ - (x8______ * (h 96 2))), ov_i (v710 - v779), ov_i v710]) (st := [ov_i ((60 * x8______) + x10______), ov_r 110]) (d2 := d - 1) d_297_189 lk_Mo_446 rfl (Nat.le_of_ble_eq_true rfl) (by omega) (c_Mo_turned (d - 1) (by omega) U I787 (x10______ - (x8______ * (h 96 2))) (v710 - v779) v710 (by omega) (by omega) (by omega) (by omega) (by omega)) ?_
                              rintro _ _ _ ⟨v806, rfl, rfl, rfl, f805⟩
                              show ov_R u d ov_m297 192 [(0, ov_r 90), (1, ov_i x), (2, ov_i y), (3, ov_i m), (4, ov_i bo), (5, ov_i w), (6, ov_i x6___), (7, ov_i v710), (8, ov_i x8______), (9, ov_i (v710 - v779)), (10, ov_i x10______)] [ov_l v806, ov_i ((60 * x8______) + x10______), ov_r 110] z785 h786 (P_Mo_wave_90 F z h x y m bo w)
                              clear f805
                              refine ov_last d_297_192 (zb_110 I787) (zs_110 I787) (by omega) ?_
                              have I807 := ua_110 (k := ((60 * x8______) + x10______)) (x := v806) I787
                              refine ov_blk (ls2 := [(0, ov_r 90), (1, ov_i x), (2, ov_i y), (3, ov_i m), (4, ov_i bo), (5, ov_i w), (6, ov_i x6___), (7, ov_i v710), (8, ov_i x8______), (9, ov_i (v710 - v779)), (10, ov_i x10______)]) (st2 := [ov_r 90]) (pc2 := 194) b_297_193_1 rfl rfl ?_
                              refine ov_getf (v := ov_r 111) d_297_194 fl_Mo_135 (zb_90 I807) (zs_90 I807) (congrArg ov_r (rg_90_39 I807)) ?_
                              refine ov_blk (ls2 := [(0, ov_r 90), (1, ov_i x), (2, ov_i y), (3, ov_i m), (4, ov_i bo), (5, ov_i w), (6, ov_i x6___), (7, ov_i v710), (8, ov_i x8______), (9, ov_i (v710 - v779)), (10, ov_i x10______)]) (st2 := [ov_r 90, ov_i ((m - 1) - x8______), ov_i x10______, ov_i ((60 * x8______) + x10______), ov_r 111]) (pc2 := 214) b_297_197_12 rfl rfl ?_
                              refine ov_getf (v := ov_r 96) d_297_214 fl_Mo_81 (zb_90 I807) (zs_90 I807) (congrArg ov_r (rg_90_10 I807)) ?_
                              refine ov_blk (ls2 := [(0, ov_r 90), (1, ov_i x), (2, ov_i y), (3, ov_i m), (4, ov_i bo), (5, ov_i w), (6, ov_i x6___), (7, ov_i v710), (8, ov_i x8______), (9, ov_i (v710 - v779)), (10, ov_i x10______)]) (st2 := [ov_i 2, ov_r 96, ov_i ((m - 1) - x8______), ov_i x10______, ov_i ((60 * x8______) + x10______), ov_r 111]) (pc2 := 218) b_297_217_1 rfl rfl ?_
                              refine ov_iald d_297_218 (zb_96 I807) (zs_96 I807) (by omega) ?_
                              rw [show (ov_up h786 110 ((60 * x8______) + x10______) v806) 96 = h 96 from E791]
                              have gm809 := ov_mulb (q := ((m - 1) - x8______)) (b := (h 96 2)) (A := 4) (B := 30) (by omega) (by omega) (by omega) (by omega)
                              refine ov_blk (ls2 := [(0, ov_r 90), (1, ov_i x), (2, ov_i y), (3, ov_i m), (4, ov_i bo), (5, ov_i w), (6, ov_i x6___), (7, ov_i v710), (8, ov_i x8______), (9, ov_i (v710 - v779)), (10, ov_i x10______)]) (st2 := [ov_i v710, ov_i (v710 - v779), ov_i (x10______ - (((m - 1) - x8______) * (h 96 2))), ov_i ((60 * x8______) + x10______), ov_r 111]) (pc2 := 225) b_297_219_4 rfl rfl ?_
                              refine ov_cS (as := [ov_i (x10______ - (((m - 1) - x8______) * (h 96 2))), ov_i (v710 - v779), ov_i v710]) (st := [ov_i ((60 * x8______) + x10______), ov_r 111]) (d2 := d - 1) d_297_225 lk_Mo_446 rfl (Nat.le_of_ble_eq_true rfl) (by omega) (c_Mo_turned (d - 1) (by omega) U I807 (x10______ - (((m - 1) - x8______) * (h 96 2))) (v710 - v779) v710 (by omega) (by omega) (by omega) (by omega) (by omega)) ?_
                              rintro _ _ _ ⟨v811, rfl, rfl, rfl, f810⟩
                              show ov_R u d ov_m297 228 [(0, ov_r 90), (1, ov_i x), (2, ov_i y), (3, ov_i m), (4, ov_i bo), (5, ov_i w), (6, ov_i x6___), (7, ov_i v710), (8, ov_i x8______), (9, ov_i (v710 - v779)), (10, ov_i x10______)] [ov_l v811, ov_i ((60 * x8______) + x10______), ov_r 111] z785 (ov_up h786 110 ((60 * x8______) + x10______) v806) (P_Mo_wave_90 F z h x y m bo w)
                              clear f810
                              refine ov_last d_297_228 (zb_111 I807) (zs_111 I807) (by omega) ?_
                              have I812 := ua_111 (k := ((60 * x8______) + x10______)) (x := v811) I807
                              refine ov_blk (ls2 := [(0, ov_r 90), (1, ov_i x), (2, ov_i y), (3, ov_i m), (4, ov_i bo), (5, ov_i w), (6, ov_i x6___), (7, ov_i v710), (8, ov_i x8______), (9, ov_i (v710 - v779)), (10, ov_i (x10______ + 1))]) (st2 := []) (pc2 := 232) b_297_229_1 rfl rfl ?_
                              refine ov_goto (tgt := 154) d_297_232 (by decide) ?_
                              exact ih782 (x10______ + 1) _ _ I812 E788 E789 E790 E791 E792 E793 E794 E795 E796 E797 E798 E799 E800 (by show 0 ≤ (x10______ + 1) ∧ (x10______ + 1) ≤ 60 ∧ (h786 90 2) = (h717 90 2) ∧ (h786 90 3) = (h717 90 3) ∧ (h786 90 7) = (h717 90 7) ∧ (h786 90 8) = (h717 90 8) ∧ (h786 90 13) = (h717 90 13) ∧ (h786 90 20) = (h717 90 20) ∧ (h786 90 22) = (h717 90 22) ∧ (h786 90 25) = (h717 90 25) ∧ (h786 90 26) = (h717 90 26) ∧ (h786 90 27) = (h717 90 27) ∧ (h786 90 28) = (h717 90 28) ∧ (h786 90 29) = (h717 90 29) ∧ (h786 90 30) = (h717 90 30) ∧ (h786 90 34) = (h717 90 34) ∧ (h786 90 35) = (h717 90 35) ∧ (h786 90 37) = (h717 90 37); omega) (by omega)
                        exact L784 61 0 _ _ I718 E719 E720 E721 E722 E723 E724 E725 E726 E727 E728 E729 E730 E731 (by show 0 ≤ 0 ∧ 0 ≤ 60 ∧ (h717 90 2) = (h717 90 2) ∧ (h717 90 3) = (h717 90 3) ∧ (h717 90 7) = (h717 90 7) ∧ (h717 90 8) = (h717 90 8) ∧ (h717 90 13) = (h717 90 13) ∧ (h717 90 20) = (h717 90 20) ∧ (h717 90 22) = (h717 90 22) ∧ (h717 90 25) = (h717 90 25) ∧ (h717 90 26) = (h717 90 26) ∧ (h717 90 27) = (h717 90 27) ∧ (h717 90 28) = (h717 90 28) ∧ (h717 90 29) = (h717 90 29) ∧ (h717 90 30) = (h717 90 30) ∧ (h717 90 34) = (h717 90 34) ∧ (h717 90 35) = (h717 90 35) ∧ (h717 90 37) = (h717 90 37); omega) (by omega)
                  exact L715 5 0 _ _ I1 rfl rfl rfl rfl rfl rfl rfl rfl rfl rfl rfl rfl rfl (by show 0 ≤ 0 ∧ 0 ≤ 4 ∧ (h 90 2) = (h 90 2) ∧ (h 90 3) = (h 90 3) ∧ (h 90 7) = (h 90 7) ∧ (h 90 8) = (h 90 8) ∧ (h 90 13) = (h 90 13) ∧ (h 90 20) = (h 90 20) ∧ (h 90 22) = (h 90 22) ∧ (h 90 25) = (h 90 25) ∧ (h 90 26) = (h 90 26) ∧ (h 90 27) = (h 90 27) ∧ (h 90 28) = (h 90 28) ∧ (h 90 29) = (h 90 29) ∧ (h 90 30) = (h 90 30) ∧ (h 90 34) = (h 90 34) ∧ (h 90 35) = (h 90 35) ∧ (h 90 37) = (h 90 37); omega) (by omega)
                · skip
                  refine ov_blk (ls2 := [(0, ov_r 90), (1, ov_i x), (2, ov_i y), (3, ov_i m), (4, ov_i bo), (5, ov_i w), (6, ov_i x6___), (7, ov_i x7___)]) (st2 := [ov_i (-1)]) (pc2 := 117) b_297_116_1 rfl rfl ?_
                  exact ov_reti (st := []) d_297_117 rfl ⟨_, rfl, I1, (by show -2147483648 ≤ (-1) ∧ (-1) ≤ 2147483647 ∧ (h 90 2) = (h 90 2) ∧ (h 90 3) = (h 90 3) ∧ (h 90 7) = (h 90 7) ∧ (h 90 8) = (h 90 8) ∧ (h 90 13) = (h 90 13) ∧ (h 90 20) = (h 90 20) ∧ (h 90 22) = (h 90 22) ∧ (h 90 25) = (h 90 25) ∧ (h 90 26) = (h 90 26) ∧ (h 90 27) = (h 90 27) ∧ (h 90 28) = (h 90 28) ∧ (h 90 29) = (h 90 29) ∧ (h 90 30) = (h 90 30) ∧ (h 90 34) = (h 90 34) ∧ (h 90 35) = (h 90 35) ∧ (h 90 37) = (h 90 37); omega), rfl, rfl, rfl, rfl, rfl, rfl, rfl, rfl, rfl, rfl, rfl, rfl, rfl⟩
              · skip
                refine ov_blk (ls2 := [(0, ov_r 90), (1, ov_i x), (2, ov_i y), (3, ov_i m), (4, ov_i bo), (5, ov_i w), (6, ov_i x6___), (7, ov_i x7___)]) (st2 := [ov_i x6___]) (pc2 := 63) b_297_61_1 rfl rfl ?_
                refine ov_ifeq (tgt := 111) d_297_63 (by decide) (by omega) (fun c813 => ?_) (fun c813 => ?_)
                · skip
                  refine ov_blk (ls2 := [(0, ov_r 90), (1, ov_i x), (2, ov_i y), (3, ov_i m), (4, ov_i bo), (5, ov_i w), (6, ov_i x6___), (7, ov_i x7___)]) (st2 := [ov_i x6___]) (pc2 := 113) b_297_111_1 rfl rfl ?_
                  refine ov_ifne (tgt := 118) d_297_113 (by decide) (by omega) (fun c814 => ?_) (fun c814 => ?_)
                  · skip
                    have w1 := ov_WT_at W (c := 6 * y + x) (by omega)
                    refine ov_blk (ls2 := [(0, ov_r 90), (1, ov_i x), (2, ov_i y), (3, ov_i m), (4, ov_i bo), (5, ov_i w), (6, ov_i x6___), (7, ov_i x7___)]) (st2 := [ov_i 1, ov_i y, ov_i x, ov_r 90]) (pc2 := 122) b_297_118_4 rfl rfl ?_
                    refine ov_cV (as := [ov_i x, ov_i y, ov_i 1]) (st := []) (d2 := d - 1) d_297_122 lk_Mo_289 rfl (Nat.le_of_ble_eq_true rfl) (c := 1) (zb_90 I1) (zs_90 I1) ⟨by decide, rfl⟩ (by omega) (c_Mo_lightAt_90 (d - 1) (by omega) U I1 x y 1 (by omega) (by omega) (by omega) (by omega) (by omega)) ?_
                    rintro _ _ _ ⟨v816, rfl, rfl, rfl, f815⟩
                    show ov_R u d ov_m297 125 [(0, ov_r 90), (1, ov_i x), (2, ov_i y), (3, ov_i m), (4, ov_i bo), (5, ov_i w), (6, ov_i x6___), (7, ov_i x7___)] [ov_i v816] z (ov_up h 90 0 0) (P_Mo_wave_90 F z h x y m bo w)
                    have f817 : v816 = (h 96 (10 + 4 * (6 * y + x) + (1 : Int))) ∧ ((1 : Int) = 1 → 0 ≤ v816 ∧ v816 ≤ 60) ∧ ((1 : Int) = 2 → 0 ≤ v816 ∧ v816 ≤ 59) ∧ ((1 : Int) = 3 → 0 ≤ v816 ∧ v816 ≤ 60) := f815
                    clear f815
                    refine ov_blk (ls2 := [(0, ov_r 90), (1, ov_i x), (2, ov_i y), (3, ov_i m), (4, ov_i bo), (5, ov_i w), (6, ov_i x6___), (7, ov_i v816), (8, ov_i 0)]) (st2 := []) (pc2 := 130) b_297_125_3 rfl rfl ?_
                    have L821 : ∀ (n818 : Nat) (x8_______ : Int) (z822 : ov_Z) (h823 : ov_H) (I824 : ov_N F z822 h823) (E825 : h823 92 = h 92) (E826 : h823 93 = h 93) (E827 : h823 94 = h 94) (E828 : h823 96 = h 96) (E829 : h823 97 = h 97) (E830 : h823 98 = h 98) (E831 : h823 99 = h 99) (E832 : h823 100 = h 100) (E833 : h823 103 = h 103) (E834 : h823 105 = h 105) (E835 : h823 106 = h 106) (E836 : h823 109 = h 109) (E837 : h823 114 = h 114) (q820 : 0 ≤ x8_______ ∧ x8_______ ≤ 4 ∧ (h823 90 2) = (h 90 2) ∧ (h823 90 3) = (h 90 3) ∧ (h823 90 7) = (h 90 7) ∧ (h823 90 8) = (h 90 8) ∧ (h823 90 13) = (h 90 13) ∧ (h823 90 20) = (h 90 20) ∧ (h823 90 22) = (h 90 22) ∧ (h823 90 25) = (h 90 25) ∧ (h823 90 26) = (h 90 26) ∧ (h823 90 27) = (h 90 27) ∧ (h823 90 28) = (h 90 28) ∧ (h823 90 29) = (h 90 29) ∧ (h823 90 30) = (h 90 30) ∧ (h823 90 34) = (h 90 34) ∧ (h823 90 35) = (h 90 35) ∧ (h823 90 37) = (h 90 37)), 4 - x8_______ < (n818 : Int) → ov_R u d ov_m297 130 [(0, ov_r 90), (1, ov_i x), (2, ov_i y), (3, ov_i m), (4, ov_i bo), (5, ov_i w), (6, ov_i x6___), (7, ov_i v816), (8, ov_i x8_______)] [] z822 h823 (P_Mo_wave_90 F z h x y m bo w) := by
                      intro n818
                      induction n818 with
                      | zero =>
                        intro x8_______ z822 h823 I824 E825 E826 E827 E828 E829 E830 E831 E832 E833 E834 E835 E836 E837 q820 hn838
                        exact absurd hn838 (by omega)
                      | succ n818 ih819 =>
                        intro x8_______ z822 h823 I824 E825 E826 E827 E828 E829 E830 E831 E832 E833 E834 E835 E836 E837 q820 hn838
                        refine ov_blk (ls2 := [(0, ov_r 90), (1, ov_i x), (2, ov_i y), (3, ov_i m), (4, ov_i bo), (5, ov_i w), (6, ov_i x6___), (7, ov_i v816), (8, ov_i x8_______)]) (st2 := [ov_i m, ov_i x8_______]) (pc2 := 133) b_297_130_2 rfl rfl ?_
                        refine ov_icge (tgt := 241) d_297_133 (by decide) (by omega) (by omega) (fun c839 => ?_) (fun c839 => ?_)
                        · skip
                          refine ov_blk (ls2 := [(0, ov_r 90), (1, ov_i x), (2, ov_i y), (3, ov_i m), (4, ov_i bo), (5, ov_i w), (6, ov_i x6___), (7, ov_i v816), (8, ov_i x8_______)]) (st2 := [ov_i (-1), ov_r 90]) (pc2 := 243) b_297_241_2 rfl rfl ?_
                          refine ov_putf (x := (-1)) d_297_243 fl_Mo_439 (zb_90 I824) (zs_90 I824) rfl nk_0 rfl ?_
                          have I840 := up_90_42 (x := (-1)) I824 (by omega)
                          refine ov_blk (ls2 := [(0, ov_r 90), (1, ov_i x), (2, ov_i y), (3, ov_i m), (4, ov_i bo), (5, ov_i w), (6, ov_i x6___), (7, ov_i v816), (8, ov_i x8_______)]) (st2 := [ov_i 2, ov_i y, ov_i x, ov_r 90]) (pc2 := 250) b_297_246_4 rfl rfl ?_
                          refine ov_cV (as := [ov_i x, ov_i y, ov_i 2]) (st := []) (d2 := d - 1) d_297_250 lk_Mo_289 rfl (Nat.le_of_ble_eq_true rfl) (c := 1) (zb_90 I840) (zs_90 I840) ⟨by decide, rfl⟩ (by omega) (c_Mo_lightAt_90 (d - 1) (by omega) U I840 x y 2 (by omega) (by omega) (by omega) (by omega) (by omega)) ?_
                          rintro _ _ _ ⟨v842, rfl, rfl, rfl, f841⟩
                          show ov_R u d ov_m297 253 [(0, ov_r 90), (1, ov_i x), (2, ov_i y), (3, ov_i m), (4, ov_i bo), (5, ov_i w), (6, ov_i x6___), (7, ov_i v816), (8, ov_i x8_______)] [ov_i v842] z822 (ov_up h823 90 42 (-1)) (P_Mo_wave_90 F z h x y m bo w)
                          rw [show (ov_up h823 90 42 (-1)) 96 = h 96 from E828] at f841
                          have f843 : v842 = (h 96 (10 + 4 * (6 * y + x) + (2 : Int))) ∧ ((2 : Int) = 1 → 0 ≤ v842 ∧ v842 ≤ 60) ∧ ((2 : Int) = 2 → 0 ≤ v842 ∧ v842 ≤ 59) ∧ ((2 : Int) = 3 → 0 ≤ v842 ∧ v842 ≤ 60) := f841
                          clear f841
                          refine ov_blk (ls2 := [(0, ov_r 90), (1, ov_i x), (2, ov_i y), (3, ov_i m), (4, ov_i bo), (5, ov_i w), (6, ov_i x6___), (7, ov_i v816), (8, ov_i x8_______)]) (st2 := [ov_i 3, ov_i y, ov_i x, ov_r 90, ov_i v842]) (pc2 := 257) b_297_253_4 rfl rfl ?_
                          refine ov_cV (as := [ov_i x, ov_i y, ov_i 3]) (st := [ov_i v842]) (d2 := d - 1) d_297_257 lk_Mo_289 rfl (Nat.le_of_ble_eq_true rfl) (c := 1) (zb_90 I840) (zs_90 I840) ⟨by decide, rfl⟩ (by omega) (c_Mo_lightAt_90 (d - 1) (by omega) U I840 x y 3 (by omega) (by omega) (by omega) (by omega) (by omega)) ?_
                          rintro _ _ _ ⟨v845, rfl, rfl, rfl, f844⟩
                          show ov_R u d ov_m297 260 [(0, ov_r 90), (1, ov_i x), (2, ov_i y), (3, ov_i m), (4, ov_i bo), (5, ov_i w), (6, ov_i x6___), (7, ov_i v816), (8, ov_i x8_______)] [ov_i v845, ov_i v842] z822 (ov_up h823 90 42 (-1)) (P_Mo_wave_90 F z h x y m bo w)
                          rw [show (ov_up h823 90 42 (-1)) 96 = h 96 from E828] at f844
                          have f846 : v845 = (h 96 (10 + 4 * (6 * y + x) + (3 : Int))) ∧ ((3 : Int) = 1 → 0 ≤ v845 ∧ v845 ≤ 60) ∧ ((3 : Int) = 2 → 0 ≤ v845 ∧ v845 ≤ 59) ∧ ((3 : Int) = 3 → 0 ≤ v845 ∧ v845 ≤ 60) := f844
                          clear f844
                          refine ov_blk (ls2 := [(0, ov_r 90), (1, ov_i x), (2, ov_i y), (3, ov_i m), (4, ov_i bo), (5, ov_i w), (6, ov_i x6___), (7, ov_i v816), (8, ov_i x8_______)]) (st2 := [ov_i v816, ov_i (v842 + v845)]) (pc2 := 263) b_297_260_2 rfl rfl ?_
                          refine ov_irem d_297_263 (by omega) (by omega) (by omega) ?_
                          have g847 := ov_tmg (a := (v842 + v845)) (b := v816) (by omega) (by omega)
                          refine ov_havw (fun w848 gw848 qw848 => ?_)
                          refine ov_blk (ls2 := [(0, ov_r 90), (1, ov_i x), (2, ov_i y), (3, ov_i m), (4, ov_i bo), (5, ov_i w), (6, ov_i x6___), (7, ov_i v816), (8, ov_i w848)]) (st2 := [ov_r 90]) (pc2 := 267) b_297_264_2 rfl rfl ?_
                          refine ov_getf (v := ov_r 112) d_297_267 fl_Mo_138 (zb_90 I840) (zs_90 I840) (congrArg ov_r (rg_90_40 I840)) ?_
                          refine ov_blk (ls2 := [(0, ov_r 90), (1, ov_i x), (2, ov_i y), (3, ov_i m), (4, ov_i bo), (5, ov_i w), (6, ov_i x6___), (7, ov_i v816), (8, ov_i w848)]) (st2 := [ov_i w848, ov_i 0, ov_r 112]) (pc2 := 273) b_297_270_2 rfl rfl ?_
                          refine ov_iast d_297_273 (zb_112 I840) (zs_112 I840) (by omega) ?_
                          have I849 := ua_112 (k := 0) (x := w848) I840 (by omega)
                          refine ov_blk (ls2 := [(0, ov_r 90), (1, ov_i x), (2, ov_i y), (3, ov_i m), (4, ov_i bo), (5, ov_i w), (6, ov_i x6___), (7, ov_i v816), (8, ov_i w848)]) (st2 := [ov_r 90, ov_i v816, ov_i m, ov_i 1, ov_r 90]) (pc2 := 280) b_297_274_5 rfl rfl ?_
                          refine ov_getf (v := ov_r 110) d_297_280 fl_Mo_132 (zb_90 I849) (zs_90 I849) (congrArg ov_r (rg_90_38 I849)) ?_
                          refine ov_blk (ls2 := [(0, ov_r 90), (1, ov_i x), (2, ov_i y), (3, ov_i m), (4, ov_i bo), (5, ov_i w), (6, ov_i x6___), (7, ov_i v816), (8, ov_i w848)]) (st2 := [ov_i w848, ov_r 110, ov_i v816, ov_i m, ov_i 1, ov_r 90]) (pc2 := 285) b_297_283_1 rfl rfl ?_
                          refine ov_lald d_297_285 (zb_110 I849) (zs_110 I849) (by omega) ?_
                          show ov_R u d ov_m297 286 [(0, ov_r 90), (1, ov_i x), (2, ov_i y), (3, ov_i m), (4, ov_i bo), (5, ov_i w), (6, ov_i x6___), (7, ov_i v816), (8, ov_i w848)] [ov_l (h823 110 w848), ov_i v816, ov_i m, ov_i 1, ov_r 90] z822 (ov_up (ov_up h823 90 42 (-1)) 112 0 w848) (P_Mo_wave_90 F z h x y m bo w)
                          refine ov_blk (ls2 := [(0, ov_r 90), (1, ov_i x), (2, ov_i y), (3, ov_i m), (4, ov_i bo), (5, ov_i w), (6, ov_i x6___), (7, ov_i v816), (8, ov_i w848)]) (st2 := [ov_r 90, ov_l (h823 110 w848), ov_i v816, ov_i m, ov_i 1, ov_r 90]) (pc2 := 287) b_297_286_1 rfl rfl ?_
                          refine ov_getf (v := ov_r 111) d_297_287 fl_Mo_135 (zb_90 I849) (zs_90 I849) (congrArg ov_r (rg_90_39 I849)) ?_
                          refine ov_blk (ls2 := [(0, ov_r 90), (1, ov_i x), (2, ov_i y), (3, ov_i m), (4, ov_i bo), (5, ov_i w), (6, ov_i x6___), (7, ov_i v816), (8, ov_i w848)]) (st2 := [ov_i w848, ov_r 111, ov_l (h823 110 w848), ov_i v816, ov_i m, ov_i 1, ov_r 90]) (pc2 := 292) b_297_290_1 rfl rfl ?_
                          refine ov_lald d_297_292 (zb_111 I849) (zs_111 I849) (by omega) ?_
                          show ov_R u d ov_m297 293 [(0, ov_r 90), (1, ov_i x), (2, ov_i y), (3, ov_i m), (4, ov_i bo), (5, ov_i w), (6, ov_i x6___), (7, ov_i v816), (8, ov_i w848)] [ov_l (h823 111 w848), ov_l (h823 110 w848), ov_i v816, ov_i m, ov_i 1, ov_r 90] z822 (ov_up (ov_up h823 90 42 (-1)) 112 0 w848) (P_Mo_wave_90 F z h x y m bo w)
                          refine ov_blk (ls2 := [(0, ov_r 90), (1, ov_i x), (2, ov_i y), (3, ov_i m), (4, ov_i bo), (5, ov_i w), (6, ov_i x6___), (7, ov_i v816), (8, ov_i w848)]) (st2 := [ov_i bo, ov_l (h823 111 w848), ov_l (h823 110 w848), ov_i v816, ov_i m, ov_i 1, ov_r 90]) (pc2 := 295) b_297_293_1 rfl rfl ?_
                          refine ov_cV (as := [ov_i 1, ov_i m, ov_i v816, ov_l (h823 110 w848), ov_l (h823 111 w848), ov_i bo]) (st := []) (d2 := d - 1) d_297_295 lk_Mo_442 rfl (Nat.le_of_ble_eq_true rfl) (c := 1) (zb_90 I849) (zs_90 I849) ⟨by decide, rfl⟩ (by omega) (c_Mo_triesWave_90_all (Int.toNat ((m) - (1))) (d - 1) (by omega) U I849 1 m v816 (h823 110 w848) (h823 111 w848) bo (by omega) (by omega) (by omega) (by omega) (by omega) (by omega) (by omega)) ?_
                          rintro _ z864 h865 ⟨rfl, I866, f850, e851, e852, e853, e854, e855, e856, e857, e858, e859, e860, e861, e862, e863⟩
                          have E867 : h865 92 = h 92 := Eq.trans e851 E825
                          have E868 : h865 93 = h 93 := Eq.trans e852 E826
                          have E869 : h865 94 = h 94 := Eq.trans e853 E827
                          have E870 : h865 96 = h 96 := Eq.trans e854 E828
                          have E871 : h865 97 = h 97 := Eq.trans e855 E829
                          have E872 : h865 98 = h 98 := Eq.trans e856 E830
                          have E873 : h865 99 = h 99 := Eq.trans e857 E831
                          have E874 : h865 100 = h 100 := Eq.trans e858 E832
                          have E875 : h865 103 = h 103 := Eq.trans e859 E833
                          have E876 : h865 105 = h 105 := Eq.trans e860 E834
                          have E877 : h865 106 = h 106 := Eq.trans e861 E835
                          have E878 : h865 109 = h 109 := Eq.trans e862 E836
                          have E879 : h865 114 = h 114 := Eq.trans e863 E837
                          show ov_R u d ov_m297 298 [(0, ov_r 90), (1, ov_i x), (2, ov_i y), (3, ov_i m), (4, ov_i bo), (5, ov_i w), (6, ov_i x6___), (7, ov_i v816), (8, ov_i w848)] [] z864 h865 (P_Mo_wave_90 F z h x y m bo w)
                          have f880 : (h865 90 2) = (h823 90 2) ∧ (h865 90 3) = (h823 90 3) ∧ (h865 90 7) = (h823 90 7) ∧ (h865 90 8) = (h823 90 8) ∧ (h865 90 13) = (h823 90 13) ∧ (h865 90 20) = (h823 90 20) ∧ (h865 90 22) = (h823 90 22) ∧ (h865 90 25) = (h823 90 25) ∧ (h865 90 26) = (h823 90 26) ∧ (h865 90 27) = (h823 90 27) ∧ (h865 90 28) = (h823 90 28) ∧ (h865 90 29) = (h823 90 29) ∧ (h865 90 30) = (h823 90 30) ∧ (h865 90 34) = (h823 90 34) ∧ (h865 90 35) = (h823 90 35) ∧ (h865 90 37) = (h823 90 37) := f850
                          clear f850
                          refine ov_blk (ls2 := [(0, ov_r 90), (1, ov_i x), (2, ov_i y), (3, ov_i m), (4, ov_i bo), (5, ov_i w), (6, ov_i x6___), (7, ov_i v816), (8, ov_i w848)]) (st2 := [ov_i w]) (pc2 := 300) b_297_298_1 rfl rfl ?_
                          refine ov_ifne (tgt := 310) d_297_300 (by decide) (by omega) (fun c881 => ?_) (fun c881 => ?_)
                          · skip
                            refine ov_blk (ls2 := [(0, ov_r 90), (1, ov_i x), (2, ov_i y), (3, ov_i m), (4, ov_i bo), (5, ov_i w), (6, ov_i x6___), (7, ov_i v816), (8, ov_i w848)]) (st2 := [ov_r 90]) (pc2 := 311) b_297_310_1 rfl rfl ?_
                            refine ov_getf (v := ov_r 113) d_297_311 fl_Mo_141 (zb_90 I866) (zs_90 I866) (congrArg ov_r (rg_90_41 I866)) ?_
                            refine ov_blk (ls2 := [(0, ov_r 90), (1, ov_i x), (2, ov_i y), (3, ov_i m), (4, ov_i bo), (5, ov_i w), (6, ov_i x6___), (7, ov_i v816), (8, ov_i w848)]) (st2 := [ov_i w, ov_r 113]) (pc2 := 316) b_297_314_1 rfl rfl ?_
                            refine ov_iald d_297_316 (zb_113 I866) (zs_113 I866) (by omega) ?_
                            have g882 := ra_113 I866 w
                            exact ov_reti (st := []) d_297_317 rfl ⟨_, rfl, I866, (by show -2147483648 ≤ (h865 113 w) ∧ (h865 113 w) ≤ 2147483647 ∧ (h865 90 2) = (h 90 2) ∧ (h865 90 3) = (h 90 3) ∧ (h865 90 7) = (h 90 7) ∧ (h865 90 8) = (h 90 8) ∧ (h865 90 13) = (h 90 13) ∧ (h865 90 20) = (h 90 20) ∧ (h865 90 22) = (h 90 22) ∧ (h865 90 25) = (h 90 25) ∧ (h865 90 26) = (h 90 26) ∧ (h865 90 27) = (h 90 27) ∧ (h865 90 28) = (h 90 28) ∧ (h865 90 29) = (h 90 29) ∧ (h865 90 30) = (h 90 30) ∧ (h865 90 34) = (h 90 34) ∧ (h865 90 35) = (h 90 35) ∧ (h865 90 37) = (h 90 37); omega), E867, E868, E869, E870, E871, E872, E873, E874, E875, E876, E877, E878, E879⟩
                          · skip
                            refine ov_blk (ls2 := [(0, ov_r 90), (1, ov_i x), (2, ov_i y), (3, ov_i m), (4, ov_i bo), (5, ov_i w), (6, ov_i x6___), (7, ov_i v816), (8, ov_i w848)]) (st2 := [ov_r 90]) (pc2 := 304) b_297_303_1 rfl rfl ?_
                            refine ov_getf (v := ov_i (h865 90 42)) d_297_304 fl_Mo_439 (zb_90 I866) (zs_90 I866) rfl ?_
                            have g883 := rg_90_42 I866
                            refine ov_goto (tgt := 317) d_297_307 (by decide) ?_
                            exact ov_reti (st := []) d_297_317 rfl ⟨_, rfl, I866, (by show -2147483648 ≤ (h865 90 42) ∧ (h865 90 42) ≤ 2147483647 ∧ (h865 90 2) = (h 90 2) ∧ (h865 90 3) = (h 90 3) ∧ (h865 90 7) = (h 90 7) ∧ (h865 90 8) = (h 90 8) ∧ (h865 90 13) = (h 90 13) ∧ (h865 90 20) = (h 90 20) ∧ (h865 90 22) = (h 90 22) ∧ (h865 90 25) = (h 90 25) ∧ (h865 90 26) = (h 90 26) ∧ (h865 90 27) = (h 90 27) ∧ (h865 90 28) = (h 90 28) ∧ (h865 90 29) = (h 90 29) ∧ (h865 90 30) = (h 90 30) ∧ (h865 90 34) = (h 90 34) ∧ (h865 90 35) = (h 90 35) ∧ (h865 90 37) = (h 90 37); omega), E867, E868, E869, E870, E871, E872, E873, E874, E875, E876, E877, E878, E879⟩
                        · skip
                          refine ov_blk (ls2 := [(0, ov_r 90), (1, ov_i x), (2, ov_i y), (3, ov_i m), (4, ov_i bo), (5, ov_i w), (6, ov_i x6___), (7, ov_i v816), (8, ov_i x8_______)]) (st2 := [ov_i 3, ov_i (y + x8_______), ov_i x, ov_r 90, ov_i v816]) (pc2 := 145) b_297_136_7 rfl rfl ?_
                          refine ov_cV (as := [ov_i x, ov_i (y + x8_______), ov_i 3]) (st := [ov_i v816]) (d2 := d - 1) d_297_145 lk_Mo_289 rfl (Nat.le_of_ble_eq_true rfl) (c := 1) (zb_90 I824) (zs_90 I824) ⟨by decide, rfl⟩ (by omega) (c_Mo_lightAt_90 (d - 1) (by omega) U I824 x (y + x8_______) 3 (by omega) (by omega) (by omega) (by omega) (by omega)) ?_
                          rintro _ _ _ ⟨v885, rfl, rfl, rfl, f884⟩
                          show ov_R u d ov_m297 148 [(0, ov_r 90), (1, ov_i x), (2, ov_i y), (3, ov_i m), (4, ov_i bo), (5, ov_i w), (6, ov_i x6___), (7, ov_i v816), (8, ov_i x8_______)] [ov_i v885, ov_i v816] z822 h823 (P_Mo_wave_90 F z h x y m bo w)
                          rw [show h823 96 = h 96 from E828] at f884
                          have f886 : v885 = (h 96 (10 + 4 * (6 * (y + x8_______) + x) + (3 : Int))) ∧ ((3 : Int) = 1 → 0 ≤ v885 ∧ v885 ≤ 60) ∧ ((3 : Int) = 2 → 0 ≤ v885 ∧ v885 ≤ 59) ∧ ((3 : Int) = 3 → 0 ≤ v885 ∧ v885 ≤ 60) := f884
                          clear f884
                          refine ov_blk (ls2 := [(0, ov_r 90), (1, ov_i x), (2, ov_i y), (3, ov_i m), (4, ov_i bo), (5, ov_i w), (6, ov_i x6___), (7, ov_i v816), (8, ov_i x8_______), (9, ov_i (v816 - v885)), (10, ov_i 0)]) (st2 := []) (pc2 := 154) b_297_148_4 rfl rfl ?_
                          have L890 : ∀ (n887 : Nat) (x10_______ : Int) (z891 : ov_Z) (h892 : ov_H) (I893 : ov_N F z891 h892) (E894 : h892 92 = h 92) (E895 : h892 93 = h 93) (E896 : h892 94 = h 94) (E897 : h892 96 = h 96) (E898 : h892 97 = h 97) (E899 : h892 98 = h 98) (E900 : h892 99 = h 99) (E901 : h892 100 = h 100) (E902 : h892 103 = h 103) (E903 : h892 105 = h 105) (E904 : h892 106 = h 106) (E905 : h892 109 = h 109) (E906 : h892 114 = h 114) (q889 : 0 ≤ x10_______ ∧ x10_______ ≤ 60 ∧ (h892 90 2) = (h823 90 2) ∧ (h892 90 3) = (h823 90 3) ∧ (h892 90 7) = (h823 90 7) ∧ (h892 90 8) = (h823 90 8) ∧ (h892 90 13) = (h823 90 13) ∧ (h892 90 20) = (h823 90 20) ∧ (h892 90 22) = (h823 90 22) ∧ (h892 90 25) = (h823 90 25) ∧ (h892 90 26) = (h823 90 26) ∧ (h892 90 27) = (h823 90 27) ∧ (h892 90 28) = (h823 90 28) ∧ (h892 90 29) = (h823 90 29) ∧ (h892 90 30) = (h823 90 30) ∧ (h892 90 34) = (h823 90 34) ∧ (h892 90 35) = (h823 90 35) ∧ (h892 90 37) = (h823 90 37)), 60 - x10_______ < (n887 : Int) → ov_R u d ov_m297 154 [(0, ov_r 90), (1, ov_i x), (2, ov_i y), (3, ov_i m), (4, ov_i bo), (5, ov_i w), (6, ov_i x6___), (7, ov_i v816), (8, ov_i x8_______), (9, ov_i (v816 - v885)), (10, ov_i x10_______)] [] z891 h892 (P_Mo_wave_90 F z h x y m bo w) := by
                            intro n887
                            induction n887 with
                            | zero =>
                              intro x10_______ z891 h892 I893 E894 E895 E896 E897 E898 E899 E900 E901 E902 E903 E904 E905 E906 q889 hn907
                              exact absurd hn907 (by omega)
                            | succ n887 ih888 =>
                              intro x10_______ z891 h892 I893 E894 E895 E896 E897 E898 E899 E900 E901 E902 E903 E904 E905 E906 q889 hn907
                              refine ov_blk (ls2 := [(0, ov_r 90), (1, ov_i x), (2, ov_i y), (3, ov_i m), (4, ov_i bo), (5, ov_i w), (6, ov_i x6___), (7, ov_i v816), (8, ov_i x8_______), (9, ov_i (v816 - v885)), (10, ov_i x10_______)]) (st2 := [ov_i v816, ov_i x10_______]) (pc2 := 158) b_297_154_2 rfl rfl ?_
                              refine ov_icge (tgt := 235) d_297_158 (by decide) (by omega) (by omega) (fun c908 => ?_) (fun c908 => ?_)
                              · skip
                                refine ov_blk (ls2 := [(0, ov_r 90), (1, ov_i x), (2, ov_i y), (3, ov_i m), (4, ov_i bo), (5, ov_i w), (6, ov_i x6___), (7, ov_i v816), (8, ov_i (x8_______ + 1)), (9, ov_i (v816 - v885)), (10, ov_i x10_______)]) (st2 := []) (pc2 := 238) b_297_235_1 rfl rfl ?_
                                refine ov_goto (tgt := 130) d_297_238 (by decide) ?_
                                refine ov_sub (ls2 := [(0, ov_r 90), (1, ov_i x), (2, ov_i y), (3, ov_i m), (4, ov_i bo), (5, ov_i w), (6, ov_i x6___), (7, ov_i v816), (8, ov_i (x8_______ + 1))]) (List.Sublist.subset (by repeat (first | exact List.Sublist.refl _ | apply List.Sublist.cons_cons | apply List.Sublist.cons))) ?_
                                exact ih819 (x8_______ + 1) _ _ I893 E894 E895 E896 E897 E898 E899 E900 E901 E902 E903 E904 E905 E906 (by show 0 ≤ (x8_______ + 1) ∧ (x8_______ + 1) ≤ 4 ∧ (h892 90 2) = (h 90 2) ∧ (h892 90 3) = (h 90 3) ∧ (h892 90 7) = (h 90 7) ∧ (h892 90 8) = (h 90 8) ∧ (h892 90 13) = (h 90 13) ∧ (h892 90 20) = (h 90 20) ∧ (h892 90 22) = (h 90 22) ∧ (h892 90 25) = (h 90 25) ∧ (h892 90 26) = (h 90 26) ∧ (h892 90 27) = (h 90 27) ∧ (h892 90 28) = (h 90 28) ∧ (h892 90 29) = (h 90 29) ∧ (h892 90 30) = (h 90 30) ∧ (h892 90 34) = (h 90 34) ∧ (h892 90 35) = (h 90 35) ∧ (h892 90 37) = (h 90 37); omega) (by omega)
                              · skip
                                refine ov_blk (ls2 := [(0, ov_r 90), (1, ov_i x), (2, ov_i y), (3, ov_i m), (4, ov_i bo), (5, ov_i w), (6, ov_i x6___), (7, ov_i v816), (8, ov_i x8_______), (9, ov_i (v816 - v885)), (10, ov_i x10_______)]) (st2 := [ov_r 90]) (pc2 := 162) b_297_161_1 rfl rfl ?_
                                refine ov_getf (v := ov_r 110) d_297_162 fl_Mo_132 (zb_90 I893) (zs_90 I893) (congrArg ov_r (rg_90_38 I893)) ?_
                                refine ov_blk (ls2 := [(0, ov_r 90), (1, ov_i x), (2, ov_i y), (3, ov_i m), (4, ov_i bo), (5, ov_i w), (6, ov_i x6___), (7, ov_i v816), (8, ov_i x8_______), (9, ov_i (v816 - v885)), (10, ov_i x10_______)]) (st2 := [ov_r 90, ov_i x8_______, ov_i x10_______, ov_i ((60 * x8_______) + x10_______), ov_r 110]) (pc2 := 178) b_297_165_8 rfl rfl ?_
                                refine ov_getf (v := ov_r 96) d_297_178 fl_Mo_81 (zb_90 I893) (zs_90 I893) (congrArg ov_r (rg_90_10 I893)) ?_
                                refine ov_blk (ls2 := [(0, ov_r 90), (1, ov_i x), (2, ov_i y), (3, ov_i m), (4, ov_i bo), (5, ov_i w), (6, ov_i x6___), (7, ov_i v816), (8, ov_i x8_______), (9, ov_i (v816 - v885)), (10, ov_i x10_______)]) (st2 := [ov_i 2, ov_r 96, ov_i x8_______, ov_i x10_______, ov_i ((60 * x8_______) + x10_______), ov_r 110]) (pc2 := 182) b_297_181_1 rfl rfl ?_
                                refine ov_iald d_297_182 (zb_96 I893) (zs_96 I893) (by omega) ?_
                                rw [show h892 96 = h 96 from E897]
                                have g909 := t96_2 I
                                have gm910 := ov_mulb (q := x8_______) (b := (h 96 2)) (A := 4) (B := 30) (by omega) (by omega) (by omega) (by omega)
                                refine ov_blk (ls2 := [(0, ov_r 90), (1, ov_i x), (2, ov_i y), (3, ov_i m), (4, ov_i bo), (5, ov_i w), (6, ov_i x6___), (7, ov_i v816), (8, ov_i x8_______), (9, ov_i (v816 - v885)), (10, ov_i x10_______)]) (st2 := [ov_i v816, ov_i (v816 - v885), ov_i (x10_______ - (x8_______ * (h 96 2))), ov_i ((60 * x8_______) + x10_______), ov_r 110]) (pc2 := 189) b_297_183_4 rfl rfl ?_
                                refine ov_cS (as := [ov_i (x10_______ - (x8_______ * (h 96 2))), ov_i (v816 - v885), ov_i v816]) (st := [ov_i ((60 * x8_______) + x10_______), ov_r 110]) (d2 := d - 1) d_297_189 lk_Mo_446 rfl (Nat.le_of_ble_eq_true rfl) (by omega) (c_Mo_turned (d - 1) (by omega) U I893 (x10_______ - (x8_______ * (h 96 2))) (v816 - v885) v816 (by omega) (by omega) (by omega) (by omega) (by omega)) ?_
                                rintro _ _ _ ⟨v912, rfl, rfl, rfl, f911⟩
                                show ov_R u d ov_m297 192 [(0, ov_r 90), (1, ov_i x), (2, ov_i y), (3, ov_i m), (4, ov_i bo), (5, ov_i w), (6, ov_i x6___), (7, ov_i v816), (8, ov_i x8_______), (9, ov_i (v816 - v885)), (10, ov_i x10_______)] [ov_l v912, ov_i ((60 * x8_______) + x10_______), ov_r 110] z891 h892 (P_Mo_wave_90 F z h x y m bo w)
                                clear f911
                                refine ov_last d_297_192 (zb_110 I893) (zs_110 I893) (by omega) ?_
                                have I913 := ua_110 (k := ((60 * x8_______) + x10_______)) (x := v912) I893
                                refine ov_blk (ls2 := [(0, ov_r 90), (1, ov_i x), (2, ov_i y), (3, ov_i m), (4, ov_i bo), (5, ov_i w), (6, ov_i x6___), (7, ov_i v816), (8, ov_i x8_______), (9, ov_i (v816 - v885)), (10, ov_i x10_______)]) (st2 := [ov_r 90]) (pc2 := 194) b_297_193_1 rfl rfl ?_
                                refine ov_getf (v := ov_r 111) d_297_194 fl_Mo_135 (zb_90 I913) (zs_90 I913) (congrArg ov_r (rg_90_39 I913)) ?_
                                refine ov_blk (ls2 := [(0, ov_r 90), (1, ov_i x), (2, ov_i y), (3, ov_i m), (4, ov_i bo), (5, ov_i w), (6, ov_i x6___), (7, ov_i v816), (8, ov_i x8_______), (9, ov_i (v816 - v885)), (10, ov_i x10_______)]) (st2 := [ov_r 90, ov_i ((m - 1) - x8_______), ov_i x10_______, ov_i ((60 * x8_______) + x10_______), ov_r 111]) (pc2 := 214) b_297_197_12 rfl rfl ?_
                                refine ov_getf (v := ov_r 96) d_297_214 fl_Mo_81 (zb_90 I913) (zs_90 I913) (congrArg ov_r (rg_90_10 I913)) ?_
                                refine ov_blk (ls2 := [(0, ov_r 90), (1, ov_i x), (2, ov_i y), (3, ov_i m), (4, ov_i bo), (5, ov_i w), (6, ov_i x6___), (7, ov_i v816), (8, ov_i x8_______), (9, ov_i (v816 - v885)), (10, ov_i x10_______)]) (st2 := [ov_i 2, ov_r 96, ov_i ((m - 1) - x8_______), ov_i x10_______, ov_i ((60 * x8_______) + x10_______), ov_r 111]) (pc2 := 218) b_297_217_1 rfl rfl ?_
                                refine ov_iald d_297_218 (zb_96 I913) (zs_96 I913) (by omega) ?_
                                rw [show (ov_up h892 110 ((60 * x8_______) + x10_______) v912) 96 = h 96 from E897]
                                have gm915 := ov_mulb (q := ((m - 1) - x8_______)) (b := (h 96 2)) (A := 4) (B := 30) (by omega) (by omega) (by omega) (by omega)
                                refine ov_blk (ls2 := [(0, ov_r 90), (1, ov_i x), (2, ov_i y), (3, ov_i m), (4, ov_i bo), (5, ov_i w), (6, ov_i x6___), (7, ov_i v816), (8, ov_i x8_______), (9, ov_i (v816 - v885)), (10, ov_i x10_______)]) (st2 := [ov_i v816, ov_i (v816 - v885), ov_i (x10_______ - (((m - 1) - x8_______) * (h 96 2))), ov_i ((60 * x8_______) + x10_______), ov_r 111]) (pc2 := 225) b_297_219_4 rfl rfl ?_
                                refine ov_cS (as := [ov_i (x10_______ - (((m - 1) - x8_______) * (h 96 2))), ov_i (v816 - v885), ov_i v816]) (st := [ov_i ((60 * x8_______) + x10_______), ov_r 111]) (d2 := d - 1) d_297_225 lk_Mo_446 rfl (Nat.le_of_ble_eq_true rfl) (by omega) (c_Mo_turned (d - 1) (by omega) U I913 (x10_______ - (((m - 1) - x8_______) * (h 96 2))) (v816 - v885) v816 (by omega) (by omega) (by omega) (by omega) (by omega)) ?_
                                rintro _ _ _ ⟨v917, rfl, rfl, rfl, f916⟩
                                show ov_R u d ov_m297 228 [(0, ov_r 90), (1, ov_i x), (2, ov_i y), (3, ov_i m), (4, ov_i bo), (5, ov_i w), (6, ov_i x6___), (7, ov_i v816), (8, ov_i x8_______), (9, ov_i (v816 - v885)), (10, ov_i x10_______)] [ov_l v917, ov_i ((60 * x8_______) + x10_______), ov_r 111] z891 (ov_up h892 110 ((60 * x8_______) + x10_______) v912) (P_Mo_wave_90 F z h x y m bo w)
                                clear f916
                                refine ov_last d_297_228 (zb_111 I913) (zs_111 I913) (by omega) ?_
                                have I918 := ua_111 (k := ((60 * x8_______) + x10_______)) (x := v917) I913
                                refine ov_blk (ls2 := [(0, ov_r 90), (1, ov_i x), (2, ov_i y), (3, ov_i m), (4, ov_i bo), (5, ov_i w), (6, ov_i x6___), (7, ov_i v816), (8, ov_i x8_______), (9, ov_i (v816 - v885)), (10, ov_i (x10_______ + 1))]) (st2 := []) (pc2 := 232) b_297_229_1 rfl rfl ?_
                                refine ov_goto (tgt := 154) d_297_232 (by decide) ?_
                                exact ih888 (x10_______ + 1) _ _ I918 E894 E895 E896 E897 E898 E899 E900 E901 E902 E903 E904 E905 E906 (by show 0 ≤ (x10_______ + 1) ∧ (x10_______ + 1) ≤ 60 ∧ (h892 90 2) = (h823 90 2) ∧ (h892 90 3) = (h823 90 3) ∧ (h892 90 7) = (h823 90 7) ∧ (h892 90 8) = (h823 90 8) ∧ (h892 90 13) = (h823 90 13) ∧ (h892 90 20) = (h823 90 20) ∧ (h892 90 22) = (h823 90 22) ∧ (h892 90 25) = (h823 90 25) ∧ (h892 90 26) = (h823 90 26) ∧ (h892 90 27) = (h823 90 27) ∧ (h892 90 28) = (h823 90 28) ∧ (h892 90 29) = (h823 90 29) ∧ (h892 90 30) = (h823 90 30) ∧ (h892 90 34) = (h823 90 34) ∧ (h892 90 35) = (h823 90 35) ∧ (h892 90 37) = (h823 90 37); omega) (by omega)
                          exact L890 61 0 _ _ I824 E825 E826 E827 E828 E829 E830 E831 E832 E833 E834 E835 E836 E837 (by show 0 ≤ 0 ∧ 0 ≤ 60 ∧ (h823 90 2) = (h823 90 2) ∧ (h823 90 3) = (h823 90 3) ∧ (h823 90 7) = (h823 90 7) ∧ (h823 90 8) = (h823 90 8) ∧ (h823 90 13) = (h823 90 13) ∧ (h823 90 20) = (h823 90 20) ∧ (h823 90 22) = (h823 90 22) ∧ (h823 90 25) = (h823 90 25) ∧ (h823 90 26) = (h823 90 26) ∧ (h823 90 27) = (h823 90 27) ∧ (h823 90 28) = (h823 90 28) ∧ (h823 90 29) = (h823 90 29) ∧ (h823 90 30) = (h823 90 30) ∧ (h823 90 34) = (h823 90 34) ∧ (h823 90 35) = (h823 90 35) ∧ (h823 90 37) = (h823 90 37); omega) (by omega)
                    exact L821 5 0 _ _ I1 rfl rfl rfl rfl rfl rfl rfl rfl rfl rfl rfl rfl rfl (by show 0 ≤ 0 ∧ 0 ≤ 4 ∧ (h 90 2) = (h 90 2) ∧ (h 90 3) = (h 90 3) ∧ (h 90 7) = (h 90 7) ∧ (h 90 8) = (h 90 8) ∧ (h 90 13) = (h 90 13) ∧ (h 90 20) = (h 90 20) ∧ (h 90 22) = (h 90 22) ∧ (h 90 25) = (h 90 25) ∧ (h 90 26) = (h 90 26) ∧ (h 90 27) = (h 90 27) ∧ (h 90 28) = (h 90 28) ∧ (h 90 29) = (h 90 29) ∧ (h 90 30) = (h 90 30) ∧ (h 90 34) = (h 90 34) ∧ (h 90 35) = (h 90 35) ∧ (h 90 37) = (h 90 37); omega) (by omega)
                  · skip
                    refine ov_blk (ls2 := [(0, ov_r 90), (1, ov_i x), (2, ov_i y), (3, ov_i m), (4, ov_i bo), (5, ov_i w), (6, ov_i x6___), (7, ov_i x7___)]) (st2 := [ov_i (-1)]) (pc2 := 117) b_297_116_1 rfl rfl ?_
                    exact ov_reti (st := []) d_297_117 rfl ⟨_, rfl, I1, (by show -2147483648 ≤ (-1) ∧ (-1) ≤ 2147483647 ∧ (h 90 2) = (h 90 2) ∧ (h 90 3) = (h 90 3) ∧ (h 90 7) = (h 90 7) ∧ (h 90 8) = (h 90 8) ∧ (h 90 13) = (h 90 13) ∧ (h 90 20) = (h 90 20) ∧ (h 90 22) = (h 90 22) ∧ (h 90 25) = (h 90 25) ∧ (h 90 26) = (h 90 26) ∧ (h 90 27) = (h 90 27) ∧ (h 90 28) = (h 90 28) ∧ (h 90 29) = (h 90 29) ∧ (h 90 30) = (h 90 30) ∧ (h 90 34) = (h 90 34) ∧ (h 90 35) = (h 90 35) ∧ (h 90 37) = (h 90 37); omega), rfl, rfl, rfl, rfl, rfl, rfl, rfl, rfl, rfl, rfl, rfl, rfl, rfl⟩
                · skip
                  refine ov_blk (ls2 := [(0, ov_r 90), (1, ov_i x), (2, ov_i y), (3, ov_i m), (4, ov_i bo), (5, ov_i w), (6, ov_i x6___), (7, ov_i x7___)]) (st2 := [ov_i (y + x7___), ov_i x, ov_r 90]) (pc2 := 72) b_297_66_5 rfl rfl ?_
                  refine ov_cV (as := [ov_i x, ov_i (y + x7___)]) (st := []) (d2 := d - 1) d_297_72 lk_Mo_285 rfl (Nat.le_of_ble_eq_true rfl) (c := 1) (zb_90 I1) (zs_90 I1) ⟨by decide, rfl⟩ (by omega) (c_Mo_isTimed_90 (d - 1) (by omega) U I1 x (y + x7___) (by omega) (by omega) (by omega)) ?_
                  rintro _ _ _ ⟨v920, rfl, rfl, rfl, f919⟩
                  show ov_R u d ov_m297 75 [(0, ov_r 90), (1, ov_i x), (2, ov_i y), (3, ov_i m), (4, ov_i bo), (5, ov_i w), (6, ov_i x6___), (7, ov_i x7___)] [ov_i v920] z (ov_up h 90 0 0) (P_Mo_wave_90 F z h x y m bo w)
                  have f921 : (v920 = 0 ∨ v920 = 1) ∧ (v920 = 1 → ((h 96 (10 + 4 * (6 * (y + x7___) + x))) = 1 ∨ (h 96 (10 + 4 * (6 * (y + x7___) + x))) = 2)) ∧ (v920 = 0 → ¬ ((h 96 (10 + 4 * (6 * (y + x7___) + x))) = 1 ∨ (h 96 (10 + 4 * (6 * (y + x7___) + x))) = 2)) := f919
                  clear f919
                  refine ov_ifeq (tgt := 102) d_297_75 (by decide) (by omega) (fun c922 => ?_) (fun c922 => ?_)
                  · skip
                    refine ov_blk (ls2 := [(0, ov_r 90), (1, ov_i x), (2, ov_i y), (3, ov_i m), (4, ov_i bo), (5, ov_i w), (6, ov_i 0), (7, ov_i (x7___ + 1))]) (st2 := []) (pc2 := 108) b_297_102_3 rfl rfl ?_
                    refine ov_goto (tgt := 55) d_297_108 (by decide) ?_
                    exact ih703 0 (x7___ + 1) (by show (0 = 0 ∨ 0 = 1) ∧ 0 ≤ (x7___ + 1) ∧ (x7___ + 1) ≤ 4 ∧ (0 = 1 → 0 ≤ x ∧ x ≤ 5 ∧ 0 ≤ y ∧ y ≤ 8 ∧ 2 ≤ m ∧ m ≤ 4 ∧ y + m ≤ 9 ∧ 0 ≤ w ∧ w ≤ m - 1 ∧ (1 ≤ (x7___ + 1) → ((h 96 (10 + 4 * (6 * y + x))) = 1 ∨ (h 96 (10 + 4 * (6 * y + x))) = 2))); omega) (by omega)
                  · skip
                    refine ov_blk (ls2 := [(0, ov_r 90), (1, ov_i x), (2, ov_i y), (3, ov_i m), (4, ov_i bo), (5, ov_i w), (6, ov_i x6___), (7, ov_i x7___)]) (st2 := [ov_i 1, ov_i (y + x7___), ov_i x, ov_r 90]) (pc2 := 85) b_297_78_6 rfl rfl ?_
                    refine ov_cV (as := [ov_i x, ov_i (y + x7___), ov_i 1]) (st := []) (d2 := d - 1) d_297_85 lk_Mo_289 rfl (Nat.le_of_ble_eq_true rfl) (c := 1) (zb_90 I1) (zs_90 I1) ⟨by decide, rfl⟩ (by omega) (c_Mo_lightAt_90 (d - 1) (by omega) U I1 x (y + x7___) 1 (by omega) (by omega) (by omega) (by omega) (by omega)) ?_
                    rintro _ _ _ ⟨v924, rfl, rfl, rfl, f923⟩
                    show ov_R u d ov_m297 88 [(0, ov_r 90), (1, ov_i x), (2, ov_i y), (3, ov_i m), (4, ov_i bo), (5, ov_i w), (6, ov_i x6___), (7, ov_i x7___)] [ov_i v924] z (ov_up h 90 0 0) (P_Mo_wave_90 F z h x y m bo w)
                    have f925 : v924 = (h 96 (10 + 4 * (6 * (y + x7___) + x) + (1 : Int))) ∧ ((1 : Int) = 1 → 0 ≤ v924 ∧ v924 ≤ 60) ∧ ((1 : Int) = 2 → 0 ≤ v924 ∧ v924 ≤ 59) ∧ ((1 : Int) = 3 → 0 ≤ v924 ∧ v924 ≤ 60) := f923
                    clear f923
                    refine ov_blk (ls2 := [(0, ov_r 90), (1, ov_i x), (2, ov_i y), (3, ov_i m), (4, ov_i bo), (5, ov_i w), (6, ov_i x6___), (7, ov_i x7___)]) (st2 := [ov_i 1, ov_i y, ov_i x, ov_r 90, ov_i v924]) (pc2 := 92) b_297_88_4 rfl rfl ?_
                    refine ov_cV (as := [ov_i x, ov_i y, ov_i 1]) (st := [ov_i v924]) (d2 := d - 1) d_297_92 lk_Mo_289 rfl (Nat.le_of_ble_eq_true rfl) (c := 1) (zb_90 I1) (zs_90 I1) ⟨by decide, rfl⟩ (by omega) (c_Mo_lightAt_90 (d - 1) (by omega) U I1 x y 1 (by omega) (by omega) (by omega) (by omega) (by omega)) ?_
                    rintro _ _ _ ⟨v927, rfl, rfl, rfl, f926⟩
                    show ov_R u d ov_m297 95 [(0, ov_r 90), (1, ov_i x), (2, ov_i y), (3, ov_i m), (4, ov_i bo), (5, ov_i w), (6, ov_i x6___), (7, ov_i x7___)] [ov_i v927, ov_i v924] z (ov_up h 90 0 0) (P_Mo_wave_90 F z h x y m bo w)
                    have f928 : v927 = (h 96 (10 + 4 * (6 * y + x) + (1 : Int))) ∧ ((1 : Int) = 1 → 0 ≤ v927 ∧ v927 ≤ 60) ∧ ((1 : Int) = 2 → 0 ≤ v927 ∧ v927 ≤ 59) ∧ ((1 : Int) = 3 → 0 ≤ v927 ∧ v927 ≤ 60) := f926
                    clear f926
                    refine ov_icne (tgt := 102) d_297_95 (by decide) (by omega) (by omega) (fun c929 => ?_) (fun c929 => ?_)
                    · skip
                      refine ov_blk (ls2 := [(0, ov_r 90), (1, ov_i x), (2, ov_i y), (3, ov_i m), (4, ov_i bo), (5, ov_i w), (6, ov_i 0), (7, ov_i (x7___ + 1))]) (st2 := []) (pc2 := 108) b_297_102_3 rfl rfl ?_
                      refine ov_goto (tgt := 55) d_297_108 (by decide) ?_
                      exact ih703 0 (x7___ + 1) (by show (0 = 0 ∨ 0 = 1) ∧ 0 ≤ (x7___ + 1) ∧ (x7___ + 1) ≤ 4 ∧ (0 = 1 → 0 ≤ x ∧ x ≤ 5 ∧ 0 ≤ y ∧ y ≤ 8 ∧ 2 ≤ m ∧ m ≤ 4 ∧ y + m ≤ 9 ∧ 0 ≤ w ∧ w ≤ m - 1 ∧ (1 ≤ (x7___ + 1) → ((h 96 (10 + 4 * (6 * y + x))) = 1 ∨ (h 96 (10 + 4 * (6 * y + x))) = 2))); omega) (by omega)
                    · skip
                      refine ov_blk (ls2 := [(0, ov_r 90), (1, ov_i x), (2, ov_i y), (3, ov_i m), (4, ov_i bo), (5, ov_i w), (6, ov_i x6___), (7, ov_i x7___)]) (st2 := [ov_i 1]) (pc2 := 99) b_297_98_1 rfl rfl ?_
                      refine ov_goto (tgt := 103) d_297_99 (by decide) ?_
                      refine ov_blk (ls2 := [(0, ov_r 90), (1, ov_i x), (2, ov_i y), (3, ov_i m), (4, ov_i bo), (5, ov_i w), (6, ov_i 1), (7, ov_i (x7___ + 1))]) (st2 := []) (pc2 := 108) b_297_103_2 rfl rfl ?_
                      refine ov_goto (tgt := 55) d_297_108 (by decide) ?_
                      exact ih703 1 (x7___ + 1) (by show (1 = 0 ∨ 1 = 1) ∧ 0 ≤ (x7___ + 1) ∧ (x7___ + 1) ≤ 4 ∧ (1 = 1 → 0 ≤ x ∧ x ≤ 5 ∧ 0 ≤ y ∧ y ≤ 8 ∧ 2 ≤ m ∧ m ≤ 4 ∧ y + m ≤ 9 ∧ 0 ≤ w ∧ w ≤ m - 1 ∧ (1 ≤ (x7___ + 1) → ((h 96 (10 + 4 * (6 * y + x))) = 1 ∨ (h 96 (10 + 4 * (6 * y + x))) = 2))); omega) (by omega)
          exact L705 5 0 0 (by show (0 = 0 ∨ 0 = 1) ∧ 0 ≤ 0 ∧ 0 ≤ 4 ∧ (0 = 1 → 0 ≤ x ∧ x ≤ 5 ∧ 0 ≤ y ∧ y ≤ 8 ∧ 2 ≤ m ∧ m ≤ 4 ∧ y + m ≤ 9 ∧ 0 ≤ w ∧ w ≤ m - 1 ∧ (1 ≤ 0 → ((h 96 (10 + 4 * (6 * y + x))) = 1 ∨ (h 96 (10 + 4 * (6 * y + x))) = 2))); omega) (by omega)
        · skip
          refine ov_blk (ls2 := [(0, ov_r 90), (1, ov_i x), (2, ov_i y), (3, ov_i m), (4, ov_i bo), (5, ov_i w)]) (st2 := [ov_i 1]) (pc2 := 46) b_297_45_1 rfl rfl ?_
          refine ov_goto (tgt := 50) d_297_46 (by decide) ?_
          refine ov_blk (ls2 := [(0, ov_r 90), (1, ov_i x), (2, ov_i y), (3, ov_i m), (4, ov_i bo), (5, ov_i w), (6, ov_i 1), (7, ov_i 0)]) (st2 := []) (pc2 := 55) b_297_50_3 rfl rfl ?_
          have L933 : ∀ (n930 : Nat) (x6____ : Int) (x7____ : Int) (q932 : (x6____ = 0 ∨ x6____ = 1) ∧ 0 ≤ x7____ ∧ x7____ ≤ 4 ∧ (x6____ = 1 → 0 ≤ x ∧ x ≤ 5 ∧ 0 ≤ y ∧ y ≤ 8 ∧ 2 ≤ m ∧ m ≤ 4 ∧ y + m ≤ 9 ∧ 0 ≤ w ∧ w ≤ m - 1 ∧ (1 ≤ x7____ → ((h 96 (10 + 4 * (6 * y + x))) = 1 ∨ (h 96 (10 + 4 * (6 * y + x))) = 2)))), 4 - x7____ < (n930 : Int) → ov_R u d ov_m297 55 [(0, ov_r 90), (1, ov_i x), (2, ov_i y), (3, ov_i m), (4, ov_i bo), (5, ov_i w), (6, ov_i x6____), (7, ov_i x7____)] [] z (ov_up h 90 0 0) (P_Mo_wave_90 F z h x y m bo w) := by
            intro n930
            induction n930 with
            | zero =>
              intro x6____ x7____ q932 hn934
              exact absurd hn934 (by omega)
            | succ n930 ih931 =>
              intro x6____ x7____ q932 hn934
              refine ov_blk (ls2 := [(0, ov_r 90), (1, ov_i x), (2, ov_i y), (3, ov_i m), (4, ov_i bo), (5, ov_i w), (6, ov_i x6____), (7, ov_i x7____)]) (st2 := [ov_i m, ov_i x7____]) (pc2 := 58) b_297_55_2 rfl rfl ?_
              refine ov_icge (tgt := 111) d_297_58 (by decide) (by omega) (by omega) (fun c935 => ?_) (fun c935 => ?_)
              · skip
                refine ov_blk (ls2 := [(0, ov_r 90), (1, ov_i x), (2, ov_i y), (3, ov_i m), (4, ov_i bo), (5, ov_i w), (6, ov_i x6____), (7, ov_i x7____)]) (st2 := [ov_i x6____]) (pc2 := 113) b_297_111_1 rfl rfl ?_
                refine ov_ifne (tgt := 118) d_297_113 (by decide) (by omega) (fun c936 => ?_) (fun c936 => ?_)
                · skip
                  have w1 := ov_WT_at W (c := 6 * y + x) (by omega)
                  refine ov_blk (ls2 := [(0, ov_r 90), (1, ov_i x), (2, ov_i y), (3, ov_i m), (4, ov_i bo), (5, ov_i w), (6, ov_i x6____), (7, ov_i x7____)]) (st2 := [ov_i 1, ov_i y, ov_i x, ov_r 90]) (pc2 := 122) b_297_118_4 rfl rfl ?_
                  refine ov_cV (as := [ov_i x, ov_i y, ov_i 1]) (st := []) (d2 := d - 1) d_297_122 lk_Mo_289 rfl (Nat.le_of_ble_eq_true rfl) (c := 1) (zb_90 I1) (zs_90 I1) ⟨by decide, rfl⟩ (by omega) (c_Mo_lightAt_90 (d - 1) (by omega) U I1 x y 1 (by omega) (by omega) (by omega) (by omega) (by omega)) ?_
                  rintro _ _ _ ⟨v938, rfl, rfl, rfl, f937⟩
                  show ov_R u d ov_m297 125 [(0, ov_r 90), (1, ov_i x), (2, ov_i y), (3, ov_i m), (4, ov_i bo), (5, ov_i w), (6, ov_i x6____), (7, ov_i x7____)] [ov_i v938] z (ov_up h 90 0 0) (P_Mo_wave_90 F z h x y m bo w)
                  have f939 : v938 = (h 96 (10 + 4 * (6 * y + x) + (1 : Int))) ∧ ((1 : Int) = 1 → 0 ≤ v938 ∧ v938 ≤ 60) ∧ ((1 : Int) = 2 → 0 ≤ v938 ∧ v938 ≤ 59) ∧ ((1 : Int) = 3 → 0 ≤ v938 ∧ v938 ≤ 60) := f937
                  clear f937
                  refine ov_blk (ls2 := [(0, ov_r 90), (1, ov_i x), (2, ov_i y), (3, ov_i m), (4, ov_i bo), (5, ov_i w), (6, ov_i x6____), (7, ov_i v938), (8, ov_i 0)]) (st2 := []) (pc2 := 130) b_297_125_3 rfl rfl ?_
                  have L943 : ∀ (n940 : Nat) (x8________ : Int) (z944 : ov_Z) (h945 : ov_H) (I946 : ov_N F z944 h945) (E947 : h945 92 = h 92) (E948 : h945 93 = h 93) (E949 : h945 94 = h 94) (E950 : h945 96 = h 96) (E951 : h945 97 = h 97) (E952 : h945 98 = h 98) (E953 : h945 99 = h 99) (E954 : h945 100 = h 100) (E955 : h945 103 = h 103) (E956 : h945 105 = h 105) (E957 : h945 106 = h 106) (E958 : h945 109 = h 109) (E959 : h945 114 = h 114) (q942 : 0 ≤ x8________ ∧ x8________ ≤ 4 ∧ (h945 90 2) = (h 90 2) ∧ (h945 90 3) = (h 90 3) ∧ (h945 90 7) = (h 90 7) ∧ (h945 90 8) = (h 90 8) ∧ (h945 90 13) = (h 90 13) ∧ (h945 90 20) = (h 90 20) ∧ (h945 90 22) = (h 90 22) ∧ (h945 90 25) = (h 90 25) ∧ (h945 90 26) = (h 90 26) ∧ (h945 90 27) = (h 90 27) ∧ (h945 90 28) = (h 90 28) ∧ (h945 90 29) = (h 90 29) ∧ (h945 90 30) = (h 90 30) ∧ (h945 90 34) = (h 90 34) ∧ (h945 90 35) = (h 90 35) ∧ (h945 90 37) = (h 90 37)), 4 - x8________ < (n940 : Int) → ov_R u d ov_m297 130 [(0, ov_r 90), (1, ov_i x), (2, ov_i y), (3, ov_i m), (4, ov_i bo), (5, ov_i w), (6, ov_i x6____), (7, ov_i v938), (8, ov_i x8________)] [] z944 h945 (P_Mo_wave_90 F z h x y m bo w) := by
                    intro n940
                    induction n940 with
                    | zero =>
                      intro x8________ z944 h945 I946 E947 E948 E949 E950 E951 E952 E953 E954 E955 E956 E957 E958 E959 q942 hn960
                      exact absurd hn960 (by omega)
                    | succ n940 ih941 =>
                      intro x8________ z944 h945 I946 E947 E948 E949 E950 E951 E952 E953 E954 E955 E956 E957 E958 E959 q942 hn960
                      refine ov_blk (ls2 := [(0, ov_r 90), (1, ov_i x), (2, ov_i y), (3, ov_i m), (4, ov_i bo), (5, ov_i w), (6, ov_i x6____), (7, ov_i v938), (8, ov_i x8________)]) (st2 := [ov_i m, ov_i x8________]) (pc2 := 133) b_297_130_2 rfl rfl ?_
                      refine ov_icge (tgt := 241) d_297_133 (by decide) (by omega) (by omega) (fun c961 => ?_) (fun c961 => ?_)
                      · skip
                        refine ov_blk (ls2 := [(0, ov_r 90), (1, ov_i x), (2, ov_i y), (3, ov_i m), (4, ov_i bo), (5, ov_i w), (6, ov_i x6____), (7, ov_i v938), (8, ov_i x8________)]) (st2 := [ov_i (-1), ov_r 90]) (pc2 := 243) b_297_241_2 rfl rfl ?_
                        refine ov_putf (x := (-1)) d_297_243 fl_Mo_439 (zb_90 I946) (zs_90 I946) rfl nk_0 rfl ?_
                        have I962 := up_90_42 (x := (-1)) I946 (by omega)
                        refine ov_blk (ls2 := [(0, ov_r 90), (1, ov_i x), (2, ov_i y), (3, ov_i m), (4, ov_i bo), (5, ov_i w), (6, ov_i x6____), (7, ov_i v938), (8, ov_i x8________)]) (st2 := [ov_i 2, ov_i y, ov_i x, ov_r 90]) (pc2 := 250) b_297_246_4 rfl rfl ?_
                        refine ov_cV (as := [ov_i x, ov_i y, ov_i 2]) (st := []) (d2 := d - 1) d_297_250 lk_Mo_289 rfl (Nat.le_of_ble_eq_true rfl) (c := 1) (zb_90 I962) (zs_90 I962) ⟨by decide, rfl⟩ (by omega) (c_Mo_lightAt_90 (d - 1) (by omega) U I962 x y 2 (by omega) (by omega) (by omega) (by omega) (by omega)) ?_
                        rintro _ _ _ ⟨v964, rfl, rfl, rfl, f963⟩
                        show ov_R u d ov_m297 253 [(0, ov_r 90), (1, ov_i x), (2, ov_i y), (3, ov_i m), (4, ov_i bo), (5, ov_i w), (6, ov_i x6____), (7, ov_i v938), (8, ov_i x8________)] [ov_i v964] z944 (ov_up h945 90 42 (-1)) (P_Mo_wave_90 F z h x y m bo w)
                        rw [show (ov_up h945 90 42 (-1)) 96 = h 96 from E950] at f963
                        have f965 : v964 = (h 96 (10 + 4 * (6 * y + x) + (2 : Int))) ∧ ((2 : Int) = 1 → 0 ≤ v964 ∧ v964 ≤ 60) ∧ ((2 : Int) = 2 → 0 ≤ v964 ∧ v964 ≤ 59) ∧ ((2 : Int) = 3 → 0 ≤ v964 ∧ v964 ≤ 60) := f963
                        clear f963
                        refine ov_blk (ls2 := [(0, ov_r 90), (1, ov_i x), (2, ov_i y), (3, ov_i m), (4, ov_i bo), (5, ov_i w), (6, ov_i x6____), (7, ov_i v938), (8, ov_i x8________)]) (st2 := [ov_i 3, ov_i y, ov_i x, ov_r 90, ov_i v964]) (pc2 := 257) b_297_253_4 rfl rfl ?_
                        refine ov_cV (as := [ov_i x, ov_i y, ov_i 3]) (st := [ov_i v964]) (d2 := d - 1) d_297_257 lk_Mo_289 rfl (Nat.le_of_ble_eq_true rfl) (c := 1) (zb_90 I962) (zs_90 I962) ⟨by decide, rfl⟩ (by omega) (c_Mo_lightAt_90 (d - 1) (by omega) U I962 x y 3 (by omega) (by omega) (by omega) (by omega) (by omega)) ?_
                        rintro _ _ _ ⟨v967, rfl, rfl, rfl, f966⟩
                        show ov_R u d ov_m297 260 [(0, ov_r 90), (1, ov_i x), (2, ov_i y), (3, ov_i m), (4, ov_i bo), (5, ov_i w), (6, ov_i x6____), (7, ov_i v938), (8, ov_i x8________)] [ov_i v967, ov_i v964] z944 (ov_up h945 90 42 (-1)) (P_Mo_wave_90 F z h x y m bo w)
                        rw [show (ov_up h945 90 42 (-1)) 96 = h 96 from E950] at f966
                        have f968 : v967 = (h 96 (10 + 4 * (6 * y + x) + (3 : Int))) ∧ ((3 : Int) = 1 → 0 ≤ v967 ∧ v967 ≤ 60) ∧ ((3 : Int) = 2 → 0 ≤ v967 ∧ v967 ≤ 59) ∧ ((3 : Int) = 3 → 0 ≤ v967 ∧ v967 ≤ 60) := f966
                        clear f966
                        refine ov_blk (ls2 := [(0, ov_r 90), (1, ov_i x), (2, ov_i y), (3, ov_i m), (4, ov_i bo), (5, ov_i w), (6, ov_i x6____), (7, ov_i v938), (8, ov_i x8________)]) (st2 := [ov_i v938, ov_i (v964 + v967)]) (pc2 := 263) b_297_260_2 rfl rfl ?_
                        refine ov_irem d_297_263 (by omega) (by omega) (by omega) ?_
                        have g969 := ov_tmg (a := (v964 + v967)) (b := v938) (by omega) (by omega)
                        refine ov_havw (fun w970 gw970 qw970 => ?_)
                        refine ov_blk (ls2 := [(0, ov_r 90), (1, ov_i x), (2, ov_i y), (3, ov_i m), (4, ov_i bo), (5, ov_i w), (6, ov_i x6____), (7, ov_i v938), (8, ov_i w970)]) (st2 := [ov_r 90]) (pc2 := 267) b_297_264_2 rfl rfl ?_
                        refine ov_getf (v := ov_r 112) d_297_267 fl_Mo_138 (zb_90 I962) (zs_90 I962) (congrArg ov_r (rg_90_40 I962)) ?_
                        refine ov_blk (ls2 := [(0, ov_r 90), (1, ov_i x), (2, ov_i y), (3, ov_i m), (4, ov_i bo), (5, ov_i w), (6, ov_i x6____), (7, ov_i v938), (8, ov_i w970)]) (st2 := [ov_i w970, ov_i 0, ov_r 112]) (pc2 := 273) b_297_270_2 rfl rfl ?_
                        refine ov_iast d_297_273 (zb_112 I962) (zs_112 I962) (by omega) ?_
                        have I971 := ua_112 (k := 0) (x := w970) I962 (by omega)
                        refine ov_blk (ls2 := [(0, ov_r 90), (1, ov_i x), (2, ov_i y), (3, ov_i m), (4, ov_i bo), (5, ov_i w), (6, ov_i x6____), (7, ov_i v938), (8, ov_i w970)]) (st2 := [ov_r 90, ov_i v938, ov_i m, ov_i 1, ov_r 90]) (pc2 := 280) b_297_274_5 rfl rfl ?_
                        refine ov_getf (v := ov_r 110) d_297_280 fl_Mo_132 (zb_90 I971) (zs_90 I971) (congrArg ov_r (rg_90_38 I971)) ?_
                        refine ov_blk (ls2 := [(0, ov_r 90), (1, ov_i x), (2, ov_i y), (3, ov_i m), (4, ov_i bo), (5, ov_i w), (6, ov_i x6____), (7, ov_i v938), (8, ov_i w970)]) (st2 := [ov_i w970, ov_r 110, ov_i v938, ov_i m, ov_i 1, ov_r 90]) (pc2 := 285) b_297_283_1 rfl rfl ?_
                        refine ov_lald d_297_285 (zb_110 I971) (zs_110 I971) (by omega) ?_
                        show ov_R u d ov_m297 286 [(0, ov_r 90), (1, ov_i x), (2, ov_i y), (3, ov_i m), (4, ov_i bo), (5, ov_i w), (6, ov_i x6____), (7, ov_i v938), (8, ov_i w970)] [ov_l (h945 110 w970), ov_i v938, ov_i m, ov_i 1, ov_r 90] z944 (ov_up (ov_up h945 90 42 (-1)) 112 0 w970) (P_Mo_wave_90 F z h x y m bo w)
                        refine ov_blk (ls2 := [(0, ov_r 90), (1, ov_i x), (2, ov_i y), (3, ov_i m), (4, ov_i bo), (5, ov_i w), (6, ov_i x6____), (7, ov_i v938), (8, ov_i w970)]) (st2 := [ov_r 90, ov_l (h945 110 w970), ov_i v938, ov_i m, ov_i 1, ov_r 90]) (pc2 := 287) b_297_286_1 rfl rfl ?_
                        refine ov_getf (v := ov_r 111) d_297_287 fl_Mo_135 (zb_90 I971) (zs_90 I971) (congrArg ov_r (rg_90_39 I971)) ?_
                        refine ov_blk (ls2 := [(0, ov_r 90), (1, ov_i x), (2, ov_i y), (3, ov_i m), (4, ov_i bo), (5, ov_i w), (6, ov_i x6____), (7, ov_i v938), (8, ov_i w970)]) (st2 := [ov_i w970, ov_r 111, ov_l (h945 110 w970), ov_i v938, ov_i m, ov_i 1, ov_r 90]) (pc2 := 292) b_297_290_1 rfl rfl ?_
                        refine ov_lald d_297_292 (zb_111 I971) (zs_111 I971) (by omega) ?_
                        show ov_R u d ov_m297 293 [(0, ov_r 90), (1, ov_i x), (2, ov_i y), (3, ov_i m), (4, ov_i bo), (5, ov_i w), (6, ov_i x6____), (7, ov_i v938), (8, ov_i w970)] [ov_l (h945 111 w970), ov_l (h945 110 w970), ov_i v938, ov_i m, ov_i 1, ov_r 90] z944 (ov_up (ov_up h945 90 42 (-1)) 112 0 w970) (P_Mo_wave_90 F z h x y m bo w)
                        refine ov_blk (ls2 := [(0, ov_r 90), (1, ov_i x), (2, ov_i y), (3, ov_i m), (4, ov_i bo), (5, ov_i w), (6, ov_i x6____), (7, ov_i v938), (8, ov_i w970)]) (st2 := [ov_i bo, ov_l (h945 111 w970), ov_l (h945 110 w970), ov_i v938, ov_i m, ov_i 1, ov_r 90]) (pc2 := 295) b_297_293_1 rfl rfl ?_
                        refine ov_cV (as := [ov_i 1, ov_i m, ov_i v938, ov_l (h945 110 w970), ov_l (h945 111 w970), ov_i bo]) (st := []) (d2 := d - 1) d_297_295 lk_Mo_442 rfl (Nat.le_of_ble_eq_true rfl) (c := 1) (zb_90 I971) (zs_90 I971) ⟨by decide, rfl⟩ (by omega) (c_Mo_triesWave_90_all (Int.toNat ((m) - (1))) (d - 1) (by omega) U I971 1 m v938 (h945 110 w970) (h945 111 w970) bo (by omega) (by omega) (by omega) (by omega) (by omega) (by omega) (by omega)) ?_
                        rintro _ z986 h987 ⟨rfl, I988, f972, e973, e974, e975, e976, e977, e978, e979, e980, e981, e982, e983, e984, e985⟩
                        have E989 : h987 92 = h 92 := Eq.trans e973 E947
                        have E990 : h987 93 = h 93 := Eq.trans e974 E948
                        have E991 : h987 94 = h 94 := Eq.trans e975 E949
                        have E992 : h987 96 = h 96 := Eq.trans e976 E950
                        have E993 : h987 97 = h 97 := Eq.trans e977 E951
                        have E994 : h987 98 = h 98 := Eq.trans e978 E952
                        have E995 : h987 99 = h 99 := Eq.trans e979 E953
                        have E996 : h987 100 = h 100 := Eq.trans e980 E954
                        have E997 : h987 103 = h 103 := Eq.trans e981 E955
                        have E998 : h987 105 = h 105 := Eq.trans e982 E956
                        have E999 : h987 106 = h 106 := Eq.trans e983 E957
                        have E1000 : h987 109 = h 109 := Eq.trans e984 E958
                        have E1001 : h987 114 = h 114 := Eq.trans e985 E959
                        show ov_R u d ov_m297 298 [(0, ov_r 90), (1, ov_i x), (2, ov_i y), (3, ov_i m), (4, ov_i bo), (5, ov_i w), (6, ov_i x6____), (7, ov_i v938), (8, ov_i w970)] [] z986 h987 (P_Mo_wave_90 F z h x y m bo w)
                        have f1002 : (h987 90 2) = (h945 90 2) ∧ (h987 90 3) = (h945 90 3) ∧ (h987 90 7) = (h945 90 7) ∧ (h987 90 8) = (h945 90 8) ∧ (h987 90 13) = (h945 90 13) ∧ (h987 90 20) = (h945 90 20) ∧ (h987 90 22) = (h945 90 22) ∧ (h987 90 25) = (h945 90 25) ∧ (h987 90 26) = (h945 90 26) ∧ (h987 90 27) = (h945 90 27) ∧ (h987 90 28) = (h945 90 28) ∧ (h987 90 29) = (h945 90 29) ∧ (h987 90 30) = (h945 90 30) ∧ (h987 90 34) = (h945 90 34) ∧ (h987 90 35) = (h945 90 35) ∧ (h987 90 37) = (h945 90 37) := f972
                        clear f972
                        refine ov_blk (ls2 := [(0, ov_r 90), (1, ov_i x), (2, ov_i y), (3, ov_i m), (4, ov_i bo), (5, ov_i w), (6, ov_i x6____), (7, ov_i v938), (8, ov_i w970)]) (st2 := [ov_i w]) (pc2 := 300) b_297_298_1 rfl rfl ?_
                        refine ov_ifne (tgt := 310) d_297_300 (by decide) (by omega) (fun c1003 => ?_) (fun c1003 => ?_)
                        · skip
                          refine ov_blk (ls2 := [(0, ov_r 90), (1, ov_i x), (2, ov_i y), (3, ov_i m), (4, ov_i bo), (5, ov_i w), (6, ov_i x6____), (7, ov_i v938), (8, ov_i w970)]) (st2 := [ov_r 90]) (pc2 := 311) b_297_310_1 rfl rfl ?_
                          refine ov_getf (v := ov_r 113) d_297_311 fl_Mo_141 (zb_90 I988) (zs_90 I988) (congrArg ov_r (rg_90_41 I988)) ?_
                          refine ov_blk (ls2 := [(0, ov_r 90), (1, ov_i x), (2, ov_i y), (3, ov_i m), (4, ov_i bo), (5, ov_i w), (6, ov_i x6____), (7, ov_i v938), (8, ov_i w970)]) (st2 := [ov_i w, ov_r 113]) (pc2 := 316) b_297_314_1 rfl rfl ?_
                          refine ov_iald d_297_316 (zb_113 I988) (zs_113 I988) (by omega) ?_
                          have g1004 := ra_113 I988 w
                          exact ov_reti (st := []) d_297_317 rfl ⟨_, rfl, I988, (by show -2147483648 ≤ (h987 113 w) ∧ (h987 113 w) ≤ 2147483647 ∧ (h987 90 2) = (h 90 2) ∧ (h987 90 3) = (h 90 3) ∧ (h987 90 7) = (h 90 7) ∧ (h987 90 8) = (h 90 8) ∧ (h987 90 13) = (h 90 13) ∧ (h987 90 20) = (h 90 20) ∧ (h987 90 22) = (h 90 22) ∧ (h987 90 25) = (h 90 25) ∧ (h987 90 26) = (h 90 26) ∧ (h987 90 27) = (h 90 27) ∧ (h987 90 28) = (h 90 28) ∧ (h987 90 29) = (h 90 29) ∧ (h987 90 30) = (h 90 30) ∧ (h987 90 34) = (h 90 34) ∧ (h987 90 35) = (h 90 35) ∧ (h987 90 37) = (h 90 37); omega), E989, E990, E991, E992, E993, E994, E995, E996, E997, E998, E999, E1000, E1001⟩
                        · skip
                          refine ov_blk (ls2 := [(0, ov_r 90), (1, ov_i x), (2, ov_i y), (3, ov_i m), (4, ov_i bo), (5, ov_i w), (6, ov_i x6____), (7, ov_i v938), (8, ov_i w970)]) (st2 := [ov_r 90]) (pc2 := 304) b_297_303_1 rfl rfl ?_
                          refine ov_getf (v := ov_i (h987 90 42)) d_297_304 fl_Mo_439 (zb_90 I988) (zs_90 I988) rfl ?_
                          have g1005 := rg_90_42 I988
                          refine ov_goto (tgt := 317) d_297_307 (by decide) ?_
                          exact ov_reti (st := []) d_297_317 rfl ⟨_, rfl, I988, (by show -2147483648 ≤ (h987 90 42) ∧ (h987 90 42) ≤ 2147483647 ∧ (h987 90 2) = (h 90 2) ∧ (h987 90 3) = (h 90 3) ∧ (h987 90 7) = (h 90 7) ∧ (h987 90 8) = (h 90 8) ∧ (h987 90 13) = (h 90 13) ∧ (h987 90 20) = (h 90 20) ∧ (h987 90 22) = (h 90 22) ∧ (h987 90 25) = (h 90 25) ∧ (h987 90 26) = (h 90 26) ∧ (h987 90 27) = (h 90 27) ∧ (h987 90 28) = (h 90 28) ∧ (h987 90 29) = (h 90 29) ∧ (h987 90 30) = (h 90 30) ∧ (h987 90 34) = (h 90 34) ∧ (h987 90 35) = (h 90 35) ∧ (h987 90 37) = (h 90 37); omega), E989, E990, E991, E992, E993, E994, E995, E996, E997, E998, E999, E1000, E1001⟩
                      · skip
                        refine ov_blk (ls2 := [(0, ov_r 90), (1, ov_i x), (2, ov_i y), (3, ov_i m), (4, ov_i bo), (5, ov_i w), (6, ov_i x6____), (7, ov_i v938), (8, ov_i x8________)]) (st2 := [ov_i 3, ov_i (y + x8________), ov_i x, ov_r 90, ov_i v938]) (pc2 := 145) b_297_136_7 rfl rfl ?_
                        refine ov_cV (as := [ov_i x, ov_i (y + x8________), ov_i 3]) (st := [ov_i v938]) (d2 := d - 1) d_297_145 lk_Mo_289 rfl (Nat.le_of_ble_eq_true rfl) (c := 1) (zb_90 I946) (zs_90 I946) ⟨by decide, rfl⟩ (by omega) (c_Mo_lightAt_90 (d - 1) (by omega) U I946 x (y + x8________) 3 (by omega) (by omega) (by omega) (by omega) (by omega)) ?_
                        rintro _ _ _ ⟨v1007, rfl, rfl, rfl, f1006⟩
                        show ov_R u d ov_m297 148 [(0, ov_r 90), (1, ov_i x), (2, ov_i y), (3, ov_i m), (4, ov_i bo), (5, ov_i w), (6, ov_i x6____), (7, ov_i v938), (8, ov_i x8________)] [ov_i v1007, ov_i v938] z944 h945 (P_Mo_wave_90 F z h x y m bo w)
                        rw [show h945 96 = h 96 from E950] at f1006
                        have f1008 : v1007 = (h 96 (10 + 4 * (6 * (y + x8________) + x) + (3 : Int))) ∧ ((3 : Int) = 1 → 0 ≤ v1007 ∧ v1007 ≤ 60) ∧ ((3 : Int) = 2 → 0 ≤ v1007 ∧ v1007 ≤ 59) ∧ ((3 : Int) = 3 → 0 ≤ v1007 ∧ v1007 ≤ 60) := f1006
                        clear f1006
                        refine ov_blk (ls2 := [(0, ov_r 90), (1, ov_i x), (2, ov_i y), (3, ov_i m), (4, ov_i bo), (5, ov_i w), (6, ov_i x6____), (7, ov_i v938), (8, ov_i x8________), (9, ov_i (v938 - v1007)), (10, ov_i 0)]) (st2 := []) (pc2 := 154) b_297_148_4 rfl rfl ?_
                        have L1012 : ∀ (n1009 : Nat) (x10________ : Int) (z1013 : ov_Z) (h1014 : ov_H) (I1015 : ov_N F z1013 h1014) (E1016 : h1014 92 = h 92) (E1017 : h1014 93 = h 93) (E1018 : h1014 94 = h 94) (E1019 : h1014 96 = h 96) (E1020 : h1014 97 = h 97) (E1021 : h1014 98 = h 98) (E1022 : h1014 99 = h 99) (E1023 : h1014 100 = h 100) (E1024 : h1014 103 = h 103) (E1025 : h1014 105 = h 105) (E1026 : h1014 106 = h 106) (E1027 : h1014 109 = h 109) (E1028 : h1014 114 = h 114) (q1011 : 0 ≤ x10________ ∧ x10________ ≤ 60 ∧ (h1014 90 2) = (h945 90 2) ∧ (h1014 90 3) = (h945 90 3) ∧ (h1014 90 7) = (h945 90 7) ∧ (h1014 90 8) = (h945 90 8) ∧ (h1014 90 13) = (h945 90 13) ∧ (h1014 90 20) = (h945 90 20) ∧ (h1014 90 22) = (h945 90 22) ∧ (h1014 90 25) = (h945 90 25) ∧ (h1014 90 26) = (h945 90 26) ∧ (h1014 90 27) = (h945 90 27) ∧ (h1014 90 28) = (h945 90 28) ∧ (h1014 90 29) = (h945 90 29) ∧ (h1014 90 30) = (h945 90 30) ∧ (h1014 90 34) = (h945 90 34) ∧ (h1014 90 35) = (h945 90 35) ∧ (h1014 90 37) = (h945 90 37)), 60 - x10________ < (n1009 : Int) → ov_R u d ov_m297 154 [(0, ov_r 90), (1, ov_i x), (2, ov_i y), (3, ov_i m), (4, ov_i bo), (5, ov_i w), (6, ov_i x6____), (7, ov_i v938), (8, ov_i x8________), (9, ov_i (v938 - v1007)), (10, ov_i x10________)] [] z1013 h1014 (P_Mo_wave_90 F z h x y m bo w) := by
                          intro n1009
                          induction n1009 with
                          | zero =>
                            intro x10________ z1013 h1014 I1015 E1016 E1017 E1018 E1019 E1020 E1021 E1022 E1023 E1024 E1025 E1026 E1027 E1028 q1011 hn1029
                            exact absurd hn1029 (by omega)
                          | succ n1009 ih1010 =>
                            intro x10________ z1013 h1014 I1015 E1016 E1017 E1018 E1019 E1020 E1021 E1022 E1023 E1024 E1025 E1026 E1027 E1028 q1011 hn1029
                            refine ov_blk (ls2 := [(0, ov_r 90), (1, ov_i x), (2, ov_i y), (3, ov_i m), (4, ov_i bo), (5, ov_i w), (6, ov_i x6____), (7, ov_i v938), (8, ov_i x8________), (9, ov_i (v938 - v1007)), (10, ov_i x10________)]) (st2 := [ov_i v938, ov_i x10________]) (pc2 := 158) b_297_154_2 rfl rfl ?_
                            refine ov_icge (tgt := 235) d_297_158 (by decide) (by omega) (by omega) (fun c1030 => ?_) (fun c1030 => ?_)
                            · skip
                              refine ov_blk (ls2 := [(0, ov_r 90), (1, ov_i x), (2, ov_i y), (3, ov_i m), (4, ov_i bo), (5, ov_i w), (6, ov_i x6____), (7, ov_i v938), (8, ov_i (x8________ + 1)), (9, ov_i (v938 - v1007)), (10, ov_i x10________)]) (st2 := []) (pc2 := 238) b_297_235_1 rfl rfl ?_
                              refine ov_goto (tgt := 130) d_297_238 (by decide) ?_
                              refine ov_sub (ls2 := [(0, ov_r 90), (1, ov_i x), (2, ov_i y), (3, ov_i m), (4, ov_i bo), (5, ov_i w), (6, ov_i x6____), (7, ov_i v938), (8, ov_i (x8________ + 1))]) (List.Sublist.subset (by repeat (first | exact List.Sublist.refl _ | apply List.Sublist.cons_cons | apply List.Sublist.cons))) ?_
                              exact ih941 (x8________ + 1) _ _ I1015 E1016 E1017 E1018 E1019 E1020 E1021 E1022 E1023 E1024 E1025 E1026 E1027 E1028 (by show 0 ≤ (x8________ + 1) ∧ (x8________ + 1) ≤ 4 ∧ (h1014 90 2) = (h 90 2) ∧ (h1014 90 3) = (h 90 3) ∧ (h1014 90 7) = (h 90 7) ∧ (h1014 90 8) = (h 90 8) ∧ (h1014 90 13) = (h 90 13) ∧ (h1014 90 20) = (h 90 20) ∧ (h1014 90 22) = (h 90 22) ∧ (h1014 90 25) = (h 90 25) ∧ (h1014 90 26) = (h 90 26) ∧ (h1014 90 27) = (h 90 27) ∧ (h1014 90 28) = (h 90 28) ∧ (h1014 90 29) = (h 90 29) ∧ (h1014 90 30) = (h 90 30) ∧ (h1014 90 34) = (h 90 34) ∧ (h1014 90 35) = (h 90 35) ∧ (h1014 90 37) = (h 90 37); omega) (by omega)
                            · skip
                              refine ov_blk (ls2 := [(0, ov_r 90), (1, ov_i x), (2, ov_i y), (3, ov_i m), (4, ov_i bo), (5, ov_i w), (6, ov_i x6____), (7, ov_i v938), (8, ov_i x8________), (9, ov_i (v938 - v1007)), (10, ov_i x10________)]) (st2 := [ov_r 90]) (pc2 := 162) b_297_161_1 rfl rfl ?_
                              refine ov_getf (v := ov_r 110) d_297_162 fl_Mo_132 (zb_90 I1015) (zs_90 I1015) (congrArg ov_r (rg_90_38 I1015)) ?_
                              refine ov_blk (ls2 := [(0, ov_r 90), (1, ov_i x), (2, ov_i y), (3, ov_i m), (4, ov_i bo), (5, ov_i w), (6, ov_i x6____), (7, ov_i v938), (8, ov_i x8________), (9, ov_i (v938 - v1007)), (10, ov_i x10________)]) (st2 := [ov_r 90, ov_i x8________, ov_i x10________, ov_i ((60 * x8________) + x10________), ov_r 110]) (pc2 := 178) b_297_165_8 rfl rfl ?_
                              refine ov_getf (v := ov_r 96) d_297_178 fl_Mo_81 (zb_90 I1015) (zs_90 I1015) (congrArg ov_r (rg_90_10 I1015)) ?_
                              refine ov_blk (ls2 := [(0, ov_r 90), (1, ov_i x), (2, ov_i y), (3, ov_i m), (4, ov_i bo), (5, ov_i w), (6, ov_i x6____), (7, ov_i v938), (8, ov_i x8________), (9, ov_i (v938 - v1007)), (10, ov_i x10________)]) (st2 := [ov_i 2, ov_r 96, ov_i x8________, ov_i x10________, ov_i ((60 * x8________) + x10________), ov_r 110]) (pc2 := 182) b_297_181_1 rfl rfl ?_
                              refine ov_iald d_297_182 (zb_96 I1015) (zs_96 I1015) (by omega) ?_
                              rw [show h1014 96 = h 96 from E1019]
                              have g1031 := t96_2 I
                              have gm1032 := ov_mulb (q := x8________) (b := (h 96 2)) (A := 4) (B := 30) (by omega) (by omega) (by omega) (by omega)
                              refine ov_blk (ls2 := [(0, ov_r 90), (1, ov_i x), (2, ov_i y), (3, ov_i m), (4, ov_i bo), (5, ov_i w), (6, ov_i x6____), (7, ov_i v938), (8, ov_i x8________), (9, ov_i (v938 - v1007)), (10, ov_i x10________)]) (st2 := [ov_i v938, ov_i (v938 - v1007), ov_i (x10________ - (x8________ * (h 96 2))), ov_i ((60 * x8________) + x10________), ov_r 110]) (pc2 := 189) b_297_183_4 rfl rfl ?_
                              refine ov_cS (as := [ov_i (x10________ - (x8________ * (h 96 2))), ov_i (v938 - v1007), ov_i v938]) (st := [ov_i ((60 * x8________) + x10________), ov_r 110]) (d2 := d - 1) d_297_189 lk_Mo_446 rfl (Nat.le_of_ble_eq_true rfl) (by omega) (c_Mo_turned (d - 1) (by omega) U I1015 (x10________ - (x8________ * (h 96 2))) (v938 - v1007) v938 (by omega) (by omega) (by omega) (by omega) (by omega)) ?_
                              rintro _ _ _ ⟨v1034, rfl, rfl, rfl, f1033⟩
                              show ov_R u d ov_m297 192 [(0, ov_r 90), (1, ov_i x), (2, ov_i y), (3, ov_i m), (4, ov_i bo), (5, ov_i w), (6, ov_i x6____), (7, ov_i v938), (8, ov_i x8________), (9, ov_i (v938 - v1007)), (10, ov_i x10________)] [ov_l v1034, ov_i ((60 * x8________) + x10________), ov_r 110] z1013 h1014 (P_Mo_wave_90 F z h x y m bo w)
                              clear f1033
                              refine ov_last d_297_192 (zb_110 I1015) (zs_110 I1015) (by omega) ?_
                              have I1035 := ua_110 (k := ((60 * x8________) + x10________)) (x := v1034) I1015
                              refine ov_blk (ls2 := [(0, ov_r 90), (1, ov_i x), (2, ov_i y), (3, ov_i m), (4, ov_i bo), (5, ov_i w), (6, ov_i x6____), (7, ov_i v938), (8, ov_i x8________), (9, ov_i (v938 - v1007)), (10, ov_i x10________)]) (st2 := [ov_r 90]) (pc2 := 194) b_297_193_1 rfl rfl ?_
                              refine ov_getf (v := ov_r 111) d_297_194 fl_Mo_135 (zb_90 I1035) (zs_90 I1035) (congrArg ov_r (rg_90_39 I1035)) ?_
                              refine ov_blk (ls2 := [(0, ov_r 90), (1, ov_i x), (2, ov_i y), (3, ov_i m), (4, ov_i bo), (5, ov_i w), (6, ov_i x6____), (7, ov_i v938), (8, ov_i x8________), (9, ov_i (v938 - v1007)), (10, ov_i x10________)]) (st2 := [ov_r 90, ov_i ((m - 1) - x8________), ov_i x10________, ov_i ((60 * x8________) + x10________), ov_r 111]) (pc2 := 214) b_297_197_12 rfl rfl ?_
                              refine ov_getf (v := ov_r 96) d_297_214 fl_Mo_81 (zb_90 I1035) (zs_90 I1035) (congrArg ov_r (rg_90_10 I1035)) ?_
                              refine ov_blk (ls2 := [(0, ov_r 90), (1, ov_i x), (2, ov_i y), (3, ov_i m), (4, ov_i bo), (5, ov_i w), (6, ov_i x6____), (7, ov_i v938), (8, ov_i x8________), (9, ov_i (v938 - v1007)), (10, ov_i x10________)]) (st2 := [ov_i 2, ov_r 96, ov_i ((m - 1) - x8________), ov_i x10________, ov_i ((60 * x8________) + x10________), ov_r 111]) (pc2 := 218) b_297_217_1 rfl rfl ?_
                              refine ov_iald d_297_218 (zb_96 I1035) (zs_96 I1035) (by omega) ?_
                              rw [show (ov_up h1014 110 ((60 * x8________) + x10________) v1034) 96 = h 96 from E1019]
                              have gm1037 := ov_mulb (q := ((m - 1) - x8________)) (b := (h 96 2)) (A := 4) (B := 30) (by omega) (by omega) (by omega) (by omega)
                              refine ov_blk (ls2 := [(0, ov_r 90), (1, ov_i x), (2, ov_i y), (3, ov_i m), (4, ov_i bo), (5, ov_i w), (6, ov_i x6____), (7, ov_i v938), (8, ov_i x8________), (9, ov_i (v938 - v1007)), (10, ov_i x10________)]) (st2 := [ov_i v938, ov_i (v938 - v1007), ov_i (x10________ - (((m - 1) - x8________) * (h 96 2))), ov_i ((60 * x8________) + x10________), ov_r 111]) (pc2 := 225) b_297_219_4 rfl rfl ?_
                              refine ov_cS (as := [ov_i (x10________ - (((m - 1) - x8________) * (h 96 2))), ov_i (v938 - v1007), ov_i v938]) (st := [ov_i ((60 * x8________) + x10________), ov_r 111]) (d2 := d - 1) d_297_225 lk_Mo_446 rfl (Nat.le_of_ble_eq_true rfl) (by omega) (c_Mo_turned (d - 1) (by omega) U I1035 (x10________ - (((m - 1) - x8________) * (h 96 2))) (v938 - v1007) v938 (by omega) (by omega) (by omega) (by omega) (by omega)) ?_
                              rintro _ _ _ ⟨v1039, rfl, rfl, rfl, f1038⟩
                              show ov_R u d ov_m297 228 [(0, ov_r 90), (1, ov_i x), (2, ov_i y), (3, ov_i m), (4, ov_i bo), (5, ov_i w), (6, ov_i x6____), (7, ov_i v938), (8, ov_i x8________), (9, ov_i (v938 - v1007)), (10, ov_i x10________)] [ov_l v1039, ov_i ((60 * x8________) + x10________), ov_r 111] z1013 (ov_up h1014 110 ((60 * x8________) + x10________) v1034) (P_Mo_wave_90 F z h x y m bo w)
                              clear f1038
                              refine ov_last d_297_228 (zb_111 I1035) (zs_111 I1035) (by omega) ?_
                              have I1040 := ua_111 (k := ((60 * x8________) + x10________)) (x := v1039) I1035
                              refine ov_blk (ls2 := [(0, ov_r 90), (1, ov_i x), (2, ov_i y), (3, ov_i m), (4, ov_i bo), (5, ov_i w), (6, ov_i x6____), (7, ov_i v938), (8, ov_i x8________), (9, ov_i (v938 - v1007)), (10, ov_i (x10________ + 1))]) (st2 := []) (pc2 := 232) b_297_229_1 rfl rfl ?_
                              refine ov_goto (tgt := 154) d_297_232 (by decide) ?_
                              exact ih1010 (x10________ + 1) _ _ I1040 E1016 E1017 E1018 E1019 E1020 E1021 E1022 E1023 E1024 E1025 E1026 E1027 E1028 (by show 0 ≤ (x10________ + 1) ∧ (x10________ + 1) ≤ 60 ∧ (h1014 90 2) = (h945 90 2) ∧ (h1014 90 3) = (h945 90 3) ∧ (h1014 90 7) = (h945 90 7) ∧ (h1014 90 8) = (h945 90 8) ∧ (h1014 90 13) = (h945 90 13) ∧ (h1014 90 20) = (h945 90 20) ∧ (h1014 90 22) = (h945 90 22) ∧ (h1014 90 25) = (h945 90 25) ∧ (h1014 90 26) = (h945 90 26) ∧ (h1014 90 27) = (h945 90 27) ∧ (h1014 90 28) = (h945 90 28) ∧ (h1014 90 29) = (h945 90 29) ∧ (h1014 90 30) = (h945 90 30) ∧ (h1014 90 34) = (h945 90 34) ∧ (h1014 90 35) = (h945 90 35) ∧ (h1014 90 37) = (h945 90 37); omega) (by omega)
                        exact L1012 61 0 _ _ I946 E947 E948 E949 E950 E951 E952 E953 E954 E955 E956 E957 E958 E959 (by show 0 ≤ 0 ∧ 0 ≤ 60 ∧ (h945 90 2) = (h945 90 2) ∧ (h945 90 3) = (h945 90 3) ∧ (h945 90 7) = (h945 90 7) ∧ (h945 90 8) = (h945 90 8) ∧ (h945 90 13) = (h945 90 13) ∧ (h945 90 20) = (h945 90 20) ∧ (h945 90 22) = (h945 90 22) ∧ (h945 90 25) = (h945 90 25) ∧ (h945 90 26) = (h945 90 26) ∧ (h945 90 27) = (h945 90 27) ∧ (h945 90 28) = (h945 90 28) ∧ (h945 90 29) = (h945 90 29) ∧ (h945 90 30) = (h945 90 30) ∧ (h945 90 34) = (h945 90 34) ∧ (h945 90 35) = (h945 90 35) ∧ (h945 90 37) = (h945 90 37); omega) (by omega)
                  exact L943 5 0 _ _ I1 rfl rfl rfl rfl rfl rfl rfl rfl rfl rfl rfl rfl rfl (by show 0 ≤ 0 ∧ 0 ≤ 4 ∧ (h 90 2) = (h 90 2) ∧ (h 90 3) = (h 90 3) ∧ (h 90 7) = (h 90 7) ∧ (h 90 8) = (h 90 8) ∧ (h 90 13) = (h 90 13) ∧ (h 90 20) = (h 90 20) ∧ (h 90 22) = (h 90 22) ∧ (h 90 25) = (h 90 25) ∧ (h 90 26) = (h 90 26) ∧ (h 90 27) = (h 90 27) ∧ (h 90 28) = (h 90 28) ∧ (h 90 29) = (h 90 29) ∧ (h 90 30) = (h 90 30) ∧ (h 90 34) = (h 90 34) ∧ (h 90 35) = (h 90 35) ∧ (h 90 37) = (h 90 37); omega) (by omega)
                · skip
                  refine ov_blk (ls2 := [(0, ov_r 90), (1, ov_i x), (2, ov_i y), (3, ov_i m), (4, ov_i bo), (5, ov_i w), (6, ov_i x6____), (7, ov_i x7____)]) (st2 := [ov_i (-1)]) (pc2 := 117) b_297_116_1 rfl rfl ?_
                  exact ov_reti (st := []) d_297_117 rfl ⟨_, rfl, I1, (by show -2147483648 ≤ (-1) ∧ (-1) ≤ 2147483647 ∧ (h 90 2) = (h 90 2) ∧ (h 90 3) = (h 90 3) ∧ (h 90 7) = (h 90 7) ∧ (h 90 8) = (h 90 8) ∧ (h 90 13) = (h 90 13) ∧ (h 90 20) = (h 90 20) ∧ (h 90 22) = (h 90 22) ∧ (h 90 25) = (h 90 25) ∧ (h 90 26) = (h 90 26) ∧ (h 90 27) = (h 90 27) ∧ (h 90 28) = (h 90 28) ∧ (h 90 29) = (h 90 29) ∧ (h 90 30) = (h 90 30) ∧ (h 90 34) = (h 90 34) ∧ (h 90 35) = (h 90 35) ∧ (h 90 37) = (h 90 37); omega), rfl, rfl, rfl, rfl, rfl, rfl, rfl, rfl, rfl, rfl, rfl, rfl, rfl⟩
              · skip
                refine ov_blk (ls2 := [(0, ov_r 90), (1, ov_i x), (2, ov_i y), (3, ov_i m), (4, ov_i bo), (5, ov_i w), (6, ov_i x6____), (7, ov_i x7____)]) (st2 := [ov_i x6____]) (pc2 := 63) b_297_61_1 rfl rfl ?_
                refine ov_ifeq (tgt := 111) d_297_63 (by decide) (by omega) (fun c1041 => ?_) (fun c1041 => ?_)
                · skip
                  refine ov_blk (ls2 := [(0, ov_r 90), (1, ov_i x), (2, ov_i y), (3, ov_i m), (4, ov_i bo), (5, ov_i w), (6, ov_i x6____), (7, ov_i x7____)]) (st2 := [ov_i x6____]) (pc2 := 113) b_297_111_1 rfl rfl ?_
                  refine ov_ifne (tgt := 118) d_297_113 (by decide) (by omega) (fun c1042 => ?_) (fun c1042 => ?_)
                  · skip
                    have w1 := ov_WT_at W (c := 6 * y + x) (by omega)
                    refine ov_blk (ls2 := [(0, ov_r 90), (1, ov_i x), (2, ov_i y), (3, ov_i m), (4, ov_i bo), (5, ov_i w), (6, ov_i x6____), (7, ov_i x7____)]) (st2 := [ov_i 1, ov_i y, ov_i x, ov_r 90]) (pc2 := 122) b_297_118_4 rfl rfl ?_
                    refine ov_cV (as := [ov_i x, ov_i y, ov_i 1]) (st := []) (d2 := d - 1) d_297_122 lk_Mo_289 rfl (Nat.le_of_ble_eq_true rfl) (c := 1) (zb_90 I1) (zs_90 I1) ⟨by decide, rfl⟩ (by omega) (c_Mo_lightAt_90 (d - 1) (by omega) U I1 x y 1 (by omega) (by omega) (by omega) (by omega) (by omega)) ?_
                    rintro _ _ _ ⟨v1044, rfl, rfl, rfl, f1043⟩
                    show ov_R u d ov_m297 125 [(0, ov_r 90), (1, ov_i x), (2, ov_i y), (3, ov_i m), (4, ov_i bo), (5, ov_i w), (6, ov_i x6____), (7, ov_i x7____)] [ov_i v1044] z (ov_up h 90 0 0) (P_Mo_wave_90 F z h x y m bo w)
                    have f1045 : v1044 = (h 96 (10 + 4 * (6 * y + x) + (1 : Int))) ∧ ((1 : Int) = 1 → 0 ≤ v1044 ∧ v1044 ≤ 60) ∧ ((1 : Int) = 2 → 0 ≤ v1044 ∧ v1044 ≤ 59) ∧ ((1 : Int) = 3 → 0 ≤ v1044 ∧ v1044 ≤ 60) := f1043
                    clear f1043
                    refine ov_blk (ls2 := [(0, ov_r 90), (1, ov_i x), (2, ov_i y), (3, ov_i m), (4, ov_i bo), (5, ov_i w), (6, ov_i x6____), (7, ov_i v1044), (8, ov_i 0)]) (st2 := []) (pc2 := 130) b_297_125_3 rfl rfl ?_
                    have L1049 : ∀ (n1046 : Nat) (x8_________ : Int) (z1050 : ov_Z) (h1051 : ov_H) (I1052 : ov_N F z1050 h1051) (E1053 : h1051 92 = h 92) (E1054 : h1051 93 = h 93) (E1055 : h1051 94 = h 94) (E1056 : h1051 96 = h 96) (E1057 : h1051 97 = h 97) (E1058 : h1051 98 = h 98) (E1059 : h1051 99 = h 99) (E1060 : h1051 100 = h 100) (E1061 : h1051 103 = h 103) (E1062 : h1051 105 = h 105) (E1063 : h1051 106 = h 106) (E1064 : h1051 109 = h 109) (E1065 : h1051 114 = h 114) (q1048 : 0 ≤ x8_________ ∧ x8_________ ≤ 4 ∧ (h1051 90 2) = (h 90 2) ∧ (h1051 90 3) = (h 90 3) ∧ (h1051 90 7) = (h 90 7) ∧ (h1051 90 8) = (h 90 8) ∧ (h1051 90 13) = (h 90 13) ∧ (h1051 90 20) = (h 90 20) ∧ (h1051 90 22) = (h 90 22) ∧ (h1051 90 25) = (h 90 25) ∧ (h1051 90 26) = (h 90 26) ∧ (h1051 90 27) = (h 90 27) ∧ (h1051 90 28) = (h 90 28) ∧ (h1051 90 29) = (h 90 29) ∧ (h1051 90 30) = (h 90 30) ∧ (h1051 90 34) = (h 90 34) ∧ (h1051 90 35) = (h 90 35) ∧ (h1051 90 37) = (h 90 37)), 4 - x8_________ < (n1046 : Int) → ov_R u d ov_m297 130 [(0, ov_r 90), (1, ov_i x), (2, ov_i y), (3, ov_i m), (4, ov_i bo), (5, ov_i w), (6, ov_i x6____), (7, ov_i v1044), (8, ov_i x8_________)] [] z1050 h1051 (P_Mo_wave_90 F z h x y m bo w) := by
                      intro n1046
                      induction n1046 with
                      | zero =>
                        intro x8_________ z1050 h1051 I1052 E1053 E1054 E1055 E1056 E1057 E1058 E1059 E1060 E1061 E1062 E1063 E1064 E1065 q1048 hn1066
                        exact absurd hn1066 (by omega)
                      | succ n1046 ih1047 =>
                        intro x8_________ z1050 h1051 I1052 E1053 E1054 E1055 E1056 E1057 E1058 E1059 E1060 E1061 E1062 E1063 E1064 E1065 q1048 hn1066
                        refine ov_blk (ls2 := [(0, ov_r 90), (1, ov_i x), (2, ov_i y), (3, ov_i m), (4, ov_i bo), (5, ov_i w), (6, ov_i x6____), (7, ov_i v1044), (8, ov_i x8_________)]) (st2 := [ov_i m, ov_i x8_________]) (pc2 := 133) b_297_130_2 rfl rfl ?_
                        refine ov_icge (tgt := 241) d_297_133 (by decide) (by omega) (by omega) (fun c1067 => ?_) (fun c1067 => ?_)
                        · skip
                          refine ov_blk (ls2 := [(0, ov_r 90), (1, ov_i x), (2, ov_i y), (3, ov_i m), (4, ov_i bo), (5, ov_i w), (6, ov_i x6____), (7, ov_i v1044), (8, ov_i x8_________)]) (st2 := [ov_i (-1), ov_r 90]) (pc2 := 243) b_297_241_2 rfl rfl ?_
                          refine ov_putf (x := (-1)) d_297_243 fl_Mo_439 (zb_90 I1052) (zs_90 I1052) rfl nk_0 rfl ?_
                          have I1068 := up_90_42 (x := (-1)) I1052 (by omega)
                          refine ov_blk (ls2 := [(0, ov_r 90), (1, ov_i x), (2, ov_i y), (3, ov_i m), (4, ov_i bo), (5, ov_i w), (6, ov_i x6____), (7, ov_i v1044), (8, ov_i x8_________)]) (st2 := [ov_i 2, ov_i y, ov_i x, ov_r 90]) (pc2 := 250) b_297_246_4 rfl rfl ?_
                          refine ov_cV (as := [ov_i x, ov_i y, ov_i 2]) (st := []) (d2 := d - 1) d_297_250 lk_Mo_289 rfl (Nat.le_of_ble_eq_true rfl) (c := 1) (zb_90 I1068) (zs_90 I1068) ⟨by decide, rfl⟩ (by omega) (c_Mo_lightAt_90 (d - 1) (by omega) U I1068 x y 2 (by omega) (by omega) (by omega) (by omega) (by omega)) ?_
                          rintro _ _ _ ⟨v1070, rfl, rfl, rfl, f1069⟩
                          show ov_R u d ov_m297 253 [(0, ov_r 90), (1, ov_i x), (2, ov_i y), (3, ov_i m), (4, ov_i bo), (5, ov_i w), (6, ov_i x6____), (7, ov_i v1044), (8, ov_i x8_________)] [ov_i v1070] z1050 (ov_up h1051 90 42 (-1)) (P_Mo_wave_90 F z h x y m bo w)
                          rw [show (ov_up h1051 90 42 (-1)) 96 = h 96 from E1056] at f1069
                          have f1071 : v1070 = (h 96 (10 + 4 * (6 * y + x) + (2 : Int))) ∧ ((2 : Int) = 1 → 0 ≤ v1070 ∧ v1070 ≤ 60) ∧ ((2 : Int) = 2 → 0 ≤ v1070 ∧ v1070 ≤ 59) ∧ ((2 : Int) = 3 → 0 ≤ v1070 ∧ v1070 ≤ 60) := f1069
                          clear f1069
                          refine ov_blk (ls2 := [(0, ov_r 90), (1, ov_i x), (2, ov_i y), (3, ov_i m), (4, ov_i bo), (5, ov_i w), (6, ov_i x6____), (7, ov_i v1044), (8, ov_i x8_________)]) (st2 := [ov_i 3, ov_i y, ov_i x, ov_r 90, ov_i v1070]) (pc2 := 257) b_297_253_4 rfl rfl ?_
                          refine ov_cV (as := [ov_i x, ov_i y, ov_i 3]) (st := [ov_i v1070]) (d2 := d - 1) d_297_257 lk_Mo_289 rfl (Nat.le_of_ble_eq_true rfl) (c := 1) (zb_90 I1068) (zs_90 I1068) ⟨by decide, rfl⟩ (by omega) (c_Mo_lightAt_90 (d - 1) (by omega) U I1068 x y 3 (by omega) (by omega) (by omega) (by omega) (by omega)) ?_
                          rintro _ _ _ ⟨v1073, rfl, rfl, rfl, f1072⟩
                          show ov_R u d ov_m297 260 [(0, ov_r 90), (1, ov_i x), (2, ov_i y), (3, ov_i m), (4, ov_i bo), (5, ov_i w), (6, ov_i x6____), (7, ov_i v1044), (8, ov_i x8_________)] [ov_i v1073, ov_i v1070] z1050 (ov_up h1051 90 42 (-1)) (P_Mo_wave_90 F z h x y m bo w)
                          rw [show (ov_up h1051 90 42 (-1)) 96 = h 96 from E1056] at f1072
                          have f1074 : v1073 = (h 96 (10 + 4 * (6 * y + x) + (3 : Int))) ∧ ((3 : Int) = 1 → 0 ≤ v1073 ∧ v1073 ≤ 60) ∧ ((3 : Int) = 2 → 0 ≤ v1073 ∧ v1073 ≤ 59) ∧ ((3 : Int) = 3 → 0 ≤ v1073 ∧ v1073 ≤ 60) := f1072
                          clear f1072
                          refine ov_blk (ls2 := [(0, ov_r 90), (1, ov_i x), (2, ov_i y), (3, ov_i m), (4, ov_i bo), (5, ov_i w), (6, ov_i x6____), (7, ov_i v1044), (8, ov_i x8_________)]) (st2 := [ov_i v1044, ov_i (v1070 + v1073)]) (pc2 := 263) b_297_260_2 rfl rfl ?_
                          refine ov_irem d_297_263 (by omega) (by omega) (by omega) ?_
                          have g1075 := ov_tmg (a := (v1070 + v1073)) (b := v1044) (by omega) (by omega)
                          refine ov_havw (fun w1076 gw1076 qw1076 => ?_)
                          refine ov_blk (ls2 := [(0, ov_r 90), (1, ov_i x), (2, ov_i y), (3, ov_i m), (4, ov_i bo), (5, ov_i w), (6, ov_i x6____), (7, ov_i v1044), (8, ov_i w1076)]) (st2 := [ov_r 90]) (pc2 := 267) b_297_264_2 rfl rfl ?_
                          refine ov_getf (v := ov_r 112) d_297_267 fl_Mo_138 (zb_90 I1068) (zs_90 I1068) (congrArg ov_r (rg_90_40 I1068)) ?_
                          refine ov_blk (ls2 := [(0, ov_r 90), (1, ov_i x), (2, ov_i y), (3, ov_i m), (4, ov_i bo), (5, ov_i w), (6, ov_i x6____), (7, ov_i v1044), (8, ov_i w1076)]) (st2 := [ov_i w1076, ov_i 0, ov_r 112]) (pc2 := 273) b_297_270_2 rfl rfl ?_
                          refine ov_iast d_297_273 (zb_112 I1068) (zs_112 I1068) (by omega) ?_
                          have I1077 := ua_112 (k := 0) (x := w1076) I1068 (by omega)
                          refine ov_blk (ls2 := [(0, ov_r 90), (1, ov_i x), (2, ov_i y), (3, ov_i m), (4, ov_i bo), (5, ov_i w), (6, ov_i x6____), (7, ov_i v1044), (8, ov_i w1076)]) (st2 := [ov_r 90, ov_i v1044, ov_i m, ov_i 1, ov_r 90]) (pc2 := 280) b_297_274_5 rfl rfl ?_
                          refine ov_getf (v := ov_r 110) d_297_280 fl_Mo_132 (zb_90 I1077) (zs_90 I1077) (congrArg ov_r (rg_90_38 I1077)) ?_
                          refine ov_blk (ls2 := [(0, ov_r 90), (1, ov_i x), (2, ov_i y), (3, ov_i m), (4, ov_i bo), (5, ov_i w), (6, ov_i x6____), (7, ov_i v1044), (8, ov_i w1076)]) (st2 := [ov_i w1076, ov_r 110, ov_i v1044, ov_i m, ov_i 1, ov_r 90]) (pc2 := 285) b_297_283_1 rfl rfl ?_
                          refine ov_lald d_297_285 (zb_110 I1077) (zs_110 I1077) (by omega) ?_
                          show ov_R u d ov_m297 286 [(0, ov_r 90), (1, ov_i x), (2, ov_i y), (3, ov_i m), (4, ov_i bo), (5, ov_i w), (6, ov_i x6____), (7, ov_i v1044), (8, ov_i w1076)] [ov_l (h1051 110 w1076), ov_i v1044, ov_i m, ov_i 1, ov_r 90] z1050 (ov_up (ov_up h1051 90 42 (-1)) 112 0 w1076) (P_Mo_wave_90 F z h x y m bo w)
                          refine ov_blk (ls2 := [(0, ov_r 90), (1, ov_i x), (2, ov_i y), (3, ov_i m), (4, ov_i bo), (5, ov_i w), (6, ov_i x6____), (7, ov_i v1044), (8, ov_i w1076)]) (st2 := [ov_r 90, ov_l (h1051 110 w1076), ov_i v1044, ov_i m, ov_i 1, ov_r 90]) (pc2 := 287) b_297_286_1 rfl rfl ?_
                          refine ov_getf (v := ov_r 111) d_297_287 fl_Mo_135 (zb_90 I1077) (zs_90 I1077) (congrArg ov_r (rg_90_39 I1077)) ?_
                          refine ov_blk (ls2 := [(0, ov_r 90), (1, ov_i x), (2, ov_i y), (3, ov_i m), (4, ov_i bo), (5, ov_i w), (6, ov_i x6____), (7, ov_i v1044), (8, ov_i w1076)]) (st2 := [ov_i w1076, ov_r 111, ov_l (h1051 110 w1076), ov_i v1044, ov_i m, ov_i 1, ov_r 90]) (pc2 := 292) b_297_290_1 rfl rfl ?_
                          refine ov_lald d_297_292 (zb_111 I1077) (zs_111 I1077) (by omega) ?_
                          show ov_R u d ov_m297 293 [(0, ov_r 90), (1, ov_i x), (2, ov_i y), (3, ov_i m), (4, ov_i bo), (5, ov_i w), (6, ov_i x6____), (7, ov_i v1044), (8, ov_i w1076)] [ov_l (h1051 111 w1076), ov_l (h1051 110 w1076), ov_i v1044, ov_i m, ov_i 1, ov_r 90] z1050 (ov_up (ov_up h1051 90 42 (-1)) 112 0 w1076) (P_Mo_wave_90 F z h x y m bo w)
                          refine ov_blk (ls2 := [(0, ov_r 90), (1, ov_i x), (2, ov_i y), (3, ov_i m), (4, ov_i bo), (5, ov_i w), (6, ov_i x6____), (7, ov_i v1044), (8, ov_i w1076)]) (st2 := [ov_i bo, ov_l (h1051 111 w1076), ov_l (h1051 110 w1076), ov_i v1044, ov_i m, ov_i 1, ov_r 90]) (pc2 := 295) b_297_293_1 rfl rfl ?_
                          refine ov_cV (as := [ov_i 1, ov_i m, ov_i v1044, ov_l (h1051 110 w1076), ov_l (h1051 111 w1076), ov_i bo]) (st := []) (d2 := d - 1) d_297_295 lk_Mo_442 rfl (Nat.le_of_ble_eq_true rfl) (c := 1) (zb_90 I1077) (zs_90 I1077) ⟨by decide, rfl⟩ (by omega) (c_Mo_triesWave_90_all (Int.toNat ((m) - (1))) (d - 1) (by omega) U I1077 1 m v1044 (h1051 110 w1076) (h1051 111 w1076) bo (by omega) (by omega) (by omega) (by omega) (by omega) (by omega) (by omega)) ?_
                          rintro _ z1092 h1093 ⟨rfl, I1094, f1078, e1079, e1080, e1081, e1082, e1083, e1084, e1085, e1086, e1087, e1088, e1089, e1090, e1091⟩
                          have E1095 : h1093 92 = h 92 := Eq.trans e1079 E1053
                          have E1096 : h1093 93 = h 93 := Eq.trans e1080 E1054
                          have E1097 : h1093 94 = h 94 := Eq.trans e1081 E1055
                          have E1098 : h1093 96 = h 96 := Eq.trans e1082 E1056
                          have E1099 : h1093 97 = h 97 := Eq.trans e1083 E1057
                          have E1100 : h1093 98 = h 98 := Eq.trans e1084 E1058
                          have E1101 : h1093 99 = h 99 := Eq.trans e1085 E1059
                          have E1102 : h1093 100 = h 100 := Eq.trans e1086 E1060
                          have E1103 : h1093 103 = h 103 := Eq.trans e1087 E1061
                          have E1104 : h1093 105 = h 105 := Eq.trans e1088 E1062
                          have E1105 : h1093 106 = h 106 := Eq.trans e1089 E1063
                          have E1106 : h1093 109 = h 109 := Eq.trans e1090 E1064
                          have E1107 : h1093 114 = h 114 := Eq.trans e1091 E1065
                          show ov_R u d ov_m297 298 [(0, ov_r 90), (1, ov_i x), (2, ov_i y), (3, ov_i m), (4, ov_i bo), (5, ov_i w), (6, ov_i x6____), (7, ov_i v1044), (8, ov_i w1076)] [] z1092 h1093 (P_Mo_wave_90 F z h x y m bo w)
                          have f1108 : (h1093 90 2) = (h1051 90 2) ∧ (h1093 90 3) = (h1051 90 3) ∧ (h1093 90 7) = (h1051 90 7) ∧ (h1093 90 8) = (h1051 90 8) ∧ (h1093 90 13) = (h1051 90 13) ∧ (h1093 90 20) = (h1051 90 20) ∧ (h1093 90 22) = (h1051 90 22) ∧ (h1093 90 25) = (h1051 90 25) ∧ (h1093 90 26) = (h1051 90 26) ∧ (h1093 90 27) = (h1051 90 27) ∧ (h1093 90 28) = (h1051 90 28) ∧ (h1093 90 29) = (h1051 90 29) ∧ (h1093 90 30) = (h1051 90 30) ∧ (h1093 90 34) = (h1051 90 34) ∧ (h1093 90 35) = (h1051 90 35) ∧ (h1093 90 37) = (h1051 90 37) := f1078
                          clear f1078
                          refine ov_blk (ls2 := [(0, ov_r 90), (1, ov_i x), (2, ov_i y), (3, ov_i m), (4, ov_i bo), (5, ov_i w), (6, ov_i x6____), (7, ov_i v1044), (8, ov_i w1076)]) (st2 := [ov_i w]) (pc2 := 300) b_297_298_1 rfl rfl ?_
                          refine ov_ifne (tgt := 310) d_297_300 (by decide) (by omega) (fun c1109 => ?_) (fun c1109 => ?_)
                          · skip
                            refine ov_blk (ls2 := [(0, ov_r 90), (1, ov_i x), (2, ov_i y), (3, ov_i m), (4, ov_i bo), (5, ov_i w), (6, ov_i x6____), (7, ov_i v1044), (8, ov_i w1076)]) (st2 := [ov_r 90]) (pc2 := 311) b_297_310_1 rfl rfl ?_
                            refine ov_getf (v := ov_r 113) d_297_311 fl_Mo_141 (zb_90 I1094) (zs_90 I1094) (congrArg ov_r (rg_90_41 I1094)) ?_
                            refine ov_blk (ls2 := [(0, ov_r 90), (1, ov_i x), (2, ov_i y), (3, ov_i m), (4, ov_i bo), (5, ov_i w), (6, ov_i x6____), (7, ov_i v1044), (8, ov_i w1076)]) (st2 := [ov_i w, ov_r 113]) (pc2 := 316) b_297_314_1 rfl rfl ?_
                            refine ov_iald d_297_316 (zb_113 I1094) (zs_113 I1094) (by omega) ?_
                            have g1110 := ra_113 I1094 w
                            exact ov_reti (st := []) d_297_317 rfl ⟨_, rfl, I1094, (by show -2147483648 ≤ (h1093 113 w) ∧ (h1093 113 w) ≤ 2147483647 ∧ (h1093 90 2) = (h 90 2) ∧ (h1093 90 3) = (h 90 3) ∧ (h1093 90 7) = (h 90 7) ∧ (h1093 90 8) = (h 90 8) ∧ (h1093 90 13) = (h 90 13) ∧ (h1093 90 20) = (h 90 20) ∧ (h1093 90 22) = (h 90 22) ∧ (h1093 90 25) = (h 90 25) ∧ (h1093 90 26) = (h 90 26) ∧ (h1093 90 27) = (h 90 27) ∧ (h1093 90 28) = (h 90 28) ∧ (h1093 90 29) = (h 90 29) ∧ (h1093 90 30) = (h 90 30) ∧ (h1093 90 34) = (h 90 34) ∧ (h1093 90 35) = (h 90 35) ∧ (h1093 90 37) = (h 90 37); omega), E1095, E1096, E1097, E1098, E1099, E1100, E1101, E1102, E1103, E1104, E1105, E1106, E1107⟩
                          · skip
                            refine ov_blk (ls2 := [(0, ov_r 90), (1, ov_i x), (2, ov_i y), (3, ov_i m), (4, ov_i bo), (5, ov_i w), (6, ov_i x6____), (7, ov_i v1044), (8, ov_i w1076)]) (st2 := [ov_r 90]) (pc2 := 304) b_297_303_1 rfl rfl ?_
                            refine ov_getf (v := ov_i (h1093 90 42)) d_297_304 fl_Mo_439 (zb_90 I1094) (zs_90 I1094) rfl ?_
                            have g1111 := rg_90_42 I1094
                            refine ov_goto (tgt := 317) d_297_307 (by decide) ?_
                            exact ov_reti (st := []) d_297_317 rfl ⟨_, rfl, I1094, (by show -2147483648 ≤ (h1093 90 42) ∧ (h1093 90 42) ≤ 2147483647 ∧ (h1093 90 2) = (h 90 2) ∧ (h1093 90 3) = (h 90 3) ∧ (h1093 90 7) = (h 90 7) ∧ (h1093 90 8) = (h 90 8) ∧ (h1093 90 13) = (h 90 13) ∧ (h1093 90 20) = (h 90 20) ∧ (h1093 90 22) = (h 90 22) ∧ (h1093 90 25) = (h 90 25) ∧ (h1093 90 26) = (h 90 26) ∧ (h1093 90 27) = (h 90 27) ∧ (h1093 90 28) = (h 90 28) ∧ (h1093 90 29) = (h 90 29) ∧ (h1093 90 30) = (h 90 30) ∧ (h1093 90 34) = (h 90 34) ∧ (h1093 90 35) = (h 90 35) ∧ (h1093 90 37) = (h 90 37); omega), E1095, E1096, E1097, E1098, E1099, E1100, E1101, E1102, E1103, E1104, E1105, E1106, E1107⟩
                        · skip
                          refine ov_blk (ls2 := [(0, ov_r 90), (1, ov_i x), (2, ov_i y), (3, ov_i m), (4, ov_i bo), (5, ov_i w), (6, ov_i x6____), (7, ov_i v1044), (8, ov_i x8_________)]) (st2 := [ov_i 3, ov_i (y + x8_________), ov_i x, ov_r 90, ov_i v1044]) (pc2 := 145) b_297_136_7 rfl rfl ?_
                          refine ov_cV (as := [ov_i x, ov_i (y + x8_________), ov_i 3]) (st := [ov_i v1044]) (d2 := d - 1) d_297_145 lk_Mo_289 rfl (Nat.le_of_ble_eq_true rfl) (c := 1) (zb_90 I1052) (zs_90 I1052) ⟨by decide, rfl⟩ (by omega) (c_Mo_lightAt_90 (d - 1) (by omega) U I1052 x (y + x8_________) 3 (by omega) (by omega) (by omega) (by omega) (by omega)) ?_
                          rintro _ _ _ ⟨v1113, rfl, rfl, rfl, f1112⟩
                          show ov_R u d ov_m297 148 [(0, ov_r 90), (1, ov_i x), (2, ov_i y), (3, ov_i m), (4, ov_i bo), (5, ov_i w), (6, ov_i x6____), (7, ov_i v1044), (8, ov_i x8_________)] [ov_i v1113, ov_i v1044] z1050 h1051 (P_Mo_wave_90 F z h x y m bo w)
                          rw [show h1051 96 = h 96 from E1056] at f1112
                          have f1114 : v1113 = (h 96 (10 + 4 * (6 * (y + x8_________) + x) + (3 : Int))) ∧ ((3 : Int) = 1 → 0 ≤ v1113 ∧ v1113 ≤ 60) ∧ ((3 : Int) = 2 → 0 ≤ v1113 ∧ v1113 ≤ 59) ∧ ((3 : Int) = 3 → 0 ≤ v1113 ∧ v1113 ≤ 60) := f1112
                          clear f1112
                          refine ov_blk (ls2 := [(0, ov_r 90), (1, ov_i x), (2, ov_i y), (3, ov_i m), (4, ov_i bo), (5, ov_i w), (6, ov_i x6____), (7, ov_i v1044), (8, ov_i x8_________), (9, ov_i (v1044 - v1113)), (10, ov_i 0)]) (st2 := []) (pc2 := 154) b_297_148_4 rfl rfl ?_
                          have L1118 : ∀ (n1115 : Nat) (x10_________ : Int) (z1119 : ov_Z) (h1120 : ov_H) (I1121 : ov_N F z1119 h1120) (E1122 : h1120 92 = h 92) (E1123 : h1120 93 = h 93) (E1124 : h1120 94 = h 94) (E1125 : h1120 96 = h 96) (E1126 : h1120 97 = h 97) (E1127 : h1120 98 = h 98) (E1128 : h1120 99 = h 99) (E1129 : h1120 100 = h 100) (E1130 : h1120 103 = h 103) (E1131 : h1120 105 = h 105) (E1132 : h1120 106 = h 106) (E1133 : h1120 109 = h 109) (E1134 : h1120 114 = h 114) (q1117 : 0 ≤ x10_________ ∧ x10_________ ≤ 60 ∧ (h1120 90 2) = (h1051 90 2) ∧ (h1120 90 3) = (h1051 90 3) ∧ (h1120 90 7) = (h1051 90 7) ∧ (h1120 90 8) = (h1051 90 8) ∧ (h1120 90 13) = (h1051 90 13) ∧ (h1120 90 20) = (h1051 90 20) ∧ (h1120 90 22) = (h1051 90 22) ∧ (h1120 90 25) = (h1051 90 25) ∧ (h1120 90 26) = (h1051 90 26) ∧ (h1120 90 27) = (h1051 90 27) ∧ (h1120 90 28) = (h1051 90 28) ∧ (h1120 90 29) = (h1051 90 29) ∧ (h1120 90 30) = (h1051 90 30) ∧ (h1120 90 34) = (h1051 90 34) ∧ (h1120 90 35) = (h1051 90 35) ∧ (h1120 90 37) = (h1051 90 37)), 60 - x10_________ < (n1115 : Int) → ov_R u d ov_m297 154 [(0, ov_r 90), (1, ov_i x), (2, ov_i y), (3, ov_i m), (4, ov_i bo), (5, ov_i w), (6, ov_i x6____), (7, ov_i v1044), (8, ov_i x8_________), (9, ov_i (v1044 - v1113)), (10, ov_i x10_________)] [] z1119 h1120 (P_Mo_wave_90 F z h x y m bo w) := by
                            intro n1115
                            induction n1115 with
                            | zero =>
                              intro x10_________ z1119 h1120 I1121 E1122 E1123 E1124 E1125 E1126 E1127 E1128 E1129 E1130 E1131 E1132 E1133 E1134 q1117 hn1135
                              exact absurd hn1135 (by omega)
                            | succ n1115 ih1116 =>
                              intro x10_________ z1119 h1120 I1121 E1122 E1123 E1124 E1125 E1126 E1127 E1128 E1129 E1130 E1131 E1132 E1133 E1134 q1117 hn1135
                              refine ov_blk (ls2 := [(0, ov_r 90), (1, ov_i x), (2, ov_i y), (3, ov_i m), (4, ov_i bo), (5, ov_i w), (6, ov_i x6____), (7, ov_i v1044), (8, ov_i x8_________), (9, ov_i (v1044 - v1113)), (10, ov_i x10_________)]) (st2 := [ov_i v1044, ov_i x10_________]) (pc2 := 158) b_297_154_2 rfl rfl ?_
                              refine ov_icge (tgt := 235) d_297_158 (by decide) (by omega) (by omega) (fun c1136 => ?_) (fun c1136 => ?_)
                              · skip
                                refine ov_blk (ls2 := [(0, ov_r 90), (1, ov_i x), (2, ov_i y), (3, ov_i m), (4, ov_i bo), (5, ov_i w), (6, ov_i x6____), (7, ov_i v1044), (8, ov_i (x8_________ + 1)), (9, ov_i (v1044 - v1113)), (10, ov_i x10_________)]) (st2 := []) (pc2 := 238) b_297_235_1 rfl rfl ?_
                                refine ov_goto (tgt := 130) d_297_238 (by decide) ?_
                                refine ov_sub (ls2 := [(0, ov_r 90), (1, ov_i x), (2, ov_i y), (3, ov_i m), (4, ov_i bo), (5, ov_i w), (6, ov_i x6____), (7, ov_i v1044), (8, ov_i (x8_________ + 1))]) (List.Sublist.subset (by repeat (first | exact List.Sublist.refl _ | apply List.Sublist.cons_cons | apply List.Sublist.cons))) ?_
                                exact ih1047 (x8_________ + 1) _ _ I1121 E1122 E1123 E1124 E1125 E1126 E1127 E1128 E1129 E1130 E1131 E1132 E1133 E1134 (by show 0 ≤ (x8_________ + 1) ∧ (x8_________ + 1) ≤ 4 ∧ (h1120 90 2) = (h 90 2) ∧ (h1120 90 3) = (h 90 3) ∧ (h1120 90 7) = (h 90 7) ∧ (h1120 90 8) = (h 90 8) ∧ (h1120 90 13) = (h 90 13) ∧ (h1120 90 20) = (h 90 20) ∧ (h1120 90 22) = (h 90 22) ∧ (h1120 90 25) = (h 90 25) ∧ (h1120 90 26) = (h 90 26) ∧ (h1120 90 27) = (h 90 27) ∧ (h1120 90 28) = (h 90 28) ∧ (h1120 90 29) = (h 90 29) ∧ (h1120 90 30) = (h 90 30) ∧ (h1120 90 34) = (h 90 34) ∧ (h1120 90 35) = (h 90 35) ∧ (h1120 90 37) = (h 90 37); omega) (by omega)
                              · skip
                                refine ov_blk (ls2 := [(0, ov_r 90), (1, ov_i x), (2, ov_i y), (3, ov_i m), (4, ov_i bo), (5, ov_i w), (6, ov_i x6____), (7, ov_i v1044), (8, ov_i x8_________), (9, ov_i (v1044 - v1113)), (10, ov_i x10_________)]) (st2 := [ov_r 90]) (pc2 := 162) b_297_161_1 rfl rfl ?_
                                refine ov_getf (v := ov_r 110) d_297_162 fl_Mo_132 (zb_90 I1121) (zs_90 I1121) (congrArg ov_r (rg_90_38 I1121)) ?_
                                refine ov_blk (ls2 := [(0, ov_r 90), (1, ov_i x), (2, ov_i y), (3, ov_i m), (4, ov_i bo), (5, ov_i w), (6, ov_i x6____), (7, ov_i v1044), (8, ov_i x8_________), (9, ov_i (v1044 - v1113)), (10, ov_i x10_________)]) (st2 := [ov_r 90, ov_i x8_________, ov_i x10_________, ov_i ((60 * x8_________) + x10_________), ov_r 110]) (pc2 := 178) b_297_165_8 rfl rfl ?_
                                refine ov_getf (v := ov_r 96) d_297_178 fl_Mo_81 (zb_90 I1121) (zs_90 I1121) (congrArg ov_r (rg_90_10 I1121)) ?_
                                refine ov_blk (ls2 := [(0, ov_r 90), (1, ov_i x), (2, ov_i y), (3, ov_i m), (4, ov_i bo), (5, ov_i w), (6, ov_i x6____), (7, ov_i v1044), (8, ov_i x8_________), (9, ov_i (v1044 - v1113)), (10, ov_i x10_________)]) (st2 := [ov_i 2, ov_r 96, ov_i x8_________, ov_i x10_________, ov_i ((60 * x8_________) + x10_________), ov_r 110]) (pc2 := 182) b_297_181_1 rfl rfl ?_
                                refine ov_iald d_297_182 (zb_96 I1121) (zs_96 I1121) (by omega) ?_
                                rw [show h1120 96 = h 96 from E1125]
                                have g1137 := t96_2 I
                                have gm1138 := ov_mulb (q := x8_________) (b := (h 96 2)) (A := 4) (B := 30) (by omega) (by omega) (by omega) (by omega)
                                refine ov_blk (ls2 := [(0, ov_r 90), (1, ov_i x), (2, ov_i y), (3, ov_i m), (4, ov_i bo), (5, ov_i w), (6, ov_i x6____), (7, ov_i v1044), (8, ov_i x8_________), (9, ov_i (v1044 - v1113)), (10, ov_i x10_________)]) (st2 := [ov_i v1044, ov_i (v1044 - v1113), ov_i (x10_________ - (x8_________ * (h 96 2))), ov_i ((60 * x8_________) + x10_________), ov_r 110]) (pc2 := 189) b_297_183_4 rfl rfl ?_
                                refine ov_cS (as := [ov_i (x10_________ - (x8_________ * (h 96 2))), ov_i (v1044 - v1113), ov_i v1044]) (st := [ov_i ((60 * x8_________) + x10_________), ov_r 110]) (d2 := d - 1) d_297_189 lk_Mo_446 rfl (Nat.le_of_ble_eq_true rfl) (by omega) (c_Mo_turned (d - 1) (by omega) U I1121 (x10_________ - (x8_________ * (h 96 2))) (v1044 - v1113) v1044 (by omega) (by omega) (by omega) (by omega) (by omega)) ?_
                                rintro _ _ _ ⟨v1140, rfl, rfl, rfl, f1139⟩
                                show ov_R u d ov_m297 192 [(0, ov_r 90), (1, ov_i x), (2, ov_i y), (3, ov_i m), (4, ov_i bo), (5, ov_i w), (6, ov_i x6____), (7, ov_i v1044), (8, ov_i x8_________), (9, ov_i (v1044 - v1113)), (10, ov_i x10_________)] [ov_l v1140, ov_i ((60 * x8_________) + x10_________), ov_r 110] z1119 h1120 (P_Mo_wave_90 F z h x y m bo w)
                                clear f1139
                                refine ov_last d_297_192 (zb_110 I1121) (zs_110 I1121) (by omega) ?_
                                have I1141 := ua_110 (k := ((60 * x8_________) + x10_________)) (x := v1140) I1121
                                refine ov_blk (ls2 := [(0, ov_r 90), (1, ov_i x), (2, ov_i y), (3, ov_i m), (4, ov_i bo), (5, ov_i w), (6, ov_i x6____), (7, ov_i v1044), (8, ov_i x8_________), (9, ov_i (v1044 - v1113)), (10, ov_i x10_________)]) (st2 := [ov_r 90]) (pc2 := 194) b_297_193_1 rfl rfl ?_
                                refine ov_getf (v := ov_r 111) d_297_194 fl_Mo_135 (zb_90 I1141) (zs_90 I1141) (congrArg ov_r (rg_90_39 I1141)) ?_
                                refine ov_blk (ls2 := [(0, ov_r 90), (1, ov_i x), (2, ov_i y), (3, ov_i m), (4, ov_i bo), (5, ov_i w), (6, ov_i x6____), (7, ov_i v1044), (8, ov_i x8_________), (9, ov_i (v1044 - v1113)), (10, ov_i x10_________)]) (st2 := [ov_r 90, ov_i ((m - 1) - x8_________), ov_i x10_________, ov_i ((60 * x8_________) + x10_________), ov_r 111]) (pc2 := 214) b_297_197_12 rfl rfl ?_
                                refine ov_getf (v := ov_r 96) d_297_214 fl_Mo_81 (zb_90 I1141) (zs_90 I1141) (congrArg ov_r (rg_90_10 I1141)) ?_
                                refine ov_blk (ls2 := [(0, ov_r 90), (1, ov_i x), (2, ov_i y), (3, ov_i m), (4, ov_i bo), (5, ov_i w), (6, ov_i x6____), (7, ov_i v1044), (8, ov_i x8_________), (9, ov_i (v1044 - v1113)), (10, ov_i x10_________)]) (st2 := [ov_i 2, ov_r 96, ov_i ((m - 1) - x8_________), ov_i x10_________, ov_i ((60 * x8_________) + x10_________), ov_r 111]) (pc2 := 218) b_297_217_1 rfl rfl ?_
                                refine ov_iald d_297_218 (zb_96 I1141) (zs_96 I1141) (by omega) ?_
                                rw [show (ov_up h1120 110 ((60 * x8_________) + x10_________) v1140) 96 = h 96 from E1125]
                                have gm1143 := ov_mulb (q := ((m - 1) - x8_________)) (b := (h 96 2)) (A := 4) (B := 30) (by omega) (by omega) (by omega) (by omega)
                                refine ov_blk (ls2 := [(0, ov_r 90), (1, ov_i x), (2, ov_i y), (3, ov_i m), (4, ov_i bo), (5, ov_i w), (6, ov_i x6____), (7, ov_i v1044), (8, ov_i x8_________), (9, ov_i (v1044 - v1113)), (10, ov_i x10_________)]) (st2 := [ov_i v1044, ov_i (v1044 - v1113), ov_i (x10_________ - (((m - 1) - x8_________) * (h 96 2))), ov_i ((60 * x8_________) + x10_________), ov_r 111]) (pc2 := 225) b_297_219_4 rfl rfl ?_
                                refine ov_cS (as := [ov_i (x10_________ - (((m - 1) - x8_________) * (h 96 2))), ov_i (v1044 - v1113), ov_i v1044]) (st := [ov_i ((60 * x8_________) + x10_________), ov_r 111]) (d2 := d - 1) d_297_225 lk_Mo_446 rfl (Nat.le_of_ble_eq_true rfl) (by omega) (c_Mo_turned (d - 1) (by omega) U I1141 (x10_________ - (((m - 1) - x8_________) * (h 96 2))) (v1044 - v1113) v1044 (by omega) (by omega) (by omega) (by omega) (by omega)) ?_
                                rintro _ _ _ ⟨v1145, rfl, rfl, rfl, f1144⟩
                                show ov_R u d ov_m297 228 [(0, ov_r 90), (1, ov_i x), (2, ov_i y), (3, ov_i m), (4, ov_i bo), (5, ov_i w), (6, ov_i x6____), (7, ov_i v1044), (8, ov_i x8_________), (9, ov_i (v1044 - v1113)), (10, ov_i x10_________)] [ov_l v1145, ov_i ((60 * x8_________) + x10_________), ov_r 111] z1119 (ov_up h1120 110 ((60 * x8_________) + x10_________) v1140) (P_Mo_wave_90 F z h x y m bo w)
                                clear f1144
                                refine ov_last d_297_228 (zb_111 I1141) (zs_111 I1141) (by omega) ?_
                                have I1146 := ua_111 (k := ((60 * x8_________) + x10_________)) (x := v1145) I1141
                                refine ov_blk (ls2 := [(0, ov_r 90), (1, ov_i x), (2, ov_i y), (3, ov_i m), (4, ov_i bo), (5, ov_i w), (6, ov_i x6____), (7, ov_i v1044), (8, ov_i x8_________), (9, ov_i (v1044 - v1113)), (10, ov_i (x10_________ + 1))]) (st2 := []) (pc2 := 232) b_297_229_1 rfl rfl ?_
                                refine ov_goto (tgt := 154) d_297_232 (by decide) ?_
                                exact ih1116 (x10_________ + 1) _ _ I1146 E1122 E1123 E1124 E1125 E1126 E1127 E1128 E1129 E1130 E1131 E1132 E1133 E1134 (by show 0 ≤ (x10_________ + 1) ∧ (x10_________ + 1) ≤ 60 ∧ (h1120 90 2) = (h1051 90 2) ∧ (h1120 90 3) = (h1051 90 3) ∧ (h1120 90 7) = (h1051 90 7) ∧ (h1120 90 8) = (h1051 90 8) ∧ (h1120 90 13) = (h1051 90 13) ∧ (h1120 90 20) = (h1051 90 20) ∧ (h1120 90 22) = (h1051 90 22) ∧ (h1120 90 25) = (h1051 90 25) ∧ (h1120 90 26) = (h1051 90 26) ∧ (h1120 90 27) = (h1051 90 27) ∧ (h1120 90 28) = (h1051 90 28) ∧ (h1120 90 29) = (h1051 90 29) ∧ (h1120 90 30) = (h1051 90 30) ∧ (h1120 90 34) = (h1051 90 34) ∧ (h1120 90 35) = (h1051 90 35) ∧ (h1120 90 37) = (h1051 90 37); omega) (by omega)
                          exact L1118 61 0 _ _ I1052 E1053 E1054 E1055 E1056 E1057 E1058 E1059 E1060 E1061 E1062 E1063 E1064 E1065 (by show 0 ≤ 0 ∧ 0 ≤ 60 ∧ (h1051 90 2) = (h1051 90 2) ∧ (h1051 90 3) = (h1051 90 3) ∧ (h1051 90 7) = (h1051 90 7) ∧ (h1051 90 8) = (h1051 90 8) ∧ (h1051 90 13) = (h1051 90 13) ∧ (h1051 90 20) = (h1051 90 20) ∧ (h1051 90 22) = (h1051 90 22) ∧ (h1051 90 25) = (h1051 90 25) ∧ (h1051 90 26) = (h1051 90 26) ∧ (h1051 90 27) = (h1051 90 27) ∧ (h1051 90 28) = (h1051 90 28) ∧ (h1051 90 29) = (h1051 90 29) ∧ (h1051 90 30) = (h1051 90 30) ∧ (h1051 90 34) = (h1051 90 34) ∧ (h1051 90 35) = (h1051 90 35) ∧ (h1051 90 37) = (h1051 90 37); omega) (by omega)
                    exact L1049 5 0 _ _ I1 rfl rfl rfl rfl rfl rfl rfl rfl rfl rfl rfl rfl rfl (by show 0 ≤ 0 ∧ 0 ≤ 4 ∧ (h 90 2) = (h 90 2) ∧ (h 90 3) = (h 90 3) ∧ (h 90 7) = (h 90 7) ∧ (h 90 8) = (h 90 8) ∧ (h 90 13) = (h 90 13) ∧ (h 90 20) = (h 90 20) ∧ (h 90 22) = (h 90 22) ∧ (h 90 25) = (h 90 25) ∧ (h 90 26) = (h 90 26) ∧ (h 90 27) = (h 90 27) ∧ (h 90 28) = (h 90 28) ∧ (h 90 29) = (h 90 29) ∧ (h 90 30) = (h 90 30) ∧ (h 90 34) = (h 90 34) ∧ (h 90 35) = (h 90 35) ∧ (h 90 37) = (h 90 37); omega) (by omega)
                  · skip
                    refine ov_blk (ls2 := [(0, ov_r 90), (1, ov_i x), (2, ov_i y), (3, ov_i m), (4, ov_i bo), (5, ov_i w), (6, ov_i x6____), (7, ov_i x7____)]) (st2 := [ov_i (-1)]) (pc2 := 117) b_297_116_1 rfl rfl ?_
                    exact ov_reti (st := []) d_297_117 rfl ⟨_, rfl, I1, (by show -2147483648 ≤ (-1) ∧ (-1) ≤ 2147483647 ∧ (h 90 2) = (h 90 2) ∧ (h 90 3) = (h 90 3) ∧ (h 90 7) = (h 90 7) ∧ (h 90 8) = (h 90 8) ∧ (h 90 13) = (h 90 13) ∧ (h 90 20) = (h 90 20) ∧ (h 90 22) = (h 90 22) ∧ (h 90 25) = (h 90 25) ∧ (h 90 26) = (h 90 26) ∧ (h 90 27) = (h 90 27) ∧ (h 90 28) = (h 90 28) ∧ (h 90 29) = (h 90 29) ∧ (h 90 30) = (h 90 30) ∧ (h 90 34) = (h 90 34) ∧ (h 90 35) = (h 90 35) ∧ (h 90 37) = (h 90 37); omega), rfl, rfl, rfl, rfl, rfl, rfl, rfl, rfl, rfl, rfl, rfl, rfl, rfl⟩
                · skip
                  refine ov_blk (ls2 := [(0, ov_r 90), (1, ov_i x), (2, ov_i y), (3, ov_i m), (4, ov_i bo), (5, ov_i w), (6, ov_i x6____), (7, ov_i x7____)]) (st2 := [ov_i (y + x7____), ov_i x, ov_r 90]) (pc2 := 72) b_297_66_5 rfl rfl ?_
                  refine ov_cV (as := [ov_i x, ov_i (y + x7____)]) (st := []) (d2 := d - 1) d_297_72 lk_Mo_285 rfl (Nat.le_of_ble_eq_true rfl) (c := 1) (zb_90 I1) (zs_90 I1) ⟨by decide, rfl⟩ (by omega) (c_Mo_isTimed_90 (d - 1) (by omega) U I1 x (y + x7____) (by omega) (by omega) (by omega)) ?_
                  rintro _ _ _ ⟨v1148, rfl, rfl, rfl, f1147⟩
                  show ov_R u d ov_m297 75 [(0, ov_r 90), (1, ov_i x), (2, ov_i y), (3, ov_i m), (4, ov_i bo), (5, ov_i w), (6, ov_i x6____), (7, ov_i x7____)] [ov_i v1148] z (ov_up h 90 0 0) (P_Mo_wave_90 F z h x y m bo w)
                  have f1149 : (v1148 = 0 ∨ v1148 = 1) ∧ (v1148 = 1 → ((h 96 (10 + 4 * (6 * (y + x7____) + x))) = 1 ∨ (h 96 (10 + 4 * (6 * (y + x7____) + x))) = 2)) ∧ (v1148 = 0 → ¬ ((h 96 (10 + 4 * (6 * (y + x7____) + x))) = 1 ∨ (h 96 (10 + 4 * (6 * (y + x7____) + x))) = 2)) := f1147
                  clear f1147
                  refine ov_ifeq (tgt := 102) d_297_75 (by decide) (by omega) (fun c1150 => ?_) (fun c1150 => ?_)
                  · skip
                    refine ov_blk (ls2 := [(0, ov_r 90), (1, ov_i x), (2, ov_i y), (3, ov_i m), (4, ov_i bo), (5, ov_i w), (6, ov_i 0), (7, ov_i (x7____ + 1))]) (st2 := []) (pc2 := 108) b_297_102_3 rfl rfl ?_
                    refine ov_goto (tgt := 55) d_297_108 (by decide) ?_
                    exact ih931 0 (x7____ + 1) (by show (0 = 0 ∨ 0 = 1) ∧ 0 ≤ (x7____ + 1) ∧ (x7____ + 1) ≤ 4 ∧ (0 = 1 → 0 ≤ x ∧ x ≤ 5 ∧ 0 ≤ y ∧ y ≤ 8 ∧ 2 ≤ m ∧ m ≤ 4 ∧ y + m ≤ 9 ∧ 0 ≤ w ∧ w ≤ m - 1 ∧ (1 ≤ (x7____ + 1) → ((h 96 (10 + 4 * (6 * y + x))) = 1 ∨ (h 96 (10 + 4 * (6 * y + x))) = 2))); omega) (by omega)
                  · skip
                    refine ov_blk (ls2 := [(0, ov_r 90), (1, ov_i x), (2, ov_i y), (3, ov_i m), (4, ov_i bo), (5, ov_i w), (6, ov_i x6____), (7, ov_i x7____)]) (st2 := [ov_i 1, ov_i (y + x7____), ov_i x, ov_r 90]) (pc2 := 85) b_297_78_6 rfl rfl ?_
                    refine ov_cV (as := [ov_i x, ov_i (y + x7____), ov_i 1]) (st := []) (d2 := d - 1) d_297_85 lk_Mo_289 rfl (Nat.le_of_ble_eq_true rfl) (c := 1) (zb_90 I1) (zs_90 I1) ⟨by decide, rfl⟩ (by omega) (c_Mo_lightAt_90 (d - 1) (by omega) U I1 x (y + x7____) 1 (by omega) (by omega) (by omega) (by omega) (by omega)) ?_
                    rintro _ _ _ ⟨v1152, rfl, rfl, rfl, f1151⟩
                    show ov_R u d ov_m297 88 [(0, ov_r 90), (1, ov_i x), (2, ov_i y), (3, ov_i m), (4, ov_i bo), (5, ov_i w), (6, ov_i x6____), (7, ov_i x7____)] [ov_i v1152] z (ov_up h 90 0 0) (P_Mo_wave_90 F z h x y m bo w)
                    have f1153 : v1152 = (h 96 (10 + 4 * (6 * (y + x7____) + x) + (1 : Int))) ∧ ((1 : Int) = 1 → 0 ≤ v1152 ∧ v1152 ≤ 60) ∧ ((1 : Int) = 2 → 0 ≤ v1152 ∧ v1152 ≤ 59) ∧ ((1 : Int) = 3 → 0 ≤ v1152 ∧ v1152 ≤ 60) := f1151
                    clear f1151
                    refine ov_blk (ls2 := [(0, ov_r 90), (1, ov_i x), (2, ov_i y), (3, ov_i m), (4, ov_i bo), (5, ov_i w), (6, ov_i x6____), (7, ov_i x7____)]) (st2 := [ov_i 1, ov_i y, ov_i x, ov_r 90, ov_i v1152]) (pc2 := 92) b_297_88_4 rfl rfl ?_
                    refine ov_cV (as := [ov_i x, ov_i y, ov_i 1]) (st := [ov_i v1152]) (d2 := d - 1) d_297_92 lk_Mo_289 rfl (Nat.le_of_ble_eq_true rfl) (c := 1) (zb_90 I1) (zs_90 I1) ⟨by decide, rfl⟩ (by omega) (c_Mo_lightAt_90 (d - 1) (by omega) U I1 x y 1 (by omega) (by omega) (by omega) (by omega) (by omega)) ?_
                    rintro _ _ _ ⟨v1155, rfl, rfl, rfl, f1154⟩
                    show ov_R u d ov_m297 95 [(0, ov_r 90), (1, ov_i x), (2, ov_i y), (3, ov_i m), (4, ov_i bo), (5, ov_i w), (6, ov_i x6____), (7, ov_i x7____)] [ov_i v1155, ov_i v1152] z (ov_up h 90 0 0) (P_Mo_wave_90 F z h x y m bo w)
                    have f1156 : v1155 = (h 96 (10 + 4 * (6 * y + x) + (1 : Int))) ∧ ((1 : Int) = 1 → 0 ≤ v1155 ∧ v1155 ≤ 60) ∧ ((1 : Int) = 2 → 0 ≤ v1155 ∧ v1155 ≤ 59) ∧ ((1 : Int) = 3 → 0 ≤ v1155 ∧ v1155 ≤ 60) := f1154
                    clear f1154
                    refine ov_icne (tgt := 102) d_297_95 (by decide) (by omega) (by omega) (fun c1157 => ?_) (fun c1157 => ?_)
                    · skip
                      refine ov_blk (ls2 := [(0, ov_r 90), (1, ov_i x), (2, ov_i y), (3, ov_i m), (4, ov_i bo), (5, ov_i w), (6, ov_i 0), (7, ov_i (x7____ + 1))]) (st2 := []) (pc2 := 108) b_297_102_3 rfl rfl ?_
                      refine ov_goto (tgt := 55) d_297_108 (by decide) ?_
                      exact ih931 0 (x7____ + 1) (by show (0 = 0 ∨ 0 = 1) ∧ 0 ≤ (x7____ + 1) ∧ (x7____ + 1) ≤ 4 ∧ (0 = 1 → 0 ≤ x ∧ x ≤ 5 ∧ 0 ≤ y ∧ y ≤ 8 ∧ 2 ≤ m ∧ m ≤ 4 ∧ y + m ≤ 9 ∧ 0 ≤ w ∧ w ≤ m - 1 ∧ (1 ≤ (x7____ + 1) → ((h 96 (10 + 4 * (6 * y + x))) = 1 ∨ (h 96 (10 + 4 * (6 * y + x))) = 2))); omega) (by omega)
                    · skip
                      refine ov_blk (ls2 := [(0, ov_r 90), (1, ov_i x), (2, ov_i y), (3, ov_i m), (4, ov_i bo), (5, ov_i w), (6, ov_i x6____), (7, ov_i x7____)]) (st2 := [ov_i 1]) (pc2 := 99) b_297_98_1 rfl rfl ?_
                      refine ov_goto (tgt := 103) d_297_99 (by decide) ?_
                      refine ov_blk (ls2 := [(0, ov_r 90), (1, ov_i x), (2, ov_i y), (3, ov_i m), (4, ov_i bo), (5, ov_i w), (6, ov_i 1), (7, ov_i (x7____ + 1))]) (st2 := []) (pc2 := 108) b_297_103_2 rfl rfl ?_
                      refine ov_goto (tgt := 55) d_297_108 (by decide) ?_
                      exact ih931 1 (x7____ + 1) (by show (1 = 0 ∨ 1 = 1) ∧ 0 ≤ (x7____ + 1) ∧ (x7____ + 1) ≤ 4 ∧ (1 = 1 → 0 ≤ x ∧ x ≤ 5 ∧ 0 ≤ y ∧ y ≤ 8 ∧ 2 ≤ m ∧ m ≤ 4 ∧ y + m ≤ 9 ∧ 0 ≤ w ∧ w ≤ m - 1 ∧ (1 ≤ (x7____ + 1) → ((h 96 (10 + 4 * (6 * y + x))) = 1 ∨ (h 96 (10 + 4 * (6 * y + x))) = 2))); omega) (by omega)
          exact L933 5 1 0 (by show (1 = 0 ∨ 1 = 1) ∧ 0 ≤ 0 ∧ 0 ≤ 4 ∧ (1 = 1 → 0 ≤ x ∧ x ≤ 5 ∧ 0 ≤ y ∧ y ≤ 8 ∧ 2 ≤ m ∧ m ≤ 4 ∧ y + m ≤ 9 ∧ 0 ≤ w ∧ w ≤ m - 1 ∧ (1 ≤ 0 → ((h 96 (10 + 4 * (6 * y + x))) = 1 ∨ (h 96 (10 + 4 * (6 * y + x))) = 2))); omega) (by omega)

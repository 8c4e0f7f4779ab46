abbrev P_Mo_emit_90 (F : ov_H × ov_Z) (z : ov_Z) (h : ov_H) (c : Int) (a : Int) : Option ov_V → ov_Z → ov_H → Prop := fun r0 z' h' => r0 = none ∧ ov_N F z' h' ∧ ((h' 90 2) = (h 90 2) ∧ (h' 90 7) = (h 90 7) ∧ (h' 90 8) = (h 90 8) ∧ (h' 90 20) = (h 90 20) ∧ (h' 90 22) = (h 90 22) ∧ (h' 90 25) = (h 90 25) ∧ (h' 90 26) = (h 90 26) ∧ (h' 90 28) = (h 90 28) ∧ (h' 90 29) = (h 90 29) ∧ (h' 90 30) = (h 90 30) ∧ (h' 90 34) = (h 90 34) ∧ (h' 90 13) = (h 90 13) + 1) ∧ h' 91 = h 91 ∧ h' 92 = h 92 ∧ h' 93 = h 93 ∧ h' 94 = h 94 ∧ h' 95 = h 95 ∧ h' 96 = h 96 ∧ h' 99 = h 99 ∧ h' 100 = h 100 ∧ h' 103 = h 103 ∧ h' 105 = h 105 ∧ h' 106 = h 106 ∧ h' 109 = h 109 ∧ h' 114 = h 114 ∧ ((h' 97) = ov_rs (h 97) (1100 + (h 90 13)) c) ∧ ((h' 98) = ov_rs (h 98) (1100 + (h 90 13)) a)
set_option maxHeartbeats 4000000 in
theorem c_Mo_emit_90 {u : ov_U} {F : ov_H × ov_Z} {z : ov_Z} {h : ov_H} (d : Nat) (hd : 0 ≤ d) (U : ov_cap u) (I : ov_N F z h) (c : Int) (a : Int) (g_c : ov_g c) (g_a : ov_g a) (p0 : 0 ≤ c ∧ c ≤ 10) (p1 : (h 90 13) ≤ 999) : ov_T u d ov_m231 [ov_r 90, ov_i c, ov_i a] z h (P_Mo_emit_90 F z h c a) := by
  refine ov_en rfl (Nat.le_of_ble_eq_true rfl) ?_
  show ov_R u d ov_m231 0 [(0, ov_r 90), (1, ov_i c), (2, ov_i a)] [] z h (P_Mo_emit_90 F z h c a)
  refine ov_blk (ls2 := [(0, ov_r 90), (1, ov_i c), (2, ov_i a)]) (st2 := [ov_r 90]) (pc2 := 1) b_231_0_1 rfl rfl ?_
  refine ov_getf (v := ov_r 97) d_231_1 fl_Mo_84 (zb_90 I) (zs_90 I) (congrArg ov_r (rg_90_11 I)) ?_
  refine ov_blk (ls2 := [(0, ov_r 90), (1, ov_i c), (2, ov_i a)]) (st2 := [ov_r 90, ov_i 1100, ov_r 97]) (pc2 := 8) b_231_4_2 rfl rfl ?_
  refine ov_getf (v := ov_i (h 90 13)) d_231_8 fl_Mo_208 (zb_90 I) (zs_90 I) rfl ?_
  have g1 := rg_90_13 I
  refine ov_blk (ls2 := [(0, ov_r 90), (1, ov_i c), (2, ov_i a)]) (st2 := [ov_i c, ov_i (1100 + (h 90 13)), ov_r 97]) (pc2 := 13) b_231_11_2 rfl rfl ?_
  refine ov_iast d_231_13 (zb_97 I) (zs_97 I) (by omega) ?_
  have I2 := ua_97 (k := (1100 + (h 90 13))) (x := c) I (by omega)
  refine ov_blk (ls2 := [(0, ov_r 90), (1, ov_i c), (2, ov_i a)]) (st2 := [ov_r 90]) (pc2 := 15) b_231_14_1 rfl rfl ?_
  refine ov_getf (v := ov_r 98) d_231_15 fl_Mo_87 (zb_90 I2) (zs_90 I2) (congrArg ov_r (rg_90_12 I2)) ?_
  refine ov_blk (ls2 := [(0, ov_r 90), (1, ov_i c), (2, ov_i a)]) (st2 := [ov_r 90, ov_i 1100, ov_r 98]) (pc2 := 22) b_231_18_2 rfl rfl ?_
  refine ov_getf (v := ov_i (h 90 13)) d_231_22 fl_Mo_208 (zb_90 I2) (zs_90 I2) rfl ?_
  refine ov_blk (ls2 := [(0, ov_r 90), (1, ov_i c), (2, ov_i a)]) (st2 := [ov_i a, ov_i (1100 + (h 90 13)), ov_r 98]) (pc2 := 27) b_231_25_2 rfl rfl ?_
  refine ov_iast d_231_27 (zb_98 I2) (zs_98 I2) (by omega) ?_
  have I4 := ua_98 (k := (1100 + (h 90 13))) (x := a) I2 (by omega)
  refine ov_blk (ls2 := [(0, ov_r 90), (1, ov_i c), (2, ov_i a)]) (st2 := [ov_r 90, ov_r 90]) (pc2 := 30) b_231_28_2 rfl rfl ?_
  refine ov_getf (v := ov_i (h 90 13)) d_231_30 fl_Mo_208 (zb_90 I4) (zs_90 I4) rfl ?_
  refine ov_blk (ls2 := [(0, ov_r 90), (1, ov_i c), (2, ov_i a)]) (st2 := [ov_i ((h 90 13) + 1), ov_r 90]) (pc2 := 35) b_231_33_2 rfl rfl ?_
  refine ov_putf (x := ((h 90 13) + 1)) d_231_35 fl_Mo_208 (zb_90 I4) (zs_90 I4) rfl nk_0 rfl ?_
  have I6 := up_90_13 (x := ((h 90 13) + 1)) I4 (by omega)
  exact ov_retv (st := []) d_231_38 rfl ⟨rfl, I6, ⟨rfl, rfl, rfl, rfl, rfl, rfl, rfl, rfl, rfl, rfl, rfl, (by show ((h 90 13) + 1) = (h 90 13) + 1; omega)⟩, rfl, rfl, rfl, rfl, rfl, rfl, rfl, rfl, rfl, rfl, rfl, rfl, rfl, (show ov_up h 97 (1100 + (h 90 13)) c 97 = _ from ov_up_row _ _ _ _), (show ov_up h 98 (1100 + (h 90 13)) a 98 = _ from ov_up_row _ _ _ _)⟩
abbrev P_Mo_takePart_90 (F : ov_H × ov_Z) (z : ov_Z) (h : ov_H) (n : Int) (dep : Int) : Option ov_V → ov_Z → ov_H → Prop := fun r0 z' h' => r0 = none ∧ ov_N F z' h' ∧ ((h' 90 2) = (h 90 2) ∧ (h' 90 20) = (h 90 20) ∧ (h' 90 22) = (h 90 22) ∧ (h' 90 25) = (h 90 25) ∧ (h' 90 26) = (h 90 26) ∧ (h' 90 28) = (h 90 28) ∧ (h' 90 29) = (h 90 29) ∧ (h' 90 30) = (h 90 30) ∧ (h' 90 34) = (h 90 34) ∧ (h 90 7) ≤ (h' 90 7) ∧ (h' 90 7) ≤ n ∧ (h 90 8) ≤ (h' 90 8) ∧ (h 90 13) ≤ (h' 90 13) ∧ (h' 90 13) - (h 90 13) ≤ (h' 90 7) - (h 90 7)) ∧ h' 91 = h 91 ∧ h' 92 = h 92 ∧ h' 93 = h 93 ∧ h' 94 = h 94 ∧ h' 95 = h 95 ∧ h' 96 = h 96 ∧ h' 99 = h 99 ∧ h' 100 = h 100 ∧ h' 103 = h 103 ∧ h' 105 = h 105 ∧ h' 106 = h 106 ∧ h' 109 = h 109 ∧ h' 114 = h 114 ∧ (∀ j : Int, j < 1100 + (h 90 13) → (h' 97) j = (h 97) j ∧ (h' 98) j = (h 98) j) ∧ ((h' 90 8) = 0 → ov_sg (h' 97) (h' 98) (h 90 13) (h' 90 13))
abbrev P_Mo_products_90 (F : ov_H × ov_Z) (z : ov_Z) (h : ov_H) (n : Int) (dep : Int) : Option ov_V → ov_Z → ov_H → Prop := fun r0 z' h' => r0 = none ∧ ov_N F z' h' ∧ ((h' 90 2) = (h 90 2) ∧ (h' 90 20) = (h 90 20) ∧ (h' 90 22) = (h 90 22) ∧ (h' 90 25) = (h 90 25) ∧ (h' 90 26) = (h 90 26) ∧ (h' 90 28) = (h 90 28) ∧ (h' 90 29) = (h 90 29) ∧ (h' 90 30) = (h 90 30) ∧ (h' 90 34) = (h 90 34) ∧ (h 90 7) ≤ (h' 90 7) ∧ (h' 90 7) ≤ n ∧ (h 90 8) ≤ (h' 90 8) ∧ (h 90 13) ≤ (h' 90 13) ∧ (h' 90 13) - (h 90 13) ≤ (h' 90 7) - (h 90 7)) ∧ h' 91 = h 91 ∧ h' 92 = h 92 ∧ h' 93 = h 93 ∧ h' 94 = h 94 ∧ h' 95 = h 95 ∧ h' 96 = h 96 ∧ h' 99 = h 99 ∧ h' 100 = h 100 ∧ h' 103 = h 103 ∧ h' 105 = h 105 ∧ h' 106 = h 106 ∧ h' 109 = h 109 ∧ h' 114 = h 114 ∧ (∀ j : Int, j < 1100 + (h 90 13) → (h' 97) j = (h 97) j ∧ (h' 98) j = (h 98) j) ∧ ((h' 90 8) = 0 → ov_sg (h' 97) (h' 98) (h 90 13) (h' 90 13))
abbrev P_Mo_sums_90 (F : ov_H × ov_Z) (z : ov_Z) (h : ov_H) (n : Int) (dep : Int) : Option ov_V → ov_Z → ov_H → Prop := fun r0 z' h' => r0 = none ∧ ov_N F z' h' ∧ ((h' 90 2) = (h 90 2) ∧ (h' 90 20) = (h 90 20) ∧ (h' 90 22) = (h 90 22) ∧ (h' 90 25) = (h 90 25) ∧ (h' 90 26) = (h 90 26) ∧ (h' 90 28) = (h 90 28) ∧ (h' 90 29) = (h 90 29) ∧ (h' 90 30) = (h 90 30) ∧ (h' 90 34) = (h 90 34) ∧ (h 90 7) ≤ (h' 90 7) ∧ (h' 90 7) ≤ n ∧ (h 90 8) ≤ (h' 90 8) ∧ (h 90 13) ≤ (h' 90 13) ∧ (h' 90 13) - (h 90 13) ≤ (h' 90 7) - (h 90 7)) ∧ h' 91 = h 91 ∧ h' 92 = h 92 ∧ h' 93 = h 93 ∧ h' 94 = h 94 ∧ h' 95 = h 95 ∧ h' 96 = h 96 ∧ h' 99 = h 99 ∧ h' 100 = h 100 ∧ h' 103 = h 103 ∧ h' 105 = h 105 ∧ h' 106 = h 106 ∧ h' 109 = h 109 ∧ h' 114 = h 114 ∧ (∀ j : Int, j < 1100 + (h 90 13) → (h' 97) j = (h 97) j ∧ (h' 98) j = (h 98) j) ∧ ((h' 90 8) = 0 → ov_sg (h' 97) (h' 98) (h 90 13) (h' 90 13))
abbrev P_Mo_test_90 (F : ov_H × ov_Z) (z : ov_Z) (h : ov_H) (n : Int) (dep : Int) : Option ov_V → ov_Z → ov_H → Prop := fun r0 z' h' => r0 = none ∧ ov_N F z' h' ∧ ((h' 90 2) = (h 90 2) ∧ (h' 90 20) = (h 90 20) ∧ (h' 90 22) = (h 90 22) ∧ (h' 90 25) = (h 90 25) ∧ (h' 90 26) = (h 90 26) ∧ (h' 90 28) = (h 90 28) ∧ (h' 90 29) = (h 90 29) ∧ (h' 90 30) = (h 90 30) ∧ (h' 90 34) = (h 90 34) ∧ (h 90 7) ≤ (h' 90 7) ∧ (h' 90 7) ≤ n ∧ (h 90 8) ≤ (h' 90 8) ∧ (h 90 13) ≤ (h' 90 13) ∧ (h' 90 13) - (h 90 13) ≤ (h' 90 7) - (h 90 7)) ∧ h' 91 = h 91 ∧ h' 92 = h 92 ∧ h' 93 = h 93 ∧ h' 94 = h 94 ∧ h' 95 = h 95 ∧ h' 96 = h 96 ∧ h' 99 = h 99 ∧ h' 100 = h 100 ∧ h' 103 = h 103 ∧ h' 105 = h 105 ∧ h' 106 = h 106 ∧ h' 109 = h 109 ∧ h' 114 = h 114 ∧ (∀ j : Int, j < 1100 + (h 90 13) → (h' 97) j = (h 97) j ∧ (h' 98) j = (h 98) j) ∧ ((h' 90 8) = 0 → ov_sg (h' 97) (h' 98) (h 90 13) (h' 90 13))
abbrev P_Mo_all_90 (F : ov_H × ov_Z) (z : ov_Z) (h : ov_H) (n : Int) (dep : Int) : Option ov_V → ov_Z → ov_H → Prop := fun r0 z' h' => r0 = none ∧ ov_N F z' h' ∧ ((h' 90 2) = (h 90 2) ∧ (h' 90 20) = (h 90 20) ∧ (h' 90 22) = (h 90 22) ∧ (h' 90 25) = (h 90 25) ∧ (h' 90 26) = (h 90 26) ∧ (h' 90 28) = (h 90 28) ∧ (h' 90 29) = (h 90 29) ∧ (h' 90 30) = (h 90 30) ∧ (h' 90 34) = (h 90 34) ∧ (h 90 7) ≤ (h' 90 7) ∧ (h' 90 7) ≤ n ∧ (h 90 8) ≤ (h' 90 8) ∧ (h 90 13) ≤ (h' 90 13) ∧ (h' 90 13) - (h 90 13) ≤ (h' 90 7) - (h 90 7)) ∧ h' 91 = h 91 ∧ h' 92 = h 92 ∧ h' 93 = h 93 ∧ h' 94 = h 94 ∧ h' 95 = h 95 ∧ h' 96 = h 96 ∧ h' 99 = h 99 ∧ h' 100 = h 100 ∧ h' 103 = h 103 ∧ h' 105 = h 105 ∧ h' 106 = h 106 ∧ h' 109 = h 109 ∧ h' 114 = h 114 ∧ (∀ j : Int, j < 1100 + (h 90 13) → (h' 97) j = (h 97) j ∧ (h' 98) j = (h 98) j) ∧ ((h' 90 8) = 0 → ov_sg (h' 97) (h' 98) (h 90 13) (h' 90 13))
set_option maxHeartbeats 4000000 in
theorem c_Mo_takePart_90 {u : ov_U} {F : ov_H × ov_Z} (n : Int) (k : Nat) (HE : ∀ k' : Nat, k' + 1 = k → ∀ {z : ov_Z} {h : ov_H} (d : Nat) (hd : (10 + 5 * k' + 4) ≤ d) (U : ov_cap u) (I : ov_N F z h) (dep : Int) (g_dep : ov_g dep) (p0 : 0 ≤ n ∧ n ≤ 1000 ∧ (h 92 (n)) = 0 ∧ (h 90 7) ≤ n) (p1 : 0 ≤ dep ∧ dep + (k' : Int) = 5) (p2 : (h 90 13) ≤ (h 90 7)), ov_T u d ov_m226 [ov_r 90, ov_i dep] z h (P_Mo_all_90 F z h n dep)) (HP : ∀ k' : Nat, k' + 1 = k → ∀ {z : ov_Z} {h : ov_H} (d : Nat) (hd : (10 + 5 * k' + 0) ≤ d) (U : ov_cap u) (I : ov_N F z h) (dep : Int) (g_dep : ov_g dep) (p0 : 0 ≤ n ∧ n ≤ 1000 ∧ (h 92 (n)) = 0 ∧ (h 90 7) ≤ n) (p1 : 0 ≤ dep ∧ dep + (k' : Int) = 5) (p2 : (h 90 13) ≤ (h 90 7)), ov_T u d ov_m230 [ov_r 90, ov_i dep] z h (P_Mo_takePart_90 F z h n dep)) {z : ov_Z} {h : ov_H} (d : Nat) (hd : (10 + 5 * k + 0) ≤ d) (U : ov_cap u) (I : ov_N F z h) (dep : Int) (g_dep : ov_g dep) (p0 : 0 ≤ n ∧ n ≤ 1000 ∧ (h 92 (n)) = 0 ∧ (h 90 7) ≤ n) (p1 : 0 ≤ dep ∧ dep + (k : Int) = 5) (p2 : (h 90 13) ≤ (h 90 7)) : ov_T u d ov_m230 [ov_r 90, ov_i dep] z h (P_Mo_takePart_90 F z h n dep) := by
  refine ov_en rfl (Nat.le_of_ble_eq_true rfl) ?_
  show ov_R u d ov_m230 0 [(0, ov_r 90), (1, ov_i dep)] [] z h (P_Mo_takePart_90 F z h n dep)
  have qn : h 90 7 = n → h 92 (h 90 7) = h 92 n := fun e => by rw [e]
  refine ov_blk (ls2 := [(0, ov_r 90), (1, ov_i dep)]) (st2 := [ov_r 90]) (pc2 := 1) b_230_0_1 rfl rfl ?_
  refine ov_getf (v := ov_i (h 90 8)) d_230_1 fl_Mo_180 (zb_90 I) (zs_90 I) rfl ?_
  have g1 := rg_90_8 I
  refine ov_ifle (tgt := 8) d_230_4 (by decide) (by omega) (fun c2 => ?_) (fun c2 => ?_)
  · skip
    have J3 : ∀ (j4 : Int) (j5 : Int) (q6 : (j4 = 0 ∨ j4 = 1) ∧ (j4 = 1 → (h 92 ((h 90 7))) = 2) ∧ -1 ≤ j5 ∧ j5 ≤ 3 ∧ (0 ≤ j5 → (h 90 7) < n)), ov_R u d ov_m230 67 [(0, ov_r 90), (1, ov_i dep), (2, ov_i j4), (5, ov_i j5)] [] z h (P_Mo_takePart_90 F z h n dep) := by
      intro j4 j5 q6
      have J7 : ∀ (q8 : (0 ≤ j5 ∨ j4 = 1 ∨ ((h 90 8) = 0 ∧ (h 92 ((h 90 7))) = 3 ∧ (h 94 ((h 90 7))) = 40) ∨ ((h 90 8) = 0 ∧ (h 92 ((h 90 7))) = 1 ∧ (h 94 ((h 90 7))) = (h 95 (17))))), ov_R u d ov_m230 102 [(0, ov_r 90), (1, ov_i dep), (2, ov_i j4), (5, ov_i j5)] [] z h (P_Mo_takePart_90 F z h n dep) := by
        intro  q8
        refine ov_blk (ls2 := [(0, ov_r 90), (1, ov_i dep), (2, ov_i j4), (5, ov_i j5)]) (st2 := [ov_i 5, ov_i dep]) (pc2 := 104) b_230_102_2 rfl rfl ?_
        refine ov_icne (tgt := 112) d_230_104 (by decide) (by omega) (by omega) (fun c9 => ?_) (fun c9 => ?_)
        · skip
          refine ov_blk (ls2 := [(0, ov_r 90), (1, ov_i dep), (2, ov_i j4), (5, ov_i j5)]) (st2 := [ov_r 90]) (pc2 := 113) b_230_112_1 rfl rfl ?_
          refine ov_getf (v := ov_i (h 90 8)) d_230_113 fl_Mo_180 (zb_90 I) (zs_90 I) rfl ?_
          refine ov_ifle (tgt := 120) d_230_116 (by decide) (by omega) (fun c11 => ?_) (fun c11 => ?_)
          · skip
            refine ov_blk (ls2 := [(0, ov_r 90), (1, ov_i dep), (2, ov_i j4), (5, ov_i j5)]) (st2 := [ov_i 17, ov_r 90]) (pc2 := 123) b_230_120_2 rfl rfl ?_
            refine ov_cV (as := [ov_i 17]) (st := []) (d2 := d - 1) d_230_123 lk_Mo_192 rfl (Nat.le_of_ble_eq_true rfl) (c := 1) (zb_90 I) (zs_90 I) ⟨by decide, rfl⟩ (by omega) (c_Mo_hasWord_90 n (d - 1) (by omega) U I 17 (by omega) (by show 0 ≤ n ∧ n ≤ 1000 ∧ (h 92 (n)) = 0 ∧ (h 90 7) ≤ n; omega) (by omega)) ?_
            rintro _ z29 h30 ⟨v13, rfl, I31, f12, e14, e15, e16, e17, e18, e19, e20, e21, e22, e23, e24, e25, e26, e27, e28⟩
            have E32 : h30 91 = h 91 := e14
            have E33 : h30 92 = h 92 := e15
            have E34 : h30 93 = h 93 := e16
            have E35 : h30 94 = h 94 := e17
            have E36 : h30 95 = h 95 := e18
            have E37 : h30 96 = h 96 := e19
            have E38 : h30 97 = h 97 := e20
            have E39 : h30 98 = h 98 := e21
            have E40 : h30 99 = h 99 := e22
            have E41 : h30 100 = h 100 := e23
            have E42 : h30 103 = h 103 := e24
            have E43 : h30 105 = h 105 := e25
            have E44 : h30 106 = h 106 := e26
            have E45 : h30 109 = h 109 := e27
            have E46 : h30 114 = h 114 := e28
            show ov_R u d ov_m230 126 [(0, ov_r 90), (1, ov_i dep), (2, ov_i j4), (5, ov_i j5)] [ov_i v13] z29 h30 (P_Mo_takePart_90 F z h n dep)
            have f47 : (h30 90 2) = (h 90 2) ∧ (h30 90 8) = (h 90 8) ∧ (h30 90 13) = (h 90 13) ∧ (h30 90 20) = (h 90 20) ∧ (h30 90 22) = (h 90 22) ∧ (h30 90 25) = (h 90 25) ∧ (h30 90 26) = (h 90 26) ∧ (h30 90 28) = (h 90 28) ∧ (h30 90 29) = (h 90 29) ∧ (h30 90 30) = (h 90 30) ∧ (h30 90 34) = (h 90 34) ∧ (v13 = 0 ∨ v13 = 1) ∧ (h 90 7) ≤ (h30 90 7) ∧ (h30 90 7) ≤ n ∧ (v13 = 1 → (h30 90 7) = (h 90 7) + 1 ∧ (h 90 8) = 0) ∧ (v13 = 0 → (h30 90 7) = (h 90 7)) ∧ (v13 = 1 → (h 90 8) = 0 ∧ (h 92 ((h 90 7))) = 1 ∧ (h 94 ((h 90 7))) = (h 95 ((17 : Int)))) ∧ (v13 = 0 → ¬ ((h 90 8) = 0 ∧ (h 92 ((h 90 7))) = 1 ∧ (h 94 ((h 90 7))) = (h 95 ((17 : Int))))) := f12
            clear f12
            have qm : h30 90 7 = h 90 7 → h 92 (h30 90 7) = h 92 (h 90 7) ∧ h 94 (h30 90 7) = h 94 (h 90 7) := fun e => by rw [e]; exact ⟨rfl, rfl⟩
            refine ov_ifeq (tgt := 145) d_230_126 (by decide) (by omega) (fun c48 => ?_) (fun c48 => ?_)
            · skip
              have f47_ : v13 = 0 := by omega
              have f49 : (h30 90 2) = (h 90 2) := f47.1
              have f50 : (h30 90 8) = (h 90 8) := f47.2.1
              have f51 : (h30 90 13) = (h 90 13) := f47.2.2.1
              have f52 : (h30 90 20) = (h 90 20) := f47.2.2.2.1
              have f53 : (h30 90 22) = (h 90 22) := f47.2.2.2.2.1
              have f54 : (h30 90 25) = (h 90 25) := f47.2.2.2.2.2.1
              have f55 : (h30 90 26) = (h 90 26) := f47.2.2.2.2.2.2.1
              have f56 : (h30 90 28) = (h 90 28) := f47.2.2.2.2.2.2.2.1
              have f57 : (h30 90 29) = (h 90 29) := f47.2.2.2.2.2.2.2.2.1
              have f58 : (h30 90 30) = (h 90 30) := f47.2.2.2.2.2.2.2.2.2.1
              have f59 : (h30 90 34) = (h 90 34) := f47.2.2.2.2.2.2.2.2.2.2.1
              have f60 : (h 90 7) ≤ (h30 90 7) := f47.2.2.2.2.2.2.2.2.2.2.2.2.1
              have f61 : (h30 90 7) ≤ n := f47.2.2.2.2.2.2.2.2.2.2.2.2.2.1
              have f62 : (h30 90 7) = (h 90 7) := f47.2.2.2.2.2.2.2.2.2.2.2.2.2.2.2.1 (by omega)
              have f63 : ¬ ((h 90 8) = 0 ∧ (h 92 ((h 90 7))) = 1 ∧ (h 94 ((h 90 7))) = (h 95 ((17 : Int)))) := f47.2.2.2.2.2.2.2.2.2.2.2.2.2.2.2.2.2 (by omega)
              clear f47
              refine ov_blk (ls2 := [(0, ov_r 90), (1, ov_i dep), (2, ov_i j4), (5, ov_i j5)]) (st2 := [ov_i 40, ov_r 90]) (pc2 := 148) b_230_145_2 rfl rfl ?_
              have cf64 : h30 92 (n) = h 92 (n) := congrFun E33 (n)
              refine ov_cV (as := [ov_i 40]) (st := []) (d2 := d - 1) d_230_148 lk_Mo_263 rfl (Nat.le_of_ble_eq_true rfl) (c := 1) (zb_90 I31) (zs_90 I31) ⟨by decide, rfl⟩ (by omega) (c_Mo_hasSign_90 n (d - 1) (by omega) U I31 40 (by omega) (by show 0 ≤ n ∧ n ≤ 1000 ∧ (h30 92 (n)) = 0 ∧ (h30 90 7) ≤ n; omega)) ?_
              rintro _ z82 h83 ⟨v66, rfl, I84, f65, e67, e68, e69, e70, e71, e72, e73, e74, e75, e76, e77, e78, e79, e80, e81⟩
              have E85 : h83 91 = h 91 := Eq.trans e67 E32
              have E86 : h83 92 = h 92 := Eq.trans e68 E33
              have E87 : h83 93 = h 93 := Eq.trans e69 E34
              have E88 : h83 94 = h 94 := Eq.trans e70 E35
              have E89 : h83 95 = h 95 := Eq.trans e71 E36
              have E90 : h83 96 = h 96 := Eq.trans e72 E37
              have E91 : h83 97 = h 97 := Eq.trans e73 E38
              have E92 : h83 98 = h 98 := Eq.trans e74 E39
              have E93 : h83 99 = h 99 := Eq.trans e75 E40
              have E94 : h83 100 = h 100 := Eq.trans e76 E41
              have E95 : h83 103 = h 103 := Eq.trans e77 E42
              have E96 : h83 105 = h 105 := Eq.trans e78 E43
              have E97 : h83 106 = h 106 := Eq.trans e79 E44
              have E98 : h83 109 = h 109 := Eq.trans e80 E45
              have E99 : h83 114 = h 114 := Eq.trans e81 E46
              show ov_R u d ov_m230 151 [(0, ov_r 90), (1, ov_i dep), (2, ov_i j4), (5, ov_i j5)] [ov_i v66] z82 h83 (P_Mo_takePart_90 F z h n dep)
              rw [show h30 92 = h 92 from E33] at f65
              rw [show h30 94 = h 94 from E35] at f65
              have f100 : (h83 90 2) = (h30 90 2) ∧ (h83 90 8) = (h30 90 8) ∧ (h83 90 13) = (h30 90 13) ∧ (h83 90 20) = (h30 90 20) ∧ (h83 90 22) = (h30 90 22) ∧ (h83 90 25) = (h30 90 25) ∧ (h83 90 26) = (h30 90 26) ∧ (h83 90 28) = (h30 90 28) ∧ (h83 90 29) = (h30 90 29) ∧ (h83 90 30) = (h30 90 30) ∧ (h83 90 34) = (h30 90 34) ∧ (v66 = 0 ∨ v66 = 1) ∧ (h30 90 7) ≤ (h83 90 7) ∧ (h83 90 7) ≤ n ∧ (v66 = 1 → (h83 90 7) = (h30 90 7) + 1 ∧ (h30 90 8) = 0) ∧ (v66 = 0 → (h83 90 7) = (h30 90 7)) ∧ (v66 = 1 → (h30 90 8) = 0 ∧ (h 92 ((h30 90 7))) = 3 ∧ (h 94 ((h30 90 7))) = (40 : Int)) ∧ (v66 = 0 → ¬ ((h30 90 8) = 0 ∧ (h 92 ((h30 90 7))) = 3 ∧ (h 94 ((h30 90 7))) = (40 : Int))) := f65
              clear f65
              refine ov_ifeq (tgt := 170) d_230_151 (by decide) (by omega) (fun c101 => ?_) (fun c101 => ?_)
              · skip
                have f100_ : v66 = 0 := by omega
                have f102 : (h83 90 2) = (h30 90 2) := f100.1
                have f103 : (h83 90 8) = (h30 90 8) := f100.2.1
                have f104 : (h83 90 13) = (h30 90 13) := f100.2.2.1
                have f105 : (h83 90 20) = (h30 90 20) := f100.2.2.2.1
                have f106 : (h83 90 22) = (h30 90 22) := f100.2.2.2.2.1
                have f107 : (h83 90 25) = (h30 90 25) := f100.2.2.2.2.2.1
                have f108 : (h83 90 26) = (h30 90 26) := f100.2.2.2.2.2.2.1
                have f109 : (h83 90 28) = (h30 90 28) := f100.2.2.2.2.2.2.2.1
                have f110 : (h83 90 29) = (h30 90 29) := f100.2.2.2.2.2.2.2.2.1
                have f111 : (h83 90 30) = (h30 90 30) := f100.2.2.2.2.2.2.2.2.2.1
                have f112 : (h83 90 34) = (h30 90 34) := f100.2.2.2.2.2.2.2.2.2.2.1
                have f113 : (h30 90 7) ≤ (h83 90 7) := f100.2.2.2.2.2.2.2.2.2.2.2.2.1
                have f114 : (h83 90 7) ≤ n := f100.2.2.2.2.2.2.2.2.2.2.2.2.2.1
                have f115 : (h83 90 7) = (h30 90 7) := f100.2.2.2.2.2.2.2.2.2.2.2.2.2.2.2.1 (by omega)
                have f116 : ¬ ((h30 90 8) = 0 ∧ (h 92 ((h30 90 7))) = 3 ∧ (h 94 ((h30 90 7))) = (40 : Int)) := f100.2.2.2.2.2.2.2.2.2.2.2.2.2.2.2.2.2 (by omega)
                clear f100
                refine ov_blk (ls2 := [(0, ov_r 90), (1, ov_i dep), (2, ov_i j4), (5, ov_i j5)]) (st2 := [ov_i j4, ov_r 90]) (pc2 := 172) b_230_170_2 rfl rfl ?_
                refine ov_ifeq (tgt := 179) d_230_172 (by decide) (by omega) (fun c117 => ?_) (fun c117 => ?_)
                · skip
                  refine ov_blk (ls2 := [(0, ov_r 90), (1, ov_i dep), (2, ov_i j4), (5, ov_i j5)]) (st2 := [ov_i j4, ov_i 2, ov_r 90]) (pc2 := 181) b_230_179_2 rfl rfl ?_
                  refine ov_ifeq (tgt := 197) d_230_181 (by decide) (by omega) (fun c118 => ?_) (fun c118 => ?_)
                  · skip
                    refine ov_blk (ls2 := [(0, ov_r 90), (1, ov_i dep), (2, ov_i j4), (5, ov_i j5)]) (st2 := [ov_i j5, ov_i 2, ov_r 90]) (pc2 := 199) b_230_197_1 rfl rfl ?_
                    refine ov_cV (as := [ov_i 2, ov_i j5]) (st := []) (d2 := d - 1) d_230_199 lk_Mo_246 rfl (Nat.le_of_ble_eq_true rfl) (c := 1) (zb_90 I84) (zs_90 I84) ⟨by decide, rfl⟩ (by omega) (c_Mo_emit_90 (d - 1) (by omega) U I84 2 j5 (by omega) (by omega) (by omega) (by show (h83 90 13) ≤ 999; omega)) ?_
                    rintro _ z135 h136 ⟨rfl, I137, f119, e120, e121, e122, e123, e124, e125, e126, e127, e128, e129, e130, e131, e132, y133, y134⟩
                    have E138 : h136 91 = h 91 := Eq.trans e120 E85
                    have E139 : h136 92 = h 92 := Eq.trans e121 E86
                    have E140 : h136 93 = h 93 := Eq.trans e122 E87
                    have E141 : h136 94 = h 94 := Eq.trans e123 E88
                    have E142 : h136 95 = h 95 := Eq.trans e124 E89
                    have E143 : h136 96 = h 96 := Eq.trans e125 E90
                    have E144 : h136 99 = h 99 := Eq.trans e126 E93
                    have E145 : h136 100 = h 100 := Eq.trans e127 E94
                    have E146 : h136 103 = h 103 := Eq.trans e128 E95
                    have E147 : h136 105 = h 105 := Eq.trans e129 E96
                    have E148 : h136 106 = h 106 := Eq.trans e130 E97
                    have E149 : h136 109 = h 109 := Eq.trans e131 E98
                    have E150 : h136 114 = h 114 := Eq.trans e132 E99
                    show ov_R u d ov_m230 202 [(0, ov_r 90), (1, ov_i dep), (2, ov_i j4), (5, ov_i j5)] [] z135 h136 (P_Mo_takePart_90 F z h n dep)
                    have f151 : (h136 90 2) = (h83 90 2) ∧ (h136 90 7) = (h83 90 7) ∧ (h136 90 8) = (h83 90 8) ∧ (h136 90 20) = (h83 90 20) ∧ (h136 90 22) = (h83 90 22) ∧ (h136 90 25) = (h83 90 25) ∧ (h136 90 26) = (h83 90 26) ∧ (h136 90 28) = (h83 90 28) ∧ (h136 90 29) = (h83 90 29) ∧ (h136 90 30) = (h83 90 30) ∧ (h136 90 34) = (h83 90 34) ∧ (h136 90 13) = (h83 90 13) + 1 := f119
                    clear f119
                    rw [show h83 97 = h 97 from E91] at y133
                    have y133_ : (h136 97) = ov_rs (h 97) (1100 + (h83 90 13)) (2 : Int) := y133
                    rw [show h83 98 = h 98 from E92] at y134
                    have y134_ : (h136 98) = ov_rs (h 98) (1100 + (h83 90 13)) j5 := y134
                    have K152 : ∀ j : Int, j < 1100 + (h 90 13) → h136 97 j = h 97 j ∧ h136 98 j = h 98 j := ov_kpe (fun j _ => ⟨rfl, rfl⟩) y133_ y134_ (by omega)
                    have K153 : h136 90 8 = 0 → ov_sg (h136 97) (h136 98) (h 90 13) (h136 90 13) := fun e => by have q3 := ov_sg_one y133_ y134_ (by omega); rw [show h136 90 13 = (h83 90 13) + 1 by omega, show h 90 13 = (h83 90 13) by omega]; exact q3
                    refine ov_blk (ls2 := [(0, ov_r 90), (1, ov_i dep), (2, ov_i j4), (5, ov_i j5)]) (st2 := [ov_r 90, ov_r 90]) (pc2 := 204) b_230_202_2 rfl rfl ?_
                    refine ov_getf (v := ov_i (h136 90 7)) d_230_204 fl_Mo_177 (zb_90 I137) (zs_90 I137) rfl ?_
                    have g154 := rg_90_7 I137
                    refine ov_blk (ls2 := [(0, ov_r 90), (1, ov_i dep), (2, ov_i j4), (5, ov_i j5)]) (st2 := [ov_i ((h136 90 7) + 1), ov_r 90]) (pc2 := 209) b_230_207_2 rfl rfl ?_
                    refine ov_putf (x := ((h136 90 7) + 1)) d_230_209 fl_Mo_177 (zb_90 I137) (zs_90 I137) rfl nk_0 rfl ?_
                    have I155 := up_90_7 (x := ((h136 90 7) + 1)) I137 (by omega)
                    exact ov_retv (st := []) d_230_212 rfl ⟨rfl, I155, (by show (h136 90 2) = (h 90 2) ∧ (h136 90 20) = (h 90 20) ∧ (h136 90 22) = (h 90 22) ∧ (h136 90 25) = (h 90 25) ∧ (h136 90 26) = (h 90 26) ∧ (h136 90 28) = (h 90 28) ∧ (h136 90 29) = (h 90 29) ∧ (h136 90 30) = (h 90 30) ∧ (h136 90 34) = (h 90 34) ∧ (h 90 7) ≤ ((h136 90 7) + 1) ∧ ((h136 90 7) + 1) ≤ n ∧ (h 90 8) ≤ (h136 90 8) ∧ (h 90 13) ≤ (h136 90 13) ∧ (h136 90 13) - (h 90 13) ≤ ((h136 90 7) + 1) - (h 90 7); omega), E138, E139, E140, E141, E142, E143, E144, E145, E146, E147, E148, E149, E150, K152, (fun e => by have e0 : (h136 90 8) = 0 := e; show ov_sg ((ov_up h136 90 7 ((h136 90 7) + 1)) 97) ((ov_up h136 90 7 ((h136 90 7) + 1)) 98) _ (h136 90 13); rw [show (h136 90 13) = (h136 90 13) by omega]; exact K153 (by omega))⟩
                  · omega
                · skip
                  refine ov_blk (ls2 := [(0, ov_r 90), (1, ov_i dep), (2, ov_i j4), (5, ov_i j5)]) (st2 := [ov_i 1, ov_r 90]) (pc2 := 176) b_230_175_1 rfl rfl ?_
                  refine ov_goto (tgt := 180) d_230_176 (by decide) ?_
                  refine ov_blk (ls2 := [(0, ov_r 90), (1, ov_i dep), (2, ov_i j4), (5, ov_i j5)]) (st2 := [ov_i j4, ov_i 1, ov_r 90]) (pc2 := 181) b_230_180_1 rfl rfl ?_
                  refine ov_ifeq (tgt := 197) d_230_181 (by decide) (by omega) (fun c156 => ?_) (fun c156 => ?_)
                  · omega
                  · skip
                    refine ov_blk (ls2 := [(0, ov_r 90), (1, ov_i dep), (2, ov_i j4), (5, ov_i j5)]) (st2 := [ov_r 90, ov_i 1, ov_r 90]) (pc2 := 185) b_230_184_1 rfl rfl ?_
                    refine ov_getf (v := ov_r 94) d_230_185 fl_Mo_30 (zb_90 I84) (zs_90 I84) (congrArg ov_r (rg_90_6 I84)) ?_
                    refine ov_blk (ls2 := [(0, ov_r 90), (1, ov_i dep), (2, ov_i j4), (5, ov_i j5)]) (st2 := [ov_r 90, ov_r 94, ov_i 1, ov_r 90]) (pc2 := 189) b_230_188_1 rfl rfl ?_
                    refine ov_getf (v := ov_i (h83 90 7)) d_230_189 fl_Mo_177 (zb_90 I84) (zs_90 I84) rfl ?_
                    have g157 := rg_90_7 I84
                    refine ov_lald d_230_192 (zb_94 I84) (zs_94 I84) (by omega) ?_
                    rw [show h83 94 = h 94 from E88]
                    have g158 := ra_94 I (h83 90 7)
                    refine ov_blk (ls2 := [(0, ov_r 90), (1, ov_i dep), (2, ov_i j4), (5, ov_i j5)]) (st2 := [ov_i (h 94 (h83 90 7)), ov_i 1, ov_r 90]) (pc2 := 194) b_230_193_1 rfl rfl ?_
                    refine ov_havw (fun w159 gw159 qw159 => ?_)
                    refine ov_goto (tgt := 199) d_230_194 (by decide) ?_
                    refine ov_cV (as := [ov_i 1, ov_i w159]) (st := []) (d2 := d - 1) d_230_199 lk_Mo_246 rfl (Nat.le_of_ble_eq_true rfl) (c := 1) (zb_90 I84) (zs_90 I84) ⟨by decide, rfl⟩ (by omega) (c_Mo_emit_90 (d - 1) (by omega) U I84 1 w159 (by omega) (by omega) (by omega) (by show (h83 90 13) ≤ 999; omega)) ?_
                    rintro _ z176 h177 ⟨rfl, I178, f160, e161, e162, e163, e164, e165, e166, e167, e168, e169, e170, e171, e172, e173, y174, y175⟩
                    have E179 : h177 91 = h 91 := Eq.trans e161 E85
                    have E180 : h177 92 = h 92 := Eq.trans e162 E86
                    have E181 : h177 93 = h 93 := Eq.trans e163 E87
                    have E182 : h177 94 = h 94 := Eq.trans e164 E88
                    have E183 : h177 95 = h 95 := Eq.trans e165 E89
                    have E184 : h177 96 = h 96 := Eq.trans e166 E90
                    have E185 : h177 99 = h 99 := Eq.trans e167 E93
                    have E186 : h177 100 = h 100 := Eq.trans e168 E94
                    have E187 : h177 103 = h 103 := Eq.trans e169 E95
                    have E188 : h177 105 = h 105 := Eq.trans e170 E96
                    have E189 : h177 106 = h 106 := Eq.trans e171 E97
                    have E190 : h177 109 = h 109 := Eq.trans e172 E98
                    have E191 : h177 114 = h 114 := Eq.trans e173 E99
                    show ov_R u d ov_m230 202 [(0, ov_r 90), (1, ov_i dep), (2, ov_i j4), (5, ov_i j5)] [] z176 h177 (P_Mo_takePart_90 F z h n dep)
                    have f192 : (h177 90 2) = (h83 90 2) ∧ (h177 90 7) = (h83 90 7) ∧ (h177 90 8) = (h83 90 8) ∧ (h177 90 20) = (h83 90 20) ∧ (h177 90 22) = (h83 90 22) ∧ (h177 90 25) = (h83 90 25) ∧ (h177 90 26) = (h83 90 26) ∧ (h177 90 28) = (h83 90 28) ∧ (h177 90 29) = (h83 90 29) ∧ (h177 90 30) = (h83 90 30) ∧ (h177 90 34) = (h83 90 34) ∧ (h177 90 13) = (h83 90 13) + 1 := f160
                    clear f160
                    rw [show h83 97 = h 97 from E91] at y174
                    have y174_ : (h177 97) = ov_rs (h 97) (1100 + (h83 90 13)) (1 : Int) := y174
                    rw [show h83 98 = h 98 from E92] at y175
                    have y175_ : (h177 98) = ov_rs (h 98) (1100 + (h83 90 13)) w159 := y175
                    have K193 : ∀ j : Int, j < 1100 + (h 90 13) → h177 97 j = h 97 j ∧ h177 98 j = h 98 j := ov_kpe (fun j _ => ⟨rfl, rfl⟩) y174_ y175_ (by omega)
                    have K194 : h177 90 8 = 0 → ov_sg (h177 97) (h177 98) (h 90 13) (h177 90 13) := fun e => by have q3 := ov_sg_one y174_ y175_ (by omega); rw [show h177 90 13 = (h83 90 13) + 1 by omega, show h 90 13 = (h83 90 13) by omega]; exact q3
                    refine ov_blk (ls2 := [(0, ov_r 90), (1, ov_i dep), (2, ov_i j4), (5, ov_i j5)]) (st2 := [ov_r 90, ov_r 90]) (pc2 := 204) b_230_202_2 rfl rfl ?_
                    refine ov_getf (v := ov_i (h177 90 7)) d_230_204 fl_Mo_177 (zb_90 I178) (zs_90 I178) rfl ?_
                    have g195 := rg_90_7 I178
                    refine ov_blk (ls2 := [(0, ov_r 90), (1, ov_i dep), (2, ov_i j4), (5, ov_i j5)]) (st2 := [ov_i ((h177 90 7) + 1), ov_r 90]) (pc2 := 209) b_230_207_2 rfl rfl ?_
                    refine ov_putf (x := ((h177 90 7) + 1)) d_230_209 fl_Mo_177 (zb_90 I178) (zs_90 I178) rfl nk_0 rfl ?_
                    have I196 := up_90_7 (x := ((h177 90 7) + 1)) I178 (by omega)
                    exact ov_retv (st := []) d_230_212 rfl ⟨rfl, I196, (by show (h177 90 2) = (h 90 2) ∧ (h177 90 20) = (h 90 20) ∧ (h177 90 22) = (h 90 22) ∧ (h177 90 25) = (h 90 25) ∧ (h177 90 26) = (h 90 26) ∧ (h177 90 28) = (h 90 28) ∧ (h177 90 29) = (h 90 29) ∧ (h177 90 30) = (h 90 30) ∧ (h177 90 34) = (h 90 34) ∧ (h 90 7) ≤ ((h177 90 7) + 1) ∧ ((h177 90 7) + 1) ≤ n ∧ (h 90 8) ≤ (h177 90 8) ∧ (h 90 13) ≤ (h177 90 13) ∧ (h177 90 13) - (h 90 13) ≤ ((h177 90 7) + 1) - (h 90 7); omega), E179, E180, E181, E182, E183, E184, E185, E186, E187, E188, E189, E190, E191, K193, (fun e => by have e0 : (h177 90 8) = 0 := e; show ov_sg ((ov_up h177 90 7 ((h177 90 7) + 1)) 97) ((ov_up h177 90 7 ((h177 90 7) + 1)) 98) _ (h177 90 13); rw [show (h177 90 13) = (h177 90 13) by omega]; exact K194 (by omega))⟩
              · skip
                have f100_ : v66 = 1 := by omega
                have f197 : (h83 90 2) = (h30 90 2) := f100.1
                have f198 : (h83 90 8) = (h30 90 8) := f100.2.1
                have f199 : (h83 90 13) = (h30 90 13) := f100.2.2.1
                have f200 : (h83 90 20) = (h30 90 20) := f100.2.2.2.1
                have f201 : (h83 90 22) = (h30 90 22) := f100.2.2.2.2.1
                have f202 : (h83 90 25) = (h30 90 25) := f100.2.2.2.2.2.1
                have f203 : (h83 90 26) = (h30 90 26) := f100.2.2.2.2.2.2.1
                have f204 : (h83 90 28) = (h30 90 28) := f100.2.2.2.2.2.2.2.1
                have f205 : (h83 90 29) = (h30 90 29) := f100.2.2.2.2.2.2.2.2.1
                have f206 : (h83 90 30) = (h30 90 30) := f100.2.2.2.2.2.2.2.2.2.1
                have f207 : (h83 90 34) = (h30 90 34) := f100.2.2.2.2.2.2.2.2.2.2.1
                have f208 : (h30 90 7) ≤ (h83 90 7) := f100.2.2.2.2.2.2.2.2.2.2.2.2.1
                have f209 : (h83 90 7) ≤ n := f100.2.2.2.2.2.2.2.2.2.2.2.2.2.1
                have f210 : (h83 90 7) = (h30 90 7) + 1 ∧ (h30 90 8) = 0 := f100.2.2.2.2.2.2.2.2.2.2.2.2.2.2.1 (by omega)
                have f211 : (h30 90 8) = 0 ∧ (h 92 ((h30 90 7))) = 3 ∧ (h 94 ((h30 90 7))) = (40 : Int) := f100.2.2.2.2.2.2.2.2.2.2.2.2.2.2.2.2.1 (by omega)
                clear f100
                refine ov_blk (ls2 := [(0, ov_r 90), (1, ov_i dep), (2, ov_i j4), (5, ov_i j5)]) (st2 := [ov_i (dep + 1), ov_r 90]) (pc2 := 158) b_230_154_4 rfl rfl ?_
                have cf212 : h83 92 (n) = h 92 (n) := congrFun E86 (n)
                refine ov_cV (as := [ov_i (dep + 1)]) (st := []) (d2 := d - 1) d_230_158 lk_Mo_243 rfl (Nat.le_of_ble_eq_true rfl) (c := 1) (zb_90 I84) (zs_90 I84) ⟨by decide, rfl⟩ (by omega) (HE (k - 1) (by omega) (d - 1) (by omega) U I84 (dep + 1) (by omega) (by show 0 ≤ n ∧ n ≤ 1000 ∧ (h83 92 (n)) = 0 ∧ (h83 90 7) ≤ n; omega) (by omega) (by show (h83 90 13) ≤ (h83 90 7); omega)) ?_
                rintro _ z229 h230 ⟨rfl, I231, f213, e214, e215, e216, e217, e218, e219, e220, e221, e222, e223, e224, e225, e226, y227, y228⟩
                have E232 : h230 91 = h 91 := Eq.trans e214 E85
                have E233 : h230 92 = h 92 := Eq.trans e215 E86
                have E234 : h230 93 = h 93 := Eq.trans e216 E87
                have E235 : h230 94 = h 94 := Eq.trans e217 E88
                have E236 : h230 95 = h 95 := Eq.trans e218 E89
                have E237 : h230 96 = h 96 := Eq.trans e219 E90
                have E238 : h230 99 = h 99 := Eq.trans e220 E93
                have E239 : h230 100 = h 100 := Eq.trans e221 E94
                have E240 : h230 103 = h 103 := Eq.trans e222 E95
                have E241 : h230 105 = h 105 := Eq.trans e223 E96
                have E242 : h230 106 = h 106 := Eq.trans e224 E97
                have E243 : h230 109 = h 109 := Eq.trans e225 E98
                have E244 : h230 114 = h 114 := Eq.trans e226 E99
                show ov_R u d ov_m230 161 [(0, ov_r 90), (1, ov_i dep), (2, ov_i j4), (5, ov_i j5)] [] z229 h230 (P_Mo_takePart_90 F z h n dep)
                have f245 : (h230 90 2) = (h83 90 2) ∧ (h230 90 20) = (h83 90 20) ∧ (h230 90 22) = (h83 90 22) ∧ (h230 90 25) = (h83 90 25) ∧ (h230 90 26) = (h83 90 26) ∧ (h230 90 28) = (h83 90 28) ∧ (h230 90 29) = (h83 90 29) ∧ (h230 90 30) = (h83 90 30) ∧ (h230 90 34) = (h83 90 34) ∧ (h83 90 7) ≤ (h230 90 7) ∧ (h230 90 7) ≤ n ∧ (h83 90 8) ≤ (h230 90 8) ∧ (h83 90 13) ≤ (h230 90 13) ∧ (h230 90 13) - (h83 90 13) ≤ (h230 90 7) - (h83 90 7) := f213
                clear f213
                rw [show h83 97 = h 97 from E91] at y227
                rw [show h83 98 = h 98 from E92] at y227
                have y227_ : ∀ j : Int, j < 1100 + (h83 90 13) → (h230 97) j = (h 97) j ∧ (h230 98) j = (h 98) j := y227
                have y228_ : (h230 90 8) = 0 → ov_sg (h230 97) (h230 98) (h83 90 13) (h230 90 13) := y228
                have K246 : ∀ j : Int, j < 1100 + (h 90 13) → h230 97 j = h 97 j ∧ h230 98 j = h 98 j := fun j hj => y227_ j (by omega)
                have K247 : h230 90 8 = 0 → ov_sg (h230 97) (h230 98) (h 90 13) (h230 90 13) := fun e => by have q := y228_ e; rw [show (h83 90 13) = h 90 13 by omega] at q; exact q
                refine ov_blk (ls2 := [(0, ov_r 90), (1, ov_i dep), (2, ov_i j4), (5, ov_i j5)]) (st2 := [ov_i 41, ov_r 90]) (pc2 := 164) b_230_161_2 rfl rfl ?_
                have cf248 : h230 92 (n) = h 92 (n) := congrFun E233 (n)
                refine ov_cV (as := [ov_i 41]) (st := []) (d2 := d - 1) d_230_164 lk_Mo_214 rfl (Nat.le_of_ble_eq_true rfl) (c := 1) (zb_90 I231) (zs_90 I231) ⟨by decide, rfl⟩ (by omega) (c_Mo_takeSign_90 n (d - 1) (by omega) U I231 41 (by omega) (by show 0 ≤ n ∧ n ≤ 1000 ∧ (h230 92 (n)) = 0 ∧ (h230 90 7) ≤ n; omega)) ?_
                rintro _ z265 h266 ⟨rfl, I267, f249, e250, e251, e252, e253, e254, e255, e256, e257, e258, e259, e260, e261, e262, e263, e264⟩
                have E268 : h266 91 = h 91 := Eq.trans e250 E232
                have E269 : h266 92 = h 92 := Eq.trans e251 E233
                have E270 : h266 93 = h 93 := Eq.trans e252 E234
                have E271 : h266 94 = h 94 := Eq.trans e253 E235
                have E272 : h266 95 = h 95 := Eq.trans e254 E236
                have E273 : h266 96 = h 96 := Eq.trans e255 E237
                have E274 : h266 97 = h230 97 := e256
                have E275 : h266 98 = h230 98 := e257
                have E276 : h266 99 = h 99 := Eq.trans e258 E238
                have E277 : h266 100 = h 100 := Eq.trans e259 E239
                have E278 : h266 103 = h 103 := Eq.trans e260 E240
                have E279 : h266 105 = h 105 := Eq.trans e261 E241
                have E280 : h266 106 = h 106 := Eq.trans e262 E242
                have E281 : h266 109 = h 109 := Eq.trans e263 E243
                have E282 : h266 114 = h 114 := Eq.trans e264 E244
                show ov_R u d ov_m230 167 [(0, ov_r 90), (1, ov_i dep), (2, ov_i j4), (5, ov_i j5)] [] z265 h266 (P_Mo_takePart_90 F z h n dep)
                have f283 : (h266 90 2) = (h230 90 2) ∧ (h266 90 13) = (h230 90 13) ∧ (h266 90 20) = (h230 90 20) ∧ (h266 90 22) = (h230 90 22) ∧ (h266 90 25) = (h230 90 25) ∧ (h266 90 26) = (h230 90 26) ∧ (h266 90 28) = (h230 90 28) ∧ (h266 90 29) = (h230 90 29) ∧ (h266 90 30) = (h230 90 30) ∧ (h266 90 34) = (h230 90 34) ∧ (h230 90 7) ≤ (h266 90 7) ∧ (h266 90 7) ≤ n ∧ (h230 90 8) ≤ (h266 90 8) ∧ (h230 90 7) < (h266 90 7) + (h266 90 8) := f249
                clear f249
                refine ov_goto (tgt := 212) d_230_167 (by decide) ?_
                exact ov_retv (st := []) d_230_212 rfl ⟨rfl, I267, (by show (h266 90 2) = (h 90 2) ∧ (h266 90 20) = (h 90 20) ∧ (h266 90 22) = (h 90 22) ∧ (h266 90 25) = (h 90 25) ∧ (h266 90 26) = (h 90 26) ∧ (h266 90 28) = (h 90 28) ∧ (h266 90 29) = (h 90 29) ∧ (h266 90 30) = (h 90 30) ∧ (h266 90 34) = (h 90 34) ∧ (h 90 7) ≤ (h266 90 7) ∧ (h266 90 7) ≤ n ∧ (h 90 8) ≤ (h266 90 8) ∧ (h 90 13) ≤ (h266 90 13) ∧ (h266 90 13) - (h 90 13) ≤ (h266 90 7) - (h 90 7); omega), E268, E269, E270, E271, E272, E273, E276, E277, E278, E279, E280, E281, E282, (by rw [show h266 97 = h230 97 from E274, show h266 98 = h230 98 from E275]; exact K246), (fun e => by have e0 : (h266 90 8) = 0 := e; show ov_sg (h266 97) (h266 98) _ (h266 90 13); rw [show h266 97 = h230 97 from E274, show h266 98 = h230 98 from E275, show (h266 90 13) = (h230 90 13) by omega]; exact K247 (by omega))⟩
            · skip
              have f47_ : v13 = 1 := by omega
              have f284 : (h30 90 2) = (h 90 2) := f47.1
              have f285 : (h30 90 8) = (h 90 8) := f47.2.1
              have f286 : (h30 90 13) = (h 90 13) := f47.2.2.1
              have f287 : (h30 90 20) = (h 90 20) := f47.2.2.2.1
              have f288 : (h30 90 22) = (h 90 22) := f47.2.2.2.2.1
              have f289 : (h30 90 25) = (h 90 25) := f47.2.2.2.2.2.1
              have f290 : (h30 90 26) = (h 90 26) := f47.2.2.2.2.2.2.1
              have f291 : (h30 90 28) = (h 90 28) := f47.2.2.2.2.2.2.2.1
              have f292 : (h30 90 29) = (h 90 29) := f47.2.2.2.2.2.2.2.2.1
              have f293 : (h30 90 30) = (h 90 30) := f47.2.2.2.2.2.2.2.2.2.1
              have f294 : (h30 90 34) = (h 90 34) := f47.2.2.2.2.2.2.2.2.2.2.1
              have f295 : (h 90 7) ≤ (h30 90 7) := f47.2.2.2.2.2.2.2.2.2.2.2.2.1
              have f296 : (h30 90 7) ≤ n := f47.2.2.2.2.2.2.2.2.2.2.2.2.2.1
              have f297 : (h30 90 7) = (h 90 7) + 1 ∧ (h 90 8) = 0 := f47.2.2.2.2.2.2.2.2.2.2.2.2.2.2.1 (by omega)
              have f298 : (h 90 8) = 0 ∧ (h 92 ((h 90 7))) = 1 ∧ (h 94 ((h 90 7))) = (h 95 ((17 : Int))) := f47.2.2.2.2.2.2.2.2.2.2.2.2.2.2.2.2.1 (by omega)
              clear f47
              refine ov_blk (ls2 := [(0, ov_r 90), (1, ov_i dep), (2, ov_i j4), (5, ov_i j5)]) (st2 := [ov_i (dep + 1), ov_r 90]) (pc2 := 133) b_230_129_4 rfl rfl ?_
              have cf299 : h30 92 (n) = h 92 (n) := congrFun E33 (n)
              refine ov_cV (as := [ov_i (dep + 1)]) (st := []) (d2 := d - 1) d_230_133 lk_Mo_269 rfl (Nat.le_of_ble_eq_true rfl) (c := 1) (zb_90 I31) (zs_90 I31) ⟨by decide, rfl⟩ (by omega) (HP (k - 1) (by omega) (d - 1) (by omega) U I31 (dep + 1) (by omega) (by show 0 ≤ n ∧ n ≤ 1000 ∧ (h30 92 (n)) = 0 ∧ (h30 90 7) ≤ n; omega) (by omega) (by show (h30 90 13) ≤ (h30 90 7); omega)) ?_
              rintro _ z316 h317 ⟨rfl, I318, f300, e301, e302, e303, e304, e305, e306, e307, e308, e309, e310, e311, e312, e313, y314, y315⟩
              have E319 : h317 91 = h 91 := Eq.trans e301 E32
              have E320 : h317 92 = h 92 := Eq.trans e302 E33
              have E321 : h317 93 = h 93 := Eq.trans e303 E34
              have E322 : h317 94 = h 94 := Eq.trans e304 E35
              have E323 : h317 95 = h 95 := Eq.trans e305 E36
              have E324 : h317 96 = h 96 := Eq.trans e306 E37
              have E325 : h317 99 = h 99 := Eq.trans e307 E40
              have E326 : h317 100 = h 100 := Eq.trans e308 E41
              have E327 : h317 103 = h 103 := Eq.trans e309 E42
              have E328 : h317 105 = h 105 := Eq.trans e310 E43
              have E329 : h317 106 = h 106 := Eq.trans e311 E44
              have E330 : h317 109 = h 109 := Eq.trans e312 E45
              have E331 : h317 114 = h 114 := Eq.trans e313 E46
              show ov_R u d ov_m230 136 [(0, ov_r 90), (1, ov_i dep), (2, ov_i j4), (5, ov_i j5)] [] z316 h317 (P_Mo_takePart_90 F z h n dep)
              have f332 : (h317 90 2) = (h30 90 2) ∧ (h317 90 20) = (h30 90 20) ∧ (h317 90 22) = (h30 90 22) ∧ (h317 90 25) = (h30 90 25) ∧ (h317 90 26) = (h30 90 26) ∧ (h317 90 28) = (h30 90 28) ∧ (h317 90 29) = (h30 90 29) ∧ (h317 90 30) = (h30 90 30) ∧ (h317 90 34) = (h30 90 34) ∧ (h30 90 7) ≤ (h317 90 7) ∧ (h317 90 7) ≤ n ∧ (h30 90 8) ≤ (h317 90 8) ∧ (h30 90 13) ≤ (h317 90 13) ∧ (h317 90 13) - (h30 90 13) ≤ (h317 90 7) - (h30 90 7) := f300
              clear f300
              rw [show h30 97 = h 97 from E38] at y314
              rw [show h30 98 = h 98 from E39] at y314
              have y314_ : ∀ j : Int, j < 1100 + (h30 90 13) → (h317 97) j = (h 97) j ∧ (h317 98) j = (h 98) j := y314
              have y315_ : (h317 90 8) = 0 → ov_sg (h317 97) (h317 98) (h30 90 13) (h317 90 13) := y315
              have K333 : ∀ j : Int, j < 1100 + (h 90 13) → h317 97 j = h 97 j ∧ h317 98 j = h 98 j := fun j hj => y314_ j (by omega)
              have K334 : h317 90 8 = 0 → ov_sg (h317 97) (h317 98) (h 90 13) (h317 90 13) := fun e => by have q := y315_ e; rw [show (h30 90 13) = h 90 13 by omega] at q; exact q
              refine ov_blk (ls2 := [(0, ov_r 90), (1, ov_i dep), (2, ov_i j4), (5, ov_i j5)]) (st2 := [ov_i 0, ov_i 3, ov_r 90]) (pc2 := 139) b_230_136_3 rfl rfl ?_
              refine ov_cV (as := [ov_i 3, ov_i 0]) (st := []) (d2 := d - 1) d_230_139 lk_Mo_246 rfl (Nat.le_of_ble_eq_true rfl) (c := 1) (zb_90 I318) (zs_90 I318) ⟨by decide, rfl⟩ (by omega) (c_Mo_emit_90 (d - 1) (by omega) U I318 3 0 (by omega) (by omega) (by omega) (by show (h317 90 13) ≤ 999; omega)) ?_
              rintro _ z351 h352 ⟨rfl, I353, f335, e336, e337, e338, e339, e340, e341, e342, e343, e344, e345, e346, e347, e348, y349, y350⟩
              have E354 : h352 91 = h 91 := Eq.trans e336 E319
              have E355 : h352 92 = h 92 := Eq.trans e337 E320
              have E356 : h352 93 = h 93 := Eq.trans e338 E321
              have E357 : h352 94 = h 94 := Eq.trans e339 E322
              have E358 : h352 95 = h 95 := Eq.trans e340 E323
              have E359 : h352 96 = h 96 := Eq.trans e341 E324
              have E360 : h352 99 = h 99 := Eq.trans e342 E325
              have E361 : h352 100 = h 100 := Eq.trans e343 E326
              have E362 : h352 103 = h 103 := Eq.trans e344 E327
              have E363 : h352 105 = h 105 := Eq.trans e345 E328
              have E364 : h352 106 = h 106 := Eq.trans e346 E329
              have E365 : h352 109 = h 109 := Eq.trans e347 E330
              have E366 : h352 114 = h 114 := Eq.trans e348 E331
              show ov_R u d ov_m230 142 [(0, ov_r 90), (1, ov_i dep), (2, ov_i j4), (5, ov_i j5)] [] z351 h352 (P_Mo_takePart_90 F z h n dep)
              have f367 : (h352 90 2) = (h317 90 2) ∧ (h352 90 7) = (h317 90 7) ∧ (h352 90 8) = (h317 90 8) ∧ (h352 90 20) = (h317 90 20) ∧ (h352 90 22) = (h317 90 22) ∧ (h352 90 25) = (h317 90 25) ∧ (h352 90 26) = (h317 90 26) ∧ (h352 90 28) = (h317 90 28) ∧ (h352 90 29) = (h317 90 29) ∧ (h352 90 30) = (h317 90 30) ∧ (h352 90 34) = (h317 90 34) ∧ (h352 90 13) = (h317 90 13) + 1 := f335
              clear f335
              have y349_ : (h352 97) = ov_rs (h317 97) (1100 + (h317 90 13)) (3 : Int) := y349
              have y350_ : (h352 98) = ov_rs (h317 98) (1100 + (h317 90 13)) (0 : Int) := y350
              have K368 : ∀ j : Int, j < 1100 + (h 90 13) → h352 97 j = h 97 j ∧ h352 98 j = h 98 j := ov_kpe K333 y349_ y350_ (by omega)
              have K369 : h352 90 8 = 0 → ov_sg (h352 97) (h352 98) (h 90 13) (h352 90 13) := fun e => by have q1 := K334 (by omega); have q3 := ov_sg_un q1 y349_ y350_; rw [show h352 90 13 = (h317 90 13) + 1 by omega]; exact q3
              refine ov_goto (tgt := 212) d_230_142 (by decide) ?_
              exact ov_retv (st := []) d_230_212 rfl ⟨rfl, I353, (by show (h352 90 2) = (h 90 2) ∧ (h352 90 20) = (h 90 20) ∧ (h352 90 22) = (h 90 22) ∧ (h352 90 25) = (h 90 25) ∧ (h352 90 26) = (h 90 26) ∧ (h352 90 28) = (h 90 28) ∧ (h352 90 29) = (h 90 29) ∧ (h352 90 30) = (h 90 30) ∧ (h352 90 34) = (h 90 34) ∧ (h 90 7) ≤ (h352 90 7) ∧ (h352 90 7) ≤ n ∧ (h 90 8) ≤ (h352 90 8) ∧ (h 90 13) ≤ (h352 90 13) ∧ (h352 90 13) - (h 90 13) ≤ (h352 90 7) - (h 90 7); omega), E354, E355, E356, E357, E358, E359, E360, E361, E362, E363, E364, E365, E366, K368, (fun e => by have e0 : (h352 90 8) = 0 := e; show ov_sg (h352 97) (h352 98) _ (h352 90 13); rw [show (h352 90 13) = (h352 90 13) by omega]; exact K369 (by omega))⟩
          · omega
        · skip
          refine ov_blk (ls2 := [(0, ov_r 90), (1, ov_i dep), (2, ov_i j4), (5, ov_i j5)]) (st2 := [ov_i 5, ov_r 90]) (pc2 := 109) b_230_107_2 rfl rfl ?_
          refine ov_cV (as := [ov_i 5]) (st := []) (d2 := d - 1) d_230_109 lk_Mo_186 rfl (Nat.le_of_ble_eq_true rfl) (c := 1) (zb_90 I) (zs_90 I) ⟨by decide, rfl⟩ (by omega) (c_Mo_wrong_90 (d - 1) (by omega) U I 5 (by omega) (by omega)) ?_
          rintro _ z386 h387 ⟨rfl, I388, f370, e371, e372, e373, e374, e375, e376, e377, e378, e379, e380, e381, e382, e383, e384, e385⟩
          have E389 : h387 91 = h 91 := e371
          have E390 : h387 92 = h 92 := e372
          have E391 : h387 93 = h 93 := e373
          have E392 : h387 94 = h 94 := e374
          have E393 : h387 95 = h 95 := e375
          have E394 : h387 96 = h 96 := e376
          have E395 : h387 97 = h 97 := e377
          have E396 : h387 98 = h 98 := e378
          have E397 : h387 99 = h 99 := e379
          have E398 : h387 100 = h 100 := e380
          have E399 : h387 103 = h 103 := e381
          have E400 : h387 105 = h 105 := e382
          have E401 : h387 106 = h 106 := e383
          have E402 : h387 109 = h 109 := e384
          have E403 : h387 114 = h 114 := e385
          show ov_R u d ov_m230 112 [(0, ov_r 90), (1, ov_i dep), (2, ov_i j4), (5, ov_i j5)] [] z386 h387 (P_Mo_takePart_90 F z h n dep)
          have f404 : (h387 90 2) = (h 90 2) ∧ (h387 90 7) = (h 90 7) ∧ (h387 90 13) = (h 90 13) ∧ (h387 90 20) = (h 90 20) ∧ (h387 90 22) = (h 90 22) ∧ (h387 90 25) = (h 90 25) ∧ (h387 90 26) = (h 90 26) ∧ (h387 90 28) = (h 90 28) ∧ (h387 90 29) = (h 90 29) ∧ (h387 90 30) = (h 90 30) ∧ (h387 90 34) = (h 90 34) ∧ 0 < (h387 90 8) ∧ (h 90 8) ≤ (h387 90 8) := f370
          clear f370
          refine ov_blk (ls2 := [(0, ov_r 90), (1, ov_i dep), (2, ov_i j4), (5, ov_i j5)]) (st2 := [ov_r 90]) (pc2 := 113) b_230_112_1 rfl rfl ?_
          refine ov_getf (v := ov_i (h387 90 8)) d_230_113 fl_Mo_180 (zb_90 I388) (zs_90 I388) rfl ?_
          have g405 := rg_90_8 I388
          refine ov_ifle (tgt := 120) d_230_116 (by decide) (by omega) (fun c406 => ?_) (fun c406 => ?_)
          · omega
          · skip
            exact ov_retv (st := []) d_230_119 rfl ⟨rfl, I388, (by show (h387 90 2) = (h 90 2) ∧ (h387 90 20) = (h 90 20) ∧ (h387 90 22) = (h 90 22) ∧ (h387 90 25) = (h 90 25) ∧ (h387 90 26) = (h 90 26) ∧ (h387 90 28) = (h 90 28) ∧ (h387 90 29) = (h 90 29) ∧ (h387 90 30) = (h 90 30) ∧ (h387 90 34) = (h 90 34) ∧ (h 90 7) ≤ (h387 90 7) ∧ (h387 90 7) ≤ n ∧ (h 90 8) ≤ (h387 90 8) ∧ (h 90 13) ≤ (h387 90 13) ∧ (h387 90 13) - (h 90 13) ≤ (h387 90 7) - (h 90 7); omega), E389, E390, E391, E392, E393, E394, E397, E398, E399, E400, E401, E402, E403, (fun j _ => by rw [show h387 97 = h 97 from E395, show h387 98 = h 98 from E396]; exact ⟨rfl, rfl⟩), (fun e => absurd e (by show ¬ (h387 90 8) = 0; omega))⟩
      refine ov_blk (ls2 := [(0, ov_r 90), (1, ov_i dep), (2, ov_i j4), (5, ov_i j5)]) (st2 := [ov_i j5]) (pc2 := 69) b_230_67_1 rfl rfl ?_
      refine ov_ifge (tgt := 102) d_230_69 (by decide) (by omega) (fun c407 => ?_) (fun c407 => ?_)
      · skip
        exact J7  (by show (0 ≤ j5 ∨ j4 = 1 ∨ ((h 90 8) = 0 ∧ (h 92 ((h 90 7))) = 3 ∧ (h 94 ((h 90 7))) = 40) ∨ ((h 90 8) = 0 ∧ (h 92 ((h 90 7))) = 1 ∧ (h 94 ((h 90 7))) = (h 95 (17)))); omega)
      · skip
        refine ov_blk (ls2 := [(0, ov_r 90), (1, ov_i dep), (2, ov_i j4), (5, ov_i j5)]) (st2 := [ov_i j4]) (pc2 := 73) b_230_72_1 rfl rfl ?_
        refine ov_ifne (tgt := 102) d_230_73 (by decide) (by omega) (fun c408 => ?_) (fun c408 => ?_)
        · skip
          exact J7  (by show (0 ≤ j5 ∨ j4 = 1 ∨ ((h 90 8) = 0 ∧ (h 92 ((h 90 7))) = 3 ∧ (h 94 ((h 90 7))) = 40) ∨ ((h 90 8) = 0 ∧ (h 92 ((h 90 7))) = 1 ∧ (h 94 ((h 90 7))) = (h 95 (17)))); omega)
        · skip
          refine ov_blk (ls2 := [(0, ov_r 90), (1, ov_i dep), (2, ov_i j4), (5, ov_i j5)]) (st2 := [ov_i 40, ov_r 90]) (pc2 := 79) b_230_76_2 rfl rfl ?_
          refine ov_cV (as := [ov_i 40]) (st := []) (d2 := d - 1) d_230_79 lk_Mo_183 rfl (Nat.le_of_ble_eq_true rfl) (c := 1) (zb_90 I) (zs_90 I) ⟨by decide, rfl⟩ (by omega) (c_Mo_isSign_90 n (d - 1) (by omega) U I 40 (by omega) (by show 0 ≤ n ∧ n ≤ 1000 ∧ (h 92 (n)) = 0 ∧ (h 90 7) ≤ n; omega)) ?_
          rintro _ _ _ ⟨v410, rfl, rfl, rfl, f409⟩
          show ov_R u d ov_m230 82 [(0, ov_r 90), (1, ov_i dep), (2, ov_i j4), (5, ov_i j5)] [ov_i v410] z h (P_Mo_takePart_90 F z h n dep)
          have f411 : (v410 = 0 ∨ v410 = 1) ∧ (v410 = 1 → (h 90 7) < n) ∧ (v410 = 1 → (h 90 8) = 0 ∧ (h 92 ((h 90 7))) = 3 ∧ (h 94 ((h 90 7))) = (40 : Int)) ∧ (v410 = 0 → ¬ ((h 90 8) = 0 ∧ (h 92 ((h 90 7))) = 3 ∧ (h 94 ((h 90 7))) = (40 : Int))) := f409
          clear f409
          refine ov_ifne (tgt := 102) d_230_82 (by decide) (by omega) (fun c412 => ?_) (fun c412 => ?_)
          · skip
            have f411_ : v410 = 1 := by omega
            have f413 : (h 90 7) < n := f411.2.1 (by omega)
            have f414 : (h 90 8) = 0 ∧ (h 92 ((h 90 7))) = 3 ∧ (h 94 ((h 90 7))) = (40 : Int) := f411.2.2.1 (by omega)
            clear f411
            exact J7  (by show (0 ≤ j5 ∨ j4 = 1 ∨ ((h 90 8) = 0 ∧ (h 92 ((h 90 7))) = 3 ∧ (h 94 ((h 90 7))) = 40) ∨ ((h 90 8) = 0 ∧ (h 92 ((h 90 7))) = 1 ∧ (h 94 ((h 90 7))) = (h 95 (17)))); omega)
          · skip
            have f411_ : v410 = 0 := by omega
            have f415 : ¬ ((h 90 8) = 0 ∧ (h 92 ((h 90 7))) = 3 ∧ (h 94 ((h 90 7))) = (40 : Int)) := f411.2.2.2 (by omega)
            clear f411
            refine ov_blk (ls2 := [(0, ov_r 90), (1, ov_i dep), (2, ov_i j4), (5, ov_i j5)]) (st2 := [ov_i 17, ov_r 90]) (pc2 := 88) b_230_85_2 rfl rfl ?_
            refine ov_cV (as := [ov_i 17]) (st := []) (d2 := d - 1) d_230_88 lk_Mo_189 rfl (Nat.le_of_ble_eq_true rfl) (c := 1) (zb_90 I) (zs_90 I) ⟨by decide, rfl⟩ (by omega) (c_Mo_isWord_90 n (d - 1) (by omega) U I 17 (by omega) (by show 0 ≤ n ∧ n ≤ 1000 ∧ (h 92 (n)) = 0 ∧ (h 90 7) ≤ n; omega) (by omega)) ?_
            rintro _ _ _ ⟨v417, rfl, rfl, rfl, f416⟩
            show ov_R u d ov_m230 91 [(0, ov_r 90), (1, ov_i dep), (2, ov_i j4), (5, ov_i j5)] [ov_i v417] z h (P_Mo_takePart_90 F z h n dep)
            have f418 : (v417 = 0 ∨ v417 = 1) ∧ (v417 = 1 → (h 90 7) < n) ∧ (v417 = 1 → (h 90 8) = 0 ∧ (h 92 ((h 90 7))) = 1 ∧ (h 94 ((h 90 7))) = (h 95 ((17 : Int)))) ∧ (v417 = 0 → ¬ ((h 90 8) = 0 ∧ (h 92 ((h 90 7))) = 1 ∧ (h 94 ((h 90 7))) = (h 95 ((17 : Int))))) := f416
            clear f416
            refine ov_ifne (tgt := 102) d_230_91 (by decide) (by omega) (fun c419 => ?_) (fun c419 => ?_)
            · skip
              have f418_ : v417 = 1 := by omega
              have f420 : (h 90 7) < n := f418.2.1 (by omega)
              have f421 : (h 90 8) = 0 ∧ (h 92 ((h 90 7))) = 1 ∧ (h 94 ((h 90 7))) = (h 95 ((17 : Int))) := f418.2.2.1 (by omega)
              clear f418
              exact J7  (by show (0 ≤ j5 ∨ j4 = 1 ∨ ((h 90 8) = 0 ∧ (h 92 ((h 90 7))) = 3 ∧ (h 94 ((h 90 7))) = 40) ∨ ((h 90 8) = 0 ∧ (h 92 ((h 90 7))) = 1 ∧ (h 94 ((h 90 7))) = (h 95 (17)))); omega)
            · skip
              have f418_ : v417 = 0 := by omega
              have f422 : ¬ ((h 90 8) = 0 ∧ (h 92 ((h 90 7))) = 1 ∧ (h 94 ((h 90 7))) = (h 95 ((17 : Int)))) := f418.2.2.2 (by omega)
              clear f418
              refine ov_blk (ls2 := [(0, ov_r 90), (1, ov_i dep), (2, ov_i j4), (5, ov_i j5)]) (st2 := [ov_i 1, ov_r 90]) (pc2 := 96) b_230_94_2 rfl rfl ?_
              refine ov_cV (as := [ov_i 1]) (st := []) (d2 := d - 1) d_230_96 lk_Mo_186 rfl (Nat.le_of_ble_eq_true rfl) (c := 1) (zb_90 I) (zs_90 I) ⟨by decide, rfl⟩ (by omega) (c_Mo_wrong_90 (d - 1) (by omega) U I 1 (by omega) (by omega)) ?_
              rintro _ z439 h440 ⟨rfl, I441, f423, e424, e425, e426, e427, e428, e429, e430, e431, e432, e433, e434, e435, e436, e437, e438⟩
              have E442 : h440 91 = h 91 := e424
              have E443 : h440 92 = h 92 := e425
              have E444 : h440 93 = h 93 := e426
              have E445 : h440 94 = h 94 := e427
              have E446 : h440 95 = h 95 := e428
              have E447 : h440 96 = h 96 := e429
              have E448 : h440 97 = h 97 := e430
              have E449 : h440 98 = h 98 := e431
              have E450 : h440 99 = h 99 := e432
              have E451 : h440 100 = h 100 := e433
              have E452 : h440 103 = h 103 := e434
              have E453 : h440 105 = h 105 := e435
              have E454 : h440 106 = h 106 := e436
              have E455 : h440 109 = h 109 := e437
              have E456 : h440 114 = h 114 := e438
              show ov_R u d ov_m230 99 [(0, ov_r 90), (1, ov_i dep), (2, ov_i j4), (5, ov_i j5)] [] z439 h440 (P_Mo_takePart_90 F z h n dep)
              have f457 : (h440 90 2) = (h 90 2) ∧ (h440 90 7) = (h 90 7) ∧ (h440 90 13) = (h 90 13) ∧ (h440 90 20) = (h 90 20) ∧ (h440 90 22) = (h 90 22) ∧ (h440 90 25) = (h 90 25) ∧ (h440 90 26) = (h 90 26) ∧ (h440 90 28) = (h 90 28) ∧ (h440 90 29) = (h 90 29) ∧ (h440 90 30) = (h 90 30) ∧ (h440 90 34) = (h 90 34) ∧ 0 < (h440 90 8) ∧ (h 90 8) ≤ (h440 90 8) := f423
              clear f423
              refine ov_goto (tgt := 112) d_230_99 (by decide) ?_
              refine ov_blk (ls2 := [(0, ov_r 90), (1, ov_i dep), (2, ov_i j4), (5, ov_i j5)]) (st2 := [ov_r 90]) (pc2 := 113) b_230_112_1 rfl rfl ?_
              refine ov_getf (v := ov_i (h440 90 8)) d_230_113 fl_Mo_180 (zb_90 I441) (zs_90 I441) rfl ?_
              have g458 := rg_90_8 I441
              refine ov_ifle (tgt := 120) d_230_116 (by decide) (by omega) (fun c459 => ?_) (fun c459 => ?_)
              · omega
              · skip
                exact ov_retv (st := []) d_230_119 rfl ⟨rfl, I441, (by show (h440 90 2) = (h 90 2) ∧ (h440 90 20) = (h 90 20) ∧ (h440 90 22) = (h 90 22) ∧ (h440 90 25) = (h 90 25) ∧ (h440 90 26) = (h 90 26) ∧ (h440 90 28) = (h 90 28) ∧ (h440 90 29) = (h 90 29) ∧ (h440 90 30) = (h 90 30) ∧ (h440 90 34) = (h 90 34) ∧ (h 90 7) ≤ (h440 90 7) ∧ (h440 90 7) ≤ n ∧ (h 90 8) ≤ (h440 90 8) ∧ (h 90 13) ≤ (h440 90 13) ∧ (h440 90 13) - (h 90 13) ≤ (h440 90 7) - (h 90 7); omega), E442, E443, E444, E445, E446, E447, E450, E451, E452, E453, E454, E455, E456, (fun j _ => by rw [show h440 97 = h 97 from E448, show h440 98 = h 98 from E449]; exact ⟨rfl, rfl⟩), (fun e => absurd e (by show ¬ (h440 90 8) = 0; omega))⟩
    refine ov_blk (ls2 := [(0, ov_r 90), (1, ov_i dep)]) (st2 := [ov_r 90]) (pc2 := 9) b_230_8_1 rfl rfl ?_
    refine ov_getf (v := ov_r 92) d_230_9 fl_Mo_24 (zb_90 I) (zs_90 I) (congrArg ov_r (rg_90_4 I)) ?_
    refine ov_blk (ls2 := [(0, ov_r 90), (1, ov_i dep)]) (st2 := [ov_r 90, ov_r 92]) (pc2 := 13) b_230_12_1 rfl rfl ?_
    refine ov_getf (v := ov_i (h 90 7)) d_230_13 fl_Mo_177 (zb_90 I) (zs_90 I) rfl ?_
    have g460 := rg_90_7 I
    refine ov_iald d_230_16 (zb_92 I) (zs_92 I) (by omega) ?_
    have g461 := ra_92 I (h 90 7)
    refine ov_blk (ls2 := [(0, ov_r 90), (1, ov_i dep)]) (st2 := [ov_i 2, ov_i (h 92 (h 90 7))]) (pc2 := 18) b_230_17_1 rfl rfl ?_
    refine ov_icne (tgt := 25) d_230_18 (by decide) (by omega) (by omega) (fun c462 => ?_) (fun c462 => ?_)
    · skip
      refine ov_blk (ls2 := [(0, ov_r 90), (1, ov_i dep), (2, ov_i 0)]) (st2 := [ov_i 2, ov_i 10, ov_r 90]) (pc2 := 31) b_230_25_5 rfl rfl ?_
      refine ov_cV (as := [ov_i 10, ov_i 2]) (st := []) (d2 := d - 1) d_230_31 lk_Mo_202 rfl (Nat.le_of_ble_eq_true rfl) (c := 1) (zb_90 I) (zs_90 I) ⟨by decide, rfl⟩ (by omega) (c_Mo_wordHere_90 n (d - 1) (by omega) U I 10 2 (by omega) (by omega) (by show 0 ≤ n ∧ n ≤ 1000 ∧ (h 92 (n)) = 0 ∧ (h 90 7) ≤ n; omega) (by omega)) ?_
      rintro _ _ _ ⟨v464, rfl, rfl, rfl, f463⟩
      show ov_R u d ov_m230 34 [(0, ov_r 90), (1, ov_i dep), (2, ov_i 0)] [ov_i v464] z h (P_Mo_takePart_90 F z h n dep)
      have f465 : -1 ≤ v464 ∧ v464 < (2 : Int) ∧ (0 ≤ v464 → (h 90 7) < n ∧ (h 90 8) = 0) := f463
      clear f463
      refine ov_blk (ls2 := [(0, ov_r 90), (1, ov_i dep), (2, ov_i 0), (3, ov_i v464)]) (st2 := [ov_i 2, ov_i 20, ov_r 90]) (pc2 := 39) b_230_34_4 rfl rfl ?_
      refine ov_cV (as := [ov_i 20, ov_i 2]) (st := []) (d2 := d - 1) d_230_39 lk_Mo_202 rfl (Nat.le_of_ble_eq_true rfl) (c := 1) (zb_90 I) (zs_90 I) ⟨by decide, rfl⟩ (by omega) (c_Mo_wordHere_90 n (d - 1) (by omega) U I 20 2 (by omega) (by omega) (by show 0 ≤ n ∧ n ≤ 1000 ∧ (h 92 (n)) = 0 ∧ (h 90 7) ≤ n; omega) (by omega)) ?_
      rintro _ _ _ ⟨v467, rfl, rfl, rfl, f466⟩
      show ov_R u d ov_m230 42 [(0, ov_r 90), (1, ov_i dep), (2, ov_i 0), (3, ov_i v464)] [ov_i v467] z h (P_Mo_takePart_90 F z h n dep)
      have f468 : -1 ≤ v467 ∧ v467 < (2 : Int) ∧ (0 ≤ v467 → (h 90 7) < n ∧ (h 90 8) = 0) := f466
      clear f466
      refine ov_blk (ls2 := [(0, ov_r 90), (1, ov_i dep), (2, ov_i 0), (3, ov_i v464), (4, ov_i v467)]) (st2 := [ov_i v464]) (pc2 := 45) b_230_42_2 rfl rfl ?_
      refine ov_iflt (tgt := 52) d_230_45 (by decide) (by omega) (fun c469 => ?_) (fun c469 => ?_)
      · skip
        refine ov_blk (ls2 := [(0, ov_r 90), (1, ov_i dep), (2, ov_i 0), (3, ov_i v464), (4, ov_i v467)]) (st2 := [ov_i v467]) (pc2 := 54) b_230_52_1 rfl rfl ?_
        refine ov_iflt (tgt := 64) d_230_54 (by decide) (by omega) (fun c470 => ?_) (fun c470 => ?_)
        · skip
          refine ov_blk (ls2 := [(0, ov_r 90), (1, ov_i dep), (2, ov_i 0), (3, ov_i v464), (4, ov_i v467), (5, ov_i (-1))]) (st2 := []) (pc2 := 67) b_230_64_2 rfl rfl ?_
          refine ov_sub (ls2 := [(0, ov_r 90), (1, ov_i dep), (2, ov_i 0), (5, ov_i (-1))]) (List.Sublist.subset (by repeat (first | exact List.Sublist.refl _ | apply List.Sublist.cons_cons | apply List.Sublist.cons))) ?_
          exact J3 0 (-1) (by show (0 = 0 ∨ 0 = 1) ∧ (0 = 1 → (h 92 ((h 90 7))) = 2) ∧ -1 ≤ (-1) ∧ (-1) ≤ 3 ∧ (0 ≤ (-1) → (h 90 7) < n); omega)
        · skip
          refine ov_blk (ls2 := [(0, ov_r 90), (1, ov_i dep), (2, ov_i 0), (3, ov_i v464), (4, ov_i v467)]) (st2 := [ov_i (2 + v467)]) (pc2 := 61) b_230_57_3 rfl rfl ?_
          refine ov_goto (tgt := 65) d_230_61 (by decide) ?_
          refine ov_blk (ls2 := [(0, ov_r 90), (1, ov_i dep), (2, ov_i 0), (3, ov_i v464), (4, ov_i v467), (5, ov_i (2 + v467))]) (st2 := []) (pc2 := 67) b_230_65_1 rfl rfl ?_
          refine ov_sub (ls2 := [(0, ov_r 90), (1, ov_i dep), (2, ov_i 0), (5, ov_i (2 + v467))]) (List.Sublist.subset (by repeat (first | exact List.Sublist.refl _ | apply List.Sublist.cons_cons | apply List.Sublist.cons))) ?_
          exact J3 0 (2 + v467) (by show (0 = 0 ∨ 0 = 1) ∧ (0 = 1 → (h 92 ((h 90 7))) = 2) ∧ -1 ≤ (2 + v467) ∧ (2 + v467) ≤ 3 ∧ (0 ≤ (2 + v467) → (h 90 7) < n); omega)
      · skip
        refine ov_blk (ls2 := [(0, ov_r 90), (1, ov_i dep), (2, ov_i 0), (3, ov_i v464), (4, ov_i v467)]) (st2 := [ov_i v464]) (pc2 := 49) b_230_48_1 rfl rfl ?_
        refine ov_goto (tgt := 65) d_230_49 (by decide) ?_
        refine ov_blk (ls2 := [(0, ov_r 90), (1, ov_i dep), (2, ov_i 0), (3, ov_i v464), (4, ov_i v467), (5, ov_i v464)]) (st2 := []) (pc2 := 67) b_230_65_1 rfl rfl ?_
        refine ov_sub (ls2 := [(0, ov_r 90), (1, ov_i dep), (2, ov_i 0), (5, ov_i v464)]) (List.Sublist.subset (by repeat (first | exact List.Sublist.refl _ | apply List.Sublist.cons_cons | apply List.Sublist.cons))) ?_
        exact J3 0 v464 (by show (0 = 0 ∨ 0 = 1) ∧ (0 = 1 → (h 92 ((h 90 7))) = 2) ∧ -1 ≤ v464 ∧ v464 ≤ 3 ∧ (0 ≤ v464 → (h 90 7) < n); omega)
    · skip
      refine ov_blk (ls2 := [(0, ov_r 90), (1, ov_i dep)]) (st2 := [ov_i 1]) (pc2 := 22) b_230_21_1 rfl rfl ?_
      refine ov_goto (tgt := 26) d_230_22 (by decide) ?_
      refine ov_blk (ls2 := [(0, ov_r 90), (1, ov_i dep), (2, ov_i 1)]) (st2 := [ov_i 2, ov_i 10, ov_r 90]) (pc2 := 31) b_230_26_4 rfl rfl ?_
      refine ov_cV (as := [ov_i 10, ov_i 2]) (st := []) (d2 := d - 1) d_230_31 lk_Mo_202 rfl (Nat.le_of_ble_eq_true rfl) (c := 1) (zb_90 I) (zs_90 I) ⟨by decide, rfl⟩ (by omega) (c_Mo_wordHere_90 n (d - 1) (by omega) U I 10 2 (by omega) (by omega) (by show 0 ≤ n ∧ n ≤ 1000 ∧ (h 92 (n)) = 0 ∧ (h 90 7) ≤ n; omega) (by omega)) ?_
      rintro _ _ _ ⟨v472, rfl, rfl, rfl, f471⟩
      show ov_R u d ov_m230 34 [(0, ov_r 90), (1, ov_i dep), (2, ov_i 1)] [ov_i v472] z h (P_Mo_takePart_90 F z h n dep)
      have f473 : -1 ≤ v472 ∧ v472 < (2 : Int) ∧ (0 ≤ v472 → (h 90 7) < n ∧ (h 90 8) = 0) := f471
      clear f471
      refine ov_blk (ls2 := [(0, ov_r 90), (1, ov_i dep), (2, ov_i 1), (3, ov_i v472)]) (st2 := [ov_i 2, ov_i 20, ov_r 90]) (pc2 := 39) b_230_34_4 rfl rfl ?_
      refine ov_cV (as := [ov_i 20, ov_i 2]) (st := []) (d2 := d - 1) d_230_39 lk_Mo_202 rfl (Nat.le_of_ble_eq_true rfl) (c := 1) (zb_90 I) (zs_90 I) ⟨by decide, rfl⟩ (by omega) (c_Mo_wordHere_90 n (d - 1) (by omega) U I 20 2 (by omega) (by omega) (by show 0 ≤ n ∧ n ≤ 1000 ∧ (h 92 (n)) = 0 ∧ (h 90 7) ≤ n; omega) (by omega)) ?_
      rintro _ _ _ ⟨v475, rfl, rfl, rfl, f474⟩
      show ov_R u d ov_m230 42 [(0, ov_r 90), (1, ov_i dep), (2, ov_i 1), (3, ov_i v472)] [ov_i v475] z h (P_Mo_takePart_90 F z h n dep)
      have f476 : -1 ≤ v475 ∧ v475 < (2 : Int) ∧ (0 ≤ v475 → (h 90 7) < n ∧ (h 90 8) = 0) := f474
      clear f474
      refine ov_blk (ls2 := [(0, ov_r 90), (1, ov_i dep), (2, ov_i 1), (3, ov_i v472), (4, ov_i v475)]) (st2 := [ov_i v472]) (pc2 := 45) b_230_42_2 rfl rfl ?_
      refine ov_iflt (tgt := 52) d_230_45 (by decide) (by omega) (fun c477 => ?_) (fun c477 => ?_)
      · skip
        refine ov_blk (ls2 := [(0, ov_r 90), (1, ov_i dep), (2, ov_i 1), (3, ov_i v472), (4, ov_i v475)]) (st2 := [ov_i v475]) (pc2 := 54) b_230_52_1 rfl rfl ?_
        refine ov_iflt (tgt := 64) d_230_54 (by decide) (by omega) (fun c478 => ?_) (fun c478 => ?_)
        · skip
          refine ov_blk (ls2 := [(0, ov_r 90), (1, ov_i dep), (2, ov_i 1), (3, ov_i v472), (4, ov_i v475), (5, ov_i (-1))]) (st2 := []) (pc2 := 67) b_230_64_2 rfl rfl ?_
          refine ov_sub (ls2 := [(0, ov_r 90), (1, ov_i dep), (2, ov_i 1), (5, ov_i (-1))]) (List.Sublist.subset (by repeat (first | exact List.Sublist.refl _ | apply List.Sublist.cons_cons | apply List.Sublist.cons))) ?_
          exact J3 1 (-1) (by show (1 = 0 ∨ 1 = 1) ∧ (1 = 1 → (h 92 ((h 90 7))) = 2) ∧ -1 ≤ (-1) ∧ (-1) ≤ 3 ∧ (0 ≤ (-1) → (h 90 7) < n); omega)
        · skip
          refine ov_blk (ls2 := [(0, ov_r 90), (1, ov_i dep), (2, ov_i 1), (3, ov_i v472), (4, ov_i v475)]) (st2 := [ov_i (2 + v475)]) (pc2 := 61) b_230_57_3 rfl rfl ?_
          refine ov_goto (tgt := 65) d_230_61 (by decide) ?_
          refine ov_blk (ls2 := [(0, ov_r 90), (1, ov_i dep), (2, ov_i 1), (3, ov_i v472), (4, ov_i v475), (5, ov_i (2 + v475))]) (st2 := []) (pc2 := 67) b_230_65_1 rfl rfl ?_
          refine ov_sub (ls2 := [(0, ov_r 90), (1, ov_i dep), (2, ov_i 1), (5, ov_i (2 + v475))]) (List.Sublist.subset (by repeat (first | exact List.Sublist.refl _ | apply List.Sublist.cons_cons | apply List.Sublist.cons))) ?_
          exact J3 1 (2 + v475) (by show (1 = 0 ∨ 1 = 1) ∧ (1 = 1 → (h 92 ((h 90 7))) = 2) ∧ -1 ≤ (2 + v475) ∧ (2 + v475) ≤ 3 ∧ (0 ≤ (2 + v475) → (h 90 7) < n); omega)
      · skip
        refine ov_blk (ls2 := [(0, ov_r 90), (1, ov_i dep), (2, ov_i 1), (3, ov_i v472), (4, ov_i v475)]) (st2 := [ov_i v472]) (pc2 := 49) b_230_48_1 rfl rfl ?_
        refine ov_goto (tgt := 65) d_230_49 (by decide) ?_
        refine ov_blk (ls2 := [(0, ov_r 90), (1, ov_i dep), (2, ov_i 1), (3, ov_i v472), (4, ov_i v475), (5, ov_i v472)]) (st2 := []) (pc2 := 67) b_230_65_1 rfl rfl ?_
        refine ov_sub (ls2 := [(0, ov_r 90), (1, ov_i dep), (2, ov_i 1), (5, ov_i v472)]) (List.Sublist.subset (by repeat (first | exact List.Sublist.refl _ | apply List.Sublist.cons_cons | apply List.Sublist.cons))) ?_
        exact J3 1 v472 (by show (1 = 0 ∨ 1 = 1) ∧ (1 = 1 → (h 92 ((h 90 7))) = 2) ∧ -1 ≤ v472 ∧ v472 ≤ 3 ∧ (0 ≤ v472 → (h 90 7) < n); omega)
  · skip
    exact ov_retv (st := []) d_230_7 rfl ⟨rfl, I, ⟨rfl, rfl, rfl, rfl, rfl, rfl, rfl, rfl, rfl, (by show (h 90 7) ≤ (h 90 7) ∧ (h 90 7) ≤ n ∧ (h 90 8) ≤ (h 90 8) ∧ (h 90 13) ≤ (h 90 13) ∧ (h 90 13) - (h 90 13) ≤ (h 90 7) - (h 90 7); omega)⟩, rfl, rfl, rfl, rfl, rfl, rfl, rfl, rfl, rfl, rfl, rfl, rfl, rfl, (fun j _ => ⟨rfl, rfl⟩), (fun e => absurd e (by show ¬ (h 90 8) = 0; omega))⟩
set_option maxHeartbeats 4000000 in
theorem c_Mo_products_90 {u : ov_U} {F : ov_H × ov_Z} (n : Int) (k : Nat) (HE : ∀ k' : Nat, k' + 1 = k → ∀ {z : ov_Z} {h : ov_H} (d : Nat) (hd : (10 + 5 * k' + 4) ≤ d) (U : ov_cap u) (I : ov_N F z h) (dep : Int) (g_dep : ov_g dep) (p0 : 0 ≤ n ∧ n ≤ 1000 ∧ (h 92 (n)) = 0 ∧ (h 90 7) ≤ n) (p1 : 0 ≤ dep ∧ dep + (k' : Int) = 5) (p2 : (h 90 13) ≤ (h 90 7)), ov_T u d ov_m226 [ov_r 90, ov_i dep] z h (P_Mo_all_90 F z h n dep)) (HP : ∀ k' : Nat, k' + 1 = k → ∀ {z : ov_Z} {h : ov_H} (d : Nat) (hd : (10 + 5 * k' + 0) ≤ d) (U : ov_cap u) (I : ov_N F z h) (dep : Int) (g_dep : ov_g dep) (p0 : 0 ≤ n ∧ n ≤ 1000 ∧ (h 92 (n)) = 0 ∧ (h 90 7) ≤ n) (p1 : 0 ≤ dep ∧ dep + (k' : Int) = 5) (p2 : (h 90 13) ≤ (h 90 7)), ov_T u d ov_m230 [ov_r 90, ov_i dep] z h (P_Mo_takePart_90 F z h n dep)) {z : ov_Z} {h : ov_H} (d : Nat) (hd : (10 + 5 * k + 1) ≤ d) (U : ov_cap u) (I : ov_N F z h) (dep : Int) (g_dep : ov_g dep) (p0 : 0 ≤ n ∧ n ≤ 1000 ∧ (h 92 (n)) = 0 ∧ (h 90 7) ≤ n) (p1 : 0 ≤ dep ∧ dep + (k : Int) = 5) (p2 : (h 90 13) ≤ (h 90 7)) : ov_T u d ov_m229 [ov_r 90, ov_i dep] z h (P_Mo_products_90 F z h n dep) := by
  refine ov_en rfl (Nat.le_of_ble_eq_true rfl) ?_
  show ov_R u d ov_m229 0 [(0, ov_r 90), (1, ov_i dep)] [] z h (P_Mo_products_90 F z h n dep)
  have gq7 := rg_90_7 I
  refine ov_blk (ls2 := [(0, ov_r 90), (1, ov_i dep)]) (st2 := [ov_i dep, ov_r 90]) (pc2 := 2) b_229_0_2 rfl rfl ?_
  refine ov_cV (as := [ov_i dep]) (st := []) (d2 := d - 1) d_229_2 lk_Mo_269 rfl (Nat.le_of_ble_eq_true rfl) (c := 1) (zb_90 I) (zs_90 I) ⟨by decide, rfl⟩ (by omega) (c_Mo_takePart_90 n k HE HP (d - 1) (by omega) U I dep (by omega) (by show 0 ≤ n ∧ n ≤ 1000 ∧ (h 92 (n)) = 0 ∧ (h 90 7) ≤ n; omega) (by omega) (by show (h 90 13) ≤ (h 90 7); omega)) ?_
  rintro _ z17 h18 ⟨rfl, I19, f1, e2, e3, e4, e5, e6, e7, e8, e9, e10, e11, e12, e13, e14, y15, y16⟩
  have E20 : h18 91 = h 91 := e2
  have E21 : h18 92 = h 92 := e3
  have E22 : h18 93 = h 93 := e4
  have E23 : h18 94 = h 94 := e5
  have E24 : h18 95 = h 95 := e6
  have E25 : h18 96 = h 96 := e7
  have E26 : h18 99 = h 99 := e8
  have E27 : h18 100 = h 100 := e9
  have E28 : h18 103 = h 103 := e10
  have E29 : h18 105 = h 105 := e11
  have E30 : h18 106 = h 106 := e12
  have E31 : h18 109 = h 109 := e13
  have E32 : h18 114 = h 114 := e14
  show ov_R u d ov_m229 5 [(0, ov_r 90), (1, ov_i dep)] [] z17 h18 (P_Mo_products_90 F z h n dep)
  have f33 : (h18 90 2) = (h 90 2) ∧ (h18 90 20) = (h 90 20) ∧ (h18 90 22) = (h 90 22) ∧ (h18 90 25) = (h 90 25) ∧ (h18 90 26) = (h 90 26) ∧ (h18 90 28) = (h 90 28) ∧ (h18 90 29) = (h 90 29) ∧ (h18 90 30) = (h 90 30) ∧ (h18 90 34) = (h 90 34) ∧ (h 90 7) ≤ (h18 90 7) ∧ (h18 90 7) ≤ n ∧ (h 90 8) ≤ (h18 90 8) ∧ (h 90 13) ≤ (h18 90 13) ∧ (h18 90 13) - (h 90 13) ≤ (h18 90 7) - (h 90 7) := f1
  clear f1
  have y15_ : ∀ j : Int, j < 1100 + (h 90 13) → (h18 97) j = (h 97) j ∧ (h18 98) j = (h 98) j := y15
  have y16_ : (h18 90 8) = 0 → ov_sg (h18 97) (h18 98) (h 90 13) (h18 90 13) := y16
  have K34 : ∀ j : Int, j < 1100 + (h 90 13) → h18 97 j = h 97 j ∧ h18 98 j = h 98 j := fun j hj => y15_ j (by omega)
  have K35 : h18 90 8 = 0 → ov_sg (h18 97) (h18 98) (h 90 13) (h18 90 13) := fun e => by have q := y16_ e; rw [show (h 90 13) = h 90 13 by omega] at q; exact q
  have L39 : ∀ (n36 : Nat) (z40 : ov_Z) (h41 : ov_H) (I42 : ov_N F z40 h41) (E43 : h41 91 = h 91) (E44 : h41 92 = h 92) (E45 : h41 93 = h 93) (E46 : h41 94 = h 94) (E47 : h41 95 = h 95) (E48 : h41 96 = h 96) (E49 : h41 99 = h 99) (E50 : h41 100 = h 100) (E51 : h41 103 = h 103) (E52 : h41 105 = h 105) (E53 : h41 106 = h 106) (E54 : h41 109 = h 109) (E55 : h41 114 = h 114) (xa : ∀ j : Int, j < 1100 + (h 90 13) → (h41 97) j = (h 97) j ∧ (h41 98) j = (h 98) j) (xb : (h41 90 8) = 0 → ov_sg (h41 97) (h41 98) (h 90 13) (h41 90 13)) (q38 : (h 90 7) ≤ (h41 90 7) ∧ (h41 90 7) ≤ n ∧ (h 90 8) ≤ (h41 90 8) ∧ (h 90 13) ≤ (h41 90 13) ∧ (h41 90 13) - (h 90 13) ≤ (h41 90 7) - (h 90 7) ∧ (h41 90 2) = (h18 90 2) ∧ (h41 90 20) = (h18 90 20) ∧ (h41 90 22) = (h18 90 22) ∧ (h41 90 25) = (h18 90 25) ∧ (h41 90 26) = (h18 90 26) ∧ (h41 90 28) = (h18 90 28) ∧ (h41 90 29) = (h18 90 29) ∧ (h41 90 30) = (h18 90 30) ∧ (h41 90 34) = (h18 90 34)), 1000 - (h41 90 7) < (n36 : Int) → ov_R u d ov_m229 5 [(0, ov_r 90), (1, ov_i dep)] [] z40 h41 (P_Mo_products_90 F z h n dep) := by
    intro n36
    induction n36 with
    | zero =>
      intro  z40 h41 I42 E43 E44 E45 E46 E47 E48 E49 E50 E51 E52 E53 E54 E55 xa xb q38 hn56
      exact absurd hn56 (by omega)
    | succ n36 ih37 =>
      intro  z40 h41 I42 E43 E44 E45 E46 E47 E48 E49 E50 E51 E52 E53 E54 E55 xa xb q38 hn56
      refine ov_blk (ls2 := [(0, ov_r 90), (1, ov_i dep)]) (st2 := [ov_r 90]) (pc2 := 6) b_229_5_1 rfl rfl ?_
      refine ov_blk (ls2 := [(0, ov_r 90), (1, ov_i dep)]) (st2 := [ov_i 42, ov_r 90]) (pc2 := 8) b_229_6_1 rfl rfl ?_
      have cf57 : h41 92 (n) = h 92 (n) := congrFun E44 (n)
      refine ov_cV (as := [ov_i 42]) (st := []) (d2 := d - 1) d_229_8 lk_Mo_263 rfl (Nat.le_of_ble_eq_true rfl) (c := 1) (zb_90 I42) (zs_90 I42) ⟨by decide, rfl⟩ (by omega) (c_Mo_hasSign_90 n (d - 1) (by omega) U I42 42 (by omega) (by show 0 ≤ n ∧ n ≤ 1000 ∧ (h41 92 (n)) = 0 ∧ (h41 90 7) ≤ n; omega)) ?_
      rintro _ z75 h76 ⟨v59, rfl, I77, f58, e60, e61, e62, e63, e64, e65, e66, e67, e68, e69, e70, e71, e72, e73, e74⟩
      have E78 : h76 91 = h 91 := Eq.trans e60 E43
      have E79 : h76 92 = h 92 := Eq.trans e61 E44
      have E80 : h76 93 = h 93 := Eq.trans e62 E45
      have E81 : h76 94 = h 94 := Eq.trans e63 E46
      have E82 : h76 95 = h 95 := Eq.trans e64 E47
      have E83 : h76 96 = h 96 := Eq.trans e65 E48
      have E84 : h76 97 = h41 97 := e66
      have E85 : h76 98 = h41 98 := e67
      have E86 : h76 99 = h 99 := Eq.trans e68 E49
      have E87 : h76 100 = h 100 := Eq.trans e69 E50
      have E88 : h76 103 = h 103 := Eq.trans e70 E51
      have E89 : h76 105 = h 105 := Eq.trans e71 E52
      have E90 : h76 106 = h 106 := Eq.trans e72 E53
      have E91 : h76 109 = h 109 := Eq.trans e73 E54
      have E92 : h76 114 = h 114 := Eq.trans e74 E55
      show ov_R u d ov_m229 11 [(0, ov_r 90), (1, ov_i dep)] [ov_i v59] z75 h76 (P_Mo_products_90 F z h n dep)
      rw [show h41 92 = h 92 from E44] at f58
      rw [show h41 94 = h 94 from E46] at f58
      have f93 : (h76 90 2) = (h41 90 2) ∧ (h76 90 8) = (h41 90 8) ∧ (h76 90 13) = (h41 90 13) ∧ (h76 90 20) = (h41 90 20) ∧ (h76 90 22) = (h41 90 22) ∧ (h76 90 25) = (h41 90 25) ∧ (h76 90 26) = (h41 90 26) ∧ (h76 90 28) = (h41 90 28) ∧ (h76 90 29) = (h41 90 29) ∧ (h76 90 30) = (h41 90 30) ∧ (h76 90 34) = (h41 90 34) ∧ (v59 = 0 ∨ v59 = 1) ∧ (h41 90 7) ≤ (h76 90 7) ∧ (h76 90 7) ≤ n ∧ (v59 = 1 → (h76 90 7) = (h41 90 7) + 1 ∧ (h41 90 8) = 0) ∧ (v59 = 0 → (h76 90 7) = (h41 90 7)) ∧ (v59 = 1 → (h41 90 8) = 0 ∧ (h 92 ((h41 90 7))) = 3 ∧ (h 94 ((h41 90 7))) = (42 : Int)) ∧ (v59 = 0 → ¬ ((h41 90 8) = 0 ∧ (h 92 ((h41 90 7))) = 3 ∧ (h 94 ((h41 90 7))) = (42 : Int))) := f58
      clear f58
      refine ov_ifeq (tgt := 29) d_229_11 (by decide) (by omega) (fun c94 => ?_) (fun c94 => ?_)
      · skip
        have f93_ : v59 = 0 := by omega
        have f95 : (h76 90 2) = (h41 90 2) := f93.1
        have f96 : (h76 90 8) = (h41 90 8) := f93.2.1
        have f97 : (h76 90 13) = (h41 90 13) := f93.2.2.1
        have f98 : (h76 90 20) = (h41 90 20) := f93.2.2.2.1
        have f99 : (h76 90 22) = (h41 90 22) := f93.2.2.2.2.1
        have f100 : (h76 90 25) = (h41 90 25) := f93.2.2.2.2.2.1
        have f101 : (h76 90 26) = (h41 90 26) := f93.2.2.2.2.2.2.1
        have f102 : (h76 90 28) = (h41 90 28) := f93.2.2.2.2.2.2.2.1
        have f103 : (h76 90 29) = (h41 90 29) := f93.2.2.2.2.2.2.2.2.1
        have f104 : (h76 90 30) = (h41 90 30) := f93.2.2.2.2.2.2.2.2.2.1
        have f105 : (h76 90 34) = (h41 90 34) := f93.2.2.2.2.2.2.2.2.2.2.1
        have f106 : (h41 90 7) ≤ (h76 90 7) := f93.2.2.2.2.2.2.2.2.2.2.2.2.1
        have f107 : (h76 90 7) ≤ n := f93.2.2.2.2.2.2.2.2.2.2.2.2.2.1
        have f108 : (h76 90 7) = (h41 90 7) := f93.2.2.2.2.2.2.2.2.2.2.2.2.2.2.2.1 (by omega)
        have f109 : ¬ ((h41 90 8) = 0 ∧ (h 92 ((h41 90 7))) = 3 ∧ (h 94 ((h41 90 7))) = (42 : Int)) := f93.2.2.2.2.2.2.2.2.2.2.2.2.2.2.2.2.2 (by omega)
        clear f93
        exact ov_retv (st := []) d_229_29 rfl ⟨rfl, I77, (by show (h76 90 2) = (h 90 2) ∧ (h76 90 20) = (h 90 20) ∧ (h76 90 22) = (h 90 22) ∧ (h76 90 25) = (h 90 25) ∧ (h76 90 26) = (h 90 26) ∧ (h76 90 28) = (h 90 28) ∧ (h76 90 29) = (h 90 29) ∧ (h76 90 30) = (h 90 30) ∧ (h76 90 34) = (h 90 34) ∧ (h 90 7) ≤ (h76 90 7) ∧ (h76 90 7) ≤ n ∧ (h 90 8) ≤ (h76 90 8) ∧ (h 90 13) ≤ (h76 90 13) ∧ (h76 90 13) - (h 90 13) ≤ (h76 90 7) - (h 90 7); omega), E78, E79, E80, E81, E82, E83, E86, E87, E88, E89, E90, E91, E92, (by rw [show h76 97 = h41 97 from E84, show h76 98 = h41 98 from E85]; exact xa), (fun e => by have e0 : (h76 90 8) = 0 := e; show ov_sg (h76 97) (h76 98) _ (h76 90 13); rw [show h76 97 = h41 97 from E84, show h76 98 = h41 98 from E85, show (h76 90 13) = (h41 90 13) by omega]; exact xb (by omega))⟩
      · skip
        have f93_ : v59 = 1 := by omega
        have f110 : (h76 90 2) = (h41 90 2) := f93.1
        have f111 : (h76 90 8) = (h41 90 8) := f93.2.1
        have f112 : (h76 90 13) = (h41 90 13) := f93.2.2.1
        have f113 : (h76 90 20) = (h41 90 20) := f93.2.2.2.1
        have f114 : (h76 90 22) = (h41 90 22) := f93.2.2.2.2.1
        have f115 : (h76 90 25) = (h41 90 25) := f93.2.2.2.2.2.1
        have f116 : (h76 90 26) = (h41 90 26) := f93.2.2.2.2.2.2.1
        have f117 : (h76 90 28) = (h41 90 28) := f93.2.2.2.2.2.2.2.1
        have f118 : (h76 90 29) = (h41 90 29) := f93.2.2.2.2.2.2.2.2.1
        have f119 : (h76 90 30) = (h41 90 30) := f93.2.2.2.2.2.2.2.2.2.1
        have f120 : (h76 90 34) = (h41 90 34) := f93.2.2.2.2.2.2.2.2.2.2.1
        have f121 : (h41 90 7) ≤ (h76 90 7) := f93.2.2.2.2.2.2.2.2.2.2.2.2.1
        have f122 : (h76 90 7) ≤ n := f93.2.2.2.2.2.2.2.2.2.2.2.2.2.1
        have f123 : (h76 90 7) = (h41 90 7) + 1 ∧ (h41 90 8) = 0 := f93.2.2.2.2.2.2.2.2.2.2.2.2.2.2.1 (by omega)
        have f124 : (h41 90 8) = 0 ∧ (h 92 ((h41 90 7))) = 3 ∧ (h 94 ((h41 90 7))) = (42 : Int) := f93.2.2.2.2.2.2.2.2.2.2.2.2.2.2.2.2.1 (by omega)
        clear f93
        refine ov_blk (ls2 := [(0, ov_r 90), (1, ov_i dep)]) (st2 := [ov_i dep, ov_r 90]) (pc2 := 16) b_229_14_2 rfl rfl ?_
        have cf125 : h76 92 (n) = h 92 (n) := congrFun E79 (n)
        refine ov_cV (as := [ov_i dep]) (st := []) (d2 := d - 1) d_229_16 lk_Mo_269 rfl (Nat.le_of_ble_eq_true rfl) (c := 1) (zb_90 I77) (zs_90 I77) ⟨by decide, rfl⟩ (by omega) (c_Mo_takePart_90 n k HE HP (d - 1) (by omega) U I77 dep (by omega) (by show 0 ≤ n ∧ n ≤ 1000 ∧ (h76 92 (n)) = 0 ∧ (h76 90 7) ≤ n; omega) (by omega) (by show (h76 90 13) ≤ (h76 90 7); omega)) ?_
        rintro _ z142 h143 ⟨rfl, I144, f126, e127, e128, e129, e130, e131, e132, e133, e134, e135, e136, e137, e138, e139, y140, y141⟩
        have E145 : h143 91 = h 91 := Eq.trans e127 E78
        have E146 : h143 92 = h 92 := Eq.trans e128 E79
        have E147 : h143 93 = h 93 := Eq.trans e129 E80
        have E148 : h143 94 = h 94 := Eq.trans e130 E81
        have E149 : h143 95 = h 95 := Eq.trans e131 E82
        have E150 : h143 96 = h 96 := Eq.trans e132 E83
        have E151 : h143 99 = h 99 := Eq.trans e133 E86
        have E152 : h143 100 = h 100 := Eq.trans e134 E87
        have E153 : h143 103 = h 103 := Eq.trans e135 E88
        have E154 : h143 105 = h 105 := Eq.trans e136 E89
        have E155 : h143 106 = h 106 := Eq.trans e137 E90
        have E156 : h143 109 = h 109 := Eq.trans e138 E91
        have E157 : h143 114 = h 114 := Eq.trans e139 E92
        show ov_R u d ov_m229 19 [(0, ov_r 90), (1, ov_i dep)] [] z142 h143 (P_Mo_products_90 F z h n dep)
        have f158 : (h143 90 2) = (h76 90 2) ∧ (h143 90 20) = (h76 90 20) ∧ (h143 90 22) = (h76 90 22) ∧ (h143 90 25) = (h76 90 25) ∧ (h143 90 26) = (h76 90 26) ∧ (h143 90 28) = (h76 90 28) ∧ (h143 90 29) = (h76 90 29) ∧ (h143 90 30) = (h76 90 30) ∧ (h143 90 34) = (h76 90 34) ∧ (h76 90 7) ≤ (h143 90 7) ∧ (h143 90 7) ≤ n ∧ (h76 90 8) ≤ (h143 90 8) ∧ (h76 90 13) ≤ (h143 90 13) ∧ (h143 90 13) - (h76 90 13) ≤ (h143 90 7) - (h76 90 7) := f126
        clear f126
        rw [show h76 97 = h41 97 from E84] at y140
        rw [show h76 98 = h41 98 from E85] at y140
        have y140_ : ∀ j : Int, j < 1100 + (h76 90 13) → (h143 97) j = (h41 97) j ∧ (h143 98) j = (h41 98) j := y140
        have y141_ : (h143 90 8) = 0 → ov_sg (h143 97) (h143 98) (h76 90 13) (h143 90 13) := y141
        refine ov_blk (ls2 := [(0, ov_r 90), (1, ov_i dep)]) (st2 := [ov_i 0, ov_i 6, ov_r 90]) (pc2 := 23) b_229_19_3 rfl rfl ?_
        refine ov_cV (as := [ov_i 6, ov_i 0]) (st := []) (d2 := d - 1) d_229_23 lk_Mo_246 rfl (Nat.le_of_ble_eq_true rfl) (c := 1) (zb_90 I144) (zs_90 I144) ⟨by decide, rfl⟩ (by omega) (c_Mo_emit_90 (d - 1) (by omega) U I144 6 0 (by omega) (by omega) (by omega) (by show (h143 90 13) ≤ 999; omega)) ?_
        rintro _ z175 h176 ⟨rfl, I177, f159, e160, e161, e162, e163, e164, e165, e166, e167, e168, e169, e170, e171, e172, y173, y174⟩
        have E178 : h176 91 = h 91 := Eq.trans e160 E145
        have E179 : h176 92 = h 92 := Eq.trans e161 E146
        have E180 : h176 93 = h 93 := Eq.trans e162 E147
        have E181 : h176 94 = h 94 := Eq.trans e163 E148
        have E182 : h176 95 = h 95 := Eq.trans e164 E149
        have E183 : h176 96 = h 96 := Eq.trans e165 E150
        have E184 : h176 99 = h 99 := Eq.trans e166 E151
        have E185 : h176 100 = h 100 := Eq.trans e167 E152
        have E186 : h176 103 = h 103 := Eq.trans e168 E153
        have E187 : h176 105 = h 105 := Eq.trans e169 E154
        have E188 : h176 106 = h 106 := Eq.trans e170 E155
        have E189 : h176 109 = h 109 := Eq.trans e171 E156
        have E190 : h176 114 = h 114 := Eq.trans e172 E157
        show ov_R u d ov_m229 26 [(0, ov_r 90), (1, ov_i dep)] [] z175 h176 (P_Mo_products_90 F z h n dep)
        have f191 : (h176 90 2) = (h143 90 2) ∧ (h176 90 7) = (h143 90 7) ∧ (h176 90 8) = (h143 90 8) ∧ (h176 90 20) = (h143 90 20) ∧ (h176 90 22) = (h143 90 22) ∧ (h176 90 25) = (h143 90 25) ∧ (h176 90 26) = (h143 90 26) ∧ (h176 90 28) = (h143 90 28) ∧ (h176 90 29) = (h143 90 29) ∧ (h176 90 30) = (h143 90 30) ∧ (h176 90 34) = (h143 90 34) ∧ (h176 90 13) = (h143 90 13) + 1 := f159
        clear f159
        have y173_ : (h176 97) = ov_rs (h143 97) (1100 + (h143 90 13)) (6 : Int) := y173
        have y174_ : (h176 98) = ov_rs (h143 98) (1100 + (h143 90 13)) (0 : Int) := y174
        have K192 : ∀ j : Int, j < 1100 + (h 90 13) → h176 97 j = h 97 j ∧ h176 98 j = h 98 j := ov_kpe (ov_kp xa y140_ (by omega)) y173_ y174_ (by omega)
        have K193 : h176 90 8 = 0 → ov_sg (h176 97) (h176 98) (h 90 13) (h176 90 13) := fun e => by have q1 := xb (by omega); have q2 := y141_ (by omega); rw [show (h76 90 13) = (h41 90 13) by omega] at q2; have q3 := ov_sg_bin q1 (fun j hj => y140_ j (by omega)) q2 y173_ y174_ (by omega); rw [show h176 90 13 = (h143 90 13) + 1 by omega]; exact q3
        refine ov_goto (tgt := 5) d_229_26 (by decide) ?_
        exact ih37  _ _ I177 E178 E179 E180 E181 E182 E183 E184 E185 E186 E187 E188 E189 E190 K192 K193 (by show (h 90 7) ≤ (h176 90 7) ∧ (h176 90 7) ≤ n ∧ (h 90 8) ≤ (h176 90 8) ∧ (h 90 13) ≤ (h176 90 13) ∧ (h176 90 13) - (h 90 13) ≤ (h176 90 7) - (h 90 7) ∧ (h176 90 2) = (h18 90 2) ∧ (h176 90 20) = (h18 90 20) ∧ (h176 90 22) = (h18 90 22) ∧ (h176 90 25) = (h18 90 25) ∧ (h176 90 26) = (h18 90 26) ∧ (h176 90 28) = (h18 90 28) ∧ (h176 90 29) = (h18 90 29) ∧ (h176 90 30) = (h18 90 30) ∧ (h176 90 34) = (h18 90 34); omega) (by omega)
  exact L39 1001  _ _ I19 E20 E21 E22 E23 E24 E25 E26 E27 E28 E29 E30 E31 E32 K34 K35 (by show (h 90 7) ≤ (h18 90 7) ∧ (h18 90 7) ≤ n ∧ (h 90 8) ≤ (h18 90 8) ∧ (h 90 13) ≤ (h18 90 13) ∧ (h18 90 13) - (h 90 13) ≤ (h18 90 7) - (h 90 7) ∧ (h18 90 2) = (h18 90 2) ∧ (h18 90 20) = (h18 90 20) ∧ (h18 90 22) = (h18 90 22) ∧ (h18 90 25) = (h18 90 25) ∧ (h18 90 26) = (h18 90 26) ∧ (h18 90 28) = (h18 90 28) ∧ (h18 90 29) = (h18 90 29) ∧ (h18 90 30) = (h18 90 30) ∧ (h18 90 34) = (h18 90 34); omega) (by omega)
set_option maxHeartbeats 4000000 in
theorem c_Mo_sums_90 {u : ov_U} {F : ov_H × ov_Z} (n : Int) (k : Nat) (HE : ∀ k' : Nat, k' + 1 = k → ∀ {z : ov_Z} {h : ov_H} (d : Nat) (hd : (10 + 5 * k' + 4) ≤ d) (U : ov_cap u) (I : ov_N F z h) (dep : Int) (g_dep : ov_g dep) (p0 : 0 ≤ n ∧ n ≤ 1000 ∧ (h 92 (n)) = 0 ∧ (h 90 7) ≤ n) (p1 : 0 ≤ dep ∧ dep + (k' : Int) = 5) (p2 : (h 90 13) ≤ (h 90 7)), ov_T u d ov_m226 [ov_r 90, ov_i dep] z h (P_Mo_all_90 F z h n dep)) (HP : ∀ k' : Nat, k' + 1 = k → ∀ {z : ov_Z} {h : ov_H} (d : Nat) (hd : (10 + 5 * k' + 0) ≤ d) (U : ov_cap u) (I : ov_N F z h) (dep : Int) (g_dep : ov_g dep) (p0 : 0 ≤ n ∧ n ≤ 1000 ∧ (h 92 (n)) = 0 ∧ (h 90 7) ≤ n) (p1 : 0 ≤ dep ∧ dep + (k' : Int) = 5) (p2 : (h 90 13) ≤ (h 90 7)), ov_T u d ov_m230 [ov_r 90, ov_i dep] z h (P_Mo_takePart_90 F z h n dep)) {z : ov_Z} {h : ov_H} (d : Nat) (hd : (10 + 5 * k + 2) ≤ d) (U : ov_cap u) (I : ov_N F z h) (dep : Int) (g_dep : ov_g dep) (p0 : 0 ≤ n ∧ n ≤ 1000 ∧ (h 92 (n)) = 0 ∧ (h 90 7) ≤ n) (p1 : 0 ≤ dep ∧ dep + (k : Int) = 5) (p2 : (h 90 13) ≤ (h 90 7)) : ov_T u d ov_m228 [ov_r 90, ov_i dep] z h (P_Mo_sums_90 F z h n dep) := by
  refine ov_en rfl (Nat.le_of_ble_eq_true rfl) ?_
  show ov_R u d ov_m228 0 [(0, ov_r 90), (1, ov_i dep)] [] z h (P_Mo_sums_90 F z h n dep)
  have gq7 := rg_90_7 I
  refine ov_blk (ls2 := [(0, ov_r 90), (1, ov_i dep)]) (st2 := [ov_i dep, ov_r 90]) (pc2 := 2) b_228_0_2 rfl rfl ?_
  refine ov_cV (as := [ov_i dep]) (st := []) (d2 := d - 1) d_228_2 lk_Mo_266 rfl (Nat.le_of_ble_eq_true rfl) (c := 1) (zb_90 I) (zs_90 I) ⟨by decide, rfl⟩ (by omega) (c_Mo_products_90 n k HE HP (d - 1) (by omega) U I dep (by omega) (by show 0 ≤ n ∧ n ≤ 1000 ∧ (h 92 (n)) = 0 ∧ (h 90 7) ≤ n; omega) (by omega) (by show (h 90 13) ≤ (h 90 7); omega)) ?_
  rintro _ z17 h18 ⟨rfl, I19, f1, e2, e3, e4, e5, e6, e7, e8, e9, e10, e11, e12, e13, e14, y15, y16⟩
  have E20 : h18 91 = h 91 := e2
  have E21 : h18 92 = h 92 := e3
  have E22 : h18 93 = h 93 := e4
  have E23 : h18 94 = h 94 := e5
  have E24 : h18 95 = h 95 := e6
  have E25 : h18 96 = h 96 := e7
  have E26 : h18 99 = h 99 := e8
  have E27 : h18 100 = h 100 := e9
  have E28 : h18 103 = h 103 := e10
  have E29 : h18 105 = h 105 := e11
  have E30 : h18 106 = h 106 := e12
  have E31 : h18 109 = h 109 := e13
  have E32 : h18 114 = h 114 := e14
  show ov_R u d ov_m228 5 [(0, ov_r 90), (1, ov_i dep)] [] z17 h18 (P_Mo_sums_90 F z h n dep)
  have f33 : (h18 90 2) = (h 90 2) ∧ (h18 90 20) = (h 90 20) ∧ (h18 90 22) = (h 90 22) ∧ (h18 90 25) = (h 90 25) ∧ (h18 90 26) = (h 90 26) ∧ (h18 90 28) = (h 90 28) ∧ (h18 90 29) = (h 90 29) ∧ (h18 90 30) = (h 90 30) ∧ (h18 90 34) = (h 90 34) ∧ (h 90 7) ≤ (h18 90 7) ∧ (h18 90 7) ≤ n ∧ (h 90 8) ≤ (h18 90 8) ∧ (h 90 13) ≤ (h18 90 13) ∧ (h18 90 13) - (h 90 13) ≤ (h18 90 7) - (h 90 7) := f1
  clear f1
  have y15_ : ∀ j : Int, j < 1100 + (h 90 13) → (h18 97) j = (h 97) j ∧ (h18 98) j = (h 98) j := y15
  have y16_ : (h18 90 8) = 0 → ov_sg (h18 97) (h18 98) (h 90 13) (h18 90 13) := y16
  have K34 : ∀ j : Int, j < 1100 + (h 90 13) → h18 97 j = h 97 j ∧ h18 98 j = h 98 j := fun j hj => y15_ j (by omega)
  have K35 : h18 90 8 = 0 → ov_sg (h18 97) (h18 98) (h 90 13) (h18 90 13) := fun e => by have q := y16_ e; rw [show (h 90 13) = h 90 13 by omega] at q; exact q
  have L39 : ∀ (n36 : Nat) (z40 : ov_Z) (h41 : ov_H) (I42 : ov_N F z40 h41) (E43 : h41 91 = h 91) (E44 : h41 92 = h 92) (E45 : h41 93 = h 93) (E46 : h41 94 = h 94) (E47 : h41 95 = h 95) (E48 : h41 96 = h 96) (E49 : h41 99 = h 99) (E50 : h41 100 = h 100) (E51 : h41 103 = h 103) (E52 : h41 105 = h 105) (E53 : h41 106 = h 106) (E54 : h41 109 = h 109) (E55 : h41 114 = h 114) (xa : ∀ j : Int, j < 1100 + (h 90 13) → (h41 97) j = (h 97) j ∧ (h41 98) j = (h 98) j) (xb : (h41 90 8) = 0 → ov_sg (h41 97) (h41 98) (h 90 13) (h41 90 13)) (q38 : (h 90 7) ≤ (h41 90 7) ∧ (h41 90 7) ≤ n ∧ (h 90 8) ≤ (h41 90 8) ∧ (h 90 13) ≤ (h41 90 13) ∧ (h41 90 13) - (h 90 13) ≤ (h41 90 7) - (h 90 7) ∧ (h41 90 2) = (h18 90 2) ∧ (h41 90 20) = (h18 90 20) ∧ (h41 90 22) = (h18 90 22) ∧ (h41 90 25) = (h18 90 25) ∧ (h41 90 26) = (h18 90 26) ∧ (h41 90 28) = (h18 90 28) ∧ (h41 90 29) = (h18 90 29) ∧ (h41 90 30) = (h18 90 30) ∧ (h41 90 34) = (h18 90 34)), 1000 - (h41 90 7) < (n36 : Int) → ov_R u d ov_m228 5 [(0, ov_r 90), (1, ov_i dep)] [] z40 h41 (P_Mo_sums_90 F z h n dep) := by
    intro n36
    induction n36 with
    | zero =>
      intro  z40 h41 I42 E43 E44 E45 E46 E47 E48 E49 E50 E51 E52 E53 E54 E55 xa xb q38 hn56
      exact absurd hn56 (by omega)
    | succ n36 ih37 =>
      intro  z40 h41 I42 E43 E44 E45 E46 E47 E48 E49 E50 E51 E52 E53 E54 E55 xa xb q38 hn56
      refine ov_blk (ls2 := [(0, ov_r 90), (1, ov_i dep)]) (st2 := [ov_r 90]) (pc2 := 6) b_228_5_1 rfl rfl ?_
      refine ov_blk (ls2 := [(0, ov_r 90), (1, ov_i dep)]) (st2 := [ov_i 43, ov_r 90]) (pc2 := 8) b_228_6_1 rfl rfl ?_
      have cf57 : h41 92 (n) = h 92 (n) := congrFun E44 (n)
      refine ov_cV (as := [ov_i 43]) (st := []) (d2 := d - 1) d_228_8 lk_Mo_183 rfl (Nat.le_of_ble_eq_true rfl) (c := 1) (zb_90 I42) (zs_90 I42) ⟨by decide, rfl⟩ (by omega) (c_Mo_isSign_90 n (d - 1) (by omega) U I42 43 (by omega) (by show 0 ≤ n ∧ n ≤ 1000 ∧ (h41 92 (n)) = 0 ∧ (h41 90 7) ≤ n; omega)) ?_
      rintro _ _ _ ⟨v59, rfl, rfl, rfl, f58⟩
      show ov_R u d ov_m228 11 [(0, ov_r 90), (1, ov_i dep)] [ov_i v59] z40 h41 (P_Mo_sums_90 F z h n dep)
      rw [show h41 92 = h 92 from E44] at f58
      rw [show h41 94 = h 94 from E46] at f58
      have f60 : (v59 = 0 ∨ v59 = 1) ∧ (v59 = 1 → (h41 90 7) < n) ∧ (v59 = 1 → (h41 90 8) = 0 ∧ (h 92 ((h41 90 7))) = 3 ∧ (h 94 ((h41 90 7))) = (43 : Int)) ∧ (v59 = 0 → ¬ ((h41 90 8) = 0 ∧ (h 92 ((h41 90 7))) = 3 ∧ (h 94 ((h41 90 7))) = (43 : Int))) := f58
      clear f58
      refine ov_ifne (tgt := 23) d_228_11 (by decide) (by omega) (fun c61 => ?_) (fun c61 => ?_)
      · skip
        have f60_ : v59 = 1 := by omega
        have f62 : (h41 90 7) < n := f60.2.1 (by omega)
        have f63 : (h41 90 8) = 0 ∧ (h 92 ((h41 90 7))) = 3 ∧ (h 94 ((h41 90 7))) = (43 : Int) := f60.2.2.1 (by omega)
        clear f60
        refine ov_blk (ls2 := [(0, ov_r 90), (1, ov_i dep)]) (st2 := [ov_i 43, ov_r 90]) (pc2 := 26) b_228_23_2 rfl rfl ?_
        have cf64 : h41 92 (n) = h 92 (n) := congrFun E44 (n)
        refine ov_cV (as := [ov_i 43]) (st := []) (d2 := d - 1) d_228_26 lk_Mo_183 rfl (Nat.le_of_ble_eq_true rfl) (c := 1) (zb_90 I42) (zs_90 I42) ⟨by decide, rfl⟩ (by omega) (c_Mo_isSign_90 n (d - 1) (by omega) U I42 43 (by omega) (by show 0 ≤ n ∧ n ≤ 1000 ∧ (h41 92 (n)) = 0 ∧ (h41 90 7) ≤ n; omega)) ?_
        rintro _ _ _ ⟨v66, rfl, rfl, rfl, f65⟩
        show ov_R u d ov_m228 29 [(0, ov_r 90), (1, ov_i dep)] [ov_i v66] z40 h41 (P_Mo_sums_90 F z h n dep)
        rw [show h41 92 = h 92 from E44] at f65
        rw [show h41 94 = h 94 from E46] at f65
        have f67 : (v66 = 0 ∨ v66 = 1) ∧ (v66 = 1 → (h41 90 7) < n) ∧ (v66 = 1 → (h41 90 8) = 0 ∧ (h 92 ((h41 90 7))) = 3 ∧ (h 94 ((h41 90 7))) = (43 : Int)) ∧ (v66 = 0 → ¬ ((h41 90 8) = 0 ∧ (h 92 ((h41 90 7))) = 3 ∧ (h 94 ((h41 90 7))) = (43 : Int))) := f65
        clear f65
        refine ov_blk (ls2 := [(0, ov_r 90), (1, ov_i dep), (2, ov_i v66)]) (st2 := [ov_r 90, ov_r 90]) (pc2 := 32) b_228_29_3 rfl rfl ?_
        refine ov_getf (v := ov_i (h41 90 7)) d_228_32 fl_Mo_177 (zb_90 I42) (zs_90 I42) rfl ?_
        have g68 := rg_90_7 I42
        refine ov_blk (ls2 := [(0, ov_r 90), (1, ov_i dep), (2, ov_i v66)]) (st2 := [ov_i ((h41 90 7) + 1), ov_r 90]) (pc2 := 37) b_228_35_2 rfl rfl ?_
        refine ov_putf (x := ((h41 90 7) + 1)) d_228_37 fl_Mo_177 (zb_90 I42) (zs_90 I42) rfl nk_0 rfl ?_
        have I69 := up_90_7 (x := ((h41 90 7) + 1)) I42 (by omega)
        refine ov_blk (ls2 := [(0, ov_r 90), (1, ov_i dep), (2, ov_i v66)]) (st2 := [ov_i dep, ov_r 90]) (pc2 := 42) b_228_40_2 rfl rfl ?_
        have cf70 : h41 92 (n) = h 92 (n) := congrFun E44 (n)
        refine ov_cV (as := [ov_i dep]) (st := []) (d2 := d - 1) d_228_42 lk_Mo_266 rfl (Nat.le_of_ble_eq_true rfl) (c := 1) (zb_90 I69) (zs_90 I69) ⟨by decide, rfl⟩ (by omega) (c_Mo_products_90 n k HE HP (d - 1) (by omega) U I69 dep (by omega) (by show 0 ≤ n ∧ n ≤ 1000 ∧ (h41 92 (n)) = 0 ∧ ((h41 90 7) + 1) ≤ n; omega) (by omega) (by show (h41 90 13) ≤ ((h41 90 7) + 1); omega)) ?_
        rintro _ z87 h88 ⟨rfl, I89, f71, e72, e73, e74, e75, e76, e77, e78, e79, e80, e81, e82, e83, e84, y85, y86⟩
        have E90 : h88 91 = h 91 := Eq.trans e72 E43
        have E91 : h88 92 = h 92 := Eq.trans e73 E44
        have E92 : h88 93 = h 93 := Eq.trans e74 E45
        have E93 : h88 94 = h 94 := Eq.trans e75 E46
        have E94 : h88 95 = h 95 := Eq.trans e76 E47
        have E95 : h88 96 = h 96 := Eq.trans e77 E48
        have E96 : h88 99 = h 99 := Eq.trans e78 E49
        have E97 : h88 100 = h 100 := Eq.trans e79 E50
        have E98 : h88 103 = h 103 := Eq.trans e80 E51
        have E99 : h88 105 = h 105 := Eq.trans e81 E52
        have E100 : h88 106 = h 106 := Eq.trans e82 E53
        have E101 : h88 109 = h 109 := Eq.trans e83 E54
        have E102 : h88 114 = h 114 := Eq.trans e84 E55
        show ov_R u d ov_m228 45 [(0, ov_r 90), (1, ov_i dep), (2, ov_i v66)] [] z87 h88 (P_Mo_sums_90 F z h n dep)
        have f103 : (h88 90 2) = (h41 90 2) ∧ (h88 90 20) = (h41 90 20) ∧ (h88 90 22) = (h41 90 22) ∧ (h88 90 25) = (h41 90 25) ∧ (h88 90 26) = (h41 90 26) ∧ (h88 90 28) = (h41 90 28) ∧ (h88 90 29) = (h41 90 29) ∧ (h88 90 30) = (h41 90 30) ∧ (h88 90 34) = (h41 90 34) ∧ ((h41 90 7) + 1) ≤ (h88 90 7) ∧ (h88 90 7) ≤ n ∧ (h41 90 8) ≤ (h88 90 8) ∧ (h41 90 13) ≤ (h88 90 13) ∧ (h88 90 13) - (h41 90 13) ≤ (h88 90 7) - ((h41 90 7) + 1) := f71
        clear f71
        have y85_ : ∀ j : Int, j < 1100 + (h41 90 13) → (h88 97) j = (h41 97) j ∧ (h88 98) j = (h41 98) j := y85
        have y86_ : (h88 90 8) = 0 → ov_sg (h88 97) (h88 98) (h41 90 13) (h88 90 13) := y86
        refine ov_blk (ls2 := [(0, ov_r 90), (1, ov_i dep), (2, ov_i v66)]) (st2 := [ov_i v66, ov_r 90]) (pc2 := 47) b_228_45_2 rfl rfl ?_
        refine ov_ifeq (tgt := 54) d_228_47 (by decide) (by omega) (fun c104 => ?_) (fun c104 => ?_)
        · skip
          have f67_ : v66 = 0 := by omega
          have f105 : ¬ ((h41 90 8) = 0 ∧ (h 92 ((h41 90 7))) = 3 ∧ (h 94 ((h41 90 7))) = (43 : Int)) := f67.2.2.2 (by omega)
          clear f67
          refine ov_blk (ls2 := [(0, ov_r 90), (1, ov_i dep), (2, ov_i v66)]) (st2 := [ov_i 0, ov_i 5, ov_r 90]) (pc2 := 56) b_228_54_2 rfl rfl ?_
          refine ov_cV (as := [ov_i 5, ov_i 0]) (st := []) (d2 := d - 1) d_228_56 lk_Mo_246 rfl (Nat.le_of_ble_eq_true rfl) (c := 1) (zb_90 I89) (zs_90 I89) ⟨by decide, rfl⟩ (by omega) (c_Mo_emit_90 (d - 1) (by omega) U I89 5 0 (by omega) (by omega) (by omega) (by show (h88 90 13) ≤ 999; omega)) ?_
          rintro _ z122 h123 ⟨rfl, I124, f106, e107, e108, e109, e110, e111, e112, e113, e114, e115, e116, e117, e118, e119, y120, y121⟩
          have E125 : h123 91 = h 91 := Eq.trans e107 E90
          have E126 : h123 92 = h 92 := Eq.trans e108 E91
          have E127 : h123 93 = h 93 := Eq.trans e109 E92
          have E128 : h123 94 = h 94 := Eq.trans e110 E93
          have E129 : h123 95 = h 95 := Eq.trans e111 E94
          have E130 : h123 96 = h 96 := Eq.trans e112 E95
          have E131 : h123 99 = h 99 := Eq.trans e113 E96
          have E132 : h123 100 = h 100 := Eq.trans e114 E97
          have E133 : h123 103 = h 103 := Eq.trans e115 E98
          have E134 : h123 105 = h 105 := Eq.trans e116 E99
          have E135 : h123 106 = h 106 := Eq.trans e117 E100
          have E136 : h123 109 = h 109 := Eq.trans e118 E101
          have E137 : h123 114 = h 114 := Eq.trans e119 E102
          show ov_R u d ov_m228 59 [(0, ov_r 90), (1, ov_i dep), (2, ov_i v66)] [] z122 h123 (P_Mo_sums_90 F z h n dep)
          have f138 : (h123 90 2) = (h88 90 2) ∧ (h123 90 7) = (h88 90 7) ∧ (h123 90 8) = (h88 90 8) ∧ (h123 90 20) = (h88 90 20) ∧ (h123 90 22) = (h88 90 22) ∧ (h123 90 25) = (h88 90 25) ∧ (h123 90 26) = (h88 90 26) ∧ (h123 90 28) = (h88 90 28) ∧ (h123 90 29) = (h88 90 29) ∧ (h123 90 30) = (h88 90 30) ∧ (h123 90 34) = (h88 90 34) ∧ (h123 90 13) = (h88 90 13) + 1 := f106
          clear f106
          have y120_ : (h123 97) = ov_rs (h88 97) (1100 + (h88 90 13)) (5 : Int) := y120
          have y121_ : (h123 98) = ov_rs (h88 98) (1100 + (h88 90 13)) (0 : Int) := y121
          have K139 : ∀ j : Int, j < 1100 + (h 90 13) → h123 97 j = h 97 j ∧ h123 98 j = h 98 j := ov_kpe (ov_kp xa y85_ (by omega)) y120_ y121_ (by omega)
          have K140 : h123 90 8 = 0 → ov_sg (h123 97) (h123 98) (h 90 13) (h123 90 13) := fun e => by have q1 := xb (by omega); have q2 := y86_ (by omega); rw [show (h41 90 13) = (h41 90 13) by omega] at q2; have q3 := ov_sg_bin q1 (fun j hj => y85_ j (by omega)) q2 y120_ y121_ (by omega); rw [show h123 90 13 = (h88 90 13) + 1 by omega]; exact q3
          refine ov_goto (tgt := 5) d_228_59 (by decide) ?_
          refine ov_sub (ls2 := [(0, ov_r 90), (1, ov_i dep)]) (List.Sublist.subset (by repeat (first | exact List.Sublist.refl _ | apply List.Sublist.cons_cons | apply List.Sublist.cons))) ?_
          exact ih37  _ _ I124 E125 E126 E127 E128 E129 E130 E131 E132 E133 E134 E135 E136 E137 K139 K140 (by show (h 90 7) ≤ (h123 90 7) ∧ (h123 90 7) ≤ n ∧ (h 90 8) ≤ (h123 90 8) ∧ (h 90 13) ≤ (h123 90 13) ∧ (h123 90 13) - (h 90 13) ≤ (h123 90 7) - (h 90 7) ∧ (h123 90 2) = (h18 90 2) ∧ (h123 90 20) = (h18 90 20) ∧ (h123 90 22) = (h18 90 22) ∧ (h123 90 25) = (h18 90 25) ∧ (h123 90 26) = (h18 90 26) ∧ (h123 90 28) = (h18 90 28) ∧ (h123 90 29) = (h18 90 29) ∧ (h123 90 30) = (h18 90 30) ∧ (h123 90 34) = (h18 90 34); omega) (by omega)
        · skip
          have f67_ : v66 = 1 := by omega
          have f141 : (h41 90 7) < n := f67.2.1 (by omega)
          have f142 : (h41 90 8) = 0 ∧ (h 92 ((h41 90 7))) = 3 ∧ (h 94 ((h41 90 7))) = (43 : Int) := f67.2.2.1 (by omega)
          clear f67
          refine ov_blk (ls2 := [(0, ov_r 90), (1, ov_i dep), (2, ov_i v66)]) (st2 := [ov_i 4, ov_r 90]) (pc2 := 51) b_228_50_1 rfl rfl ?_
          refine ov_goto (tgt := 55) d_228_51 (by decide) ?_
          refine ov_blk (ls2 := [(0, ov_r 90), (1, ov_i dep), (2, ov_i v66)]) (st2 := [ov_i 0, ov_i 4, ov_r 90]) (pc2 := 56) b_228_55_1 rfl rfl ?_
          refine ov_cV (as := [ov_i 4, ov_i 0]) (st := []) (d2 := d - 1) d_228_56 lk_Mo_246 rfl (Nat.le_of_ble_eq_true rfl) (c := 1) (zb_90 I89) (zs_90 I89) ⟨by decide, rfl⟩ (by omega) (c_Mo_emit_90 (d - 1) (by omega) U I89 4 0 (by omega) (by omega) (by omega) (by show (h88 90 13) ≤ 999; omega)) ?_
          rintro _ z159 h160 ⟨rfl, I161, f143, e144, e145, e146, e147, e148, e149, e150, e151, e152, e153, e154, e155, e156, y157, y158⟩
          have E162 : h160 91 = h 91 := Eq.trans e144 E90
          have E163 : h160 92 = h 92 := Eq.trans e145 E91
          have E164 : h160 93 = h 93 := Eq.trans e146 E92
          have E165 : h160 94 = h 94 := Eq.trans e147 E93
          have E166 : h160 95 = h 95 := Eq.trans e148 E94
          have E167 : h160 96 = h 96 := Eq.trans e149 E95
          have E168 : h160 99 = h 99 := Eq.trans e150 E96
          have E169 : h160 100 = h 100 := Eq.trans e151 E97
          have E170 : h160 103 = h 103 := Eq.trans e152 E98
          have E171 : h160 105 = h 105 := Eq.trans e153 E99
          have E172 : h160 106 = h 106 := Eq.trans e154 E100
          have E173 : h160 109 = h 109 := Eq.trans e155 E101
          have E174 : h160 114 = h 114 := Eq.trans e156 E102
          show ov_R u d ov_m228 59 [(0, ov_r 90), (1, ov_i dep), (2, ov_i v66)] [] z159 h160 (P_Mo_sums_90 F z h n dep)
          have f175 : (h160 90 2) = (h88 90 2) ∧ (h160 90 7) = (h88 90 7) ∧ (h160 90 8) = (h88 90 8) ∧ (h160 90 20) = (h88 90 20) ∧ (h160 90 22) = (h88 90 22) ∧ (h160 90 25) = (h88 90 25) ∧ (h160 90 26) = (h88 90 26) ∧ (h160 90 28) = (h88 90 28) ∧ (h160 90 29) = (h88 90 29) ∧ (h160 90 30) = (h88 90 30) ∧ (h160 90 34) = (h88 90 34) ∧ (h160 90 13) = (h88 90 13) + 1 := f143
          clear f143
          have y157_ : (h160 97) = ov_rs (h88 97) (1100 + (h88 90 13)) (4 : Int) := y157
          have y158_ : (h160 98) = ov_rs (h88 98) (1100 + (h88 90 13)) (0 : Int) := y158
          have K176 : ∀ j : Int, j < 1100 + (h 90 13) → h160 97 j = h 97 j ∧ h160 98 j = h 98 j := ov_kpe (ov_kp xa y85_ (by omega)) y157_ y158_ (by omega)
          have K177 : h160 90 8 = 0 → ov_sg (h160 97) (h160 98) (h 90 13) (h160 90 13) := fun e => by have q1 := xb (by omega); have q2 := y86_ (by omega); rw [show (h41 90 13) = (h41 90 13) by omega] at q2; have q3 := ov_sg_bin q1 (fun j hj => y85_ j (by omega)) q2 y157_ y158_ (by omega); rw [show h160 90 13 = (h88 90 13) + 1 by omega]; exact q3
          refine ov_goto (tgt := 5) d_228_59 (by decide) ?_
          refine ov_sub (ls2 := [(0, ov_r 90), (1, ov_i dep)]) (List.Sublist.subset (by repeat (first | exact List.Sublist.refl _ | apply List.Sublist.cons_cons | apply List.Sublist.cons))) ?_
          exact ih37  _ _ I161 E162 E163 E164 E165 E166 E167 E168 E169 E170 E171 E172 E173 E174 K176 K177 (by show (h 90 7) ≤ (h160 90 7) ∧ (h160 90 7) ≤ n ∧ (h 90 8) ≤ (h160 90 8) ∧ (h 90 13) ≤ (h160 90 13) ∧ (h160 90 13) - (h 90 13) ≤ (h160 90 7) - (h 90 7) ∧ (h160 90 2) = (h18 90 2) ∧ (h160 90 20) = (h18 90 20) ∧ (h160 90 22) = (h18 90 22) ∧ (h160 90 25) = (h18 90 25) ∧ (h160 90 26) = (h18 90 26) ∧ (h160 90 28) = (h18 90 28) ∧ (h160 90 29) = (h18 90 29) ∧ (h160 90 30) = (h18 90 30) ∧ (h160 90 34) = (h18 90 34); omega) (by omega)
      · skip
        have f60_ : v59 = 0 := by omega
        have f178 : ¬ ((h41 90 8) = 0 ∧ (h 92 ((h41 90 7))) = 3 ∧ (h 94 ((h41 90 7))) = (43 : Int)) := f60.2.2.2 (by omega)
        clear f60
        refine ov_blk (ls2 := [(0, ov_r 90), (1, ov_i dep)]) (st2 := [ov_i 45, ov_r 90]) (pc2 := 17) b_228_14_2 rfl rfl ?_
        have cf179 : h41 92 (n) = h 92 (n) := congrFun E44 (n)
        refine ov_cV (as := [ov_i 45]) (st := []) (d2 := d - 1) d_228_17 lk_Mo_183 rfl (Nat.le_of_ble_eq_true rfl) (c := 1) (zb_90 I42) (zs_90 I42) ⟨by decide, rfl⟩ (by omega) (c_Mo_isSign_90 n (d - 1) (by omega) U I42 45 (by omega) (by show 0 ≤ n ∧ n ≤ 1000 ∧ (h41 92 (n)) = 0 ∧ (h41 90 7) ≤ n; omega)) ?_
        rintro _ _ _ ⟨v181, rfl, rfl, rfl, f180⟩
        show ov_R u d ov_m228 20 [(0, ov_r 90), (1, ov_i dep)] [ov_i v181] z40 h41 (P_Mo_sums_90 F z h n dep)
        rw [show h41 92 = h 92 from E44] at f180
        rw [show h41 94 = h 94 from E46] at f180
        have f182 : (v181 = 0 ∨ v181 = 1) ∧ (v181 = 1 → (h41 90 7) < n) ∧ (v181 = 1 → (h41 90 8) = 0 ∧ (h 92 ((h41 90 7))) = 3 ∧ (h 94 ((h41 90 7))) = (45 : Int)) ∧ (v181 = 0 → ¬ ((h41 90 8) = 0 ∧ (h 92 ((h41 90 7))) = 3 ∧ (h 94 ((h41 90 7))) = (45 : Int))) := f180
        clear f180
        refine ov_ifeq (tgt := 62) d_228_20 (by decide) (by omega) (fun c183 => ?_) (fun c183 => ?_)
        · skip
          have f182_ : v181 = 0 := by omega
          have f184 : ¬ ((h41 90 8) = 0 ∧ (h 92 ((h41 90 7))) = 3 ∧ (h 94 ((h41 90 7))) = (45 : Int)) := f182.2.2.2 (by omega)
          clear f182
          exact ov_retv (st := []) d_228_62 rfl ⟨rfl, I42, (by show (h41 90 2) = (h 90 2) ∧ (h41 90 20) = (h 90 20) ∧ (h41 90 22) = (h 90 22) ∧ (h41 90 25) = (h 90 25) ∧ (h41 90 26) = (h 90 26) ∧ (h41 90 28) = (h 90 28) ∧ (h41 90 29) = (h 90 29) ∧ (h41 90 30) = (h 90 30) ∧ (h41 90 34) = (h 90 34) ∧ (h 90 7) ≤ (h41 90 7) ∧ (h41 90 7) ≤ n ∧ (h 90 8) ≤ (h41 90 8) ∧ (h 90 13) ≤ (h41 90 13) ∧ (h41 90 13) - (h 90 13) ≤ (h41 90 7) - (h 90 7); omega), E43, E44, E45, E46, E47, E48, E49, E50, E51, E52, E53, E54, E55, xa, (fun e => by have e0 : (h41 90 8) = 0 := e; show ov_sg (h41 97) (h41 98) _ (h41 90 13); rw [show (h41 90 13) = (h41 90 13) by omega]; exact xb (by omega))⟩
        · skip
          have f182_ : v181 = 1 := by omega
          have f185 : (h41 90 7) < n := f182.2.1 (by omega)
          have f186 : (h41 90 8) = 0 ∧ (h 92 ((h41 90 7))) = 3 ∧ (h 94 ((h41 90 7))) = (45 : Int) := f182.2.2.1 (by omega)
          clear f182
          refine ov_blk (ls2 := [(0, ov_r 90), (1, ov_i dep)]) (st2 := [ov_i 43, ov_r 90]) (pc2 := 26) b_228_23_2 rfl rfl ?_
          have cf187 : h41 92 (n) = h 92 (n) := congrFun E44 (n)
          refine ov_cV (as := [ov_i 43]) (st := []) (d2 := d - 1) d_228_26 lk_Mo_183 rfl (Nat.le_of_ble_eq_true rfl) (c := 1) (zb_90 I42) (zs_90 I42) ⟨by decide, rfl⟩ (by omega) (c_Mo_isSign_90 n (d - 1) (by omega) U I42 43 (by omega) (by show 0 ≤ n ∧ n ≤ 1000 ∧ (h41 92 (n)) = 0 ∧ (h41 90 7) ≤ n; omega)) ?_
          rintro _ _ _ ⟨v189, rfl, rfl, rfl, f188⟩
          show ov_R u d ov_m228 29 [(0, ov_r 90), (1, ov_i dep)] [ov_i v189] z40 h41 (P_Mo_sums_90 F z h n dep)
          rw [show h41 92 = h 92 from E44] at f188
          rw [show h41 94 = h 94 from E46] at f188
          have f190 : (v189 = 0 ∨ v189 = 1) ∧ (v189 = 1 → (h41 90 7) < n) ∧ (v189 = 1 → (h41 90 8) = 0 ∧ (h 92 ((h41 90 7))) = 3 ∧ (h 94 ((h41 90 7))) = (43 : Int)) ∧ (v189 = 0 → ¬ ((h41 90 8) = 0 ∧ (h 92 ((h41 90 7))) = 3 ∧ (h 94 ((h41 90 7))) = (43 : Int))) := f188
          clear f188
          refine ov_blk (ls2 := [(0, ov_r 90), (1, ov_i dep), (2, ov_i v189)]) (st2 := [ov_r 90, ov_r 90]) (pc2 := 32) b_228_29_3 rfl rfl ?_
          refine ov_getf (v := ov_i (h41 90 7)) d_228_32 fl_Mo_177 (zb_90 I42) (zs_90 I42) rfl ?_
          have g191 := rg_90_7 I42
          refine ov_blk (ls2 := [(0, ov_r 90), (1, ov_i dep), (2, ov_i v189)]) (st2 := [ov_i ((h41 90 7) + 1), ov_r 90]) (pc2 := 37) b_228_35_2 rfl rfl ?_
          refine ov_putf (x := ((h41 90 7) + 1)) d_228_37 fl_Mo_177 (zb_90 I42) (zs_90 I42) rfl nk_0 rfl ?_
          have I192 := up_90_7 (x := ((h41 90 7) + 1)) I42 (by omega)
          refine ov_blk (ls2 := [(0, ov_r 90), (1, ov_i dep), (2, ov_i v189)]) (st2 := [ov_i dep, ov_r 90]) (pc2 := 42) b_228_40_2 rfl rfl ?_
          have cf193 : h41 92 (n) = h 92 (n) := congrFun E44 (n)
          refine ov_cV (as := [ov_i dep]) (st := []) (d2 := d - 1) d_228_42 lk_Mo_266 rfl (Nat.le_of_ble_eq_true rfl) (c := 1) (zb_90 I192) (zs_90 I192) ⟨by decide, rfl⟩ (by omega) (c_Mo_products_90 n k HE HP (d - 1) (by omega) U I192 dep (by omega) (by show 0 ≤ n ∧ n ≤ 1000 ∧ (h41 92 (n)) = 0 ∧ ((h41 90 7) + 1) ≤ n; omega) (by omega) (by show (h41 90 13) ≤ ((h41 90 7) + 1); omega)) ?_
          rintro _ z210 h211 ⟨rfl, I212, f194, e195, e196, e197, e198, e199, e200, e201, e202, e203, e204, e205, e206, e207, y208, y209⟩
          have E213 : h211 91 = h 91 := Eq.trans e195 E43
          have E214 : h211 92 = h 92 := Eq.trans e196 E44
          have E215 : h211 93 = h 93 := Eq.trans e197 E45
          have E216 : h211 94 = h 94 := Eq.trans e198 E46
          have E217 : h211 95 = h 95 := Eq.trans e199 E47
          have E218 : h211 96 = h 96 := Eq.trans e200 E48
          have E219 : h211 99 = h 99 := Eq.trans e201 E49
          have E220 : h211 100 = h 100 := Eq.trans e202 E50
          have E221 : h211 103 = h 103 := Eq.trans e203 E51
          have E222 : h211 105 = h 105 := Eq.trans e204 E52
          have E223 : h211 106 = h 106 := Eq.trans e205 E53
          have E224 : h211 109 = h 109 := Eq.trans e206 E54
          have E225 : h211 114 = h 114 := Eq.trans e207 E55
          show ov_R u d ov_m228 45 [(0, ov_r 90), (1, ov_i dep), (2, ov_i v189)] [] z210 h211 (P_Mo_sums_90 F z h n dep)
          have f226 : (h211 90 2) = (h41 90 2) ∧ (h211 90 20) = (h41 90 20) ∧ (h211 90 22) = (h41 90 22) ∧ (h211 90 25) = (h41 90 25) ∧ (h211 90 26) = (h41 90 26) ∧ (h211 90 28) = (h41 90 28) ∧ (h211 90 29) = (h41 90 29) ∧ (h211 90 30) = (h41 90 30) ∧ (h211 90 34) = (h41 90 34) ∧ ((h41 90 7) + 1) ≤ (h211 90 7) ∧ (h211 90 7) ≤ n ∧ (h41 90 8) ≤ (h211 90 8) ∧ (h41 90 13) ≤ (h211 90 13) ∧ (h211 90 13) - (h41 90 13) ≤ (h211 90 7) - ((h41 90 7) + 1) := f194
          clear f194
          have y208_ : ∀ j : Int, j < 1100 + (h41 90 13) → (h211 97) j = (h41 97) j ∧ (h211 98) j = (h41 98) j := y208
          have y209_ : (h211 90 8) = 0 → ov_sg (h211 97) (h211 98) (h41 90 13) (h211 90 13) := y209
          refine ov_blk (ls2 := [(0, ov_r 90), (1, ov_i dep), (2, ov_i v189)]) (st2 := [ov_i v189, ov_r 90]) (pc2 := 47) b_228_45_2 rfl rfl ?_
          refine ov_ifeq (tgt := 54) d_228_47 (by decide) (by omega) (fun c227 => ?_) (fun c227 => ?_)
          · skip
            have f190_ : v189 = 0 := by omega
            have f228 : ¬ ((h41 90 8) = 0 ∧ (h 92 ((h41 90 7))) = 3 ∧ (h 94 ((h41 90 7))) = (43 : Int)) := f190.2.2.2 (by omega)
            clear f190
            refine ov_blk (ls2 := [(0, ov_r 90), (1, ov_i dep), (2, ov_i v189)]) (st2 := [ov_i 0, ov_i 5, ov_r 90]) (pc2 := 56) b_228_54_2 rfl rfl ?_
            refine ov_cV (as := [ov_i 5, ov_i 0]) (st := []) (d2 := d - 1) d_228_56 lk_Mo_246 rfl (Nat.le_of_ble_eq_true rfl) (c := 1) (zb_90 I212) (zs_90 I212) ⟨by decide, rfl⟩ (by omega) (c_Mo_emit_90 (d - 1) (by omega) U I212 5 0 (by omega) (by omega) (by omega) (by show (h211 90 13) ≤ 999; omega)) ?_
            rintro _ z245 h246 ⟨rfl, I247, f229, e230, e231, e232, e233, e234, e235, e236, e237, e238, e239, e240, e241, e242, y243, y244⟩
            have E248 : h246 91 = h 91 := Eq.trans e230 E213
            have E249 : h246 92 = h 92 := Eq.trans e231 E214
            have E250 : h246 93 = h 93 := Eq.trans e232 E215
            have E251 : h246 94 = h 94 := Eq.trans e233 E216
            have E252 : h246 95 = h 95 := Eq.trans e234 E217
            have E253 : h246 96 = h 96 := Eq.trans e235 E218
            have E254 : h246 99 = h 99 := Eq.trans e236 E219
            have E255 : h246 100 = h 100 := Eq.trans e237 E220
            have E256 : h246 103 = h 103 := Eq.trans e238 E221
            have E257 : h246 105 = h 105 := Eq.trans e239 E222
            have E258 : h246 106 = h 106 := Eq.trans e240 E223
            have E259 : h246 109 = h 109 := Eq.trans e241 E224
            have E260 : h246 114 = h 114 := Eq.trans e242 E225
            show ov_R u d ov_m228 59 [(0, ov_r 90), (1, ov_i dep), (2, ov_i v189)] [] z245 h246 (P_Mo_sums_90 F z h n dep)
            have f261 : (h246 90 2) = (h211 90 2) ∧ (h246 90 7) = (h211 90 7) ∧ (h246 90 8) = (h211 90 8) ∧ (h246 90 20) = (h211 90 20) ∧ (h246 90 22) = (h211 90 22) ∧ (h246 90 25) = (h211 90 25) ∧ (h246 90 26) = (h211 90 26) ∧ (h246 90 28) = (h211 90 28) ∧ (h246 90 29) = (h211 90 29) ∧ (h246 90 30) = (h211 90 30) ∧ (h246 90 34) = (h211 90 34) ∧ (h246 90 13) = (h211 90 13) + 1 := f229
            clear f229
            have y243_ : (h246 97) = ov_rs (h211 97) (1100 + (h211 90 13)) (5 : Int) := y243
            have y244_ : (h246 98) = ov_rs (h211 98) (1100 + (h211 90 13)) (0 : Int) := y244
            have K262 : ∀ j : Int, j < 1100 + (h 90 13) → h246 97 j = h 97 j ∧ h246 98 j = h 98 j := ov_kpe (ov_kp xa y208_ (by omega)) y243_ y244_ (by omega)
            have K263 : h246 90 8 = 0 → ov_sg (h246 97) (h246 98) (h 90 13) (h246 90 13) := fun e => by have q1 := xb (by omega); have q2 := y209_ (by omega); rw [show (h41 90 13) = (h41 90 13) by omega] at q2; have q3 := ov_sg_bin q1 (fun j hj => y208_ j (by omega)) q2 y243_ y244_ (by omega); rw [show h246 90 13 = (h211 90 13) + 1 by omega]; exact q3
            refine ov_goto (tgt := 5) d_228_59 (by decide) ?_
            refine ov_sub (ls2 := [(0, ov_r 90), (1, ov_i dep)]) (List.Sublist.subset (by repeat (first | exact List.Sublist.refl _ | apply List.Sublist.cons_cons | apply List.Sublist.cons))) ?_
            exact ih37  _ _ I247 E248 E249 E250 E251 E252 E253 E254 E255 E256 E257 E258 E259 E260 K262 K263 (by show (h 90 7) ≤ (h246 90 7) ∧ (h246 90 7) ≤ n ∧ (h 90 8) ≤ (h246 90 8) ∧ (h 90 13) ≤ (h246 90 13) ∧ (h246 90 13) - (h 90 13) ≤ (h246 90 7) - (h 90 7) ∧ (h246 90 2) = (h18 90 2) ∧ (h246 90 20) = (h18 90 20) ∧ (h246 90 22) = (h18 90 22) ∧ (h246 90 25) = (h18 90 25) ∧ (h246 90 26) = (h18 90 26) ∧ (h246 90 28) = (h18 90 28) ∧ (h246 90 29) = (h18 90 29) ∧ (h246 90 30) = (h18 90 30) ∧ (h246 90 34) = (h18 90 34); omega) (by omega)
          · skip
            have f190_ : v189 = 1 := by omega
            have f264 : (h41 90 7) < n := f190.2.1 (by omega)
            have f265 : (h41 90 8) = 0 ∧ (h 92 ((h41 90 7))) = 3 ∧ (h 94 ((h41 90 7))) = (43 : Int) := f190.2.2.1 (by omega)
            clear f190
            refine ov_blk (ls2 := [(0, ov_r 90), (1, ov_i dep), (2, ov_i v189)]) (st2 := [ov_i 4, ov_r 90]) (pc2 := 51) b_228_50_1 rfl rfl ?_
            refine ov_goto (tgt := 55) d_228_51 (by decide) ?_
            refine ov_blk (ls2 := [(0, ov_r 90), (1, ov_i dep), (2, ov_i v189)]) (st2 := [ov_i 0, ov_i 4, ov_r 90]) (pc2 := 56) b_228_55_1 rfl rfl ?_
            refine ov_cV (as := [ov_i 4, ov_i 0]) (st := []) (d2 := d - 1) d_228_56 lk_Mo_246 rfl (Nat.le_of_ble_eq_true rfl) (c := 1) (zb_90 I212) (zs_90 I212) ⟨by decide, rfl⟩ (by omega) (c_Mo_emit_90 (d - 1) (by omega) U I212 4 0 (by omega) (by omega) (by omega) (by show (h211 90 13) ≤ 999; omega)) ?_
            rintro _ z282 h283 ⟨rfl, I284, f266, e267, e268, e269, e270, e271, e272, e273, e274, e275, e276, e277, e278, e279, y280, y281⟩
            have E285 : h283 91 = h 91 := Eq.trans e267 E213
            have E286 : h283 92 = h 92 := Eq.trans e268 E214
            have E287 : h283 93 = h 93 := Eq.trans e269 E215
            have E288 : h283 94 = h 94 := Eq.trans e270 E216
            have E289 : h283 95 = h 95 := Eq.trans e271 E217
            have E290 : h283 96 = h 96 := Eq.trans e272 E218
            have E291 : h283 99 = h 99 := Eq.trans e273 E219
            have E292 : h283 100 = h 100 := Eq.trans e274 E220
            have E293 : h283 103 = h 103 := Eq.trans e275 E221
            have E294 : h283 105 = h 105 := Eq.trans e276 E222
            have E295 : h283 106 = h 106 := Eq.trans e277 E223
            have E296 : h283 109 = h 109 := Eq.trans e278 E224
            have E297 : h283 114 = h 114 := Eq.trans e279 E225
            show ov_R u d ov_m228 59 [(0, ov_r 90), (1, ov_i dep), (2, ov_i v189)] [] z282 h283 (P_Mo_sums_90 F z h n dep)
            have f298 : (h283 90 2) = (h211 90 2) ∧ (h283 90 7) = (h211 90 7) ∧ (h283 90 8) = (h211 90 8) ∧ (h283 90 20) = (h211 90 20) ∧ (h283 90 22) = (h211 90 22) ∧ (h283 90 25) = (h211 90 25) ∧ (h283 90 26) = (h211 90 26) ∧ (h283 90 28) = (h211 90 28) ∧ (h283 90 29) = (h211 90 29) ∧ (h283 90 30) = (h211 90 30) ∧ (h283 90 34) = (h211 90 34) ∧ (h283 90 13) = (h211 90 13) + 1 := f266
            clear f266
            have y280_ : (h283 97) = ov_rs (h211 97) (1100 + (h211 90 13)) (4 : Int) := y280
            have y281_ : (h283 98) = ov_rs (h211 98) (1100 + (h211 90 13)) (0 : Int) := y281
            have K299 : ∀ j : Int, j < 1100 + (h 90 13) → h283 97 j = h 97 j ∧ h283 98 j = h 98 j := ov_kpe (ov_kp xa y208_ (by omega)) y280_ y281_ (by omega)
            have K300 : h283 90 8 = 0 → ov_sg (h283 97) (h283 98) (h 90 13) (h283 90 13) := fun e => by have q1 := xb (by omega); have q2 := y209_ (by omega); rw [show (h41 90 13) = (h41 90 13) by omega] at q2; have q3 := ov_sg_bin q1 (fun j hj => y208_ j (by omega)) q2 y280_ y281_ (by omega); rw [show h283 90 13 = (h211 90 13) + 1 by omega]; exact q3
            refine ov_goto (tgt := 5) d_228_59 (by decide) ?_
            refine ov_sub (ls2 := [(0, ov_r 90), (1, ov_i dep)]) (List.Sublist.subset (by repeat (first | exact List.Sublist.refl _ | apply List.Sublist.cons_cons | apply List.Sublist.cons))) ?_
            exact ih37  _ _ I284 E285 E286 E287 E288 E289 E290 E291 E292 E293 E294 E295 E296 E297 K299 K300 (by show (h 90 7) ≤ (h283 90 7) ∧ (h283 90 7) ≤ n ∧ (h 90 8) ≤ (h283 90 8) ∧ (h 90 13) ≤ (h283 90 13) ∧ (h283 90 13) - (h 90 13) ≤ (h283 90 7) - (h 90 7) ∧ (h283 90 2) = (h18 90 2) ∧ (h283 90 20) = (h18 90 20) ∧ (h283 90 22) = (h18 90 22) ∧ (h283 90 25) = (h18 90 25) ∧ (h283 90 26) = (h18 90 26) ∧ (h283 90 28) = (h18 90 28) ∧ (h283 90 29) = (h18 90 29) ∧ (h283 90 30) = (h18 90 30) ∧ (h283 90 34) = (h18 90 34); omega) (by omega)
  exact L39 1001  _ _ I19 E20 E21 E22 E23 E24 E25 E26 E27 E28 E29 E30 E31 E32 K34 K35 (by show (h 90 7) ≤ (h18 90 7) ∧ (h18 90 7) ≤ n ∧ (h 90 8) ≤ (h18 90 8) ∧ (h 90 13) ≤ (h18 90 13) ∧ (h18 90 13) - (h 90 13) ≤ (h18 90 7) - (h 90 7) ∧ (h18 90 2) = (h18 90 2) ∧ (h18 90 20) = (h18 90 20) ∧ (h18 90 22) = (h18 90 22) ∧ (h18 90 25) = (h18 90 25) ∧ (h18 90 26) = (h18 90 26) ∧ (h18 90 28) = (h18 90 28) ∧ (h18 90 29) = (h18 90 29) ∧ (h18 90 30) = (h18 90 30) ∧ (h18 90 34) = (h18 90 34); omega) (by omega)

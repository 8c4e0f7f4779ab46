abbrev P_Mo_emit_90 (F : ov_H × ov_Z) (z : ov_Z) (h : ov_H) (c : Int) (a : Int) : Option ov_V → ov_Z → ov_H → Prop := fun r0 z' h' => r0 = none ∧ ov_N F z' h' ∧ ((h' 90 2) = (h 90 2) ∧ (h' 90 3) = (h 90 3) ∧ (h' 90 7) = (h 90 7) ∧ (h' 90 8) = (h 90 8) ∧ (h' 90 20) = (h 90 20) ∧ (h' 90 22) = (h 90 22) ∧ (h' 90 25) = (h 90 25) ∧ (h' 90 26) = (h 90 26) ∧ (h' 90 27) = (h 90 27) ∧ (h' 90 28) = (h 90 28) ∧ (h' 90 29) = (h 90 29) ∧ (h' 90 30) = (h 90 30) ∧ (h' 90 34) = (h 90 34) ∧ (h' 90 35) = (h 90 35) ∧ (h' 90 37) = (h 90 37) ∧ (h' 90 13) = (h 90 13) + 1) ∧ h' 92 = h 92 ∧ h' 93 = h 93 ∧ h' 94 = h 94 ∧ h' 95 = h 95 ∧ h' 96 = h 96 ∧ h' 99 = h 99 ∧ h' 100 = h 100 ∧ h' 103 = h 103 ∧ h' 105 = h 105 ∧ h' 106 = h 106 ∧ h' 109 = h 109 ∧ h' 114 = h 114 ∧ ((h' 97) = ov_rs (h 97) (1100 + (h 90 13)) c) ∧ ((h' 98) = ov_rs (h 98) (1100 + (h 90 13)) a)
set_option maxHeartbeats 4000000 in
theorem c_Mo_emit_90 {u : ov_U} {F : ov_H × ov_Z} {z : ov_Z} {h : ov_H} (d : Nat) (hd : 0 ≤ d) (U : ov_cap u) (I : ov_N F z h) (c : Int) (a : Int) (g_c : ov_g c) (g_a : ov_g a) (p0 : 0 ≤ c ∧ c ≤ 10) (p1 : (h 90 13) ≤ 999) : ov_T u d ov_m231 [ov_r 90, ov_i c, ov_i a] z h (P_Mo_emit_90 F z h c a) := by
  refine ov_en rfl (Nat.le_of_ble_eq_true rfl) ?_
  show ov_R u d ov_m231 0 [(0, ov_r 90), (1, ov_i c), (2, ov_i a)] [] z h (P_Mo_emit_90 F z h c a)
  refine ov_blk (ls2 := [(0, ov_r 90), (1, ov_i c), (2, ov_i a)]) (st2 := [ov_r 90]) (pc2 := 1) b_231_0_1 rfl rfl ?_
  refine ov_getf (v := ov_r 97) d_231_1 fl_Mo_84 (zb_90 I) (zs_90 I) (congrArg ov_r (rg_90_11 I)) ?_
  refine ov_blk (ls2 := [(0, ov_r 90), (1, ov_i c), (2, ov_i a)]) (st2 := [ov_r 90, ov_i 1100, ov_r 97]) (pc2 := 8) b_231_4_2 rfl rfl ?_
  refine ov_getf (v := ov_i (h 90 13)) d_231_8 fl_Mo_208 (zb_90 I) (zs_90 I) rfl ?_
  have g1 := rg_90_13 I
  refine ov_blk (ls2 := [(0, ov_r 90), (1, ov_i c), (2, ov_i a)]) (st2 := [ov_i c, ov_i (1100 + (h 90 13)), ov_r 97]) (pc2 := 13) b_231_11_2 rfl rfl ?_
  refine ov_iast d_231_13 (zb_97 I) (zs_97 I) (by omega) ?_
  have I2 := ua_97 (k := (1100 + (h 90 13))) (x := c) I (by omega)
  refine ov_blk (ls2 := [(0, ov_r 90), (1, ov_i c), (2, ov_i a)]) (st2 := [ov_r 90]) (pc2 := 15) b_231_14_1 rfl rfl ?_
  refine ov_getf (v := ov_r 98) d_231_15 fl_Mo_87 (zb_90 I2) (zs_90 I2) (congrArg ov_r (rg_90_12 I2)) ?_
  refine ov_blk (ls2 := [(0, ov_r 90), (1, ov_i c), (2, ov_i a)]) (st2 := [ov_r 90, ov_i 1100, ov_r 98]) (pc2 := 22) b_231_18_2 rfl rfl ?_
  refine ov_getf (v := ov_i (h 90 13)) d_231_22 fl_Mo_208 (zb_90 I2) (zs_90 I2) rfl ?_
  refine ov_blk (ls2 := [(0, ov_r 90), (1, ov_i c), (2, ov_i a)]) (st2 := [ov_i a, ov_i (1100 + (h 90 13)), ov_r 98]) (pc2 := 27) b_231_25_2 rfl rfl ?_
  refine ov_iast d_231_27 (zb_98 I2) (zs_98 I2) (by omega) ?_
  have I4 := ua_98 (k := (1100 + (h 90 13))) (x := a) I2 (by omega)
  refine ov_blk (ls2 := [(0, ov_r 90), (1, ov_i c), (2, ov_i a)]) (st2 := [ov_r 90, ov_r 90]) (pc2 := 30) b_231_28_2 rfl rfl ?_
  refine ov_getf (v := ov_i (h 90 13)) d_231_30 fl_Mo_208 (zb_90 I4) (zs_90 I4) rfl ?_
  refine ov_blk (ls2 := [(0, ov_r 90), (1, ov_i c), (2, ov_i a)]) (st2 := [ov_i ((h 90 13) + 1), ov_r 90]) (pc2 := 35) b_231_33_2 rfl rfl ?_
  refine ov_putf (x := ((h 90 13) + 1)) d_231_35 fl_Mo_208 (zb_90 I4) (zs_90 I4) rfl nk_0 rfl ?_
  have I6 := up_90_13 (x := ((h 90 13) + 1)) I4 (by omega)
  exact ov_retv (st := []) d_231_38 rfl ⟨rfl, I6, ⟨rfl, rfl, rfl, rfl, rfl, rfl, rfl, rfl, rfl, rfl, rfl, rfl, rfl, rfl, rfl, (by show ((h 90 13) + 1) = (h 90 13) + 1; omega)⟩, rfl, rfl, rfl, rfl, rfl, rfl, rfl, rfl, rfl, rfl, rfl, rfl, (show ov_up h 97 (1100 + (h 90 13)) c 97 = _ from ov_up_row _ _ _ _), (show ov_up h 98 (1100 + (h 90 13)) a 98 = _ from ov_up_row _ _ _ _)⟩
abbrev P_Mo_takePart_90 (F : ov_H × ov_Z) (z : ov_Z) (h : ov_H) (n : Int) (dep : Int) : Option ov_V → ov_Z → ov_H → Prop := fun r0 z' h' => r0 = none ∧ ov_N F z' h' ∧ ((h' 90 2) = (h 90 2) ∧ (h' 90 3) = (h 90 3) ∧ (h' 90 20) = (h 90 20) ∧ (h' 90 22) = (h 90 22) ∧ (h' 90 25) = (h 90 25) ∧ (h' 90 26) = (h 90 26) ∧ (h' 90 27) = (h 90 27) ∧ (h' 90 28) = (h 90 28) ∧ (h' 90 29) = (h 90 29) ∧ (h' 90 30) = (h 90 30) ∧ (h' 90 34) = (h 90 34) ∧ (h' 90 35) = (h 90 35) ∧ (h' 90 37) = (h 90 37) ∧ (h 90 7) ≤ (h' 90 7) ∧ (h' 90 7) ≤ n ∧ (0 < (h 90 8) → (h' 90 8) = (h 90 8)) ∧ (h 90 13) ≤ (h' 90 13) ∧ (h' 90 13) - (h 90 13) ≤ (h' 90 7) - (h 90 7)) ∧ h' 92 = h 92 ∧ h' 93 = h 93 ∧ h' 94 = h 94 ∧ h' 95 = h 95 ∧ h' 96 = h 96 ∧ h' 99 = h 99 ∧ h' 100 = h 100 ∧ h' 103 = h 103 ∧ h' 105 = h 105 ∧ h' 106 = h 106 ∧ h' 109 = h 109 ∧ h' 114 = h 114 ∧ (∀ j : Int, j < 1100 + (h 90 13) → (h' 97) j = (h 97) j ∧ (h' 98) j = (h 98) j) ∧ ((h' 90 8) = 0 → ov_sg (h' 97) (h' 98) (h 90 13) (h' 90 13))
abbrev P_Mo_products_90 (F : ov_H × ov_Z) (z : ov_Z) (h : ov_H) (n : Int) (dep : Int) : Option ov_V → ov_Z → ov_H → Prop := fun r0 z' h' => r0 = none ∧ ov_N F z' h' ∧ ((h' 90 2) = (h 90 2) ∧ (h' 90 3) = (h 90 3) ∧ (h' 90 20) = (h 90 20) ∧ (h' 90 22) = (h 90 22) ∧ (h' 90 25) = (h 90 25) ∧ (h' 90 26) = (h 90 26) ∧ (h' 90 27) = (h 90 27) ∧ (h' 90 28) = (h 90 28) ∧ (h' 90 29) = (h 90 29) ∧ (h' 90 30) = (h 90 30) ∧ (h' 90 34) = (h 90 34) ∧ (h' 90 35) = (h 90 35) ∧ (h' 90 37) = (h 90 37) ∧ (h 90 7) ≤ (h' 90 7) ∧ (h' 90 7) ≤ n ∧ (0 < (h 90 8) → (h' 90 8) = (h 90 8)) ∧ (h 90 13) ≤ (h' 90 13) ∧ (h' 90 13) - (h 90 13) ≤ (h' 90 7) - (h 90 7)) ∧ h' 92 = h 92 ∧ h' 93 = h 93 ∧ h' 94 = h 94 ∧ h' 95 = h 95 ∧ h' 96 = h 96 ∧ h' 99 = h 99 ∧ h' 100 = h 100 ∧ h' 103 = h 103 ∧ h' 105 = h 105 ∧ h' 106 = h 106 ∧ h' 109 = h 109 ∧ h' 114 = h 114 ∧ (∀ j : Int, j < 1100 + (h 90 13) → (h' 97) j = (h 97) j ∧ (h' 98) j = (h 98) j) ∧ ((h' 90 8) = 0 → ov_sg (h' 97) (h' 98) (h 90 13) (h' 90 13))
abbrev P_Mo_sums_90 (F : ov_H × ov_Z) (z : ov_Z) (h : ov_H) (n : Int) (dep : Int) : Option ov_V → ov_Z → ov_H → Prop := fun r0 z' h' => r0 = none ∧ ov_N F z' h' ∧ ((h' 90 2) = (h 90 2) ∧ (h' 90 3) = (h 90 3) ∧ (h' 90 20) = (h 90 20) ∧ (h' 90 22) = (h 90 22) ∧ (h' 90 25) = (h 90 25) ∧ (h' 90 26) = (h 90 26) ∧ (h' 90 27) = (h 90 27) ∧ (h' 90 28) = (h 90 28) ∧ (h' 90 29) = (h 90 29) ∧ (h' 90 30) = (h 90 30) ∧ (h' 90 34) = (h 90 34) ∧ (h' 90 35) = (h 90 35) ∧ (h' 90 37) = (h 90 37) ∧ (h 90 7) ≤ (h' 90 7) ∧ (h' 90 7) ≤ n ∧ (0 < (h 90 8) → (h' 90 8) = (h 90 8)) ∧ (h 90 13) ≤ (h' 90 13) ∧ (h' 90 13) - (h 90 13) ≤ (h' 90 7) - (h 90 7)) ∧ h' 92 = h 92 ∧ h' 93 = h 93 ∧ h' 94 = h 94 ∧ h' 95 = h 95 ∧ h' 96 = h 96 ∧ h' 99 = h 99 ∧ h' 100 = h 100 ∧ h' 103 = h 103 ∧ h' 105 = h 105 ∧ h' 106 = h 106 ∧ h' 109 = h 109 ∧ h' 114 = h 114 ∧ (∀ j : Int, j < 1100 + (h 90 13) → (h' 97) j = (h 97) j ∧ (h' 98) j = (h 98) j) ∧ ((h' 90 8) = 0 → ov_sg (h' 97) (h' 98) (h 90 13) (h' 90 13))
abbrev P_Mo_test_90 (F : ov_H × ov_Z) (z : ov_Z) (h : ov_H) (n : Int) (dep : Int) : Option ov_V → ov_Z → ov_H → Prop := fun r0 z' h' => r0 = none ∧ ov_N F z' h' ∧ ((h' 90 2) = (h 90 2) ∧ (h' 90 3) = (h 90 3) ∧ (h' 90 20) = (h 90 20) ∧ (h' 90 22) = (h 90 22) ∧ (h' 90 25) = (h 90 25) ∧ (h' 90 26) = (h 90 26) ∧ (h' 90 27) = (h 90 27) ∧ (h' 90 28) = (h 90 28) ∧ (h' 90 29) = (h 90 29) ∧ (h' 90 30) = (h 90 30) ∧ (h' 90 34) = (h 90 34) ∧ (h' 90 35) = (h 90 35) ∧ (h' 90 37) = (h 90 37) ∧ (h 90 7) ≤ (h' 90 7) ∧ (h' 90 7) ≤ n ∧ (0 < (h 90 8) → (h' 90 8) = (h 90 8)) ∧ (h 90 13) ≤ (h' 90 13) ∧ (h' 90 13) - (h 90 13) ≤ (h' 90 7) - (h 90 7)) ∧ h' 92 = h 92 ∧ h' 93 = h 93 ∧ h' 94 = h 94 ∧ h' 95 = h 95 ∧ h' 96 = h 96 ∧ h' 99 = h 99 ∧ h' 100 = h 100 ∧ h' 103 = h 103 ∧ h' 105 = h 105 ∧ h' 106 = h 106 ∧ h' 109 = h 109 ∧ h' 114 = h 114 ∧ (∀ j : Int, j < 1100 + (h 90 13) → (h' 97) j = (h 97) j ∧ (h' 98) j = (h 98) j) ∧ ((h' 90 8) = 0 → ov_sg (h' 97) (h' 98) (h 90 13) (h' 90 13))
abbrev P_Mo_all_90 (F : ov_H × ov_Z) (z : ov_Z) (h : ov_H) (n : Int) (dep : Int) : Option ov_V → ov_Z → ov_H → Prop := fun r0 z' h' => r0 = none ∧ ov_N F z' h' ∧ ((h' 90 2) = (h 90 2) ∧ (h' 90 3) = (h 90 3) ∧ (h' 90 20) = (h 90 20) ∧ (h' 90 22) = (h 90 22) ∧ (h' 90 25) = (h 90 25) ∧ (h' 90 26) = (h 90 26) ∧ (h' 90 27) = (h 90 27) ∧ (h' 90 28) = (h 90 28) ∧ (h' 90 29) = (h 90 29) ∧ (h' 90 30) = (h 90 30) ∧ (h' 90 34) = (h 90 34) ∧ (h' 90 35) = (h 90 35) ∧ (h' 90 37) = (h 90 37) ∧ (h 90 7) ≤ (h' 90 7) ∧ (h' 90 7) ≤ n ∧ (0 < (h 90 8) → (h' 90 8) = (h 90 8)) ∧ (h 90 13) ≤ (h' 90 13) ∧ (h' 90 13) - (h 90 13) ≤ (h' 90 7) - (h 90 7)) ∧ h' 92 = h 92 ∧ h' 93 = h 93 ∧ h' 94 = h 94 ∧ h' 95 = h 95 ∧ h' 96 = h 96 ∧ h' 99 = h 99 ∧ h' 100 = h 100 ∧ h' 103 = h 103 ∧ h' 105 = h 105 ∧ h' 106 = h 106 ∧ h' 109 = h 109 ∧ h' 114 = h 114 ∧ (∀ j : Int, j < 1100 + (h 90 13) → (h' 97) j = (h 97) j ∧ (h' 98) j = (h 98) j) ∧ ((h' 90 8) = 0 → ov_sg (h' 97) (h' 98) (h 90 13) (h' 90 13))
set_option maxHeartbeats 4000000 in
theorem c_Mo_takePart_90 {u : ov_U} {F : ov_H × ov_Z} (n : Int) (k : Nat) (HE : ∀ k' : Nat, k' + 1 = k → ∀ {z : ov_Z} {h : ov_H} (d : Nat) (hd : (10 + 5 * k' + 4) ≤ d) (U : ov_cap u) (I : ov_N F z h) (dep : Int) (g_dep : ov_g dep) (p0 : 0 ≤ n ∧ n ≤ 1000 ∧ (h 92 (n)) = 0 ∧ (h 90 7) ≤ n) (p1 : 0 ≤ dep ∧ dep + (k' : Int) = 5) (p2 : (h 90 13) ≤ (h 90 7)), ov_T u d ov_m226 [ov_r 90, ov_i dep] z h (P_Mo_all_90 F z h n dep)) (HP : ∀ k' : Nat, k' + 1 = k → ∀ {z : ov_Z} {h : ov_H} (d : Nat) (hd : (10 + 5 * k' + 0) ≤ d) (U : ov_cap u) (I : ov_N F z h) (dep : Int) (g_dep : ov_g dep) (p0 : 0 ≤ n ∧ n ≤ 1000 ∧ (h 92 (n)) = 0 ∧ (h 90 7) ≤ n) (p1 : 0 ≤ dep ∧ dep + (k' : Int) = 5) (p2 : (h 90 13) ≤ (h 90 7)), ov_T u d ov_m230 [ov_r 90, ov_i dep] z h (P_Mo_takePart_90 F z h n dep)) {z : ov_Z} {h : ov_H} (d : Nat) (hd : (10 + 5 * k + 0) ≤ d) (U : ov_cap u) (I : ov_N F z h) (dep : Int) (g_dep : ov_g dep) (p0 : 0 ≤ n ∧ n ≤ 1000 ∧ (h 92 (n)) = 0 ∧ (h 90 7) ≤ n) (p1 : 0 ≤ dep ∧ dep + (k : Int) = 5) (p2 : (h 90 13) ≤ (h 90 7)) : ov_T u d ov_m230 [ov_r 90, ov_i dep] z h (P_Mo_takePart_90 F z h n dep) := by
  refine ov_en rfl (Nat.le_of_ble_eq_true rfl) ?_
  show ov_R u d ov_m230 0 [(0, ov_r 90), (1, ov_i dep)] [] z h (P_Mo_takePart_90 F z h n dep)
  have qn : h 90 7 = n → h 92 (h 90 7) = h 92 n := fun e => by rw [e]
  refine ov_blk (ls2 := [(0, ov_r 90), (1, ov_i dep)]) (st2 := [ov_r 90]) (pc2 := 1) b_230_0_1 rfl rfl ?_
  refine ov_getf (v := ov_i (h 90 8)) d_230_1 fl_Mo_180 (zb_90 I) (zs_90 I) rfl ?_
  have g1 := rg_90_8 I
  refine ov_ifle (tgt := 8) d_230_4 (by decide) (by omega) (fun c2 => ?_) (fun c2 => ?_)
  · skip
    have J3 : ∀ (j4 : Int) (j5 : Int) (q6 : (j4 = 0 ∨ j4 = 1) ∧ (j4 = 1 → (h 92 ((h 90 7))) = 2) ∧ -1 ≤ j5 ∧ j5 ≤ 3 ∧ (0 ≤ j5 → (h 90 7) < n)), ov_R u d ov_m230 67 [(0, ov_r 90), (1, ov_i dep), (2, ov_i j4), (5, ov_i j5)] [] z h (P_Mo_takePart_90 F z h n dep) := by
      intro j4 j5 q6
      have J7 : ∀ (q8 : (0 ≤ j5 ∨ j4 = 1 ∨ ((h 90 8) = 0 ∧ (h 92 ((h 90 7))) = 3 ∧ (h 94 ((h 90 7))) = 40) ∨ ((h 90 8) = 0 ∧ (h 92 ((h 90 7))) = 1 ∧ (h 94 ((h 90 7))) = (h 95 (17))))), ov_R u d ov_m230 102 [(0, ov_r 90), (1, ov_i dep), (2, ov_i j4), (5, ov_i j5)] [] z h (P_Mo_takePart_90 F z h n dep) := by
        intro  q8
        refine ov_blk (ls2 := [(0, ov_r 90), (1, ov_i dep), (2, ov_i j4), (5, ov_i j5)]) (st2 := [ov_i 5, ov_i dep]) (pc2 := 104) b_230_102_2 rfl rfl ?_
        refine ov_icne (tgt := 112) d_230_104 (by decide) (by omega) (by omega) (fun c9 => ?_) (fun c9 => ?_)
        · skip
          refine ov_blk (ls2 := [(0, ov_r 90), (1, ov_i dep), (2, ov_i j4), (5, ov_i j5)]) (st2 := [ov_r 90]) (pc2 := 113) b_230_112_1 rfl rfl ?_
          refine ov_getf (v := ov_i (h 90 8)) d_230_113 fl_Mo_180 (zb_90 I) (zs_90 I) rfl ?_
          refine ov_ifle (tgt := 120) d_230_116 (by decide) (by omega) (fun c11 => ?_) (fun c11 => ?_)
          · skip
            refine ov_blk (ls2 := [(0, ov_r 90), (1, ov_i dep), (2, ov_i j4), (5, ov_i j5)]) (st2 := [ov_i 17, ov_r 90]) (pc2 := 123) b_230_120_2 rfl rfl ?_
            refine ov_cV (as := [ov_i 17]) (st := []) (d2 := d - 1) d_230_123 lk_Mo_192 rfl (Nat.le_of_ble_eq_true rfl) (c := 1) (zb_90 I) (zs_90 I) ⟨by decide, rfl⟩ (by omega) (c_Mo_hasWord_90 n (d - 1) (by omega) U I 17 (by omega) (by show 0 ≤ n ∧ n ≤ 1000 ∧ (h 92 (n)) = 0 ∧ (h 90 7) ≤ n; omega) (by omega)) ?_
            rintro _ z28 h29 ⟨v13, rfl, I30, f12, e14, e15, e16, e17, e18, e19, e20, e21, e22, e23, e24, e25, e26, e27⟩
            have E31 : h29 92 = h 92 := e14
            have E32 : h29 93 = h 93 := e15
            have E33 : h29 94 = h 94 := e16
            have E34 : h29 95 = h 95 := e17
            have E35 : h29 96 = h 96 := e18
            have E36 : h29 97 = h 97 := e19
            have E37 : h29 98 = h 98 := e20
            have E38 : h29 99 = h 99 := e21
            have E39 : h29 100 = h 100 := e22
            have E40 : h29 103 = h 103 := e23
            have E41 : h29 105 = h 105 := e24
            have E42 : h29 106 = h 106 := e25
            have E43 : h29 109 = h 109 := e26
            have E44 : h29 114 = h 114 := e27
            show ov_R u d ov_m230 126 [(0, ov_r 90), (1, ov_i dep), (2, ov_i j4), (5, ov_i j5)] [ov_i v13] z28 h29 (P_Mo_takePart_90 F z h n dep)
            have f45 : (h29 90 2) = (h 90 2) ∧ (h29 90 3) = (h 90 3) ∧ (h29 90 8) = (h 90 8) ∧ (h29 90 13) = (h 90 13) ∧ (h29 90 20) = (h 90 20) ∧ (h29 90 22) = (h 90 22) ∧ (h29 90 25) = (h 90 25) ∧ (h29 90 26) = (h 90 26) ∧ (h29 90 27) = (h 90 27) ∧ (h29 90 28) = (h 90 28) ∧ (h29 90 29) = (h 90 29) ∧ (h29 90 30) = (h 90 30) ∧ (h29 90 34) = (h 90 34) ∧ (h29 90 35) = (h 90 35) ∧ (h29 90 37) = (h 90 37) ∧ (v13 = 0 ∨ v13 = 1) ∧ (h 90 7) ≤ (h29 90 7) ∧ (h29 90 7) ≤ n ∧ (v13 = 1 → (h29 90 7) = (h 90 7) + 1 ∧ (h 90 8) = 0) ∧ (v13 = 0 → (h29 90 7) = (h 90 7)) ∧ (v13 = 1 → (h 90 8) = 0 ∧ (h 92 ((h 90 7))) = 1 ∧ (h 94 ((h 90 7))) = (h 95 ((17 : Int)))) ∧ (v13 = 0 → ¬ ((h 90 8) = 0 ∧ (h 92 ((h 90 7))) = 1 ∧ (h 94 ((h 90 7))) = (h 95 ((17 : Int))))) := f12
            clear f12
            have qm : h29 90 7 = h 90 7 → h 92 (h29 90 7) = h 92 (h 90 7) ∧ h 94 (h29 90 7) = h 94 (h 90 7) := fun e => by rw [e]; exact ⟨rfl, rfl⟩
            refine ov_ifeq (tgt := 145) d_230_126 (by decide) (by omega) (fun c46 => ?_) (fun c46 => ?_)
            · skip
              have f45_ : v13 = 0 := by omega
              have f47 : (h29 90 2) = (h 90 2) := f45.1
              have f48 : (h29 90 3) = (h 90 3) := f45.2.1
              have f49 : (h29 90 8) = (h 90 8) := f45.2.2.1
              have f50 : (h29 90 13) = (h 90 13) := f45.2.2.2.1
              have f51 : (h29 90 20) = (h 90 20) := f45.2.2.2.2.1
              have f52 : (h29 90 22) = (h 90 22) := f45.2.2.2.2.2.1
              have f53 : (h29 90 25) = (h 90 25) := f45.2.2.2.2.2.2.1
              have f54 : (h29 90 26) = (h 90 26) := f45.2.2.2.2.2.2.2.1
              have f55 : (h29 90 27) = (h 90 27) := f45.2.2.2.2.2.2.2.2.1
              have f56 : (h29 90 28) = (h 90 28) := f45.2.2.2.2.2.2.2.2.2.1
              have f57 : (h29 90 29) = (h 90 29) := f45.2.2.2.2.2.2.2.2.2.2.1
              have f58 : (h29 90 30) = (h 90 30) := f45.2.2.2.2.2.2.2.2.2.2.2.1
              have f59 : (h29 90 34) = (h 90 34) := f45.2.2.2.2.2.2.2.2.2.2.2.2.1
              have f60 : (h29 90 35) = (h 90 35) := f45.2.2.2.2.2.2.2.2.2.2.2.2.2.1
              have f61 : (h29 90 37) = (h 90 37) := f45.2.2.2.2.2.2.2.2.2.2.2.2.2.2.1
              have f62 : (h 90 7) ≤ (h29 90 7) := f45.2.2.2.2.2.2.2.2.2.2.2.2.2.2.2.2.1
              have f63 : (h29 90 7) ≤ n := f45.2.2.2.2.2.2.2.2.2.2.2.2.2.2.2.2.2.1
              have f64 : (h29 90 7) = (h 90 7) := f45.2.2.2.2.2.2.2.2.2.2.2.2.2.2.2.2.2.2.2.1 (by omega)
              have f65 : ¬ ((h 90 8) = 0 ∧ (h 92 ((h 90 7))) = 1 ∧ (h 94 ((h 90 7))) = (h 95 ((17 : Int)))) := f45.2.2.2.2.2.2.2.2.2.2.2.2.2.2.2.2.2.2.2.2.2 (by omega)
              clear f45
              refine ov_blk (ls2 := [(0, ov_r 90), (1, ov_i dep), (2, ov_i j4), (5, ov_i j5)]) (st2 := [ov_i 40, ov_r 90]) (pc2 := 148) b_230_145_2 rfl rfl ?_
              have cf66 : h29 92 (n) = h 92 (n) := congrFun E31 (n)
              refine ov_cV (as := [ov_i 40]) (st := []) (d2 := d - 1) d_230_148 lk_Mo_263 rfl (Nat.le_of_ble_eq_true rfl) (c := 1) (zb_90 I30) (zs_90 I30) ⟨by decide, rfl⟩ (by omega) (c_Mo_hasSign_90 n (d - 1) (by omega) U I30 40 (by omega) (by show 0 ≤ n ∧ n ≤ 1000 ∧ (h29 92 (n)) = 0 ∧ (h29 90 7) ≤ n; omega)) ?_
              rintro _ z83 h84 ⟨v68, rfl, I85, f67, e69, e70, e71, e72, e73, e74, e75, e76, e77, e78, e79, e80, e81, e82⟩
              have E86 : h84 92 = h 92 := Eq.trans e69 E31
              have E87 : h84 93 = h 93 := Eq.trans e70 E32
              have E88 : h84 94 = h 94 := Eq.trans e71 E33
              have E89 : h84 95 = h 95 := Eq.trans e72 E34
              have E90 : h84 96 = h 96 := Eq.trans e73 E35
              have E91 : h84 97 = h 97 := Eq.trans e74 E36
              have E92 : h84 98 = h 98 := Eq.trans e75 E37
              have E93 : h84 99 = h 99 := Eq.trans e76 E38
              have E94 : h84 100 = h 100 := Eq.trans e77 E39
              have E95 : h84 103 = h 103 := Eq.trans e78 E40
              have E96 : h84 105 = h 105 := Eq.trans e79 E41
              have E97 : h84 106 = h 106 := Eq.trans e80 E42
              have E98 : h84 109 = h 109 := Eq.trans e81 E43
              have E99 : h84 114 = h 114 := Eq.trans e82 E44
              show ov_R u d ov_m230 151 [(0, ov_r 90), (1, ov_i dep), (2, ov_i j4), (5, ov_i j5)] [ov_i v68] z83 h84 (P_Mo_takePart_90 F z h n dep)
              rw [show h29 92 = h 92 from E31] at f67
              rw [show h29 94 = h 94 from E33] at f67
              have f100 : (h84 90 2) = (h29 90 2) ∧ (h84 90 3) = (h29 90 3) ∧ (h84 90 8) = (h29 90 8) ∧ (h84 90 13) = (h29 90 13) ∧ (h84 90 20) = (h29 90 20) ∧ (h84 90 22) = (h29 90 22) ∧ (h84 90 25) = (h29 90 25) ∧ (h84 90 26) = (h29 90 26) ∧ (h84 90 27) = (h29 90 27) ∧ (h84 90 28) = (h29 90 28) ∧ (h84 90 29) = (h29 90 29) ∧ (h84 90 30) = (h29 90 30) ∧ (h84 90 34) = (h29 90 34) ∧ (h84 90 35) = (h29 90 35) ∧ (h84 90 37) = (h29 90 37) ∧ (v68 = 0 ∨ v68 = 1) ∧ (h29 90 7) ≤ (h84 90 7) ∧ (h84 90 7) ≤ n ∧ (v68 = 1 → (h84 90 7) = (h29 90 7) + 1 ∧ (h29 90 8) = 0) ∧ (v68 = 0 → (h84 90 7) = (h29 90 7)) ∧ (v68 = 1 → (h29 90 8) = 0 ∧ (h 92 ((h29 90 7))) = 3 ∧ (h 94 ((h29 90 7))) = (40 : Int)) ∧ (v68 = 0 → ¬ ((h29 90 8) = 0 ∧ (h 92 ((h29 90 7))) = 3 ∧ (h 94 ((h29 90 7))) = (40 : Int))) := f67
              clear f67
              refine ov_ifeq (tgt := 170) d_230_151 (by decide) (by omega) (fun c101 => ?_) (fun c101 => ?_)
              · skip
                have f100_ : v68 = 0 := by omega
                have f102 : (h84 90 2) = (h29 90 2) := f100.1
                have f103 : (h84 90 3) = (h29 90 3) := f100.2.1
                have f104 : (h84 90 8) = (h29 90 8) := f100.2.2.1
                have f105 : (h84 90 13) = (h29 90 13) := f100.2.2.2.1
                have f106 : (h84 90 20) = (h29 90 20) := f100.2.2.2.2.1
                have f107 : (h84 90 22) = (h29 90 22) := f100.2.2.2.2.2.1
                have f108 : (h84 90 25) = (h29 90 25) := f100.2.2.2.2.2.2.1
                have f109 : (h84 90 26) = (h29 90 26) := f100.2.2.2.2.2.2.2.1
                have f110 : (h84 90 27) = (h29 90 27) := f100.2.2.2.2.2.2.2.2.1
                have f111 : (h84 90 28) = (h29 90 28) := f100.2.2.2.2.2.2.2.2.2.1
                have f112 : (h84 90 29) = (h29 90 29) := f100.2.2.2.2.2.2.2.2.2.2.1
                have f113 : (h84 90 30) = (h29 90 30) := f100.2.2.2.2.2.2.2.2.2.2.2.1
                have f114 : (h84 90 34) = (h29 90 34) := f100.2.2.2.2.2.2.2.2.2.2.2.2.1
                have f115 : (h84 90 35) = (h29 90 35) := f100.2.2.2.2.2.2.2.2.2.2.2.2.2.1
                have f116 : (h84 90 37) = (h29 90 37) := f100.2.2.2.2.2.2.2.2.2.2.2.2.2.2.1
                have f117 : (h29 90 7) ≤ (h84 90 7) := f100.2.2.2.2.2.2.2.2.2.2.2.2.2.2.2.2.1
                have f118 : (h84 90 7) ≤ n := f100.2.2.2.2.2.2.2.2.2.2.2.2.2.2.2.2.2.1
                have f119 : (h84 90 7) = (h29 90 7) := f100.2.2.2.2.2.2.2.2.2.2.2.2.2.2.2.2.2.2.2.1 (by omega)
                have f120 : ¬ ((h29 90 8) = 0 ∧ (h 92 ((h29 90 7))) = 3 ∧ (h 94 ((h29 90 7))) = (40 : Int)) := f100.2.2.2.2.2.2.2.2.2.2.2.2.2.2.2.2.2.2.2.2.2 (by omega)
                clear f100
                refine ov_blk (ls2 := [(0, ov_r 90), (1, ov_i dep), (2, ov_i j4), (5, ov_i j5)]) (st2 := [ov_i j4, ov_r 90]) (pc2 := 172) b_230_170_2 rfl rfl ?_
                refine ov_ifeq (tgt := 179) d_230_172 (by decide) (by omega) (fun c121 => ?_) (fun c121 => ?_)
                · skip
                  refine ov_blk (ls2 := [(0, ov_r 90), (1, ov_i dep), (2, ov_i j4), (5, ov_i j5)]) (st2 := [ov_i j4, ov_i 2, ov_r 90]) (pc2 := 181) b_230_179_2 rfl rfl ?_
                  refine ov_ifeq (tgt := 197) d_230_181 (by decide) (by omega) (fun c122 => ?_) (fun c122 => ?_)
                  · skip
                    refine ov_blk (ls2 := [(0, ov_r 90), (1, ov_i dep), (2, ov_i j4), (5, ov_i j5)]) (st2 := [ov_i j5, ov_i 2, ov_r 90]) (pc2 := 199) b_230_197_1 rfl rfl ?_
                    refine ov_cV (as := [ov_i 2, ov_i j5]) (st := []) (d2 := d - 1) d_230_199 lk_Mo_246 rfl (Nat.le_of_ble_eq_true rfl) (c := 1) (zb_90 I85) (zs_90 I85) ⟨by decide, rfl⟩ (by omega) (c_Mo_emit_90 (d - 1) (by omega) U I85 2 j5 (by omega) (by omega) (by omega) (by show (h84 90 13) ≤ 999; omega)) ?_
                    rintro _ z138 h139 ⟨rfl, I140, f123, e124, e125, e126, e127, e128, e129, e130, e131, e132, e133, e134, e135, y136, y137⟩
                    have E141 : h139 92 = h 92 := Eq.trans e124 E86
                    have E142 : h139 93 = h 93 := Eq.trans e125 E87
                    have E143 : h139 94 = h 94 := Eq.trans e126 E88
                    have E144 : h139 95 = h 95 := Eq.trans e127 E89
                    have E145 : h139 96 = h 96 := Eq.trans e128 E90
                    have E146 : h139 99 = h 99 := Eq.trans e129 E93
                    have E147 : h139 100 = h 100 := Eq.trans e130 E94
                    have E148 : h139 103 = h 103 := Eq.trans e131 E95
                    have E149 : h139 105 = h 105 := Eq.trans e132 E96
                    have E150 : h139 106 = h 106 := Eq.trans e133 E97
                    have E151 : h139 109 = h 109 := Eq.trans e134 E98
                    have E152 : h139 114 = h 114 := Eq.trans e135 E99
                    show ov_R u d ov_m230 202 [(0, ov_r 90), (1, ov_i dep), (2, ov_i j4), (5, ov_i j5)] [] z138 h139 (P_Mo_takePart_90 F z h n dep)
                    have f153 : (h139 90 2) = (h84 90 2) ∧ (h139 90 3) = (h84 90 3) ∧ (h139 90 7) = (h84 90 7) ∧ (h139 90 8) = (h84 90 8) ∧ (h139 90 20) = (h84 90 20) ∧ (h139 90 22) = (h84 90 22) ∧ (h139 90 25) = (h84 90 25) ∧ (h139 90 26) = (h84 90 26) ∧ (h139 90 27) = (h84 90 27) ∧ (h139 90 28) = (h84 90 28) ∧ (h139 90 29) = (h84 90 29) ∧ (h139 90 30) = (h84 90 30) ∧ (h139 90 34) = (h84 90 34) ∧ (h139 90 35) = (h84 90 35) ∧ (h139 90 37) = (h84 90 37) ∧ (h139 90 13) = (h84 90 13) + 1 := f123
                    clear f123
                    rw [show h84 97 = h 97 from E91] at y136
                    have y136_ : (h139 97) = ov_rs (h 97) (1100 + (h84 90 13)) (2 : Int) := y136
                    rw [show h84 98 = h 98 from E92] at y137
                    have y137_ : (h139 98) = ov_rs (h 98) (1100 + (h84 90 13)) j5 := y137
                    have K154 : ∀ j : Int, j < 1100 + (h 90 13) → h139 97 j = h 97 j ∧ h139 98 j = h 98 j := ov_kpe (fun j _ => ⟨rfl, rfl⟩) y136_ y137_ (by omega)
                    have K155 : h139 90 8 = 0 → ov_sg (h139 97) (h139 98) (h 90 13) (h139 90 13) := fun e => by have q3 := ov_sg_one y136_ y137_ (by omega); rw [show h139 90 13 = (h84 90 13) + 1 by omega, show h 90 13 = (h84 90 13) by omega]; exact q3
                    refine ov_blk (ls2 := [(0, ov_r 90), (1, ov_i dep), (2, ov_i j4), (5, ov_i j5)]) (st2 := [ov_r 90, ov_r 90]) (pc2 := 204) b_230_202_2 rfl rfl ?_
                    refine ov_getf (v := ov_i (h139 90 7)) d_230_204 fl_Mo_177 (zb_90 I140) (zs_90 I140) rfl ?_
                    have g156 := rg_90_7 I140
                    refine ov_blk (ls2 := [(0, ov_r 90), (1, ov_i dep), (2, ov_i j4), (5, ov_i j5)]) (st2 := [ov_i ((h139 90 7) + 1), ov_r 90]) (pc2 := 209) b_230_207_2 rfl rfl ?_
                    refine ov_putf (x := ((h139 90 7) + 1)) d_230_209 fl_Mo_177 (zb_90 I140) (zs_90 I140) rfl nk_0 rfl ?_
                    have I157 := up_90_7 (x := ((h139 90 7) + 1)) I140 (by omega)
                    exact ov_retv (st := []) d_230_212 rfl ⟨rfl, I157, (by show (h139 90 2) = (h 90 2) ∧ (h139 90 3) = (h 90 3) ∧ (h139 90 20) = (h 90 20) ∧ (h139 90 22) = (h 90 22) ∧ (h139 90 25) = (h 90 25) ∧ (h139 90 26) = (h 90 26) ∧ (h139 90 27) = (h 90 27) ∧ (h139 90 28) = (h 90 28) ∧ (h139 90 29) = (h 90 29) ∧ (h139 90 30) = (h 90 30) ∧ (h139 90 34) = (h 90 34) ∧ (h139 90 35) = (h 90 35) ∧ (h139 90 37) = (h 90 37) ∧ (h 90 7) ≤ ((h139 90 7) + 1) ∧ ((h139 90 7) + 1) ≤ n ∧ (0 < (h 90 8) → (h139 90 8) = (h 90 8)) ∧ (h 90 13) ≤ (h139 90 13) ∧ (h139 90 13) - (h 90 13) ≤ ((h139 90 7) + 1) - (h 90 7); omega), E141, E142, E143, E144, E145, E146, E147, E148, E149, E150, E151, E152, K154, (fun e => by have e0 : (h139 90 8) = 0 := e; show ov_sg ((ov_up h139 90 7 ((h139 90 7) + 1)) 97) ((ov_up h139 90 7 ((h139 90 7) + 1)) 98) _ (h139 90 13); rw [show (h139 90 13) = (h139 90 13) by omega]; exact K155 (by omega))⟩
                  · omega
                · skip
                  refine ov_blk (ls2 := [(0, ov_r 90), (1, ov_i dep), (2, ov_i j4), (5, ov_i j5)]) (st2 := [ov_i 1, ov_r 90]) (pc2 := 176) b_230_175_1 rfl rfl ?_
                  refine ov_goto (tgt := 180) d_230_176 (by decide) ?_
                  refine ov_blk (ls2 := [(0, ov_r 90), (1, ov_i dep), (2, ov_i j4), (5, ov_i j5)]) (st2 := [ov_i j4, ov_i 1, ov_r 90]) (pc2 := 181) b_230_180_1 rfl rfl ?_
                  refine ov_ifeq (tgt := 197) d_230_181 (by decide) (by omega) (fun c158 => ?_) (fun c158 => ?_)
                  · omega
                  · skip
                    refine ov_blk (ls2 := [(0, ov_r 90), (1, ov_i dep), (2, ov_i j4), (5, ov_i j5)]) (st2 := [ov_r 90, ov_i 1, ov_r 90]) (pc2 := 185) b_230_184_1 rfl rfl ?_
                    refine ov_getf (v := ov_r 94) d_230_185 fl_Mo_30 (zb_90 I85) (zs_90 I85) (congrArg ov_r (rg_90_6 I85)) ?_
                    refine ov_blk (ls2 := [(0, ov_r 90), (1, ov_i dep), (2, ov_i j4), (5, ov_i j5)]) (st2 := [ov_r 90, ov_r 94, ov_i 1, ov_r 90]) (pc2 := 189) b_230_188_1 rfl rfl ?_
                    refine ov_getf (v := ov_i (h84 90 7)) d_230_189 fl_Mo_177 (zb_90 I85) (zs_90 I85) rfl ?_
                    have g159 := rg_90_7 I85
                    refine ov_lald d_230_192 (zb_94 I85) (zs_94 I85) (by omega) ?_
                    rw [show h84 94 = h 94 from E88]
                    have g160 := ra_94 I (h84 90 7)
                    refine ov_blk (ls2 := [(0, ov_r 90), (1, ov_i dep), (2, ov_i j4), (5, ov_i j5)]) (st2 := [ov_i (h 94 (h84 90 7)), ov_i 1, ov_r 90]) (pc2 := 194) b_230_193_1 rfl rfl ?_
                    refine ov_havw (fun w161 gw161 qw161 => ?_)
                    refine ov_goto (tgt := 199) d_230_194 (by decide) ?_
                    refine ov_cV (as := [ov_i 1, ov_i w161]) (st := []) (d2 := d - 1) d_230_199 lk_Mo_246 rfl (Nat.le_of_ble_eq_true rfl) (c := 1) (zb_90 I85) (zs_90 I85) ⟨by decide, rfl⟩ (by omega) (c_Mo_emit_90 (d - 1) (by omega) U I85 1 w161 (by omega) (by omega) (by omega) (by show (h84 90 13) ≤ 999; omega)) ?_
                    rintro _ z177 h178 ⟨rfl, I179, f162, e163, e164, e165, e166, e167, e168, e169, e170, e171, e172, e173, e174, y175, y176⟩
                    have E180 : h178 92 = h 92 := Eq.trans e163 E86
                    have E181 : h178 93 = h 93 := Eq.trans e164 E87
                    have E182 : h178 94 = h 94 := Eq.trans e165 E88
                    have E183 : h178 95 = h 95 := Eq.trans e166 E89
                    have E184 : h178 96 = h 96 := Eq.trans e167 E90
                    have E185 : h178 99 = h 99 := Eq.trans e168 E93
                    have E186 : h178 100 = h 100 := Eq.trans e169 E94
                    have E187 : h178 103 = h 103 := Eq.trans e170 E95
                    have E188 : h178 105 = h 105 := Eq.trans e171 E96
                    have E189 : h178 106 = h 106 := Eq.trans e172 E97
                    have E190 : h178 109 = h 109 := Eq.trans e173 E98
                    have E191 : h178 114 = h 114 := Eq.trans e174 E99
                    show ov_R u d ov_m230 202 [(0, ov_r 90), (1, ov_i dep), (2, ov_i j4), (5, ov_i j5)] [] z177 h178 (P_Mo_takePart_90 F z h n dep)
                    have f192 : (h178 90 2) = (h84 90 2) ∧ (h178 90 3) = (h84 90 3) ∧ (h178 90 7) = (h84 90 7) ∧ (h178 90 8) = (h84 90 8) ∧ (h178 90 20) = (h84 90 20) ∧ (h178 90 22) = (h84 90 22) ∧ (h178 90 25) = (h84 90 25) ∧ (h178 90 26) = (h84 90 26) ∧ (h178 90 27) = (h84 90 27) ∧ (h178 90 28) = (h84 90 28) ∧ (h178 90 29) = (h84 90 29) ∧ (h178 90 30) = (h84 90 30) ∧ (h178 90 34) = (h84 90 34) ∧ (h178 90 35) = (h84 90 35) ∧ (h178 90 37) = (h84 90 37) ∧ (h178 90 13) = (h84 90 13) + 1 := f162
                    clear f162
                    rw [show h84 97 = h 97 from E91] at y175
                    have y175_ : (h178 97) = ov_rs (h 97) (1100 + (h84 90 13)) (1 : Int) := y175
                    rw [show h84 98 = h 98 from E92] at y176
                    have y176_ : (h178 98) = ov_rs (h 98) (1100 + (h84 90 13)) w161 := y176
                    have K193 : ∀ j : Int, j < 1100 + (h 90 13) → h178 97 j = h 97 j ∧ h178 98 j = h 98 j := ov_kpe (fun j _ => ⟨rfl, rfl⟩) y175_ y176_ (by omega)
                    have K194 : h178 90 8 = 0 → ov_sg (h178 97) (h178 98) (h 90 13) (h178 90 13) := fun e => by have q3 := ov_sg_one y175_ y176_ (by omega); rw [show h178 90 13 = (h84 90 13) + 1 by omega, show h 90 13 = (h84 90 13) by omega]; exact q3
                    refine ov_blk (ls2 := [(0, ov_r 90), (1, ov_i dep), (2, ov_i j4), (5, ov_i j5)]) (st2 := [ov_r 90, ov_r 90]) (pc2 := 204) b_230_202_2 rfl rfl ?_
                    refine ov_getf (v := ov_i (h178 90 7)) d_230_204 fl_Mo_177 (zb_90 I179) (zs_90 I179) rfl ?_
                    have g195 := rg_90_7 I179
                    refine ov_blk (ls2 := [(0, ov_r 90), (1, ov_i dep), (2, ov_i j4), (5, ov_i j5)]) (st2 := [ov_i ((h178 90 7) + 1), ov_r 90]) (pc2 := 209) b_230_207_2 rfl rfl ?_
                    refine ov_putf (x := ((h178 90 7) + 1)) d_230_209 fl_Mo_177 (zb_90 I179) (zs_90 I179) rfl nk_0 rfl ?_
                    have I196 := up_90_7 (x := ((h178 90 7) + 1)) I179 (by omega)
                    exact ov_retv (st := []) d_230_212 rfl ⟨rfl, I196, (by show (h178 90 2) = (h 90 2) ∧ (h178 90 3) = (h 90 3) ∧ (h178 90 20) = (h 90 20) ∧ (h178 90 22) = (h 90 22) ∧ (h178 90 25) = (h 90 25) ∧ (h178 90 26) = (h 90 26) ∧ (h178 90 27) = (h 90 27) ∧ (h178 90 28) = (h 90 28) ∧ (h178 90 29) = (h 90 29) ∧ (h178 90 30) = (h 90 30) ∧ (h178 90 34) = (h 90 34) ∧ (h178 90 35) = (h 90 35) ∧ (h178 90 37) = (h 90 37) ∧ (h 90 7) ≤ ((h178 90 7) + 1) ∧ ((h178 90 7) + 1) ≤ n ∧ (0 < (h 90 8) → (h178 90 8) = (h 90 8)) ∧ (h 90 13) ≤ (h178 90 13) ∧ (h178 90 13) - (h 90 13) ≤ ((h178 90 7) + 1) - (h 90 7); omega), E180, E181, E182, E183, E184, E185, E186, E187, E188, E189, E190, E191, K193, (fun e => by have e0 : (h178 90 8) = 0 := e; show ov_sg ((ov_up h178 90 7 ((h178 90 7) + 1)) 97) ((ov_up h178 90 7 ((h178 90 7) + 1)) 98) _ (h178 90 13); rw [show (h178 90 13) = (h178 90 13) by omega]; exact K194 (by omega))⟩
              · skip
                have f100_ : v68 = 1 := by omega
                have f197 : (h84 90 2) = (h29 90 2) := f100.1
                have f198 : (h84 90 3) = (h29 90 3) := f100.2.1
                have f199 : (h84 90 8) = (h29 90 8) := f100.2.2.1
                have f200 : (h84 90 13) = (h29 90 13) := f100.2.2.2.1
                have f201 : (h84 90 20) = (h29 90 20) := f100.2.2.2.2.1
                have f202 : (h84 90 22) = (h29 90 22) := f100.2.2.2.2.2.1
                have f203 : (h84 90 25) = (h29 90 25) := f100.2.2.2.2.2.2.1
                have f204 : (h84 90 26) = (h29 90 26) := f100.2.2.2.2.2.2.2.1
                have f205 : (h84 90 27) = (h29 90 27) := f100.2.2.2.2.2.2.2.2.1
                have f206 : (h84 90 28) = (h29 90 28) := f100.2.2.2.2.2.2.2.2.2.1
                have f207 : (h84 90 29) = (h29 90 29) := f100.2.2.2.2.2.2.2.2.2.2.1
                have f208 : (h84 90 30) = (h29 90 30) := f100.2.2.2.2.2.2.2.2.2.2.2.1
                have f209 : (h84 90 34) = (h29 90 34) := f100.2.2.2.2.2.2.2.2.2.2.2.2.1
                have f210 : (h84 90 35) = (h29 90 35) := f100.2.2.2.2.2.2.2.2.2.2.2.2.2.1
                have f211 : (h84 90 37) = (h29 90 37) := f100.2.2.2.2.2.2.2.2.2.2.2.2.2.2.1
                have f212 : (h29 90 7) ≤ (h84 90 7) := f100.2.2.2.2.2.2.2.2.2.2.2.2.2.2.2.2.1
                have f213 : (h84 90 7) ≤ n := f100.2.2.2.2.2.2.2.2.2.2.2.2.2.2.2.2.2.1
                have f214 : (h84 90 7) = (h29 90 7) + 1 ∧ (h29 90 8) = 0 := f100.2.2.2.2.2.2.2.2.2.2.2.2.2.2.2.2.2.2.1 (by omega)
                have f215 : (h29 90 8) = 0 ∧ (h 92 ((h29 90 7))) = 3 ∧ (h 94 ((h29 90 7))) = (40 : Int) := f100.2.2.2.2.2.2.2.2.2.2.2.2.2.2.2.2.2.2.2.2.1 (by omega)
                clear f100
                refine ov_blk (ls2 := [(0, ov_r 90), (1, ov_i dep), (2, ov_i j4), (5, ov_i j5)]) (st2 := [ov_i (dep + 1), ov_r 90]) (pc2 := 158) b_230_154_4 rfl rfl ?_
                have cf216 : h84 92 (n) = h 92 (n) := congrFun E86 (n)
                refine ov_cV (as := [ov_i (dep + 1)]) (st := []) (d2 := d - 1) d_230_158 lk_Mo_243 rfl (Nat.le_of_ble_eq_true rfl) (c := 1) (zb_90 I85) (zs_90 I85) ⟨by decide, rfl⟩ (by omega) (HE (k - 1) (by omega) (d - 1) (by omega) U I85 (dep + 1) (by omega) (by show 0 ≤ n ∧ n ≤ 1000 ∧ (h84 92 (n)) = 0 ∧ (h84 90 7) ≤ n; omega) (by omega) (by show (h84 90 13) ≤ (h84 90 7); omega)) ?_
                rintro _ z232 h233 ⟨rfl, I234, f217, e218, e219, e220, e221, e222, e223, e224, e225, e226, e227, e228, e229, y230, y231⟩
                have E235 : h233 92 = h 92 := Eq.trans e218 E86
                have E236 : h233 93 = h 93 := Eq.trans e219 E87
                have E237 : h233 94 = h 94 := Eq.trans e220 E88
                have E238 : h233 95 = h 95 := Eq.trans e221 E89
                have E239 : h233 96 = h 96 := Eq.trans e222 E90
                have E240 : h233 99 = h 99 := Eq.trans e223 E93
                have E241 : h233 100 = h 100 := Eq.trans e224 E94
                have E242 : h233 103 = h 103 := Eq.trans e225 E95
                have E243 : h233 105 = h 105 := Eq.trans e226 E96
                have E244 : h233 106 = h 106 := Eq.trans e227 E97
                have E245 : h233 109 = h 109 := Eq.trans e228 E98
                have E246 : h233 114 = h 114 := Eq.trans e229 E99
                show ov_R u d ov_m230 161 [(0, ov_r 90), (1, ov_i dep), (2, ov_i j4), (5, ov_i j5)] [] z232 h233 (P_Mo_takePart_90 F z h n dep)
                have f247 : (h233 90 2) = (h84 90 2) ∧ (h233 90 3) = (h84 90 3) ∧ (h233 90 20) = (h84 90 20) ∧ (h233 90 22) = (h84 90 22) ∧ (h233 90 25) = (h84 90 25) ∧ (h233 90 26) = (h84 90 26) ∧ (h233 90 27) = (h84 90 27) ∧ (h233 90 28) = (h84 90 28) ∧ (h233 90 29) = (h84 90 29) ∧ (h233 90 30) = (h84 90 30) ∧ (h233 90 34) = (h84 90 34) ∧ (h233 90 35) = (h84 90 35) ∧ (h233 90 37) = (h84 90 37) ∧ (h84 90 7) ≤ (h233 90 7) ∧ (h233 90 7) ≤ n ∧ (0 < (h84 90 8) → (h233 90 8) = (h84 90 8)) ∧ (h84 90 13) ≤ (h233 90 13) ∧ (h233 90 13) - (h84 90 13) ≤ (h233 90 7) - (h84 90 7) := f217
                clear f217
                rw [show h84 97 = h 97 from E91] at y230
                rw [show h84 98 = h 98 from E92] at y230
                have y230_ : ∀ j : Int, j < 1100 + (h84 90 13) → (h233 97) j = (h 97) j ∧ (h233 98) j = (h 98) j := y230
                have y231_ : (h233 90 8) = 0 → ov_sg (h233 97) (h233 98) (h84 90 13) (h233 90 13) := y231
                have K248 : ∀ j : Int, j < 1100 + (h 90 13) → h233 97 j = h 97 j ∧ h233 98 j = h 98 j := fun j hj => y230_ j (by omega)
                have K249 : h233 90 8 = 0 → ov_sg (h233 97) (h233 98) (h 90 13) (h233 90 13) := fun e => by have q := y231_ e; rw [show (h84 90 13) = h 90 13 by omega] at q; exact q
                refine ov_blk (ls2 := [(0, ov_r 90), (1, ov_i dep), (2, ov_i j4), (5, ov_i j5)]) (st2 := [ov_i 41, ov_r 90]) (pc2 := 164) b_230_161_2 rfl rfl ?_
                have cf250 : h233 92 (n) = h 92 (n) := congrFun E235 (n)
                refine ov_cV (as := [ov_i 41]) (st := []) (d2 := d - 1) d_230_164 lk_Mo_214 rfl (Nat.le_of_ble_eq_true rfl) (c := 1) (zb_90 I234) (zs_90 I234) ⟨by decide, rfl⟩ (by omega) (c_Mo_takeSign_90 n (d - 1) (by omega) U I234 41 (by omega) (by show 0 ≤ n ∧ n ≤ 1000 ∧ (h233 92 (n)) = 0 ∧ (h233 90 7) ≤ n; omega)) ?_
                rintro _ z266 h267 ⟨rfl, I268, f251, e252, e253, e254, e255, e256, e257, e258, e259, e260, e261, e262, e263, e264, e265⟩
                have E269 : h267 92 = h 92 := Eq.trans e252 E235
                have E270 : h267 93 = h 93 := Eq.trans e253 E236
                have E271 : h267 94 = h 94 := Eq.trans e254 E237
                have E272 : h267 95 = h 95 := Eq.trans e255 E238
                have E273 : h267 96 = h 96 := Eq.trans e256 E239
                have E274 : h267 97 = h233 97 := e257
                have E275 : h267 98 = h233 98 := e258
                have E276 : h267 99 = h 99 := Eq.trans e259 E240
                have E277 : h267 100 = h 100 := Eq.trans e260 E241
                have E278 : h267 103 = h 103 := Eq.trans e261 E242
                have E279 : h267 105 = h 105 := Eq.trans e262 E243
                have E280 : h267 106 = h 106 := Eq.trans e263 E244
                have E281 : h267 109 = h 109 := Eq.trans e264 E245
                have E282 : h267 114 = h 114 := Eq.trans e265 E246
                show ov_R u d ov_m230 167 [(0, ov_r 90), (1, ov_i dep), (2, ov_i j4), (5, ov_i j5)] [] z266 h267 (P_Mo_takePart_90 F z h n dep)
                have f283 : (h267 90 2) = (h233 90 2) ∧ (h267 90 3) = (h233 90 3) ∧ (h267 90 13) = (h233 90 13) ∧ (h267 90 20) = (h233 90 20) ∧ (h267 90 22) = (h233 90 22) ∧ (h267 90 25) = (h233 90 25) ∧ (h267 90 26) = (h233 90 26) ∧ (h267 90 27) = (h233 90 27) ∧ (h267 90 28) = (h233 90 28) ∧ (h267 90 29) = (h233 90 29) ∧ (h267 90 30) = (h233 90 30) ∧ (h267 90 34) = (h233 90 34) ∧ (h267 90 35) = (h233 90 35) ∧ (h267 90 37) = (h233 90 37) ∧ (h233 90 7) ≤ (h267 90 7) ∧ (h267 90 7) ≤ n ∧ (0 < (h233 90 8) → (h267 90 8) = (h233 90 8)) ∧ ((h267 90 8) = 0 → (h233 90 7) < (h267 90 7)) := f251
                clear f251
                refine ov_goto (tgt := 212) d_230_167 (by decide) ?_
                exact ov_retv (st := []) d_230_212 rfl ⟨rfl, I268, (by show (h267 90 2) = (h 90 2) ∧ (h267 90 3) = (h 90 3) ∧ (h267 90 20) = (h 90 20) ∧ (h267 90 22) = (h 90 22) ∧ (h267 90 25) = (h 90 25) ∧ (h267 90 26) = (h 90 26) ∧ (h267 90 27) = (h 90 27) ∧ (h267 90 28) = (h 90 28) ∧ (h267 90 29) = (h 90 29) ∧ (h267 90 30) = (h 90 30) ∧ (h267 90 34) = (h 90 34) ∧ (h267 90 35) = (h 90 35) ∧ (h267 90 37) = (h 90 37) ∧ (h 90 7) ≤ (h267 90 7) ∧ (h267 90 7) ≤ n ∧ (0 < (h 90 8) → (h267 90 8) = (h 90 8)) ∧ (h 90 13) ≤ (h267 90 13) ∧ (h267 90 13) - (h 90 13) ≤ (h267 90 7) - (h 90 7); omega), E269, E270, E271, E272, E273, E276, E277, E278, E279, E280, E281, E282, (by rw [show h267 97 = h233 97 from E274, show h267 98 = h233 98 from E275]; exact K248), (fun e => by have e0 : (h267 90 8) = 0 := e; show ov_sg (h267 97) (h267 98) _ (h267 90 13); rw [show h267 97 = h233 97 from E274, show h267 98 = h233 98 from E275, show (h267 90 13) = (h233 90 13) by omega]; exact K249 (by omega))⟩
            · skip
              have f45_ : v13 = 1 := by omega
              have f284 : (h29 90 2) = (h 90 2) := f45.1
              have f285 : (h29 90 3) = (h 90 3) := f45.2.1
              have f286 : (h29 90 8) = (h 90 8) := f45.2.2.1
              have f287 : (h29 90 13) = (h 90 13) := f45.2.2.2.1
              have f288 : (h29 90 20) = (h 90 20) := f45.2.2.2.2.1
              have f289 : (h29 90 22) = (h 90 22) := f45.2.2.2.2.2.1
              have f290 : (h29 90 25) = (h 90 25) := f45.2.2.2.2.2.2.1
              have f291 : (h29 90 26) = (h 90 26) := f45.2.2.2.2.2.2.2.1
              have f292 : (h29 90 27) = (h 90 27) := f45.2.2.2.2.2.2.2.2.1
              have f293 : (h29 90 28) = (h 90 28) := f45.2.2.2.2.2.2.2.2.2.1
              have f294 : (h29 90 29) = (h 90 29) := f45.2.2.2.2.2.2.2.2.2.2.1
              have f295 : (h29 90 30) = (h 90 30) := f45.2.2.2.2.2.2.2.2.2.2.2.1
              have f296 : (h29 90 34) = (h 90 34) := f45.2.2.2.2.2.2.2.2.2.2.2.2.1
              have f297 : (h29 90 35) = (h 90 35) := f45.2.2.2.2.2.2.2.2.2.2.2.2.2.1
              have f298 : (h29 90 37) = (h 90 37) := f45.2.2.2.2.2.2.2.2.2.2.2.2.2.2.1
              have f299 : (h 90 7) ≤ (h29 90 7) := f45.2.2.2.2.2.2.2.2.2.2.2.2.2.2.2.2.1
              have f300 : (h29 90 7) ≤ n := f45.2.2.2.2.2.2.2.2.2.2.2.2.2.2.2.2.2.1
              have f301 : (h29 90 7) = (h 90 7) + 1 ∧ (h 90 8) = 0 := f45.2.2.2.2.2.2.2.2.2.2.2.2.2.2.2.2.2.2.1 (by omega)
              have f302 : (h 90 8) = 0 ∧ (h 92 ((h 90 7))) = 1 ∧ (h 94 ((h 90 7))) = (h 95 ((17 : Int))) := f45.2.2.2.2.2.2.2.2.2.2.2.2.2.2.2.2.2.2.2.2.1 (by omega)
              clear f45
              refine ov_blk (ls2 := [(0, ov_r 90), (1, ov_i dep), (2, ov_i j4), (5, ov_i j5)]) (st2 := [ov_i (dep + 1), ov_r 90]) (pc2 := 133) b_230_129_4 rfl rfl ?_
              have cf303 : h29 92 (n) = h 92 (n) := congrFun E31 (n)
              refine ov_cV (as := [ov_i (dep + 1)]) (st := []) (d2 := d - 1) d_230_133 lk_Mo_269 rfl (Nat.le_of_ble_eq_true rfl) (c := 1) (zb_90 I30) (zs_90 I30) ⟨by decide, rfl⟩ (by omega) (HP (k - 1) (by omega) (d - 1) (by omega) U I30 (dep + 1) (by omega) (by show 0 ≤ n ∧ n ≤ 1000 ∧ (h29 92 (n)) = 0 ∧ (h29 90 7) ≤ n; omega) (by omega) (by show (h29 90 13) ≤ (h29 90 7); omega)) ?_
              rintro _ z319 h320 ⟨rfl, I321, f304, e305, e306, e307, e308, e309, e310, e311, e312, e313, e314, e315, e316, y317, y318⟩
              have E322 : h320 92 = h 92 := Eq.trans e305 E31
              have E323 : h320 93 = h 93 := Eq.trans e306 E32
              have E324 : h320 94 = h 94 := Eq.trans e307 E33
              have E325 : h320 95 = h 95 := Eq.trans e308 E34
              have E326 : h320 96 = h 96 := Eq.trans e309 E35
              have E327 : h320 99 = h 99 := Eq.trans e310 E38
              have E328 : h320 100 = h 100 := Eq.trans e311 E39
              have E329 : h320 103 = h 103 := Eq.trans e312 E40
              have E330 : h320 105 = h 105 := Eq.trans e313 E41
              have E331 : h320 106 = h 106 := Eq.trans e314 E42
              have E332 : h320 109 = h 109 := Eq.trans e315 E43
              have E333 : h320 114 = h 114 := Eq.trans e316 E44
              show ov_R u d ov_m230 136 [(0, ov_r 90), (1, ov_i dep), (2, ov_i j4), (5, ov_i j5)] [] z319 h320 (P_Mo_takePart_90 F z h n dep)
              have f334 : (h320 90 2) = (h29 90 2) ∧ (h320 90 3) = (h29 90 3) ∧ (h320 90 20) = (h29 90 20) ∧ (h320 90 22) = (h29 90 22) ∧ (h320 90 25) = (h29 90 25) ∧ (h320 90 26) = (h29 90 26) ∧ (h320 90 27) = (h29 90 27) ∧ (h320 90 28) = (h29 90 28) ∧ (h320 90 29) = (h29 90 29) ∧ (h320 90 30) = (h29 90 30) ∧ (h320 90 34) = (h29 90 34) ∧ (h320 90 35) = (h29 90 35) ∧ (h320 90 37) = (h29 90 37) ∧ (h29 90 7) ≤ (h320 90 7) ∧ (h320 90 7) ≤ n ∧ (0 < (h29 90 8) → (h320 90 8) = (h29 90 8)) ∧ (h29 90 13) ≤ (h320 90 13) ∧ (h320 90 13) - (h29 90 13) ≤ (h320 90 7) - (h29 90 7) := f304
              clear f304
              rw [show h29 97 = h 97 from E36] at y317
              rw [show h29 98 = h 98 from E37] at y317
              have y317_ : ∀ j : Int, j < 1100 + (h29 90 13) → (h320 97) j = (h 97) j ∧ (h320 98) j = (h 98) j := y317
              have y318_ : (h320 90 8) = 0 → ov_sg (h320 97) (h320 98) (h29 90 13) (h320 90 13) := y318
              have K335 : ∀ j : Int, j < 1100 + (h 90 13) → h320 97 j = h 97 j ∧ h320 98 j = h 98 j := fun j hj => y317_ j (by omega)
              have K336 : h320 90 8 = 0 → ov_sg (h320 97) (h320 98) (h 90 13) (h320 90 13) := fun e => by have q := y318_ e; rw [show (h29 90 13) = h 90 13 by omega] at q; exact q
              refine ov_blk (ls2 := [(0, ov_r 90), (1, ov_i dep), (2, ov_i j4), (5, ov_i j5)]) (st2 := [ov_i 0, ov_i 3, ov_r 90]) (pc2 := 139) b_230_136_3 rfl rfl ?_
              refine ov_cV (as := [ov_i 3, ov_i 0]) (st := []) (d2 := d - 1) d_230_139 lk_Mo_246 rfl (Nat.le_of_ble_eq_true rfl) (c := 1) (zb_90 I321) (zs_90 I321) ⟨by decide, rfl⟩ (by omega) (c_Mo_emit_90 (d - 1) (by omega) U I321 3 0 (by omega) (by omega) (by omega) (by show (h320 90 13) ≤ 999; omega)) ?_
              rintro _ z352 h353 ⟨rfl, I354, f337, e338, e339, e340, e341, e342, e343, e344, e345, e346, e347, e348, e349, y350, y351⟩
              have E355 : h353 92 = h 92 := Eq.trans e338 E322
              have E356 : h353 93 = h 93 := Eq.trans e339 E323
              have E357 : h353 94 = h 94 := Eq.trans e340 E324
              have E358 : h353 95 = h 95 := Eq.trans e341 E325
              have E359 : h353 96 = h 96 := Eq.trans e342 E326
              have E360 : h353 99 = h 99 := Eq.trans e343 E327
              have E361 : h353 100 = h 100 := Eq.trans e344 E328
              have E362 : h353 103 = h 103 := Eq.trans e345 E329
              have E363 : h353 105 = h 105 := Eq.trans e346 E330
              have E364 : h353 106 = h 106 := Eq.trans e347 E331
              have E365 : h353 109 = h 109 := Eq.trans e348 E332
              have E366 : h353 114 = h 114 := Eq.trans e349 E333
              show ov_R u d ov_m230 142 [(0, ov_r 90), (1, ov_i dep), (2, ov_i j4), (5, ov_i j5)] [] z352 h353 (P_Mo_takePart_90 F z h n dep)
              have f367 : (h353 90 2) = (h320 90 2) ∧ (h353 90 3) = (h320 90 3) ∧ (h353 90 7) = (h320 90 7) ∧ (h353 90 8) = (h320 90 8) ∧ (h353 90 20) = (h320 90 20) ∧ (h353 90 22) = (h320 90 22) ∧ (h353 90 25) = (h320 90 25) ∧ (h353 90 26) = (h320 90 26) ∧ (h353 90 27) = (h320 90 27) ∧ (h353 90 28) = (h320 90 28) ∧ (h353 90 29) = (h320 90 29) ∧ (h353 90 30) = (h320 90 30) ∧ (h353 90 34) = (h320 90 34) ∧ (h353 90 35) = (h320 90 35) ∧ (h353 90 37) = (h320 90 37) ∧ (h353 90 13) = (h320 90 13) + 1 := f337
              clear f337
              have y350_ : (h353 97) = ov_rs (h320 97) (1100 + (h320 90 13)) (3 : Int) := y350
              have y351_ : (h353 98) = ov_rs (h320 98) (1100 + (h320 90 13)) (0 : Int) := y351
              have K368 : ∀ j : Int, j < 1100 + (h 90 13) → h353 97 j = h 97 j ∧ h353 98 j = h 98 j := ov_kpe K335 y350_ y351_ (by omega)
              have K369 : h353 90 8 = 0 → ov_sg (h353 97) (h353 98) (h 90 13) (h353 90 13) := fun e => by have q1 := K336 (by omega); have q3 := ov_sg_un q1 y350_ y351_; rw [show h353 90 13 = (h320 90 13) + 1 by omega]; exact q3
              refine ov_goto (tgt := 212) d_230_142 (by decide) ?_
              exact ov_retv (st := []) d_230_212 rfl ⟨rfl, I354, (by show (h353 90 2) = (h 90 2) ∧ (h353 90 3) = (h 90 3) ∧ (h353 90 20) = (h 90 20) ∧ (h353 90 22) = (h 90 22) ∧ (h353 90 25) = (h 90 25) ∧ (h353 90 26) = (h 90 26) ∧ (h353 90 27) = (h 90 27) ∧ (h353 90 28) = (h 90 28) ∧ (h353 90 29) = (h 90 29) ∧ (h353 90 30) = (h 90 30) ∧ (h353 90 34) = (h 90 34) ∧ (h353 90 35) = (h 90 35) ∧ (h353 90 37) = (h 90 37) ∧ (h 90 7) ≤ (h353 90 7) ∧ (h353 90 7) ≤ n ∧ (0 < (h 90 8) → (h353 90 8) = (h 90 8)) ∧ (h 90 13) ≤ (h353 90 13) ∧ (h353 90 13) - (h 90 13) ≤ (h353 90 7) - (h 90 7); omega), E355, E356, E357, E358, E359, E360, E361, E362, E363, E364, E365, E366, K368, (fun e => by have e0 : (h353 90 8) = 0 := e; show ov_sg (h353 97) (h353 98) _ (h353 90 13); rw [show (h353 90 13) = (h353 90 13) by omega]; exact K369 (by omega))⟩
          · omega
        · skip
          refine ov_blk (ls2 := [(0, ov_r 90), (1, ov_i dep), (2, ov_i j4), (5, ov_i j5)]) (st2 := [ov_i 5, ov_r 90]) (pc2 := 109) b_230_107_2 rfl rfl ?_
          refine ov_cV (as := [ov_i 5]) (st := []) (d2 := d - 1) d_230_109 lk_Mo_186 rfl (Nat.le_of_ble_eq_true rfl) (c := 1) (zb_90 I) (zs_90 I) ⟨by decide, rfl⟩ (by omega) (c_Mo_wrong_90 (d - 1) (by omega) U I 5 (by omega) (by omega)) ?_
          rintro _ z385 h386 ⟨rfl, I387, f370, e371, e372, e373, e374, e375, e376, e377, e378, e379, e380, e381, e382, e383, e384⟩
          have E388 : h386 92 = h 92 := e371
          have E389 : h386 93 = h 93 := e372
          have E390 : h386 94 = h 94 := e373
          have E391 : h386 95 = h 95 := e374
          have E392 : h386 96 = h 96 := e375
          have E393 : h386 97 = h 97 := e376
          have E394 : h386 98 = h 98 := e377
          have E395 : h386 99 = h 99 := e378
          have E396 : h386 100 = h 100 := e379
          have E397 : h386 103 = h 103 := e380
          have E398 : h386 105 = h 105 := e381
          have E399 : h386 106 = h 106 := e382
          have E400 : h386 109 = h 109 := e383
          have E401 : h386 114 = h 114 := e384
          show ov_R u d ov_m230 112 [(0, ov_r 90), (1, ov_i dep), (2, ov_i j4), (5, ov_i j5)] [] z385 h386 (P_Mo_takePart_90 F z h n dep)
          have f402 : (h386 90 2) = (h 90 2) ∧ (h386 90 3) = (h 90 3) ∧ (h386 90 7) = (h 90 7) ∧ (h386 90 13) = (h 90 13) ∧ (h386 90 20) = (h 90 20) ∧ (h386 90 22) = (h 90 22) ∧ (h386 90 25) = (h 90 25) ∧ (h386 90 26) = (h 90 26) ∧ (h386 90 27) = (h 90 27) ∧ (h386 90 28) = (h 90 28) ∧ (h386 90 29) = (h 90 29) ∧ (h386 90 30) = (h 90 30) ∧ (h386 90 34) = (h 90 34) ∧ (h386 90 35) = (h 90 35) ∧ (h386 90 37) = (h 90 37) ∧ 0 < (h386 90 8) ∧ (0 < (h 90 8) → (h386 90 8) = (h 90 8)) := f370
          clear f370
          refine ov_blk (ls2 := [(0, ov_r 90), (1, ov_i dep), (2, ov_i j4), (5, ov_i j5)]) (st2 := [ov_r 90]) (pc2 := 113) b_230_112_1 rfl rfl ?_
          refine ov_getf (v := ov_i (h386 90 8)) d_230_113 fl_Mo_180 (zb_90 I387) (zs_90 I387) rfl ?_
          have g403 := rg_90_8 I387
          refine ov_ifle (tgt := 120) d_230_116 (by decide) (by omega) (fun c404 => ?_) (fun c404 => ?_)
          · omega
          · skip
            exact ov_retv (st := []) d_230_119 rfl ⟨rfl, I387, (by show (h386 90 2) = (h 90 2) ∧ (h386 90 3) = (h 90 3) ∧ (h386 90 20) = (h 90 20) ∧ (h386 90 22) = (h 90 22) ∧ (h386 90 25) = (h 90 25) ∧ (h386 90 26) = (h 90 26) ∧ (h386 90 27) = (h 90 27) ∧ (h386 90 28) = (h 90 28) ∧ (h386 90 29) = (h 90 29) ∧ (h386 90 30) = (h 90 30) ∧ (h386 90 34) = (h 90 34) ∧ (h386 90 35) = (h 90 35) ∧ (h386 90 37) = (h 90 37) ∧ (h 90 7) ≤ (h386 90 7) ∧ (h386 90 7) ≤ n ∧ (0 < (h 90 8) → (h386 90 8) = (h 90 8)) ∧ (h 90 13) ≤ (h386 90 13) ∧ (h386 90 13) - (h 90 13) ≤ (h386 90 7) - (h 90 7); omega), E388, E389, E390, E391, E392, E395, E396, E397, E398, E399, E400, E401, (fun j _ => by rw [show h386 97 = h 97 from E393, show h386 98 = h 98 from E394]; exact ⟨rfl, rfl⟩), (fun e => absurd e (by show ¬ (h386 90 8) = 0; omega))⟩
      refine ov_blk (ls2 := [(0, ov_r 90), (1, ov_i dep), (2, ov_i j4), (5, ov_i j5)]) (st2 := [ov_i j5]) (pc2 := 69) b_230_67_1 rfl rfl ?_
      refine ov_ifge (tgt := 102) d_230_69 (by decide) (by omega) (fun c405 => ?_) (fun c405 => ?_)
      · skip
        exact J7  (by show (0 ≤ j5 ∨ j4 = 1 ∨ ((h 90 8) = 0 ∧ (h 92 ((h 90 7))) = 3 ∧ (h 94 ((h 90 7))) = 40) ∨ ((h 90 8) = 0 ∧ (h 92 ((h 90 7))) = 1 ∧ (h 94 ((h 90 7))) = (h 95 (17)))); omega)
      · skip
        refine ov_blk (ls2 := [(0, ov_r 90), (1, ov_i dep), (2, ov_i j4), (5, ov_i j5)]) (st2 := [ov_i j4]) (pc2 := 73) b_230_72_1 rfl rfl ?_
        refine ov_ifne (tgt := 102) d_230_73 (by decide) (by omega) (fun c406 => ?_) (fun c406 => ?_)
        · skip
          exact J7  (by show (0 ≤ j5 ∨ j4 = 1 ∨ ((h 90 8) = 0 ∧ (h 92 ((h 90 7))) = 3 ∧ (h 94 ((h 90 7))) = 40) ∨ ((h 90 8) = 0 ∧ (h 92 ((h 90 7))) = 1 ∧ (h 94 ((h 90 7))) = (h 95 (17)))); omega)
        · skip
          refine ov_blk (ls2 := [(0, ov_r 90), (1, ov_i dep), (2, ov_i j4), (5, ov_i j5)]) (st2 := [ov_i 40, ov_r 90]) (pc2 := 79) b_230_76_2 rfl rfl ?_
          refine ov_cV (as := [ov_i 40]) (st := []) (d2 := d - 1) d_230_79 lk_Mo_183 rfl (Nat.le_of_ble_eq_true rfl) (c := 1) (zb_90 I) (zs_90 I) ⟨by decide, rfl⟩ (by omega) (c_Mo_isSign_90 n (d - 1) (by omega) U I 40 (by omega) (by show 0 ≤ n ∧ n ≤ 1000 ∧ (h 92 (n)) = 0 ∧ (h 90 7) ≤ n; omega)) ?_
          rintro _ _ _ ⟨v408, rfl, rfl, rfl, f407⟩
          show ov_R u d ov_m230 82 [(0, ov_r 90), (1, ov_i dep), (2, ov_i j4), (5, ov_i j5)] [ov_i v408] z h (P_Mo_takePart_90 F z h n dep)
          have f409 : (v408 = 0 ∨ v408 = 1) ∧ (v408 = 1 → (h 90 7) < n) ∧ (v408 = 1 → (h 90 8) = 0 ∧ (h 92 ((h 90 7))) = 3 ∧ (h 94 ((h 90 7))) = (40 : Int)) ∧ (v408 = 0 → ¬ ((h 90 8) = 0 ∧ (h 92 ((h 90 7))) = 3 ∧ (h 94 ((h 90 7))) = (40 : Int))) := f407
          clear f407
          refine ov_ifne (tgt := 102) d_230_82 (by decide) (by omega) (fun c410 => ?_) (fun c410 => ?_)
          · skip
            have f409_ : v408 = 1 := by omega
            have f411 : (h 90 7) < n := f409.2.1 (by omega)
            have f412 : (h 90 8) = 0 ∧ (h 92 ((h 90 7))) = 3 ∧ (h 94 ((h 90 7))) = (40 : Int) := f409.2.2.1 (by omega)
            clear f409
            exact J7  (by show (0 ≤ j5 ∨ j4 = 1 ∨ ((h 90 8) = 0 ∧ (h 92 ((h 90 7))) = 3 ∧ (h 94 ((h 90 7))) = 40) ∨ ((h 90 8) = 0 ∧ (h 92 ((h 90 7))) = 1 ∧ (h 94 ((h 90 7))) = (h 95 (17)))); omega)
          · skip
            have f409_ : v408 = 0 := by omega
            have f413 : ¬ ((h 90 8) = 0 ∧ (h 92 ((h 90 7))) = 3 ∧ (h 94 ((h 90 7))) = (40 : Int)) := f409.2.2.2 (by omega)
            clear f409
            refine ov_blk (ls2 := [(0, ov_r 90), (1, ov_i dep), (2, ov_i j4), (5, ov_i j5)]) (st2 := [ov_i 17, ov_r 90]) (pc2 := 88) b_230_85_2 rfl rfl ?_
            refine ov_cV (as := [ov_i 17]) (st := []) (d2 := d - 1) d_230_88 lk_Mo_189 rfl (Nat.le_of_ble_eq_true rfl) (c := 1) (zb_90 I) (zs_90 I) ⟨by decide, rfl⟩ (by omega) (c_Mo_isWord_90 n (d - 1) (by omega) U I 17 (by omega) (by show 0 ≤ n ∧ n ≤ 1000 ∧ (h 92 (n)) = 0 ∧ (h 90 7) ≤ n; omega) (by omega)) ?_
            rintro _ _ _ ⟨v415, rfl, rfl, rfl, f414⟩
            show ov_R u d ov_m230 91 [(0, ov_r 90), (1, ov_i dep), (2, ov_i j4), (5, ov_i j5)] [ov_i v415] z h (P_Mo_takePart_90 F z h n dep)
            have f416 : (v415 = 0 ∨ v415 = 1) ∧ (v415 = 1 → (h 90 7) < n) ∧ (v415 = 1 → (h 90 8) = 0 ∧ (h 92 ((h 90 7))) = 1 ∧ (h 94 ((h 90 7))) = (h 95 ((17 : Int)))) ∧ (v415 = 0 → ¬ ((h 90 8) = 0 ∧ (h 92 ((h 90 7))) = 1 ∧ (h 94 ((h 90 7))) = (h 95 ((17 : Int))))) := f414
            clear f414
            refine ov_ifne (tgt := 102) d_230_91 (by decide) (by omega) (fun c417 => ?_) (fun c417 => ?_)
            · skip
              have f416_ : v415 = 1 := by omega
              have f418 : (h 90 7) < n := f416.2.1 (by omega)
              have f419 : (h 90 8) = 0 ∧ (h 92 ((h 90 7))) = 1 ∧ (h 94 ((h 90 7))) = (h 95 ((17 : Int))) := f416.2.2.1 (by omega)
              clear f416
              exact J7  (by show (0 ≤ j5 ∨ j4 = 1 ∨ ((h 90 8) = 0 ∧ (h 92 ((h 90 7))) = 3 ∧ (h 94 ((h 90 7))) = 40) ∨ ((h 90 8) = 0 ∧ (h 92 ((h 90 7))) = 1 ∧ (h 94 ((h 90 7))) = (h 95 (17)))); omega)
            · skip
              have f416_ : v415 = 0 := by omega
              have f420 : ¬ ((h 90 8) = 0 ∧ (h 92 ((h 90 7))) = 1 ∧ (h 94 ((h 90 7))) = (h 95 ((17 : Int)))) := f416.2.2.2 (by omega)
              clear f416
              refine ov_blk (ls2 := [(0, ov_r 90), (1, ov_i dep), (2, ov_i j4), (5, ov_i j5)]) (st2 := [ov_i 1, ov_r 90]) (pc2 := 96) b_230_94_2 rfl rfl ?_
              refine ov_cV (as := [ov_i 1]) (st := []) (d2 := d - 1) d_230_96 lk_Mo_186 rfl (Nat.le_of_ble_eq_true rfl) (c := 1) (zb_90 I) (zs_90 I) ⟨by decide, rfl⟩ (by omega) (c_Mo_wrong_90 (d - 1) (by omega) U I 1 (by omega) (by omega)) ?_
              rintro _ z436 h437 ⟨rfl, I438, f421, e422, e423, e424, e425, e426, e427, e428, e429, e430, e431, e432, e433, e434, e435⟩
              have E439 : h437 92 = h 92 := e422
              have E440 : h437 93 = h 93 := e423
              have E441 : h437 94 = h 94 := e424
              have E442 : h437 95 = h 95 := e425
              have E443 : h437 96 = h 96 := e426
              have E444 : h437 97 = h 97 := e427
              have E445 : h437 98 = h 98 := e428
              have E446 : h437 99 = h 99 := e429
              have E447 : h437 100 = h 100 := e430
              have E448 : h437 103 = h 103 := e431
              have E449 : h437 105 = h 105 := e432
              have E450 : h437 106 = h 106 := e433
              have E451 : h437 109 = h 109 := e434
              have E452 : h437 114 = h 114 := e435
              show ov_R u d ov_m230 99 [(0, ov_r 90), (1, ov_i dep), (2, ov_i j4), (5, ov_i j5)] [] z436 h437 (P_Mo_takePart_90 F z h n dep)
              have f453 : (h437 90 2) = (h 90 2) ∧ (h437 90 3) = (h 90 3) ∧ (h437 90 7) = (h 90 7) ∧ (h437 90 13) = (h 90 13) ∧ (h437 90 20) = (h 90 20) ∧ (h437 90 22) = (h 90 22) ∧ (h437 90 25) = (h 90 25) ∧ (h437 90 26) = (h 90 26) ∧ (h437 90 27) = (h 90 27) ∧ (h437 90 28) = (h 90 28) ∧ (h437 90 29) = (h 90 29) ∧ (h437 90 30) = (h 90 30) ∧ (h437 90 34) = (h 90 34) ∧ (h437 90 35) = (h 90 35) ∧ (h437 90 37) = (h 90 37) ∧ 0 < (h437 90 8) ∧ (0 < (h 90 8) → (h437 90 8) = (h 90 8)) := f421
              clear f421
              refine ov_goto (tgt := 112) d_230_99 (by decide) ?_
              refine ov_blk (ls2 := [(0, ov_r 90), (1, ov_i dep), (2, ov_i j4), (5, ov_i j5)]) (st2 := [ov_r 90]) (pc2 := 113) b_230_112_1 rfl rfl ?_
              refine ov_getf (v := ov_i (h437 90 8)) d_230_113 fl_Mo_180 (zb_90 I438) (zs_90 I438) rfl ?_
              have g454 := rg_90_8 I438
              refine ov_ifle (tgt := 120) d_230_116 (by decide) (by omega) (fun c455 => ?_) (fun c455 => ?_)
              · omega
              · skip
                exact ov_retv (st := []) d_230_119 rfl ⟨rfl, I438, (by show (h437 90 2) = (h 90 2) ∧ (h437 90 3) = (h 90 3) ∧ (h437 90 20) = (h 90 20) ∧ (h437 90 22) = (h 90 22) ∧ (h437 90 25) = (h 90 25) ∧ (h437 90 26) = (h 90 26) ∧ (h437 90 27) = (h 90 27) ∧ (h437 90 28) = (h 90 28) ∧ (h437 90 29) = (h 90 29) ∧ (h437 90 30) = (h 90 30) ∧ (h437 90 34) = (h 90 34) ∧ (h437 90 35) = (h 90 35) ∧ (h437 90 37) = (h 90 37) ∧ (h 90 7) ≤ (h437 90 7) ∧ (h437 90 7) ≤ n ∧ (0 < (h 90 8) → (h437 90 8) = (h 90 8)) ∧ (h 90 13) ≤ (h437 90 13) ∧ (h437 90 13) - (h 90 13) ≤ (h437 90 7) - (h 90 7); omega), E439, E440, E441, E442, E443, E446, E447, E448, E449, E450, E451, E452, (fun j _ => by rw [show h437 97 = h 97 from E444, show h437 98 = h 98 from E445]; exact ⟨rfl, rfl⟩), (fun e => absurd e (by show ¬ (h437 90 8) = 0; omega))⟩
    refine ov_blk (ls2 := [(0, ov_r 90), (1, ov_i dep)]) (st2 := [ov_r 90]) (pc2 := 9) b_230_8_1 rfl rfl ?_
    refine ov_getf (v := ov_r 92) d_230_9 fl_Mo_24 (zb_90 I) (zs_90 I) (congrArg ov_r (rg_90_4 I)) ?_
    refine ov_blk (ls2 := [(0, ov_r 90), (1, ov_i dep)]) (st2 := [ov_r 90, ov_r 92]) (pc2 := 13) b_230_12_1 rfl rfl ?_
    refine ov_getf (v := ov_i (h 90 7)) d_230_13 fl_Mo_177 (zb_90 I) (zs_90 I) rfl ?_
    have g456 := rg_90_7 I
    refine ov_iald d_230_16 (zb_92 I) (zs_92 I) (by omega) ?_
    have g457 := ra_92 I (h 90 7)
    refine ov_blk (ls2 := [(0, ov_r 90), (1, ov_i dep)]) (st2 := [ov_i 2, ov_i (h 92 (h 90 7))]) (pc2 := 18) b_230_17_1 rfl rfl ?_
    refine ov_icne (tgt := 25) d_230_18 (by decide) (by omega) (by omega) (fun c458 => ?_) (fun c458 => ?_)
    · skip
      refine ov_blk (ls2 := [(0, ov_r 90), (1, ov_i dep), (2, ov_i 0)]) (st2 := [ov_i 2, ov_i 10, ov_r 90]) (pc2 := 31) b_230_25_5 rfl rfl ?_
      refine ov_cV (as := [ov_i 10, ov_i 2]) (st := []) (d2 := d - 1) d_230_31 lk_Mo_202 rfl (Nat.le_of_ble_eq_true rfl) (c := 1) (zb_90 I) (zs_90 I) ⟨by decide, rfl⟩ (by omega) (c_Mo_wordHere_90 n (d - 1) (by omega) U I 10 2 (by omega) (by omega) (by show 0 ≤ n ∧ n ≤ 1000 ∧ (h 92 (n)) = 0 ∧ (h 90 7) ≤ n; omega) (by omega)) ?_
      rintro _ _ _ ⟨v460, rfl, rfl, rfl, f459⟩
      show ov_R u d ov_m230 34 [(0, ov_r 90), (1, ov_i dep), (2, ov_i 0)] [ov_i v460] z h (P_Mo_takePart_90 F z h n dep)
      have f461 : -1 ≤ v460 ∧ v460 < (2 : Int) ∧ (0 ≤ v460 → (h 90 7) < n ∧ (h 90 8) = 0) := f459
      clear f459
      refine ov_blk (ls2 := [(0, ov_r 90), (1, ov_i dep), (2, ov_i 0), (3, ov_i v460)]) (st2 := [ov_i 2, ov_i 20, ov_r 90]) (pc2 := 39) b_230_34_4 rfl rfl ?_
      refine ov_cV (as := [ov_i 20, ov_i 2]) (st := []) (d2 := d - 1) d_230_39 lk_Mo_202 rfl (Nat.le_of_ble_eq_true rfl) (c := 1) (zb_90 I) (zs_90 I) ⟨by decide, rfl⟩ (by omega) (c_Mo_wordHere_90 n (d - 1) (by omega) U I 20 2 (by omega) (by omega) (by show 0 ≤ n ∧ n ≤ 1000 ∧ (h 92 (n)) = 0 ∧ (h 90 7) ≤ n; omega) (by omega)) ?_
      rintro _ _ _ ⟨v463, rfl, rfl, rfl, f462⟩
      show ov_R u d ov_m230 42 [(0, ov_r 90), (1, ov_i dep), (2, ov_i 0), (3, ov_i v460)] [ov_i v463] z h (P_Mo_takePart_90 F z h n dep)
      have f464 : -1 ≤ v463 ∧ v463 < (2 : Int) ∧ (0 ≤ v463 → (h 90 7) < n ∧ (h 90 8) = 0) := f462
      clear f462
      refine ov_blk (ls2 := [(0, ov_r 90), (1, ov_i dep), (2, ov_i 0), (3, ov_i v460), (4, ov_i v463)]) (st2 := [ov_i v460]) (pc2 := 45) b_230_42_2 rfl rfl ?_
      refine ov_iflt (tgt := 52) d_230_45 (by decide) (by omega) (fun c465 => ?_) (fun c465 => ?_)
      · skip
        refine ov_blk (ls2 := [(0, ov_r 90), (1, ov_i dep), (2, ov_i 0), (3, ov_i v460), (4, ov_i v463)]) (st2 := [ov_i v463]) (pc2 := 54) b_230_52_1 rfl rfl ?_
        refine ov_iflt (tgt := 64) d_230_54 (by decide) (by omega) (fun c466 => ?_) (fun c466 => ?_)
        · skip
          refine ov_blk (ls2 := [(0, ov_r 90), (1, ov_i dep), (2, ov_i 0), (3, ov_i v460), (4, ov_i v463), (5, ov_i (-1))]) (st2 := []) (pc2 := 67) b_230_64_2 rfl rfl ?_
          refine ov_sub (ls2 := [(0, ov_r 90), (1, ov_i dep), (2, ov_i 0), (5, ov_i (-1))]) (List.Sublist.subset (by repeat (first | exact List.Sublist.refl _ | apply List.Sublist.cons_cons | apply List.Sublist.cons))) ?_
          exact J3 0 (-1) (by show (0 = 0 ∨ 0 = 1) ∧ (0 = 1 → (h 92 ((h 90 7))) = 2) ∧ -1 ≤ (-1) ∧ (-1) ≤ 3 ∧ (0 ≤ (-1) → (h 90 7) < n); omega)
        · skip
          refine ov_blk (ls2 := [(0, ov_r 90), (1, ov_i dep), (2, ov_i 0), (3, ov_i v460), (4, ov_i v463)]) (st2 := [ov_i (2 + v463)]) (pc2 := 61) b_230_57_3 rfl rfl ?_
          refine ov_goto (tgt := 65) d_230_61 (by decide) ?_
          refine ov_blk (ls2 := [(0, ov_r 90), (1, ov_i dep), (2, ov_i 0), (3, ov_i v460), (4, ov_i v463), (5, ov_i (2 + v463))]) (st2 := []) (pc2 := 67) b_230_65_1 rfl rfl ?_
          refine ov_sub (ls2 := [(0, ov_r 90), (1, ov_i dep), (2, ov_i 0), (5, ov_i (2 + v463))]) (List.Sublist.subset (by repeat (first | exact List.Sublist.refl _ | apply List.Sublist.cons_cons | apply List.Sublist.cons))) ?_
          exact J3 0 (2 + v463) (by show (0 = 0 ∨ 0 = 1) ∧ (0 = 1 → (h 92 ((h 90 7))) = 2) ∧ -1 ≤ (2 + v463) ∧ (2 + v463) ≤ 3 ∧ (0 ≤ (2 + v463) → (h 90 7) < n); omega)
      · skip
        refine ov_blk (ls2 := [(0, ov_r 90), (1, ov_i dep), (2, ov_i 0), (3, ov_i v460), (4, ov_i v463)]) (st2 := [ov_i v460]) (pc2 := 49) b_230_48_1 rfl rfl ?_
        refine ov_goto (tgt := 65) d_230_49 (by decide) ?_
        refine ov_blk (ls2 := [(0, ov_r 90), (1, ov_i dep), (2, ov_i 0), (3, ov_i v460), (4, ov_i v463), (5, ov_i v460)]) (st2 := []) (pc2 := 67) b_230_65_1 rfl rfl ?_
        refine ov_sub (ls2 := [(0, ov_r 90), (1, ov_i dep), (2, ov_i 0), (5, ov_i v460)]) (List.Sublist.subset (by repeat (first | exact List.Sublist.refl _ | apply List.Sublist.cons_cons | apply List.Sublist.cons))) ?_
        exact J3 0 v460 (by show (0 = 0 ∨ 0 = 1) ∧ (0 = 1 → (h 92 ((h 90 7))) = 2) ∧ -1 ≤ v460 ∧ v460 ≤ 3 ∧ (0 ≤ v460 → (h 90 7) < n); omega)
    · skip
      refine ov_blk (ls2 := [(0, ov_r 90), (1, ov_i dep)]) (st2 := [ov_i 1]) (pc2 := 22) b_230_21_1 rfl rfl ?_
      refine ov_goto (tgt := 26) d_230_22 (by decide) ?_
      refine ov_blk (ls2 := [(0, ov_r 90), (1, ov_i dep), (2, ov_i 1)]) (st2 := [ov_i 2, ov_i 10, ov_r 90]) (pc2 := 31) b_230_26_4 rfl rfl ?_
      refine ov_cV (as := [ov_i 10, ov_i 2]) (st := []) (d2 := d - 1) d_230_31 lk_Mo_202 rfl (Nat.le_of_ble_eq_true rfl) (c := 1) (zb_90 I) (zs_90 I) ⟨by decide, rfl⟩ (by omega) (c_Mo_wordHere_90 n (d - 1) (by omega) U I 10 2 (by omega) (by omega) (by show 0 ≤ n ∧ n ≤ 1000 ∧ (h 92 (n)) = 0 ∧ (h 90 7) ≤ n; omega) (by omega)) ?_
      rintro _ _ _ ⟨v468, rfl, rfl, rfl, f467⟩
      show ov_R u d ov_m230 34 [(0, ov_r 90), (1, ov_i dep), (2, ov_i 1)] [ov_i v468] z h (P_Mo_takePart_90 F z h n dep)
      have f469 : -1 ≤ v468 ∧ v468 < (2 : Int) ∧ (0 ≤ v468 → (h 90 7) < n ∧ (h 90 8) = 0) := f467
      clear f467
      refine ov_blk (ls2 := [(0, ov_r 90), (1, ov_i dep), (2, ov_i 1), (3, ov_i v468)]) (st2 := [ov_i 2, ov_i 20, ov_r 90]) (pc2 := 39) b_230_34_4 rfl rfl ?_
      refine ov_cV (as := [ov_i 20, ov_i 2]) (st := []) (d2 := d - 1) d_230_39 lk_Mo_202 rfl (Nat.le_of_ble_eq_true rfl) (c := 1) (zb_90 I) (zs_90 I) ⟨by decide, rfl⟩ (by omega) (c_Mo_wordHere_90 n (d - 1) (by omega) U I 20 2 (by omega) (by omega) (by show 0 ≤ n ∧ n ≤ 1000 ∧ (h 92 (n)) = 0 ∧ (h 90 7) ≤ n; omega) (by omega)) ?_
      rintro _ _ _ ⟨v471, rfl, rfl, rfl, f470⟩
      show ov_R u d ov_m230 42 [(0, ov_r 90), (1, ov_i dep), (2, ov_i 1), (3, ov_i v468)] [ov_i v471] z h (P_Mo_takePart_90 F z h n dep)
      have f472 : -1 ≤ v471 ∧ v471 < (2 : Int) ∧ (0 ≤ v471 → (h 90 7) < n ∧ (h 90 8) = 0) := f470
      clear f470
      refine ov_blk (ls2 := [(0, ov_r 90), (1, ov_i dep), (2, ov_i 1), (3, ov_i v468), (4, ov_i v471)]) (st2 := [ov_i v468]) (pc2 := 45) b_230_42_2 rfl rfl ?_
      refine ov_iflt (tgt := 52) d_230_45 (by decide) (by omega) (fun c473 => ?_) (fun c473 => ?_)
      · skip
        refine ov_blk (ls2 := [(0, ov_r 90), (1, ov_i dep), (2, ov_i 1), (3, ov_i v468), (4, ov_i v471)]) (st2 := [ov_i v471]) (pc2 := 54) b_230_52_1 rfl rfl ?_
        refine ov_iflt (tgt := 64) d_230_54 (by decide) (by omega) (fun c474 => ?_) (fun c474 => ?_)
        · skip
          refine ov_blk (ls2 := [(0, ov_r 90), (1, ov_i dep), (2, ov_i 1), (3, ov_i v468), (4, ov_i v471), (5, ov_i (-1))]) (st2 := []) (pc2 := 67) b_230_64_2 rfl rfl ?_
          refine ov_sub (ls2 := [(0, ov_r 90), (1, ov_i dep), (2, ov_i 1), (5, ov_i (-1))]) (List.Sublist.subset (by repeat (first | exact List.Sublist.refl _ | apply List.Sublist.cons_cons | apply List.Sublist.cons))) ?_
          exact J3 1 (-1) (by show (1 = 0 ∨ 1 = 1) ∧ (1 = 1 → (h 92 ((h 90 7))) = 2) ∧ -1 ≤ (-1) ∧ (-1) ≤ 3 ∧ (0 ≤ (-1) → (h 90 7) < n); omega)
        · skip
          refine ov_blk (ls2 := [(0, ov_r 90), (1, ov_i dep), (2, ov_i 1), (3, ov_i v468), (4, ov_i v471)]) (st2 := [ov_i (2 + v471)]) (pc2 := 61) b_230_57_3 rfl rfl ?_
          refine ov_goto (tgt := 65) d_230_61 (by decide) ?_
          refine ov_blk (ls2 := [(0, ov_r 90), (1, ov_i dep), (2, ov_i 1), (3, ov_i v468), (4, ov_i v471), (5, ov_i (2 + v471))]) (st2 := []) (pc2 := 67) b_230_65_1 rfl rfl ?_
          refine ov_sub (ls2 := [(0, ov_r 90), (1, ov_i dep), (2, ov_i 1), (5, ov_i (2 + v471))]) (List.Sublist.subset (by repeat (first | exact List.Sublist.refl _ | apply List.Sublist.cons_cons | apply List.Sublist.cons))) ?_
          exact J3 1 (2 + v471) (by show (1 = 0 ∨ 1 = 1) ∧ (1 = 1 → (h 92 ((h 90 7))) = 2) ∧ -1 ≤ (2 + v471) ∧ (2 + v471) ≤ 3 ∧ (0 ≤ (2 + v471) → (h 90 7) < n); omega)
      · skip
        refine ov_blk (ls2 := [(0, ov_r 90), (1, ov_i dep), (2, ov_i 1), (3, ov_i v468), (4, ov_i v471)]) (st2 := [ov_i v468]) (pc2 := 49) b_230_48_1 rfl rfl ?_
        refine ov_goto (tgt := 65) d_230_49 (by decide) ?_
        refine ov_blk (ls2 := [(0, ov_r 90), (1, ov_i dep), (2, ov_i 1), (3, ov_i v468), (4, ov_i v471), (5, ov_i v468)]) (st2 := []) (pc2 := 67) b_230_65_1 rfl rfl ?_
        refine ov_sub (ls2 := [(0, ov_r 90), (1, ov_i dep), (2, ov_i 1), (5, ov_i v468)]) (List.Sublist.subset (by repeat (first | exact List.Sublist.refl _ | apply List.Sublist.cons_cons | apply List.Sublist.cons))) ?_
        exact J3 1 v468 (by show (1 = 0 ∨ 1 = 1) ∧ (1 = 1 → (h 92 ((h 90 7))) = 2) ∧ -1 ≤ v468 ∧ v468 ≤ 3 ∧ (0 ≤ v468 → (h 90 7) < n); omega)
  · skip
    exact ov_retv (st := []) d_230_7 rfl ⟨rfl, I, ⟨rfl, rfl, rfl, rfl, rfl, rfl, rfl, rfl, rfl, rfl, rfl, rfl, rfl, (by show (h 90 7) ≤ (h 90 7) ∧ (h 90 7) ≤ n ∧ (0 < (h 90 8) → (h 90 8) = (h 90 8)) ∧ (h 90 13) ≤ (h 90 13) ∧ (h 90 13) - (h 90 13) ≤ (h 90 7) - (h 90 7); omega)⟩, rfl, rfl, rfl, rfl, rfl, rfl, rfl, rfl, rfl, rfl, rfl, rfl, (fun j _ => ⟨rfl, rfl⟩), (fun e => absurd e (by show ¬ (h 90 8) = 0; omega))⟩
set_option maxHeartbeats 4000000 in
theorem c_Mo_products_90 {u : ov_U} {F : ov_H × ov_Z} (n : Int) (k : Nat) (HE : ∀ k' : Nat, k' + 1 = k → ∀ {z : ov_Z} {h : ov_H} (d : Nat) (hd : (10 + 5 * k' + 4) ≤ d) (U : ov_cap u) (I : ov_N F z h) (dep : Int) (g_dep : ov_g dep) (p0 : 0 ≤ n ∧ n ≤ 1000 ∧ (h 92 (n)) = 0 ∧ (h 90 7) ≤ n) (p1 : 0 ≤ dep ∧ dep + (k' : Int) = 5) (p2 : (h 90 13) ≤ (h 90 7)), ov_T u d ov_m226 [ov_r 90, ov_i dep] z h (P_Mo_all_90 F z h n dep)) (HP : ∀ k' : Nat, k' + 1 = k → ∀ {z : ov_Z} {h : ov_H} (d : Nat) (hd : (10 + 5 * k' + 0) ≤ d) (U : ov_cap u) (I : ov_N F z h) (dep : Int) (g_dep : ov_g dep) (p0 : 0 ≤ n ∧ n ≤ 1000 ∧ (h 92 (n)) = 0 ∧ (h 90 7) ≤ n) (p1 : 0 ≤ dep ∧ dep + (k' : Int) = 5) (p2 : (h 90 13) ≤ (h 90 7)), ov_T u d ov_m230 [ov_r 90, ov_i dep] z h (P_Mo_takePart_90 F z h n dep)) {z : ov_Z} {h : ov_H} (d : Nat) (hd : (10 + 5 * k + 1) ≤ d) (U : ov_cap u) (I : ov_N F z h) (dep : Int) (g_dep : ov_g dep) (p0 : 0 ≤ n ∧ n ≤ 1000 ∧ (h 92 (n)) = 0 ∧ (h 90 7) ≤ n) (p1 : 0 ≤ dep ∧ dep + (k : Int) = 5) (p2 : (h 90 13) ≤ (h 90 7)) : ov_T u d ov_m229 [ov_r 90, ov_i dep] z h (P_Mo_products_90 F z h n dep) := by
  refine ov_en rfl (Nat.le_of_ble_eq_true rfl) ?_
  show ov_R u d ov_m229 0 [(0, ov_r 90), (1, ov_i dep)] [] z h (P_Mo_products_90 F z h n dep)
  refine ov_blk (ls2 := [(0, ov_r 90), (1, ov_i dep)]) (st2 := [ov_i dep, ov_r 90]) (pc2 := 2) b_229_0_2 rfl rfl ?_
  refine ov_cV (as := [ov_i dep]) (st := []) (d2 := d - 1) d_229_2 lk_Mo_269 rfl (Nat.le_of_ble_eq_true rfl) (c := 1) (zb_90 I) (zs_90 I) ⟨by decide, rfl⟩ (by omega) (c_Mo_takePart_90 n k HE HP (d - 1) (by omega) U I dep (by omega) (by show 0 ≤ n ∧ n ≤ 1000 ∧ (h 92 (n)) = 0 ∧ (h 90 7) ≤ n; omega) (by omega) (by show (h 90 13) ≤ (h 90 7); omega)) ?_
  rintro _ z16 h17 ⟨rfl, I18, f1, e2, e3, e4, e5, e6, e7, e8, e9, e10, e11, e12, e13, y14, y15⟩
  have E19 : h17 92 = h 92 := e2
  have E20 : h17 93 = h 93 := e3
  have E21 : h17 94 = h 94 := e4
  have E22 : h17 95 = h 95 := e5
  have E23 : h17 96 = h 96 := e6
  have E24 : h17 99 = h 99 := e7
  have E25 : h17 100 = h 100 := e8
  have E26 : h17 103 = h 103 := e9
  have E27 : h17 105 = h 105 := e10
  have E28 : h17 106 = h 106 := e11
  have E29 : h17 109 = h 109 := e12
  have E30 : h17 114 = h 114 := e13
  show ov_R u d ov_m229 5 [(0, ov_r 90), (1, ov_i dep)] [] z16 h17 (P_Mo_products_90 F z h n dep)
  have f31 : (h17 90 2) = (h 90 2) ∧ (h17 90 3) = (h 90 3) ∧ (h17 90 20) = (h 90 20) ∧ (h17 90 22) = (h 90 22) ∧ (h17 90 25) = (h 90 25) ∧ (h17 90 26) = (h 90 26) ∧ (h17 90 27) = (h 90 27) ∧ (h17 90 28) = (h 90 28) ∧ (h17 90 29) = (h 90 29) ∧ (h17 90 30) = (h 90 30) ∧ (h17 90 34) = (h 90 34) ∧ (h17 90 35) = (h 90 35) ∧ (h17 90 37) = (h 90 37) ∧ (h 90 7) ≤ (h17 90 7) ∧ (h17 90 7) ≤ n ∧ (0 < (h 90 8) → (h17 90 8) = (h 90 8)) ∧ (h 90 13) ≤ (h17 90 13) ∧ (h17 90 13) - (h 90 13) ≤ (h17 90 7) - (h 90 7) := f1
  clear f1
  have y14_ : ∀ j : Int, j < 1100 + (h 90 13) → (h17 97) j = (h 97) j ∧ (h17 98) j = (h 98) j := y14
  have y15_ : (h17 90 8) = 0 → ov_sg (h17 97) (h17 98) (h 90 13) (h17 90 13) := y15
  have K32 : ∀ j : Int, j < 1100 + (h 90 13) → h17 97 j = h 97 j ∧ h17 98 j = h 98 j := fun j hj => y14_ j (by omega)
  have K33 : h17 90 8 = 0 → ov_sg (h17 97) (h17 98) (h 90 13) (h17 90 13) := fun e => by have q := y15_ e; rw [show (h 90 13) = h 90 13 by omega] at q; exact q
  have L37 : ∀ (n34 : Nat) (z38 : ov_Z) (h39 : ov_H) (I40 : ov_N F z38 h39) (E41 : h39 92 = h 92) (E42 : h39 93 = h 93) (E43 : h39 94 = h 94) (E44 : h39 95 = h 95) (E45 : h39 96 = h 96) (E46 : h39 99 = h 99) (E47 : h39 100 = h 100) (E48 : h39 103 = h 103) (E49 : h39 105 = h 105) (E50 : h39 106 = h 106) (E51 : h39 109 = h 109) (E52 : h39 114 = h 114) (xa : ∀ j : Int, j < 1100 + (h 90 13) → (h39 97) j = (h 97) j ∧ (h39 98) j = (h 98) j) (xb : (h39 90 8) = 0 → ov_sg (h39 97) (h39 98) (h 90 13) (h39 90 13)) (q36 : (h 90 7) ≤ (h39 90 7) ∧ (h39 90 7) ≤ n ∧ (0 < (h 90 8) → (h39 90 8) = (h 90 8)) ∧ (h 90 13) ≤ (h39 90 13) ∧ (h39 90 13) - (h 90 13) ≤ (h39 90 7) - (h 90 7) ∧ (h39 90 2) = (h17 90 2) ∧ (h39 90 3) = (h17 90 3) ∧ (h39 90 20) = (h17 90 20) ∧ (h39 90 22) = (h17 90 22) ∧ (h39 90 25) = (h17 90 25) ∧ (h39 90 26) = (h17 90 26) ∧ (h39 90 27) = (h17 90 27) ∧ (h39 90 28) = (h17 90 28) ∧ (h39 90 29) = (h17 90 29) ∧ (h39 90 30) = (h17 90 30) ∧ (h39 90 34) = (h17 90 34) ∧ (h39 90 35) = (h17 90 35) ∧ (h39 90 37) = (h17 90 37)), 1000 - (h39 90 7) < (n34 : Int) → ov_R u d ov_m229 5 [(0, ov_r 90), (1, ov_i dep)] [] z38 h39 (P_Mo_products_90 F z h n dep) := by
    intro n34
    induction n34 with
    | zero =>
      intro  z38 h39 I40 E41 E42 E43 E44 E45 E46 E47 E48 E49 E50 E51 E52 xa xb q36 hn53
      exact absurd hn53 (by omega)
    | succ n34 ih35 =>
      intro  z38 h39 I40 E41 E42 E43 E44 E45 E46 E47 E48 E49 E50 E51 E52 xa xb q36 hn53
      refine ov_blk (ls2 := [(0, ov_r 90), (1, ov_i dep)]) (st2 := [ov_r 90]) (pc2 := 6) b_229_5_1 rfl rfl ?_
      refine ov_blk (ls2 := [(0, ov_r 90), (1, ov_i dep)]) (st2 := [ov_i 42, ov_r 90]) (pc2 := 8) b_229_6_1 rfl rfl ?_
      have cf54 : h39 92 (n) = h 92 (n) := congrFun E41 (n)
      refine ov_cV (as := [ov_i 42]) (st := []) (d2 := d - 1) d_229_8 lk_Mo_263 rfl (Nat.le_of_ble_eq_true rfl) (c := 1) (zb_90 I40) (zs_90 I40) ⟨by decide, rfl⟩ (by omega) (c_Mo_hasSign_90 n (d - 1) (by omega) U I40 42 (by omega) (by show 0 ≤ n ∧ n ≤ 1000 ∧ (h39 92 (n)) = 0 ∧ (h39 90 7) ≤ n; omega)) ?_
      rintro _ z71 h72 ⟨v56, rfl, I73, f55, e57, e58, e59, e60, e61, e62, e63, e64, e65, e66, e67, e68, e69, e70⟩
      have E74 : h72 92 = h 92 := Eq.trans e57 E41
      have E75 : h72 93 = h 93 := Eq.trans e58 E42
      have E76 : h72 94 = h 94 := Eq.trans e59 E43
      have E77 : h72 95 = h 95 := Eq.trans e60 E44
      have E78 : h72 96 = h 96 := Eq.trans e61 E45
      have E79 : h72 97 = h39 97 := e62
      have E80 : h72 98 = h39 98 := e63
      have E81 : h72 99 = h 99 := Eq.trans e64 E46
      have E82 : h72 100 = h 100 := Eq.trans e65 E47
      have E83 : h72 103 = h 103 := Eq.trans e66 E48
      have E84 : h72 105 = h 105 := Eq.trans e67 E49
      have E85 : h72 106 = h 106 := Eq.trans e68 E50
      have E86 : h72 109 = h 109 := Eq.trans e69 E51
      have E87 : h72 114 = h 114 := Eq.trans e70 E52
      show ov_R u d ov_m229 11 [(0, ov_r 90), (1, ov_i dep)] [ov_i v56] z71 h72 (P_Mo_products_90 F z h n dep)
      rw [show h39 92 = h 92 from E41] at f55
      rw [show h39 94 = h 94 from E43] at f55
      have f88 : (h72 90 2) = (h39 90 2) ∧ (h72 90 3) = (h39 90 3) ∧ (h72 90 8) = (h39 90 8) ∧ (h72 90 13) = (h39 90 13) ∧ (h72 90 20) = (h39 90 20) ∧ (h72 90 22) = (h39 90 22) ∧ (h72 90 25) = (h39 90 25) ∧ (h72 90 26) = (h39 90 26) ∧ (h72 90 27) = (h39 90 27) ∧ (h72 90 28) = (h39 90 28) ∧ (h72 90 29) = (h39 90 29) ∧ (h72 90 30) = (h39 90 30) ∧ (h72 90 34) = (h39 90 34) ∧ (h72 90 35) = (h39 90 35) ∧ (h72 90 37) = (h39 90 37) ∧ (v56 = 0 ∨ v56 = 1) ∧ (h39 90 7) ≤ (h72 90 7) ∧ (h72 90 7) ≤ n ∧ (v56 = 1 → (h72 90 7) = (h39 90 7) + 1 ∧ (h39 90 8) = 0) ∧ (v56 = 0 → (h72 90 7) = (h39 90 7)) ∧ (v56 = 1 → (h39 90 8) = 0 ∧ (h 92 ((h39 90 7))) = 3 ∧ (h 94 ((h39 90 7))) = (42 : Int)) ∧ (v56 = 0 → ¬ ((h39 90 8) = 0 ∧ (h 92 ((h39 90 7))) = 3 ∧ (h 94 ((h39 90 7))) = (42 : Int))) := f55
      clear f55
      refine ov_ifeq (tgt := 29) d_229_11 (by decide) (by omega) (fun c89 => ?_) (fun c89 => ?_)
      · skip
        have f88_ : v56 = 0 := by omega
        have f90 : (h72 90 2) = (h39 90 2) := f88.1
        have f91 : (h72 90 3) = (h39 90 3) := f88.2.1
        have f92 : (h72 90 8) = (h39 90 8) := f88.2.2.1
        have f93 : (h72 90 13) = (h39 90 13) := f88.2.2.2.1
        have f94 : (h72 90 20) = (h39 90 20) := f88.2.2.2.2.1
        have f95 : (h72 90 22) = (h39 90 22) := f88.2.2.2.2.2.1
        have f96 : (h72 90 25) = (h39 90 25) := f88.2.2.2.2.2.2.1
        have f97 : (h72 90 26) = (h39 90 26) := f88.2.2.2.2.2.2.2.1
        have f98 : (h72 90 27) = (h39 90 27) := f88.2.2.2.2.2.2.2.2.1
        have f99 : (h72 90 28) = (h39 90 28) := f88.2.2.2.2.2.2.2.2.2.1
        have f100 : (h72 90 29) = (h39 90 29) := f88.2.2.2.2.2.2.2.2.2.2.1
        have f101 : (h72 90 30) = (h39 90 30) := f88.2.2.2.2.2.2.2.2.2.2.2.1
        have f102 : (h72 90 34) = (h39 90 34) := f88.2.2.2.2.2.2.2.2.2.2.2.2.1
        have f103 : (h72 90 35) = (h39 90 35) := f88.2.2.2.2.2.2.2.2.2.2.2.2.2.1
        have f104 : (h72 90 37) = (h39 90 37) := f88.2.2.2.2.2.2.2.2.2.2.2.2.2.2.1
        have f105 : (h39 90 7) ≤ (h72 90 7) := f88.2.2.2.2.2.2.2.2.2.2.2.2.2.2.2.2.1
        have f106 : (h72 90 7) ≤ n := f88.2.2.2.2.2.2.2.2.2.2.2.2.2.2.2.2.2.1
        have f107 : (h72 90 7) = (h39 90 7) := f88.2.2.2.2.2.2.2.2.2.2.2.2.2.2.2.2.2.2.2.1 (by omega)
        have f108 : ¬ ((h39 90 8) = 0 ∧ (h 92 ((h39 90 7))) = 3 ∧ (h 94 ((h39 90 7))) = (42 : Int)) := f88.2.2.2.2.2.2.2.2.2.2.2.2.2.2.2.2.2.2.2.2.2 (by omega)
        clear f88
        exact ov_retv (st := []) d_229_29 rfl ⟨rfl, I73, (by show (h72 90 2) = (h 90 2) ∧ (h72 90 3) = (h 90 3) ∧ (h72 90 20) = (h 90 20) ∧ (h72 90 22) = (h 90 22) ∧ (h72 90 25) = (h 90 25) ∧ (h72 90 26) = (h 90 26) ∧ (h72 90 27) = (h 90 27) ∧ (h72 90 28) = (h 90 28) ∧ (h72 90 29) = (h 90 29) ∧ (h72 90 30) = (h 90 30) ∧ (h72 90 34) = (h 90 34) ∧ (h72 90 35) = (h 90 35) ∧ (h72 90 37) = (h 90 37) ∧ (h 90 7) ≤ (h72 90 7) ∧ (h72 90 7) ≤ n ∧ (0 < (h 90 8) → (h72 90 8) = (h 90 8)) ∧ (h 90 13) ≤ (h72 90 13) ∧ (h72 90 13) - (h 90 13) ≤ (h72 90 7) - (h 90 7); omega), E74, E75, E76, E77, E78, E81, E82, E83, E84, E85, E86, E87, (by rw [show h72 97 = h39 97 from E79, show h72 98 = h39 98 from E80]; exact xa), (fun e => by have e0 : (h72 90 8) = 0 := e; show ov_sg (h72 97) (h72 98) _ (h72 90 13); rw [show h72 97 = h39 97 from E79, show h72 98 = h39 98 from E80, show (h72 90 13) = (h39 90 13) by omega]; exact xb (by omega))⟩
      · skip
        have f88_ : v56 = 1 := by omega
        have f109 : (h72 90 2) = (h39 90 2) := f88.1
        have f110 : (h72 90 3) = (h39 90 3) := f88.2.1
        have f111 : (h72 90 8) = (h39 90 8) := f88.2.2.1
        have f112 : (h72 90 13) = (h39 90 13) := f88.2.2.2.1
        have f113 : (h72 90 20) = (h39 90 20) := f88.2.2.2.2.1
        have f114 : (h72 90 22) = (h39 90 22) := f88.2.2.2.2.2.1
        have f115 : (h72 90 25) = (h39 90 25) := f88.2.2.2.2.2.2.1
        have f116 : (h72 90 26) = (h39 90 26) := f88.2.2.2.2.2.2.2.1
        have f117 : (h72 90 27) = (h39 90 27) := f88.2.2.2.2.2.2.2.2.1
        have f118 : (h72 90 28) = (h39 90 28) := f88.2.2.2.2.2.2.2.2.2.1
        have f119 : (h72 90 29) = (h39 90 29) := f88.2.2.2.2.2.2.2.2.2.2.1
        have f120 : (h72 90 30) = (h39 90 30) := f88.2.2.2.2.2.2.2.2.2.2.2.1
        have f121 : (h72 90 34) = (h39 90 34) := f88.2.2.2.2.2.2.2.2.2.2.2.2.1
        have f122 : (h72 90 35) = (h39 90 35) := f88.2.2.2.2.2.2.2.2.2.2.2.2.2.1
        have f123 : (h72 90 37) = (h39 90 37) := f88.2.2.2.2.2.2.2.2.2.2.2.2.2.2.1
        have f124 : (h39 90 7) ≤ (h72 90 7) := f88.2.2.2.2.2.2.2.2.2.2.2.2.2.2.2.2.1
        have f125 : (h72 90 7) ≤ n := f88.2.2.2.2.2.2.2.2.2.2.2.2.2.2.2.2.2.1
        have f126 : (h72 90 7) = (h39 90 7) + 1 ∧ (h39 90 8) = 0 := f88.2.2.2.2.2.2.2.2.2.2.2.2.2.2.2.2.2.2.1 (by omega)
        have f127 : (h39 90 8) = 0 ∧ (h 92 ((h39 90 7))) = 3 ∧ (h 94 ((h39 90 7))) = (42 : Int) := f88.2.2.2.2.2.2.2.2.2.2.2.2.2.2.2.2.2.2.2.2.1 (by omega)
        clear f88
        refine ov_blk (ls2 := [(0, ov_r 90), (1, ov_i dep)]) (st2 := [ov_i dep, ov_r 90]) (pc2 := 16) b_229_14_2 rfl rfl ?_
        have cf128 : h72 92 (n) = h 92 (n) := congrFun E74 (n)
        refine ov_cV (as := [ov_i dep]) (st := []) (d2 := d - 1) d_229_16 lk_Mo_269 rfl (Nat.le_of_ble_eq_true rfl) (c := 1) (zb_90 I73) (zs_90 I73) ⟨by decide, rfl⟩ (by omega) (c_Mo_takePart_90 n k HE HP (d - 1) (by omega) U I73 dep (by omega) (by show 0 ≤ n ∧ n ≤ 1000 ∧ (h72 92 (n)) = 0 ∧ (h72 90 7) ≤ n; omega) (by omega) (by show (h72 90 13) ≤ (h72 90 7); omega)) ?_
        rintro _ z144 h145 ⟨rfl, I146, f129, e130, e131, e132, e133, e134, e135, e136, e137, e138, e139, e140, e141, y142, y143⟩
        have E147 : h145 92 = h 92 := Eq.trans e130 E74
        have E148 : h145 93 = h 93 := Eq.trans e131 E75
        have E149 : h145 94 = h 94 := Eq.trans e132 E76
        have E150 : h145 95 = h 95 := Eq.trans e133 E77
        have E151 : h145 96 = h 96 := Eq.trans e134 E78
        have E152 : h145 99 = h 99 := Eq.trans e135 E81
        have E153 : h145 100 = h 100 := Eq.trans e136 E82
        have E154 : h145 103 = h 103 := Eq.trans e137 E83
        have E155 : h145 105 = h 105 := Eq.trans e138 E84
        have E156 : h145 106 = h 106 := Eq.trans e139 E85
        have E157 : h145 109 = h 109 := Eq.trans e140 E86
        have E158 : h145 114 = h 114 := Eq.trans e141 E87
        show ov_R u d ov_m229 19 [(0, ov_r 90), (1, ov_i dep)] [] z144 h145 (P_Mo_products_90 F z h n dep)
        have f159 : (h145 90 2) = (h72 90 2) ∧ (h145 90 3) = (h72 90 3) ∧ (h145 90 20) = (h72 90 20) ∧ (h145 90 22) = (h72 90 22) ∧ (h145 90 25) = (h72 90 25) ∧ (h145 90 26) = (h72 90 26) ∧ (h145 90 27) = (h72 90 27) ∧ (h145 90 28) = (h72 90 28) ∧ (h145 90 29) = (h72 90 29) ∧ (h145 90 30) = (h72 90 30) ∧ (h145 90 34) = (h72 90 34) ∧ (h145 90 35) = (h72 90 35) ∧ (h145 90 37) = (h72 90 37) ∧ (h72 90 7) ≤ (h145 90 7) ∧ (h145 90 7) ≤ n ∧ (0 < (h72 90 8) → (h145 90 8) = (h72 90 8)) ∧ (h72 90 13) ≤ (h145 90 13) ∧ (h145 90 13) - (h72 90 13) ≤ (h145 90 7) - (h72 90 7) := f129
        clear f129
        rw [show h72 97 = h39 97 from E79] at y142
        rw [show h72 98 = h39 98 from E80] at y142
        have y142_ : ∀ j : Int, j < 1100 + (h72 90 13) → (h145 97) j = (h39 97) j ∧ (h145 98) j = (h39 98) j := y142
        have y143_ : (h145 90 8) = 0 → ov_sg (h145 97) (h145 98) (h72 90 13) (h145 90 13) := y143
        refine ov_blk (ls2 := [(0, ov_r 90), (1, ov_i dep)]) (st2 := [ov_i 0, ov_i 6, ov_r 90]) (pc2 := 23) b_229_19_3 rfl rfl ?_
        refine ov_cV (as := [ov_i 6, ov_i 0]) (st := []) (d2 := d - 1) d_229_23 lk_Mo_246 rfl (Nat.le_of_ble_eq_true rfl) (c := 1) (zb_90 I146) (zs_90 I146) ⟨by decide, rfl⟩ (by omega) (c_Mo_emit_90 (d - 1) (by omega) U I146 6 0 (by omega) (by omega) (by omega) (by show (h145 90 13) ≤ 999; omega)) ?_
        rintro _ z175 h176 ⟨rfl, I177, f160, e161, e162, e163, e164, e165, e166, e167, e168, e169, e170, e171, e172, y173, y174⟩
        have E178 : h176 92 = h 92 := Eq.trans e161 E147
        have E179 : h176 93 = h 93 := Eq.trans e162 E148
        have E180 : h176 94 = h 94 := Eq.trans e163 E149
        have E181 : h176 95 = h 95 := Eq.trans e164 E150
        have E182 : h176 96 = h 96 := Eq.trans e165 E151
        have E183 : h176 99 = h 99 := Eq.trans e166 E152
        have E184 : h176 100 = h 100 := Eq.trans e167 E153
        have E185 : h176 103 = h 103 := Eq.trans e168 E154
        have E186 : h176 105 = h 105 := Eq.trans e169 E155
        have E187 : h176 106 = h 106 := Eq.trans e170 E156
        have E188 : h176 109 = h 109 := Eq.trans e171 E157
        have E189 : h176 114 = h 114 := Eq.trans e172 E158
        show ov_R u d ov_m229 26 [(0, ov_r 90), (1, ov_i dep)] [] z175 h176 (P_Mo_products_90 F z h n dep)
        have f190 : (h176 90 2) = (h145 90 2) ∧ (h176 90 3) = (h145 90 3) ∧ (h176 90 7) = (h145 90 7) ∧ (h176 90 8) = (h145 90 8) ∧ (h176 90 20) = (h145 90 20) ∧ (h176 90 22) = (h145 90 22) ∧ (h176 90 25) = (h145 90 25) ∧ (h176 90 26) = (h145 90 26) ∧ (h176 90 27) = (h145 90 27) ∧ (h176 90 28) = (h145 90 28) ∧ (h176 90 29) = (h145 90 29) ∧ (h176 90 30) = (h145 90 30) ∧ (h176 90 34) = (h145 90 34) ∧ (h176 90 35) = (h145 90 35) ∧ (h176 90 37) = (h145 90 37) ∧ (h176 90 13) = (h145 90 13) + 1 := f160
        clear f160
        have y173_ : (h176 97) = ov_rs (h145 97) (1100 + (h145 90 13)) (6 : Int) := y173
        have y174_ : (h176 98) = ov_rs (h145 98) (1100 + (h145 90 13)) (0 : Int) := y174
        have K191 : ∀ j : Int, j < 1100 + (h 90 13) → h176 97 j = h 97 j ∧ h176 98 j = h 98 j := ov_kpe (ov_kp xa y142_ (by omega)) y173_ y174_ (by omega)
        have K192 : h176 90 8 = 0 → ov_sg (h176 97) (h176 98) (h 90 13) (h176 90 13) := fun e => by have q1 := xb (by omega); have q2 := y143_ (by omega); rw [show (h72 90 13) = (h39 90 13) by omega] at q2; have q3 := ov_sg_bin q1 (fun j hj => y142_ j (by omega)) q2 y173_ y174_ (by omega); rw [show h176 90 13 = (h145 90 13) + 1 by omega]; exact q3
        refine ov_goto (tgt := 5) d_229_26 (by decide) ?_
        exact ih35  _ _ I177 E178 E179 E180 E181 E182 E183 E184 E185 E186 E187 E188 E189 K191 K192 (by show (h 90 7) ≤ (h176 90 7) ∧ (h176 90 7) ≤ n ∧ (0 < (h 90 8) → (h176 90 8) = (h 90 8)) ∧ (h 90 13) ≤ (h176 90 13) ∧ (h176 90 13) - (h 90 13) ≤ (h176 90 7) - (h 90 7) ∧ (h176 90 2) = (h17 90 2) ∧ (h176 90 3) = (h17 90 3) ∧ (h176 90 20) = (h17 90 20) ∧ (h176 90 22) = (h17 90 22) ∧ (h176 90 25) = (h17 90 25) ∧ (h176 90 26) = (h17 90 26) ∧ (h176 90 27) = (h17 90 27) ∧ (h176 90 28) = (h17 90 28) ∧ (h176 90 29) = (h17 90 29) ∧ (h176 90 30) = (h17 90 30) ∧ (h176 90 34) = (h17 90 34) ∧ (h176 90 35) = (h17 90 35) ∧ (h176 90 37) = (h17 90 37); omega) (by omega)
  exact L37 1001  _ _ I18 E19 E20 E21 E22 E23 E24 E25 E26 E27 E28 E29 E30 K32 K33 (by show (h 90 7) ≤ (h17 90 7) ∧ (h17 90 7) ≤ n ∧ (0 < (h 90 8) → (h17 90 8) = (h 90 8)) ∧ (h 90 13) ≤ (h17 90 13) ∧ (h17 90 13) - (h 90 13) ≤ (h17 90 7) - (h 90 7) ∧ (h17 90 2) = (h17 90 2) ∧ (h17 90 3) = (h17 90 3) ∧ (h17 90 20) = (h17 90 20) ∧ (h17 90 22) = (h17 90 22) ∧ (h17 90 25) = (h17 90 25) ∧ (h17 90 26) = (h17 90 26) ∧ (h17 90 27) = (h17 90 27) ∧ (h17 90 28) = (h17 90 28) ∧ (h17 90 29) = (h17 90 29) ∧ (h17 90 30) = (h17 90 30) ∧ (h17 90 34) = (h17 90 34) ∧ (h17 90 35) = (h17 90 35) ∧ (h17 90 37) = (h17 90 37); omega) (by omega)
set_option maxHeartbeats 4000000 in
theorem c_Mo_sums_90 {u : ov_U} {F : ov_H × ov_Z} (n : Int) (k : Nat) (HE : ∀ k' : Nat, k' + 1 = k → ∀ {z : ov_Z} {h : ov_H} (d : Nat) (hd : (10 + 5 * k' + 4) ≤ d) (U : ov_cap u) (I : ov_N F z h) (dep : Int) (g_dep : ov_g dep) (p0 : 0 ≤ n ∧ n ≤ 1000 ∧ (h 92 (n)) = 0 ∧ (h 90 7) ≤ n) (p1 : 0 ≤ dep ∧ dep + (k' : Int) = 5) (p2 : (h 90 13) ≤ (h 90 7)), ov_T u d ov_m226 [ov_r 90, ov_i dep] z h (P_Mo_all_90 F z h n dep)) (HP : ∀ k' : Nat, k' + 1 = k → ∀ {z : ov_Z} {h : ov_H} (d : Nat) (hd : (10 + 5 * k' + 0) ≤ d) (U : ov_cap u) (I : ov_N F z h) (dep : Int) (g_dep : ov_g dep) (p0 : 0 ≤ n ∧ n ≤ 1000 ∧ (h 92 (n)) = 0 ∧ (h 90 7) ≤ n) (p1 : 0 ≤ dep ∧ dep + (k' : Int) = 5) (p2 : (h 90 13) ≤ (h 90 7)), ov_T u d ov_m230 [ov_r 90, ov_i dep] z h (P_Mo_takePart_90 F z h n dep)) {z : ov_Z} {h : ov_H} (d : Nat) (hd : (10 + 5 * k + 2) ≤ d) (U : ov_cap u) (I : ov_N F z h) (dep : Int) (g_dep : ov_g dep) (p0 : 0 ≤ n ∧ n ≤ 1000 ∧ (h 92 (n)) = 0 ∧ (h 90 7) ≤ n) (p1 : 0 ≤ dep ∧ dep + (k : Int) = 5) (p2 : (h 90 13) ≤ (h 90 7)) : ov_T u d ov_m228 [ov_r 90, ov_i dep] z h (P_Mo_sums_90 F z h n dep) := by
  refine ov_en rfl (Nat.le_of_ble_eq_true rfl) ?_
  show ov_R u d ov_m228 0 [(0, ov_r 90), (1, ov_i dep)] [] z h (P_Mo_sums_90 F z h n dep)
  refine ov_blk (ls2 := [(0, ov_r 90), (1, ov_i dep)]) (st2 := [ov_i dep, ov_r 90]) (pc2 := 2) b_228_0_2 rfl rfl ?_
  refine ov_cV (as := [ov_i dep]) (st := []) (d2 := d - 1) d_228_2 lk_Mo_266 rfl (Nat.le_of_ble_eq_true rfl) (c := 1) (zb_90 I) (zs_90 I) ⟨by decide, rfl⟩ (by omega) (c_Mo_products_90 n k HE HP (d - 1) (by omega) U I dep (by omega) (by show 0 ≤ n ∧ n ≤ 1000 ∧ (h 92 (n)) = 0 ∧ (h 90 7) ≤ n; omega) (by omega) (by show (h 90 13) ≤ (h 90 7); omega)) ?_
  rintro _ z16 h17 ⟨rfl, I18, f1, e2, e3, e4, e5, e6, e7, e8, e9, e10, e11, e12, e13, y14, y15⟩
  have E19 : h17 92 = h 92 := e2
  have E20 : h17 93 = h 93 := e3
  have E21 : h17 94 = h 94 := e4
  have E22 : h17 95 = h 95 := e5
  have E23 : h17 96 = h 96 := e6
  have E24 : h17 99 = h 99 := e7
  have E25 : h17 100 = h 100 := e8
  have E26 : h17 103 = h 103 := e9
  have E27 : h17 105 = h 105 := e10
  have E28 : h17 106 = h 106 := e11
  have E29 : h17 109 = h 109 := e12
  have E30 : h17 114 = h 114 := e13
  show ov_R u d ov_m228 5 [(0, ov_r 90), (1, ov_i dep)] [] z16 h17 (P_Mo_sums_90 F z h n dep)
  have f31 : (h17 90 2) = (h 90 2) ∧ (h17 90 3) = (h 90 3) ∧ (h17 90 20) = (h 90 20) ∧ (h17 90 22) = (h 90 22) ∧ (h17 90 25) = (h 90 25) ∧ (h17 90 26) = (h 90 26) ∧ (h17 90 27) = (h 90 27) ∧ (h17 90 28) = (h 90 28) ∧ (h17 90 29) = (h 90 29) ∧ (h17 90 30) = (h 90 30) ∧ (h17 90 34) = (h 90 34) ∧ (h17 90 35) = (h 90 35) ∧ (h17 90 37) = (h 90 37) ∧ (h 90 7) ≤ (h17 90 7) ∧ (h17 90 7) ≤ n ∧ (0 < (h 90 8) → (h17 90 8) = (h 90 8)) ∧ (h 90 13) ≤ (h17 90 13) ∧ (h17 90 13) - (h 90 13) ≤ (h17 90 7) - (h 90 7) := f1
  clear f1
  have y14_ : ∀ j : Int, j < 1100 + (h 90 13) → (h17 97) j = (h 97) j ∧ (h17 98) j = (h 98) j := y14
  have y15_ : (h17 90 8) = 0 → ov_sg (h17 97) (h17 98) (h 90 13) (h17 90 13) := y15
  have K32 : ∀ j : Int, j < 1100 + (h 90 13) → h17 97 j = h 97 j ∧ h17 98 j = h 98 j := fun j hj => y14_ j (by omega)
  have K33 : h17 90 8 = 0 → ov_sg (h17 97) (h17 98) (h 90 13) (h17 90 13) := fun e => by have q := y15_ e; rw [show (h 90 13) = h 90 13 by omega] at q; exact q
  have L37 : ∀ (n34 : Nat) (z38 : ov_Z) (h39 : ov_H) (I40 : ov_N F z38 h39) (E41 : h39 92 = h 92) (E42 : h39 93 = h 93) (E43 : h39 94 = h 94) (E44 : h39 95 = h 95) (E45 : h39 96 = h 96) (E46 : h39 99 = h 99) (E47 : h39 100 = h 100) (E48 : h39 103 = h 103) (E49 : h39 105 = h 105) (E50 : h39 106 = h 106) (E51 : h39 109 = h 109) (E52 : h39 114 = h 114) (xa : ∀ j : Int, j < 1100 + (h 90 13) → (h39 97) j = (h 97) j ∧ (h39 98) j = (h 98) j) (xb : (h39 90 8) = 0 → ov_sg (h39 97) (h39 98) (h 90 13) (h39 90 13)) (q36 : (h 90 7) ≤ (h39 90 7) ∧ (h39 90 7) ≤ n ∧ (0 < (h 90 8) → (h39 90 8) = (h 90 8)) ∧ (h 90 13) ≤ (h39 90 13) ∧ (h39 90 13) - (h 90 13) ≤ (h39 90 7) - (h 90 7) ∧ (h39 90 2) = (h17 90 2) ∧ (h39 90 3) = (h17 90 3) ∧ (h39 90 20) = (h17 90 20) ∧ (h39 90 22) = (h17 90 22) ∧ (h39 90 25) = (h17 90 25) ∧ (h39 90 26) = (h17 90 26) ∧ (h39 90 27) = (h17 90 27) ∧ (h39 90 28) = (h17 90 28) ∧ (h39 90 29) = (h17 90 29) ∧ (h39 90 30) = (h17 90 30) ∧ (h39 90 34) = (h17 90 34) ∧ (h39 90 35) = (h17 90 35) ∧ (h39 90 37) = (h17 90 37)), 1000 - (h39 90 7) < (n34 : Int) → ov_R u d ov_m228 5 [(0, ov_r 90), (1, ov_i dep)] [] z38 h39 (P_Mo_sums_90 F z h n dep) := by
    intro n34
    induction n34 with
    | zero =>
      intro  z38 h39 I40 E41 E42 E43 E44 E45 E46 E47 E48 E49 E50 E51 E52 xa xb q36 hn53
      exact absurd hn53 (by omega)
    | succ n34 ih35 =>
      intro  z38 h39 I40 E41 E42 E43 E44 E45 E46 E47 E48 E49 E50 E51 E52 xa xb q36 hn53
      refine ov_blk (ls2 := [(0, ov_r 90), (1, ov_i dep)]) (st2 := [ov_r 90]) (pc2 := 6) b_228_5_1 rfl rfl ?_
      refine ov_blk (ls2 := [(0, ov_r 90), (1, ov_i dep)]) (st2 := [ov_i 43, ov_r 90]) (pc2 := 8) b_228_6_1 rfl rfl ?_
      have cf54 : h39 92 (n) = h 92 (n) := congrFun E41 (n)
      refine ov_cV (as := [ov_i 43]) (st := []) (d2 := d - 1) d_228_8 lk_Mo_183 rfl (Nat.le_of_ble_eq_true rfl) (c := 1) (zb_90 I40) (zs_90 I40) ⟨by decide, rfl⟩ (by omega) (c_Mo_isSign_90 n (d - 1) (by omega) U I40 43 (by omega) (by show 0 ≤ n ∧ n ≤ 1000 ∧ (h39 92 (n)) = 0 ∧ (h39 90 7) ≤ n; omega)) ?_
      rintro _ _ _ ⟨v56, rfl, rfl, rfl, f55⟩
      show ov_R u d ov_m228 11 [(0, ov_r 90), (1, ov_i dep)] [ov_i v56] z38 h39 (P_Mo_sums_90 F z h n dep)
      rw [show h39 92 = h 92 from E41] at f55
      rw [show h39 94 = h 94 from E43] at f55
      have f57 : (v56 = 0 ∨ v56 = 1) ∧ (v56 = 1 → (h39 90 7) < n) ∧ (v56 = 1 → (h39 90 8) = 0 ∧ (h 92 ((h39 90 7))) = 3 ∧ (h 94 ((h39 90 7))) = (43 : Int)) ∧ (v56 = 0 → ¬ ((h39 90 8) = 0 ∧ (h 92 ((h39 90 7))) = 3 ∧ (h 94 ((h39 90 7))) = (43 : Int))) := f55
      clear f55
      refine ov_ifne (tgt := 23) d_228_11 (by decide) (by omega) (fun c58 => ?_) (fun c58 => ?_)
      · skip
        have f57_ : v56 = 1 := by omega
        have f59 : (h39 90 7) < n := f57.2.1 (by omega)
        have f60 : (h39 90 8) = 0 ∧ (h 92 ((h39 90 7))) = 3 ∧ (h 94 ((h39 90 7))) = (43 : Int) := f57.2.2.1 (by omega)
        clear f57
        refine ov_blk (ls2 := [(0, ov_r 90), (1, ov_i dep)]) (st2 := [ov_i 43, ov_r 90]) (pc2 := 26) b_228_23_2 rfl rfl ?_
        have cf61 : h39 92 (n) = h 92 (n) := congrFun E41 (n)
        refine ov_cV (as := [ov_i 43]) (st := []) (d2 := d - 1) d_228_26 lk_Mo_183 rfl (Nat.le_of_ble_eq_true rfl) (c := 1) (zb_90 I40) (zs_90 I40) ⟨by decide, rfl⟩ (by omega) (c_Mo_isSign_90 n (d - 1) (by omega) U I40 43 (by omega) (by show 0 ≤ n ∧ n ≤ 1000 ∧ (h39 92 (n)) = 0 ∧ (h39 90 7) ≤ n; omega)) ?_
        rintro _ _ _ ⟨v63, rfl, rfl, rfl, f62⟩
        show ov_R u d ov_m228 29 [(0, ov_r 90), (1, ov_i dep)] [ov_i v63] z38 h39 (P_Mo_sums_90 F z h n dep)
        rw [show h39 92 = h 92 from E41] at f62
        rw [show h39 94 = h 94 from E43] at f62
        have f64 : (v63 = 0 ∨ v63 = 1) ∧ (v63 = 1 → (h39 90 7) < n) ∧ (v63 = 1 → (h39 90 8) = 0 ∧ (h 92 ((h39 90 7))) = 3 ∧ (h 94 ((h39 90 7))) = (43 : Int)) ∧ (v63 = 0 → ¬ ((h39 90 8) = 0 ∧ (h 92 ((h39 90 7))) = 3 ∧ (h 94 ((h39 90 7))) = (43 : Int))) := f62
        clear f62
        refine ov_blk (ls2 := [(0, ov_r 90), (1, ov_i dep), (2, ov_i v63)]) (st2 := [ov_r 90, ov_r 90]) (pc2 := 32) b_228_29_3 rfl rfl ?_
        refine ov_getf (v := ov_i (h39 90 7)) d_228_32 fl_Mo_177 (zb_90 I40) (zs_90 I40) rfl ?_
        have g65 := rg_90_7 I40
        refine ov_blk (ls2 := [(0, ov_r 90), (1, ov_i dep), (2, ov_i v63)]) (st2 := [ov_i ((h39 90 7) + 1), ov_r 90]) (pc2 := 37) b_228_35_2 rfl rfl ?_
        refine ov_putf (x := ((h39 90 7) + 1)) d_228_37 fl_Mo_177 (zb_90 I40) (zs_90 I40) rfl nk_0 rfl ?_
        have I66 := up_90_7 (x := ((h39 90 7) + 1)) I40 (by omega)
        refine ov_blk (ls2 := [(0, ov_r 90), (1, ov_i dep), (2, ov_i v63)]) (st2 := [ov_i dep, ov_r 90]) (pc2 := 42) b_228_40_2 rfl rfl ?_
        have cf67 : h39 92 (n) = h 92 (n) := congrFun E41 (n)
        refine ov_cV (as := [ov_i dep]) (st := []) (d2 := d - 1) d_228_42 lk_Mo_266 rfl (Nat.le_of_ble_eq_true rfl) (c := 1) (zb_90 I66) (zs_90 I66) ⟨by decide, rfl⟩ (by omega) (c_Mo_products_90 n k HE HP (d - 1) (by omega) U I66 dep (by omega) (by show 0 ≤ n ∧ n ≤ 1000 ∧ (h39 92 (n)) = 0 ∧ ((h39 90 7) + 1) ≤ n; omega) (by omega) (by show (h39 90 13) ≤ ((h39 90 7) + 1); omega)) ?_
        rintro _ z83 h84 ⟨rfl, I85, f68, e69, e70, e71, e72, e73, e74, e75, e76, e77, e78, e79, e80, y81, y82⟩
        have E86 : h84 92 = h 92 := Eq.trans e69 E41
        have E87 : h84 93 = h 93 := Eq.trans e70 E42
        have E88 : h84 94 = h 94 := Eq.trans e71 E43
        have E89 : h84 95 = h 95 := Eq.trans e72 E44
        have E90 : h84 96 = h 96 := Eq.trans e73 E45
        have E91 : h84 99 = h 99 := Eq.trans e74 E46
        have E92 : h84 100 = h 100 := Eq.trans e75 E47
        have E93 : h84 103 = h 103 := Eq.trans e76 E48
        have E94 : h84 105 = h 105 := Eq.trans e77 E49
        have E95 : h84 106 = h 106 := Eq.trans e78 E50
        have E96 : h84 109 = h 109 := Eq.trans e79 E51
        have E97 : h84 114 = h 114 := Eq.trans e80 E52
        show ov_R u d ov_m228 45 [(0, ov_r 90), (1, ov_i dep), (2, ov_i v63)] [] z83 h84 (P_Mo_sums_90 F z h n dep)
        have f98 : (h84 90 2) = (h39 90 2) ∧ (h84 90 3) = (h39 90 3) ∧ (h84 90 20) = (h39 90 20) ∧ (h84 90 22) = (h39 90 22) ∧ (h84 90 25) = (h39 90 25) ∧ (h84 90 26) = (h39 90 26) ∧ (h84 90 27) = (h39 90 27) ∧ (h84 90 28) = (h39 90 28) ∧ (h84 90 29) = (h39 90 29) ∧ (h84 90 30) = (h39 90 30) ∧ (h84 90 34) = (h39 90 34) ∧ (h84 90 35) = (h39 90 35) ∧ (h84 90 37) = (h39 90 37) ∧ ((h39 90 7) + 1) ≤ (h84 90 7) ∧ (h84 90 7) ≤ n ∧ (0 < (h39 90 8) → (h84 90 8) = (h39 90 8)) ∧ (h39 90 13) ≤ (h84 90 13) ∧ (h84 90 13) - (h39 90 13) ≤ (h84 90 7) - ((h39 90 7) + 1) := f68
        clear f68
        have y81_ : ∀ j : Int, j < 1100 + (h39 90 13) → (h84 97) j = (h39 97) j ∧ (h84 98) j = (h39 98) j := y81
        have y82_ : (h84 90 8) = 0 → ov_sg (h84 97) (h84 98) (h39 90 13) (h84 90 13) := y82
        refine ov_blk (ls2 := [(0, ov_r 90), (1, ov_i dep), (2, ov_i v63)]) (st2 := [ov_i v63, ov_r 90]) (pc2 := 47) b_228_45_2 rfl rfl ?_
        refine ov_ifeq (tgt := 54) d_228_47 (by decide) (by omega) (fun c99 => ?_) (fun c99 => ?_)
        · skip
          have f64_ : v63 = 0 := by omega
          have f100 : ¬ ((h39 90 8) = 0 ∧ (h 92 ((h39 90 7))) = 3 ∧ (h 94 ((h39 90 7))) = (43 : Int)) := f64.2.2.2 (by omega)
          clear f64
          refine ov_blk (ls2 := [(0, ov_r 90), (1, ov_i dep), (2, ov_i v63)]) (st2 := [ov_i 0, ov_i 5, ov_r 90]) (pc2 := 56) b_228_54_2 rfl rfl ?_
          refine ov_cV (as := [ov_i 5, ov_i 0]) (st := []) (d2 := d - 1) d_228_56 lk_Mo_246 rfl (Nat.le_of_ble_eq_true rfl) (c := 1) (zb_90 I85) (zs_90 I85) ⟨by decide, rfl⟩ (by omega) (c_Mo_emit_90 (d - 1) (by omega) U I85 5 0 (by omega) (by omega) (by omega) (by show (h84 90 13) ≤ 999; omega)) ?_
          rintro _ z116 h117 ⟨rfl, I118, f101, e102, e103, e104, e105, e106, e107, e108, e109, e110, e111, e112, e113, y114, y115⟩
          have E119 : h117 92 = h 92 := Eq.trans e102 E86
          have E120 : h117 93 = h 93 := Eq.trans e103 E87
          have E121 : h117 94 = h 94 := Eq.trans e104 E88
          have E122 : h117 95 = h 95 := Eq.trans e105 E89
          have E123 : h117 96 = h 96 := Eq.trans e106 E90
          have E124 : h117 99 = h 99 := Eq.trans e107 E91
          have E125 : h117 100 = h 100 := Eq.trans e108 E92
          have E126 : h117 103 = h 103 := Eq.trans e109 E93
          have E127 : h117 105 = h 105 := Eq.trans e110 E94
          have E128 : h117 106 = h 106 := Eq.trans e111 E95
          have E129 : h117 109 = h 109 := Eq.trans e112 E96
          have E130 : h117 114 = h 114 := Eq.trans e113 E97
          show ov_R u d ov_m228 59 [(0, ov_r 90), (1, ov_i dep), (2, ov_i v63)] [] z116 h117 (P_Mo_sums_90 F z h n dep)
          have f131 : (h117 90 2) = (h84 90 2) ∧ (h117 90 3) = (h84 90 3) ∧ (h117 90 7) = (h84 90 7) ∧ (h117 90 8) = (h84 90 8) ∧ (h117 90 20) = (h84 90 20) ∧ (h117 90 22) = (h84 90 22) ∧ (h117 90 25) = (h84 90 25) ∧ (h117 90 26) = (h84 90 26) ∧ (h117 90 27) = (h84 90 27) ∧ (h117 90 28) = (h84 90 28) ∧ (h117 90 29) = (h84 90 29) ∧ (h117 90 30) = (h84 90 30) ∧ (h117 90 34) = (h84 90 34) ∧ (h117 90 35) = (h84 90 35) ∧ (h117 90 37) = (h84 90 37) ∧ (h117 90 13) = (h84 90 13) + 1 := f101
          clear f101
          have y114_ : (h117 97) = ov_rs (h84 97) (1100 + (h84 90 13)) (5 : Int) := y114
          have y115_ : (h117 98) = ov_rs (h84 98) (1100 + (h84 90 13)) (0 : Int) := y115
          have K132 : ∀ j : Int, j < 1100 + (h 90 13) → h117 97 j = h 97 j ∧ h117 98 j = h 98 j := ov_kpe (ov_kp xa y81_ (by omega)) y114_ y115_ (by omega)
          have K133 : h117 90 8 = 0 → ov_sg (h117 97) (h117 98) (h 90 13) (h117 90 13) := fun e => by have q1 := xb (by omega); have q2 := y82_ (by omega); rw [show (h39 90 13) = (h39 90 13) by omega] at q2; have q3 := ov_sg_bin q1 (fun j hj => y81_ j (by omega)) q2 y114_ y115_ (by omega); rw [show h117 90 13 = (h84 90 13) + 1 by omega]; exact q3
          refine ov_goto (tgt := 5) d_228_59 (by decide) ?_
          refine ov_sub (ls2 := [(0, ov_r 90), (1, ov_i dep)]) (List.Sublist.subset (by repeat (first | exact List.Sublist.refl _ | apply List.Sublist.cons_cons | apply List.Sublist.cons))) ?_
          exact ih35  _ _ I118 E119 E120 E121 E122 E123 E124 E125 E126 E127 E128 E129 E130 K132 K133 (by show (h 90 7) ≤ (h117 90 7) ∧ (h117 90 7) ≤ n ∧ (0 < (h 90 8) → (h117 90 8) = (h 90 8)) ∧ (h 90 13) ≤ (h117 90 13) ∧ (h117 90 13) - (h 90 13) ≤ (h117 90 7) - (h 90 7) ∧ (h117 90 2) = (h17 90 2) ∧ (h117 90 3) = (h17 90 3) ∧ (h117 90 20) = (h17 90 20) ∧ (h117 90 22) = (h17 90 22) ∧ (h117 90 25) = (h17 90 25) ∧ (h117 90 26) = (h17 90 26) ∧ (h117 90 27) = (h17 90 27) ∧ (h117 90 28) = (h17 90 28) ∧ (h117 90 29) = (h17 90 29) ∧ (h117 90 30) = (h17 90 30) ∧ (h117 90 34) = (h17 90 34) ∧ (h117 90 35) = (h17 90 35) ∧ (h117 90 37) = (h17 90 37); omega) (by omega)
        · skip
          have f64_ : v63 = 1 := by omega
          have f134 : (h39 90 7) < n := f64.2.1 (by omega)
          have f135 : (h39 90 8) = 0 ∧ (h 92 ((h39 90 7))) = 3 ∧ (h 94 ((h39 90 7))) = (43 : Int) := f64.2.2.1 (by omega)
          clear f64
          refine ov_blk (ls2 := [(0, ov_r 90), (1, ov_i dep), (2, ov_i v63)]) (st2 := [ov_i 4, ov_r 90]) (pc2 := 51) b_228_50_1 rfl rfl ?_
          refine ov_goto (tgt := 55) d_228_51 (by decide) ?_
          refine ov_blk (ls2 := [(0, ov_r 90), (1, ov_i dep), (2, ov_i v63)]) (st2 := [ov_i 0, ov_i 4, ov_r 90]) (pc2 := 56) b_228_55_1 rfl rfl ?_
          refine ov_cV (as := [ov_i 4, ov_i 0]) (st := []) (d2 := d - 1) d_228_56 lk_Mo_246 rfl (Nat.le_of_ble_eq_true rfl) (c := 1) (zb_90 I85) (zs_90 I85) ⟨by decide, rfl⟩ (by omega) (c_Mo_emit_90 (d - 1) (by omega) U I85 4 0 (by omega) (by omega) (by omega) (by show (h84 90 13) ≤ 999; omega)) ?_
          rintro _ z151 h152 ⟨rfl, I153, f136, e137, e138, e139, e140, e141, e142, e143, e144, e145, e146, e147, e148, y149, y150⟩
          have E154 : h152 92 = h 92 := Eq.trans e137 E86
          have E155 : h152 93 = h 93 := Eq.trans e138 E87
          have E156 : h152 94 = h 94 := Eq.trans e139 E88
          have E157 : h152 95 = h 95 := Eq.trans e140 E89
          have E158 : h152 96 = h 96 := Eq.trans e141 E90
          have E159 : h152 99 = h 99 := Eq.trans e142 E91
          have E160 : h152 100 = h 100 := Eq.trans e143 E92
          have E161 : h152 103 = h 103 := Eq.trans e144 E93
          have E162 : h152 105 = h 105 := Eq.trans e145 E94
          have E163 : h152 106 = h 106 := Eq.trans e146 E95
          have E164 : h152 109 = h 109 := Eq.trans e147 E96
          have E165 : h152 114 = h 114 := Eq.trans e148 E97
          show ov_R u d ov_m228 59 [(0, ov_r 90), (1, ov_i dep), (2, ov_i v63)] [] z151 h152 (P_Mo_sums_90 F z h n dep)
          have f166 : (h152 90 2) = (h84 90 2) ∧ (h152 90 3) = (h84 90 3) ∧ (h152 90 7) = (h84 90 7) ∧ (h152 90 8) = (h84 90 8) ∧ (h152 90 20) = (h84 90 20) ∧ (h152 90 22) = (h84 90 22) ∧ (h152 90 25) = (h84 90 25) ∧ (h152 90 26) = (h84 90 26) ∧ (h152 90 27) = (h84 90 27) ∧ (h152 90 28) = (h84 90 28) ∧ (h152 90 29) = (h84 90 29) ∧ (h152 90 30) = (h84 90 30) ∧ (h152 90 34) = (h84 90 34) ∧ (h152 90 35) = (h84 90 35) ∧ (h152 90 37) = (h84 90 37) ∧ (h152 90 13) = (h84 90 13) + 1 := f136
          clear f136
          have y149_ : (h152 97) = ov_rs (h84 97) (1100 + (h84 90 13)) (4 : Int) := y149
          have y150_ : (h152 98) = ov_rs (h84 98) (1100 + (h84 90 13)) (0 : Int) := y150
          have K167 : ∀ j : Int, j < 1100 + (h 90 13) → h152 97 j = h 97 j ∧ h152 98 j = h 98 j := ov_kpe (ov_kp xa y81_ (by omega)) y149_ y150_ (by omega)
          have K168 : h152 90 8 = 0 → ov_sg (h152 97) (h152 98) (h 90 13) (h152 90 13) := fun e => by have q1 := xb (by omega); have q2 := y82_ (by omega); rw [show (h39 90 13) = (h39 90 13) by omega] at q2; have q3 := ov_sg_bin q1 (fun j hj => y81_ j (by omega)) q2 y149_ y150_ (by omega); rw [show h152 90 13 = (h84 90 13) + 1 by omega]; exact q3
          refine ov_goto (tgt := 5) d_228_59 (by decide) ?_
          refine ov_sub (ls2 := [(0, ov_r 90), (1, ov_i dep)]) (List.Sublist.subset (by repeat (first | exact List.Sublist.refl _ | apply List.Sublist.cons_cons | apply List.Sublist.cons))) ?_
          exact ih35  _ _ I153 E154 E155 E156 E157 E158 E159 E160 E161 E162 E163 E164 E165 K167 K168 (by show (h 90 7) ≤ (h152 90 7) ∧ (h152 90 7) ≤ n ∧ (0 < (h 90 8) → (h152 90 8) = (h 90 8)) ∧ (h 90 13) ≤ (h152 90 13) ∧ (h152 90 13) - (h 90 13) ≤ (h152 90 7) - (h 90 7) ∧ (h152 90 2) = (h17 90 2) ∧ (h152 90 3) = (h17 90 3) ∧ (h152 90 20) = (h17 90 20) ∧ (h152 90 22) = (h17 90 22) ∧ (h152 90 25) = (h17 90 25) ∧ (h152 90 26) = (h17 90 26) ∧ (h152 90 27) = (h17 90 27) ∧ (h152 90 28) = (h17 90 28) ∧ (h152 90 29) = (h17 90 29) ∧ (h152 90 30) = (h17 90 30) ∧ (h152 90 34) = (h17 90 34) ∧ (h152 90 35) = (h17 90 35) ∧ (h152 90 37) = (h17 90 37); omega) (by omega)
      · skip
        have f57_ : v56 = 0 := by omega
        have f169 : ¬ ((h39 90 8) = 0 ∧ (h 92 ((h39 90 7))) = 3 ∧ (h 94 ((h39 90 7))) = (43 : Int)) := f57.2.2.2 (by omega)
        clear f57
        refine ov_blk (ls2 := [(0, ov_r 90), (1, ov_i dep)]) (st2 := [ov_i 45, ov_r 90]) (pc2 := 17) b_228_14_2 rfl rfl ?_
        have cf170 : h39 92 (n) = h 92 (n) := congrFun E41 (n)
        refine ov_cV (as := [ov_i 45]) (st := []) (d2 := d - 1) d_228_17 lk_Mo_183 rfl (Nat.le_of_ble_eq_true rfl) (c := 1) (zb_90 I40) (zs_90 I40) ⟨by decide, rfl⟩ (by omega) (c_Mo_isSign_90 n (d - 1) (by omega) U I40 45 (by omega) (by show 0 ≤ n ∧ n ≤ 1000 ∧ (h39 92 (n)) = 0 ∧ (h39 90 7) ≤ n; omega)) ?_
        rintro _ _ _ ⟨v172, rfl, rfl, rfl, f171⟩
        show ov_R u d ov_m228 20 [(0, ov_r 90), (1, ov_i dep)] [ov_i v172] z38 h39 (P_Mo_sums_90 F z h n dep)
        rw [show h39 92 = h 92 from E41] at f171
        rw [show h39 94 = h 94 from E43] at f171
        have f173 : (v172 = 0 ∨ v172 = 1) ∧ (v172 = 1 → (h39 90 7) < n) ∧ (v172 = 1 → (h39 90 8) = 0 ∧ (h 92 ((h39 90 7))) = 3 ∧ (h 94 ((h39 90 7))) = (45 : Int)) ∧ (v172 = 0 → ¬ ((h39 90 8) = 0 ∧ (h 92 ((h39 90 7))) = 3 ∧ (h 94 ((h39 90 7))) = (45 : Int))) := f171
        clear f171
        refine ov_ifeq (tgt := 62) d_228_20 (by decide) (by omega) (fun c174 => ?_) (fun c174 => ?_)
        · skip
          have f173_ : v172 = 0 := by omega
          have f175 : ¬ ((h39 90 8) = 0 ∧ (h 92 ((h39 90 7))) = 3 ∧ (h 94 ((h39 90 7))) = (45 : Int)) := f173.2.2.2 (by omega)
          clear f173
          exact ov_retv (st := []) d_228_62 rfl ⟨rfl, I40, (by show (h39 90 2) = (h 90 2) ∧ (h39 90 3) = (h 90 3) ∧ (h39 90 20) = (h 90 20) ∧ (h39 90 22) = (h 90 22) ∧ (h39 90 25) = (h 90 25) ∧ (h39 90 26) = (h 90 26) ∧ (h39 90 27) = (h 90 27) ∧ (h39 90 28) = (h 90 28) ∧ (h39 90 29) = (h 90 29) ∧ (h39 90 30) = (h 90 30) ∧ (h39 90 34) = (h 90 34) ∧ (h39 90 35) = (h 90 35) ∧ (h39 90 37) = (h 90 37) ∧ (h 90 7) ≤ (h39 90 7) ∧ (h39 90 7) ≤ n ∧ (0 < (h 90 8) → (h39 90 8) = (h 90 8)) ∧ (h 90 13) ≤ (h39 90 13) ∧ (h39 90 13) - (h 90 13) ≤ (h39 90 7) - (h 90 7); omega), E41, E42, E43, E44, E45, E46, E47, E48, E49, E50, E51, E52, xa, (fun e => by have e0 : (h39 90 8) = 0 := e; show ov_sg (h39 97) (h39 98) _ (h39 90 13); rw [show (h39 90 13) = (h39 90 13) by omega]; exact xb (by omega))⟩
        · skip
          have f173_ : v172 = 1 := by omega
          have f176 : (h39 90 7) < n := f173.2.1 (by omega)
          have f177 : (h39 90 8) = 0 ∧ (h 92 ((h39 90 7))) = 3 ∧ (h 94 ((h39 90 7))) = (45 : Int) := f173.2.2.1 (by omega)
          clear f173
          refine ov_blk (ls2 := [(0, ov_r 90), (1, ov_i dep)]) (st2 := [ov_i 43, ov_r 90]) (pc2 := 26) b_228_23_2 rfl rfl ?_
          have cf178 : h39 92 (n) = h 92 (n) := congrFun E41 (n)
          refine ov_cV (as := [ov_i 43]) (st := []) (d2 := d - 1) d_228_26 lk_Mo_183 rfl (Nat.le_of_ble_eq_true rfl) (c := 1) (zb_90 I40) (zs_90 I40) ⟨by decide, rfl⟩ (by omega) (c_Mo_isSign_90 n (d - 1) (by omega) U I40 43 (by omega) (by show 0 ≤ n ∧ n ≤ 1000 ∧ (h39 92 (n)) = 0 ∧ (h39 90 7) ≤ n; omega)) ?_
          rintro _ _ _ ⟨v180, rfl, rfl, rfl, f179⟩
          show ov_R u d ov_m228 29 [(0, ov_r 90), (1, ov_i dep)] [ov_i v180] z38 h39 (P_Mo_sums_90 F z h n dep)
          rw [show h39 92 = h 92 from E41] at f179
          rw [show h39 94 = h 94 from E43] at f179
          have f181 : (v180 = 0 ∨ v180 = 1) ∧ (v180 = 1 → (h39 90 7) < n) ∧ (v180 = 1 → (h39 90 8) = 0 ∧ (h 92 ((h39 90 7))) = 3 ∧ (h 94 ((h39 90 7))) = (43 : Int)) ∧ (v180 = 0 → ¬ ((h39 90 8) = 0 ∧ (h 92 ((h39 90 7))) = 3 ∧ (h 94 ((h39 90 7))) = (43 : Int))) := f179
          clear f179
          refine ov_blk (ls2 := [(0, ov_r 90), (1, ov_i dep), (2, ov_i v180)]) (st2 := [ov_r 90, ov_r 90]) (pc2 := 32) b_228_29_3 rfl rfl ?_
          refine ov_getf (v := ov_i (h39 90 7)) d_228_32 fl_Mo_177 (zb_90 I40) (zs_90 I40) rfl ?_
          have g182 := rg_90_7 I40
          refine ov_blk (ls2 := [(0, ov_r 90), (1, ov_i dep), (2, ov_i v180)]) (st2 := [ov_i ((h39 90 7) + 1), ov_r 90]) (pc2 := 37) b_228_35_2 rfl rfl ?_
          refine ov_putf (x := ((h39 90 7) + 1)) d_228_37 fl_Mo_177 (zb_90 I40) (zs_90 I40) rfl nk_0 rfl ?_
          have I183 := up_90_7 (x := ((h39 90 7) + 1)) I40 (by omega)
          refine ov_blk (ls2 := [(0, ov_r 90), (1, ov_i dep), (2, ov_i v180)]) (st2 := [ov_i dep, ov_r 90]) (pc2 := 42) b_228_40_2 rfl rfl ?_
          have cf184 : h39 92 (n) = h 92 (n) := congrFun E41 (n)
          refine ov_cV (as := [ov_i dep]) (st := []) (d2 := d - 1) d_228_42 lk_Mo_266 rfl (Nat.le_of_ble_eq_true rfl) (c := 1) (zb_90 I183) (zs_90 I183) ⟨by decide, rfl⟩ (by omega) (c_Mo_products_90 n k HE HP (d - 1) (by omega) U I183 dep (by omega) (by show 0 ≤ n ∧ n ≤ 1000 ∧ (h39 92 (n)) = 0 ∧ ((h39 90 7) + 1) ≤ n; omega) (by omega) (by show (h39 90 13) ≤ ((h39 90 7) + 1); omega)) ?_
          rintro _ z200 h201 ⟨rfl, I202, f185, e186, e187, e188, e189, e190, e191, e192, e193, e194, e195, e196, e197, y198, y199⟩
          have E203 : h201 92 = h 92 := Eq.trans e186 E41
          have E204 : h201 93 = h 93 := Eq.trans e187 E42
          have E205 : h201 94 = h 94 := Eq.trans e188 E43
          have E206 : h201 95 = h 95 := Eq.trans e189 E44
          have E207 : h201 96 = h 96 := Eq.trans e190 E45
          have E208 : h201 99 = h 99 := Eq.trans e191 E46
          have E209 : h201 100 = h 100 := Eq.trans e192 E47
          have E210 : h201 103 = h 103 := Eq.trans e193 E48
          have E211 : h201 105 = h 105 := Eq.trans e194 E49
          have E212 : h201 106 = h 106 := Eq.trans e195 E50
          have E213 : h201 109 = h 109 := Eq.trans e196 E51
          have E214 : h201 114 = h 114 := Eq.trans e197 E52
          show ov_R u d ov_m228 45 [(0, ov_r 90), (1, ov_i dep), (2, ov_i v180)] [] z200 h201 (P_Mo_sums_90 F z h n dep)
          have f215 : (h201 90 2) = (h39 90 2) ∧ (h201 90 3) = (h39 90 3) ∧ (h201 90 20) = (h39 90 20) ∧ (h201 90 22) = (h39 90 22) ∧ (h201 90 25) = (h39 90 25) ∧ (h201 90 26) = (h39 90 26) ∧ (h201 90 27) = (h39 90 27) ∧ (h201 90 28) = (h39 90 28) ∧ (h201 90 29) = (h39 90 29) ∧ (h201 90 30) = (h39 90 30) ∧ (h201 90 34) = (h39 90 34) ∧ (h201 90 35) = (h39 90 35) ∧ (h201 90 37) = (h39 90 37) ∧ ((h39 90 7) + 1) ≤ (h201 90 7) ∧ (h201 90 7) ≤ n ∧ (0 < (h39 90 8) → (h201 90 8) = (h39 90 8)) ∧ (h39 90 13) ≤ (h201 90 13) ∧ (h201 90 13) - (h39 90 13) ≤ (h201 90 7) - ((h39 90 7) + 1) := f185
          clear f185
          have y198_ : ∀ j : Int, j < 1100 + (h39 90 13) → (h201 97) j = (h39 97) j ∧ (h201 98) j = (h39 98) j := y198
          have y199_ : (h201 90 8) = 0 → ov_sg (h201 97) (h201 98) (h39 90 13) (h201 90 13) := y199
          refine ov_blk (ls2 := [(0, ov_r 90), (1, ov_i dep), (2, ov_i v180)]) (st2 := [ov_i v180, ov_r 90]) (pc2 := 47) b_228_45_2 rfl rfl ?_
          refine ov_ifeq (tgt := 54) d_228_47 (by decide) (by omega) (fun c216 => ?_) (fun c216 => ?_)
          · skip
            have f181_ : v180 = 0 := by omega
            have f217 : ¬ ((h39 90 8) = 0 ∧ (h 92 ((h39 90 7))) = 3 ∧ (h 94 ((h39 90 7))) = (43 : Int)) := f181.2.2.2 (by omega)
            clear f181
            refine ov_blk (ls2 := [(0, ov_r 90), (1, ov_i dep), (2, ov_i v180)]) (st2 := [ov_i 0, ov_i 5, ov_r 90]) (pc2 := 56) b_228_54_2 rfl rfl ?_
            refine ov_cV (as := [ov_i 5, ov_i 0]) (st := []) (d2 := d - 1) d_228_56 lk_Mo_246 rfl (Nat.le_of_ble_eq_true rfl) (c := 1) (zb_90 I202) (zs_90 I202) ⟨by decide, rfl⟩ (by omega) (c_Mo_emit_90 (d - 1) (by omega) U I202 5 0 (by omega) (by omega) (by omega) (by show (h201 90 13) ≤ 999; omega)) ?_
            rintro _ z233 h234 ⟨rfl, I235, f218, e219, e220, e221, e222, e223, e224, e225, e226, e227, e228, e229, e230, y231, y232⟩
            have E236 : h234 92 = h 92 := Eq.trans e219 E203
            have E237 : h234 93 = h 93 := Eq.trans e220 E204
            have E238 : h234 94 = h 94 := Eq.trans e221 E205
            have E239 : h234 95 = h 95 := Eq.trans e222 E206
            have E240 : h234 96 = h 96 := Eq.trans e223 E207
            have E241 : h234 99 = h 99 := Eq.trans e224 E208
            have E242 : h234 100 = h 100 := Eq.trans e225 E209
            have E243 : h234 103 = h 103 := Eq.trans e226 E210
            have E244 : h234 105 = h 105 := Eq.trans e227 E211
            have E245 : h234 106 = h 106 := Eq.trans e228 E212
            have E246 : h234 109 = h 109 := Eq.trans e229 E213
            have E247 : h234 114 = h 114 := Eq.trans e230 E214
            show ov_R u d ov_m228 59 [(0, ov_r 90), (1, ov_i dep), (2, ov_i v180)] [] z233 h234 (P_Mo_sums_90 F z h n dep)
            have f248 : (h234 90 2) = (h201 90 2) ∧ (h234 90 3) = (h201 90 3) ∧ (h234 90 7) = (h201 90 7) ∧ (h234 90 8) = (h201 90 8) ∧ (h234 90 20) = (h201 90 20) ∧ (h234 90 22) = (h201 90 22) ∧ (h234 90 25) = (h201 90 25) ∧ (h234 90 26) = (h201 90 26) ∧ (h234 90 27) = (h201 90 27) ∧ (h234 90 28) = (h201 90 28) ∧ (h234 90 29) = (h201 90 29) ∧ (h234 90 30) = (h201 90 30) ∧ (h234 90 34) = (h201 90 34) ∧ (h234 90 35) = (h201 90 35) ∧ (h234 90 37) = (h201 90 37) ∧ (h234 90 13) = (h201 90 13) + 1 := f218
            clear f218
            have y231_ : (h234 97) = ov_rs (h201 97) (1100 + (h201 90 13)) (5 : Int) := y231
            have y232_ : (h234 98) = ov_rs (h201 98) (1100 + (h201 90 13)) (0 : Int) := y232
            have K249 : ∀ j : Int, j < 1100 + (h 90 13) → h234 97 j = h 97 j ∧ h234 98 j = h 98 j := ov_kpe (ov_kp xa y198_ (by omega)) y231_ y232_ (by omega)
            have K250 : h234 90 8 = 0 → ov_sg (h234 97) (h234 98) (h 90 13) (h234 90 13) := fun e => by have q1 := xb (by omega); have q2 := y199_ (by omega); rw [show (h39 90 13) = (h39 90 13) by omega] at q2; have q3 := ov_sg_bin q1 (fun j hj => y198_ j (by omega)) q2 y231_ y232_ (by omega); rw [show h234 90 13 = (h201 90 13) + 1 by omega]; exact q3
            refine ov_goto (tgt := 5) d_228_59 (by decide) ?_
            refine ov_sub (ls2 := [(0, ov_r 90), (1, ov_i dep)]) (List.Sublist.subset (by repeat (first | exact List.Sublist.refl _ | apply List.Sublist.cons_cons | apply List.Sublist.cons))) ?_
            exact ih35  _ _ I235 E236 E237 E238 E239 E240 E241 E242 E243 E244 E245 E246 E247 K249 K250 (by show (h 90 7) ≤ (h234 90 7) ∧ (h234 90 7) ≤ n ∧ (0 < (h 90 8) → (h234 90 8) = (h 90 8)) ∧ (h 90 13) ≤ (h234 90 13) ∧ (h234 90 13) - (h 90 13) ≤ (h234 90 7) - (h 90 7) ∧ (h234 90 2) = (h17 90 2) ∧ (h234 90 3) = (h17 90 3) ∧ (h234 90 20) = (h17 90 20) ∧ (h234 90 22) = (h17 90 22) ∧ (h234 90 25) = (h17 90 25) ∧ (h234 90 26) = (h17 90 26) ∧ (h234 90 27) = (h17 90 27) ∧ (h234 90 28) = (h17 90 28) ∧ (h234 90 29) = (h17 90 29) ∧ (h234 90 30) = (h17 90 30) ∧ (h234 90 34) = (h17 90 34) ∧ (h234 90 35) = (h17 90 35) ∧ (h234 90 37) = (h17 90 37); omega) (by omega)
          · skip
            have f181_ : v180 = 1 := by omega
            have f251 : (h39 90 7) < n := f181.2.1 (by omega)
            have f252 : (h39 90 8) = 0 ∧ (h 92 ((h39 90 7))) = 3 ∧ (h 94 ((h39 90 7))) = (43 : Int) := f181.2.2.1 (by omega)
            clear f181
            refine ov_blk (ls2 := [(0, ov_r 90), (1, ov_i dep), (2, ov_i v180)]) (st2 := [ov_i 4, ov_r 90]) (pc2 := 51) b_228_50_1 rfl rfl ?_
            refine ov_goto (tgt := 55) d_228_51 (by decide) ?_
            refine ov_blk (ls2 := [(0, ov_r 90), (1, ov_i dep), (2, ov_i v180)]) (st2 := [ov_i 0, ov_i 4, ov_r 90]) (pc2 := 56) b_228_55_1 rfl rfl ?_
            refine ov_cV (as := [ov_i 4, ov_i 0]) (st := []) (d2 := d - 1) d_228_56 lk_Mo_246 rfl (Nat.le_of_ble_eq_true rfl) (c := 1) (zb_90 I202) (zs_90 I202) ⟨by decide, rfl⟩ (by omega) (c_Mo_emit_90 (d - 1) (by omega) U I202 4 0 (by omega) (by omega) (by omega) (by show (h201 90 13) ≤ 999; omega)) ?_
            rintro _ z268 h269 ⟨rfl, I270, f253, e254, e255, e256, e257, e258, e259, e260, e261, e262, e263, e264, e265, y266, y267⟩
            have E271 : h269 92 = h 92 := Eq.trans e254 E203
            have E272 : h269 93 = h 93 := Eq.trans e255 E204
            have E273 : h269 94 = h 94 := Eq.trans e256 E205
            have E274 : h269 95 = h 95 := Eq.trans e257 E206
            have E275 : h269 96 = h 96 := Eq.trans e258 E207
            have E276 : h269 99 = h 99 := Eq.trans e259 E208
            have E277 : h269 100 = h 100 := Eq.trans e260 E209
            have E278 : h269 103 = h 103 := Eq.trans e261 E210
            have E279 : h269 105 = h 105 := Eq.trans e262 E211
            have E280 : h269 106 = h 106 := Eq.trans e263 E212
            have E281 : h269 109 = h 109 := Eq.trans e264 E213
            have E282 : h269 114 = h 114 := Eq.trans e265 E214
            show ov_R u d ov_m228 59 [(0, ov_r 90), (1, ov_i dep), (2, ov_i v180)] [] z268 h269 (P_Mo_sums_90 F z h n dep)
            have f283 : (h269 90 2) = (h201 90 2) ∧ (h269 90 3) = (h201 90 3) ∧ (h269 90 7) = (h201 90 7) ∧ (h269 90 8) = (h201 90 8) ∧ (h269 90 20) = (h201 90 20) ∧ (h269 90 22) = (h201 90 22) ∧ (h269 90 25) = (h201 90 25) ∧ (h269 90 26) = (h201 90 26) ∧ (h269 90 27) = (h201 90 27) ∧ (h269 90 28) = (h201 90 28) ∧ (h269 90 29) = (h201 90 29) ∧ (h269 90 30) = (h201 90 30) ∧ (h269 90 34) = (h201 90 34) ∧ (h269 90 35) = (h201 90 35) ∧ (h269 90 37) = (h201 90 37) ∧ (h269 90 13) = (h201 90 13) + 1 := f253
            clear f253
            have y266_ : (h269 97) = ov_rs (h201 97) (1100 + (h201 90 13)) (4 : Int) := y266
            have y267_ : (h269 98) = ov_rs (h201 98) (1100 + (h201 90 13)) (0 : Int) := y267
            have K284 : ∀ j : Int, j < 1100 + (h 90 13) → h269 97 j = h 97 j ∧ h269 98 j = h 98 j := ov_kpe (ov_kp xa y198_ (by omega)) y266_ y267_ (by omega)
            have K285 : h269 90 8 = 0 → ov_sg (h269 97) (h269 98) (h 90 13) (h269 90 13) := fun e => by have q1 := xb (by omega); have q2 := y199_ (by omega); rw [show (h39 90 13) = (h39 90 13) by omega] at q2; have q3 := ov_sg_bin q1 (fun j hj => y198_ j (by omega)) q2 y266_ y267_ (by omega); rw [show h269 90 13 = (h201 90 13) + 1 by omega]; exact q3
            refine ov_goto (tgt := 5) d_228_59 (by decide) ?_
            refine ov_sub (ls2 := [(0, ov_r 90), (1, ov_i dep)]) (List.Sublist.subset (by repeat (first | exact List.Sublist.refl _ | apply List.Sublist.cons_cons | apply List.Sublist.cons))) ?_
            exact ih35  _ _ I270 E271 E272 E273 E274 E275 E276 E277 E278 E279 E280 E281 E282 K284 K285 (by show (h 90 7) ≤ (h269 90 7) ∧ (h269 90 7) ≤ n ∧ (0 < (h 90 8) → (h269 90 8) = (h 90 8)) ∧ (h 90 13) ≤ (h269 90 13) ∧ (h269 90 13) - (h 90 13) ≤ (h269 90 7) - (h 90 7) ∧ (h269 90 2) = (h17 90 2) ∧ (h269 90 3) = (h17 90 3) ∧ (h269 90 20) = (h17 90 20) ∧ (h269 90 22) = (h17 90 22) ∧ (h269 90 25) = (h17 90 25) ∧ (h269 90 26) = (h17 90 26) ∧ (h269 90 27) = (h17 90 27) ∧ (h269 90 28) = (h17 90 28) ∧ (h269 90 29) = (h17 90 29) ∧ (h269 90 30) = (h17 90 30) ∧ (h269 90 34) = (h17 90 34) ∧ (h269 90 35) = (h17 90 35) ∧ (h269 90 37) = (h17 90 37); omega) (by omega)
  exact L37 1001  _ _ I18 E19 E20 E21 E22 E23 E24 E25 E26 E27 E28 E29 E30 K32 K33 (by show (h 90 7) ≤ (h17 90 7) ∧ (h17 90 7) ≤ n ∧ (0 < (h 90 8) → (h17 90 8) = (h 90 8)) ∧ (h 90 13) ≤ (h17 90 13) ∧ (h17 90 13) - (h 90 13) ≤ (h17 90 7) - (h 90 7) ∧ (h17 90 2) = (h17 90 2) ∧ (h17 90 3) = (h17 90 3) ∧ (h17 90 20) = (h17 90 20) ∧ (h17 90 22) = (h17 90 22) ∧ (h17 90 25) = (h17 90 25) ∧ (h17 90 26) = (h17 90 26) ∧ (h17 90 27) = (h17 90 27) ∧ (h17 90 28) = (h17 90 28) ∧ (h17 90 29) = (h17 90 29) ∧ (h17 90 30) = (h17 90 30) ∧ (h17 90 34) = (h17 90 34) ∧ (h17 90 35) = (h17 90 35) ∧ (h17 90 37) = (h17 90 37); omega) (by omega)

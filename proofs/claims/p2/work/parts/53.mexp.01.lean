abbrev P_Mo_emit_90 (F : ov_H × ov_Z) (z : ov_Z) (h : ov_H) (c : Int) (a : Int) : Option ov_V → ov_Z → ov_H → Prop := fun r0 z' h' => r0 = none ∧ ov_N F z' h' ∧ ((h' 90 13) = (h 90 13) + 1 ∧ (h' 90 2) = (h 90 2) ∧ (h' 90 3) = (h 90 3) ∧ (h' 90 7) = (h 90 7) ∧ (h' 90 8) = (h 90 8) ∧ (h' 90 20) = (h 90 20) ∧ (h' 90 22) = (h 90 22) ∧ (h' 90 25) = (h 90 25) ∧ (h' 90 26) = (h 90 26) ∧ (h' 90 27) = (h 90 27) ∧ (h' 90 28) = (h 90 28) ∧ (h' 90 29) = (h 90 29) ∧ (h' 90 30) = (h 90 30) ∧ (h' 90 34) = (h 90 34) ∧ (h' 90 35) = (h 90 35) ∧ (h' 90 37) = (h 90 37)) ∧ h' 92 = h 92 ∧ h' 93 = h 93 ∧ h' 94 = h 94 ∧ h' 95 = h 95 ∧ h' 96 = h 96 ∧ h' 99 = h 99 ∧ h' 100 = h 100 ∧ h' 103 = h 103 ∧ h' 105 = h 105 ∧ h' 106 = h 106 ∧ h' 109 = h 109 ∧ h' 114 = h 114 ∧ ((h' 97) = ov_rs (h 97) (1100 + (h 90 13)) c) ∧ ((h' 98) = ov_rs (h 98) (1100 + (h 90 13)) a)
set_option maxHeartbeats 4000000 in
theorem c_Mo_emit_90 {u : ov_U} {F : ov_H × ov_Z} {z : ov_Z} {h : ov_H} (d : Nat) (hd : 0 ≤ d) (U : ov_cap u) (I : ov_N F z h) (c : Int) (a : Int) (g_c : ov_g c) (g_a : ov_g a) (p0 : 0 ≤ c ∧ c ≤ 10) (p1 : (h 90 13) ≤ 999) : ov_T u d ov_m231 [ov_r 90, ov_i c, ov_i a] z h (P_Mo_emit_90 F z h c a) := by
  refine ov_en rfl (Nat.le_of_ble_eq_true rfl) ?_
  show ov_R u d ov_m231 0 [(0, ov_r 90), (1, ov_i c), (2, ov_i a)] [] z h (P_Mo_emit_90 F z h c a)
  refine ov_blk (ls2 := [(0, ov_r 90), (1, ov_i c), (2, ov_i a)]) (st2 := [ov_r 90]) (pc2 := 1) b_231_0_1 rfl rfl ?_
  refine ov_getf (v := ov_r 97) d_231_1 fl_Mo_84 (zb_90 I) (zs_90 I) (congrArg ov_r (rg_90_11 I)) ?_
  refine ov_blk (ls2 := [(0, ov_r 90), (1, ov_i c), (2, ov_i a)]) (st2 := [ov_r 90, ov_i 1100, ov_r 97]) (pc2 := 8) b_231_4_2 rfl rfl ?_
  refine ov_getf (v := ov_i (h 90 13)) d_231_8 fl_Mo_208 (zb_90 I) (zs_90 I) rfl ?_
  have g1 := rg_90_13 I
  refine ov_blk (ls2 := [(0, ov_r 90), (1, ov_i c), (2, ov_i a)]) (st2 := [ov_i c, ov_i (1100 + (h 90 13)), ov_r 97]) (pc2 := 13) b_231_11_2 rfl rfl ?_
  refine ov_iast d_231_13 (zb_97 I) (zs_97 I) (by omega) ?_
  have I2 := ua_97 (k := (1100 + (h 90 13))) (x := c) I (by omega)
  refine ov_blk (ls2 := [(0, ov_r 90), (1, ov_i c), (2, ov_i a)]) (st2 := [ov_r 90]) (pc2 := 15) b_231_14_1 rfl rfl ?_
  refine ov_getf (v := ov_r 98) d_231_15 fl_Mo_87 (zb_90 I2) (zs_90 I2) (congrArg ov_r (rg_90_12 I2)) ?_
  refine ov_blk (ls2 := [(0, ov_r 90), (1, ov_i c), (2, ov_i a)]) (st2 := [ov_r 90, ov_i 1100, ov_r 98]) (pc2 := 22) b_231_18_2 rfl rfl ?_
  refine ov_getf (v := ov_i (h 90 13)) d_231_22 fl_Mo_208 (zb_90 I2) (zs_90 I2) rfl ?_
  refine ov_blk (ls2 := [(0, ov_r 90), (1, ov_i c), (2, ov_i a)]) (st2 := [ov_i a, ov_i (1100 + (h 90 13)), ov_r 98]) (pc2 := 27) b_231_25_2 rfl rfl ?_
  refine ov_iast d_231_27 (zb_98 I2) (zs_98 I2) (by omega) ?_
  have I4 := ua_98 (k := (1100 + (h 90 13))) (x := a) I2 (by omega)
  refine ov_blk (ls2 := [(0, ov_r 90), (1, ov_i c), (2, ov_i a)]) (st2 := [ov_r 90, ov_r 90]) (pc2 := 30) b_231_28_2 rfl rfl ?_
  refine ov_getf (v := ov_i (h 90 13)) d_231_30 fl_Mo_208 (zb_90 I4) (zs_90 I4) rfl ?_
  refine ov_blk (ls2 := [(0, ov_r 90), (1, ov_i c), (2, ov_i a)]) (st2 := [ov_i ((h 90 13) + 1), ov_r 90]) (pc2 := 35) b_231_33_2 rfl rfl ?_
  refine ov_putf (x := ((h 90 13) + 1)) d_231_35 fl_Mo_208 (zb_90 I4) (zs_90 I4) rfl nk_0 rfl ?_
  have I6 := up_90_13 (x := ((h 90 13) + 1)) I4 (by omega)
  exact ov_retv (st := []) d_231_38 rfl ⟨rfl, I6, (by show ((h 90 13) + 1) = (h 90 13) + 1 ∧ (h 90 2) = (h 90 2) ∧ (h 90 3) = (h 90 3) ∧ (h 90 7) = (h 90 7) ∧ (h 90 8) = (h 90 8) ∧ (h 90 20) = (h 90 20) ∧ (h 90 22) = (h 90 22) ∧ (h 90 25) = (h 90 25) ∧ (h 90 26) = (h 90 26) ∧ (h 90 27) = (h 90 27) ∧ (h 90 28) = (h 90 28) ∧ (h 90 29) = (h 90 29) ∧ (h 90 30) = (h 90 30) ∧ (h 90 34) = (h 90 34) ∧ (h 90 35) = (h 90 35) ∧ (h 90 37) = (h 90 37); omega), rfl, rfl, rfl, rfl, rfl, rfl, rfl, rfl, rfl, rfl, rfl, rfl, (show ov_up h 97 (1100 + (h 90 13)) c 97 = _ from ov_up_row _ _ _ _), (show ov_up h 98 (1100 + (h 90 13)) a 98 = _ from ov_up_row _ _ _ _)⟩
abbrev P_Mo_takePart_90 (F : ov_H × ov_Z) (z : ov_Z) (h : ov_H) (n : Int) (dep : Int) : Option ov_V → ov_Z → ov_H → Prop := fun r0 z' h' => r0 = none ∧ ov_N F z' h' ∧ ((h 90 7) ≤ (h' 90 7) ∧ (h' 90 7) ≤ n ∧ (0 < (h 90 8) → (h' 90 8) = (h 90 8)) ∧ (h 90 13) ≤ (h' 90 13) ∧ (h' 90 13) - (h 90 13) ≤ (h' 90 7) - (h 90 7) ∧ (h' 90 2) = (h 90 2) ∧ (h' 90 3) = (h 90 3) ∧ (h' 90 20) = (h 90 20) ∧ (h' 90 22) = (h 90 22) ∧ (h' 90 25) = (h 90 25) ∧ (h' 90 26) = (h 90 26) ∧ (h' 90 27) = (h 90 27) ∧ (h' 90 28) = (h 90 28) ∧ (h' 90 29) = (h 90 29) ∧ (h' 90 30) = (h 90 30) ∧ (h' 90 34) = (h 90 34) ∧ (h' 90 35) = (h 90 35) ∧ (h' 90 37) = (h 90 37)) ∧ h' 92 = h 92 ∧ h' 93 = h 93 ∧ h' 94 = h 94 ∧ h' 95 = h 95 ∧ h' 96 = h 96 ∧ h' 99 = h 99 ∧ h' 100 = h 100 ∧ h' 103 = h 103 ∧ h' 105 = h 105 ∧ h' 106 = h 106 ∧ h' 109 = h 109 ∧ h' 114 = h 114 ∧ (∀ j : Int, j < 1100 + (h 90 13) → (h' 97) j = (h 97) j ∧ (h' 98) j = (h 98) j) ∧ ((h' 90 8) = 0 → ov_sg (h' 97) (h' 98) (h 90 13) (h' 90 13))
abbrev P_Mo_products_90 (F : ov_H × ov_Z) (z : ov_Z) (h : ov_H) (n : Int) (dep : Int) : Option ov_V → ov_Z → ov_H → Prop := fun r0 z' h' => r0 = none ∧ ov_N F z' h' ∧ ((h 90 7) ≤ (h' 90 7) ∧ (h' 90 7) ≤ n ∧ (0 < (h 90 8) → (h' 90 8) = (h 90 8)) ∧ (h 90 13) ≤ (h' 90 13) ∧ (h' 90 13) - (h 90 13) ≤ (h' 90 7) - (h 90 7) ∧ (h' 90 2) = (h 90 2) ∧ (h' 90 3) = (h 90 3) ∧ (h' 90 20) = (h 90 20) ∧ (h' 90 22) = (h 90 22) ∧ (h' 90 25) = (h 90 25) ∧ (h' 90 26) = (h 90 26) ∧ (h' 90 27) = (h 90 27) ∧ (h' 90 28) = (h 90 28) ∧ (h' 90 29) = (h 90 29) ∧ (h' 90 30) = (h 90 30) ∧ (h' 90 34) = (h 90 34) ∧ (h' 90 35) = (h 90 35) ∧ (h' 90 37) = (h 90 37)) ∧ h' 92 = h 92 ∧ h' 93 = h 93 ∧ h' 94 = h 94 ∧ h' 95 = h 95 ∧ h' 96 = h 96 ∧ h' 99 = h 99 ∧ h' 100 = h 100 ∧ h' 103 = h 103 ∧ h' 105 = h 105 ∧ h' 106 = h 106 ∧ h' 109 = h 109 ∧ h' 114 = h 114 ∧ (∀ j : Int, j < 1100 + (h 90 13) → (h' 97) j = (h 97) j ∧ (h' 98) j = (h 98) j) ∧ ((h' 90 8) = 0 → ov_sg (h' 97) (h' 98) (h 90 13) (h' 90 13))
abbrev P_Mo_sums_90 (F : ov_H × ov_Z) (z : ov_Z) (h : ov_H) (n : Int) (dep : Int) : Option ov_V → ov_Z → ov_H → Prop := fun r0 z' h' => r0 = none ∧ ov_N F z' h' ∧ ((h 90 7) ≤ (h' 90 7) ∧ (h' 90 7) ≤ n ∧ (0 < (h 90 8) → (h' 90 8) = (h 90 8)) ∧ (h 90 13) ≤ (h' 90 13) ∧ (h' 90 13) - (h 90 13) ≤ (h' 90 7) - (h 90 7) ∧ (h' 90 2) = (h 90 2) ∧ (h' 90 3) = (h 90 3) ∧ (h' 90 20) = (h 90 20) ∧ (h' 90 22) = (h 90 22) ∧ (h' 90 25) = (h 90 25) ∧ (h' 90 26) = (h 90 26) ∧ (h' 90 27) = (h 90 27) ∧ (h' 90 28) = (h 90 28) ∧ (h' 90 29) = (h 90 29) ∧ (h' 90 30) = (h 90 30) ∧ (h' 90 34) = (h 90 34) ∧ (h' 90 35) = (h 90 35) ∧ (h' 90 37) = (h 90 37)) ∧ h' 92 = h 92 ∧ h' 93 = h 93 ∧ h' 94 = h 94 ∧ h' 95 = h 95 ∧ h' 96 = h 96 ∧ h' 99 = h 99 ∧ h' 100 = h 100 ∧ h' 103 = h 103 ∧ h' 105 = h 105 ∧ h' 106 = h 106 ∧ h' 109 = h 109 ∧ h' 114 = h 114 ∧ (∀ j : Int, j < 1100 + (h 90 13) → (h' 97) j = (h 97) j ∧ (h' 98) j = (h 98) j) ∧ ((h' 90 8) = 0 → ov_sg (h' 97) (h' 98) (h 90 13) (h' 90 13))
abbrev P_Mo_test_90 (F : ov_H × ov_Z) (z : ov_Z) (h : ov_H) (n : Int) (dep : Int) : Option ov_V → ov_Z → ov_H → Prop := fun r0 z' h' => r0 = none ∧ ov_N F z' h' ∧ ((h 90 7) ≤ (h' 90 7) ∧ (h' 90 7) ≤ n ∧ (0 < (h 90 8) → (h' 90 8) = (h 90 8)) ∧ (h 90 13) ≤ (h' 90 13) ∧ (h' 90 13) - (h 90 13) ≤ (h' 90 7) - (h 90 7) ∧ (h' 90 2) = (h 90 2) ∧ (h' 90 3) = (h 90 3) ∧ (h' 90 20) = (h 90 20) ∧ (h' 90 22) = (h 90 22) ∧ (h' 90 25) = (h 90 25) ∧ (h' 90 26) = (h 90 26) ∧ (h' 90 27) = (h 90 27) ∧ (h' 90 28) = (h 90 28) ∧ (h' 90 29) = (h 90 29) ∧ (h' 90 30) = (h 90 30) ∧ (h' 90 34) = (h 90 34) ∧ (h' 90 35) = (h 90 35) ∧ (h' 90 37) = (h 90 37)) ∧ h' 92 = h 92 ∧ h' 93 = h 93 ∧ h' 94 = h 94 ∧ h' 95 = h 95 ∧ h' 96 = h 96 ∧ h' 99 = h 99 ∧ h' 100 = h 100 ∧ h' 103 = h 103 ∧ h' 105 = h 105 ∧ h' 106 = h 106 ∧ h' 109 = h 109 ∧ h' 114 = h 114 ∧ (∀ j : Int, j < 1100 + (h 90 13) → (h' 97) j = (h 97) j ∧ (h' 98) j = (h 98) j) ∧ ((h' 90 8) = 0 → ov_sg (h' 97) (h' 98) (h 90 13) (h' 90 13))
abbrev P_Mo_all_90 (F : ov_H × ov_Z) (z : ov_Z) (h : ov_H) (n : Int) (dep : Int) : Option ov_V → ov_Z → ov_H → Prop := fun r0 z' h' => r0 = none ∧ ov_N F z' h' ∧ ((h 90 7) ≤ (h' 90 7) ∧ (h' 90 7) ≤ n ∧ (0 < (h 90 8) → (h' 90 8) = (h 90 8)) ∧ (h 90 13) ≤ (h' 90 13) ∧ (h' 90 13) - (h 90 13) ≤ (h' 90 7) - (h 90 7) ∧ (h' 90 2) = (h 90 2) ∧ (h' 90 3) = (h 90 3) ∧ (h' 90 20) = (h 90 20) ∧ (h' 90 22) = (h 90 22) ∧ (h' 90 25) = (h 90 25) ∧ (h' 90 26) = (h 90 26) ∧ (h' 90 27) = (h 90 27) ∧ (h' 90 28) = (h 90 28) ∧ (h' 90 29) = (h 90 29) ∧ (h' 90 30) = (h 90 30) ∧ (h' 90 34) = (h 90 34) ∧ (h' 90 35) = (h 90 35) ∧ (h' 90 37) = (h 90 37)) ∧ h' 92 = h 92 ∧ h' 93 = h 93 ∧ h' 94 = h 94 ∧ h' 95 = h 95 ∧ h' 96 = h 96 ∧ h' 99 = h 99 ∧ h' 100 = h 100 ∧ h' 103 = h 103 ∧ h' 105 = h 105 ∧ h' 106 = h 106 ∧ h' 109 = h 109 ∧ h' 114 = h 114 ∧ (∀ j : Int, j < 1100 + (h 90 13) → (h' 97) j = (h 97) j ∧ (h' 98) j = (h 98) j) ∧ ((h' 90 8) = 0 → ov_sg (h' 97) (h' 98) (h 90 13) (h' 90 13))
set_option maxHeartbeats 4000000 in
theorem c_Mo_takePart_90 {u : ov_U} {F : ov_H × ov_Z} (n : Int) (k : Nat) (HE : ∀ k' : Nat, k' + 1 = k → ∀ {z : ov_Z} {h : ov_H} (d : Nat) (hd : (10 + 5 * k' + 4) ≤ d) (U : ov_cap u) (I : ov_N F z h) (dep : Int) (g_dep : ov_g dep) (p0 : 0 ≤ n ∧ n ≤ 1000 ∧ (h 92 (n)) = 0 ∧ (h 90 7) ≤ n) (p1 : 0 ≤ dep ∧ dep + (k' : Int) = 5) (p2 : (h 90 13) ≤ (h 90 7)), ov_T u d ov_m226 [ov_r 90, ov_i dep] z h (P_Mo_all_90 F z h n dep)) (HP : ∀ k' : Nat, k' + 1 = k → ∀ {z : ov_Z} {h : ov_H} (d : Nat) (hd : (10 + 5 * k' + 0) ≤ d) (U : ov_cap u) (I : ov_N F z h) (dep : Int) (g_dep : ov_g dep) (p0 : 0 ≤ n ∧ n ≤ 1000 ∧ (h 92 (n)) = 0 ∧ (h 90 7) ≤ n) (p1 : 0 ≤ dep ∧ dep + (k' : Int) = 5) (p2 : (h 90 13) ≤ (h 90 7)), ov_T u d ov_m230 [ov_r 90, ov_i dep] z h (P_Mo_takePart_90 F z h n dep)) {z : ov_Z} {h : ov_H} (d : Nat) (hd : (10 + 5 * k + 0) ≤ d) (U : ov_cap u) (I : ov_N F z h) (dep : Int) (g_dep : ov_g dep) (p0 : 0 ≤ n ∧ n ≤ 1000 ∧ (h 92 (n)) = 0 ∧ (h 90 7) ≤ n) (p1 : 0 ≤ dep ∧ dep + (k : Int) = 5) (p2 : (h 90 13) ≤ (h 90 7)) : ov_T u d ov_m230 [ov_r 90, ov_i dep] z h (P_Mo_takePart_90 F z h n dep) := by
  refine ov_en rfl (Nat.le_of_ble_eq_true rfl) ?_
  show ov_R u d ov_m230 0 [(0, ov_r 90), (1, ov_i dep)] [] z h (P_Mo_takePart_90 F z h n dep)
  have qn : h 90 7 = n → h 92 (h 90 7) = h 92 n := fun e => by rw [e]
  refine ov_blk (ls2 := [(0, ov_r 90), (1, ov_i dep)]) (st2 := [ov_r 90]) (pc2 := 1) b_230_0_1 rfl rfl ?_
  refine ov_getf (v := ov_i (h 90 8)) d_230_1 fl_Mo_180 (zb_90 I) (zs_90 I) rfl ?_
  have g1 := rg_90_8 I
  refine ov_ifle (tgt := 8) d_230_4 (by decide) (by omega) (fun c2 => ?_) (fun c2 => ?_)
  · skip
    have J3 : ∀ (j4 : Int) (j5 : Int) (q6 : (j4 = 0 ∨ j4 = 1) ∧ (j4 = 1 → (h 92 ((h 90 7))) = 2) ∧ -1 ≤ j5 ∧ j5 ≤ 3 ∧ (0 ≤ j5 → (h 90 7) < n)), ov_R u d ov_m230 67 [(0, ov_r 90), (1, ov_i dep), (2, ov_i j4), (5, ov_i j5)] [] z h (P_Mo_takePart_90 F z h n dep) := by
      intro j4 j5 q6
      have J7 : ∀ (q8 : (0 ≤ j5 ∨ j4 = 1 ∨ ((h 90 8) = 0 ∧ (h 92 ((h 90 7))) = 3 ∧ (h 94 ((h 90 7))) = 40) ∨ ((h 90 8) = 0 ∧ (h 92 ((h 90 7))) = 1 ∧ (h 94 ((h 90 7))) = (h 95 (17))))), ov_R u d ov_m230 102 [(0, ov_r 90), (1, ov_i dep), (2, ov_i j4), (5, ov_i j5)] [] z h (P_Mo_takePart_90 F z h n dep) := by
        intro  q8
        refine ov_blk (ls2 := [(0, ov_r 90), (1, ov_i dep), (2, ov_i j4), (5, ov_i j5)]) (st2 := [ov_i 5, ov_i dep]) (pc2 := 104) b_230_102_2 rfl rfl ?_
        refine ov_icne (tgt := 112) d_230_104 (by decide) (by omega) (by omega) (fun c9 => ?_) (fun c9 => ?_)
        · skip
          refine ov_blk (ls2 := [(0, ov_r 90), (1, ov_i dep), (2, ov_i j4), (5, ov_i j5)]) (st2 := [ov_r 90]) (pc2 := 113) b_230_112_1 rfl rfl ?_
          refine ov_getf (v := ov_i (h 90 8)) d_230_113 fl_Mo_180 (zb_90 I) (zs_90 I) rfl ?_
          refine ov_ifle (tgt := 120) d_230_116 (by decide) (by omega) (fun c11 => ?_) (fun c11 => ?_)
          · skip
            refine ov_blk (ls2 := [(0, ov_r 90), (1, ov_i dep), (2, ov_i j4), (5, ov_i j5)]) (st2 := [ov_i 17, ov_r 90]) (pc2 := 123) b_230_120_2 rfl rfl ?_
            refine ov_cV (as := [ov_i 17]) (st := []) (d2 := d - 1) d_230_123 lk_Mo_192 rfl (Nat.le_of_ble_eq_true rfl) (c := 1) (zb_90 I) (zs_90 I) ⟨by decide, rfl⟩ (by omega) (c_Mo_hasWord_90 n (d - 1) (by omega) U I 17 (by omega) (by show 0 ≤ n ∧ n ≤ 1000 ∧ (h 92 (n)) = 0 ∧ (h 90 7) ≤ n; omega) (by omega)) ?_
            rintro _ z28 h29 ⟨v13, rfl, I30, f12, e14, e15, e16, e17, e18, e19, e20, e21, e22, e23, e24, e25, e26, e27⟩
            have E31 : h29 92 = h 92 := e14
            have E32 : h29 93 = h 93 := e15
            have E33 : h29 94 = h 94 := e16
            have E34 : h29 95 = h 95 := e17
            have E35 : h29 96 = h 96 := e18
            have E36 : h29 97 = h 97 := e19
            have E37 : h29 98 = h 98 := e20
            have E38 : h29 99 = h 99 := e21
            have E39 : h29 100 = h 100 := e22
            have E40 : h29 103 = h 103 := e23
            have E41 : h29 105 = h 105 := e24
            have E42 : h29 106 = h 106 := e25
            have E43 : h29 109 = h 109 := e26
            have E44 : h29 114 = h 114 := e27
            show ov_R u d ov_m230 126 [(0, ov_r 90), (1, ov_i dep), (2, ov_i j4), (5, ov_i j5)] [ov_i v13] z28 h29 (P_Mo_takePart_90 F z h n dep)
            have f45 : (v13 = 0 ∨ v13 = 1) ∧ (h 90 7) ≤ (h29 90 7) ∧ (h29 90 7) ≤ n ∧ (v13 = 1 → (h29 90 7) = (h 90 7) + 1 ∧ (h 90 8) = 0) ∧ (v13 = 0 → (h29 90 7) = (h 90 7)) ∧ (v13 = 1 → (h 90 8) = 0 ∧ (h 92 ((h 90 7))) = 1 ∧ (h 94 ((h 90 7))) = (h 95 ((17 : Int)))) ∧ (v13 = 0 → ¬ ((h 90 8) = 0 ∧ (h 92 ((h 90 7))) = 1 ∧ (h 94 ((h 90 7))) = (h 95 ((17 : Int))))) ∧ (h29 90 2) = (h 90 2) ∧ (h29 90 3) = (h 90 3) ∧ (h29 90 8) = (h 90 8) ∧ (h29 90 13) = (h 90 13) ∧ (h29 90 20) = (h 90 20) ∧ (h29 90 22) = (h 90 22) ∧ (h29 90 25) = (h 90 25) ∧ (h29 90 26) = (h 90 26) ∧ (h29 90 27) = (h 90 27) ∧ (h29 90 28) = (h 90 28) ∧ (h29 90 29) = (h 90 29) ∧ (h29 90 30) = (h 90 30) ∧ (h29 90 34) = (h 90 34) ∧ (h29 90 35) = (h 90 35) ∧ (h29 90 37) = (h 90 37) := f12
            clear f12
            have qm : h29 90 7 = h 90 7 → h 92 (h29 90 7) = h 92 (h 90 7) ∧ h 94 (h29 90 7) = h 94 (h 90 7) := fun e => by rw [e]; exact ⟨rfl, rfl⟩
            refine ov_ifeq (tgt := 145) d_230_126 (by decide) (by omega) (fun c46 => ?_) (fun c46 => ?_)
            · skip
              refine ov_blk (ls2 := [(0, ov_r 90), (1, ov_i dep), (2, ov_i j4), (5, ov_i j5)]) (st2 := [ov_i 40, ov_r 90]) (pc2 := 148) b_230_145_2 rfl rfl ?_
              have cf47 : h29 92 (n) = h 92 (n) := congrFun E31 (n)
              refine ov_cV (as := [ov_i 40]) (st := []) (d2 := d - 1) d_230_148 lk_Mo_263 rfl (Nat.le_of_ble_eq_true rfl) (c := 1) (zb_90 I30) (zs_90 I30) ⟨by decide, rfl⟩ (by omega) (c_Mo_hasSign_90 n (d - 1) (by omega) U I30 40 (by omega) (by show 0 ≤ n ∧ n ≤ 1000 ∧ (h29 92 (n)) = 0 ∧ (h29 90 7) ≤ n; omega)) ?_
              rintro _ z64 h65 ⟨v49, rfl, I66, f48, e50, e51, e52, e53, e54, e55, e56, e57, e58, e59, e60, e61, e62, e63⟩
              have E67 : h65 92 = h 92 := Eq.trans e50 E31
              have E68 : h65 93 = h 93 := Eq.trans e51 E32
              have E69 : h65 94 = h 94 := Eq.trans e52 E33
              have E70 : h65 95 = h 95 := Eq.trans e53 E34
              have E71 : h65 96 = h 96 := Eq.trans e54 E35
              have E72 : h65 97 = h 97 := Eq.trans e55 E36
              have E73 : h65 98 = h 98 := Eq.trans e56 E37
              have E74 : h65 99 = h 99 := Eq.trans e57 E38
              have E75 : h65 100 = h 100 := Eq.trans e58 E39
              have E76 : h65 103 = h 103 := Eq.trans e59 E40
              have E77 : h65 105 = h 105 := Eq.trans e60 E41
              have E78 : h65 106 = h 106 := Eq.trans e61 E42
              have E79 : h65 109 = h 109 := Eq.trans e62 E43
              have E80 : h65 114 = h 114 := Eq.trans e63 E44
              show ov_R u d ov_m230 151 [(0, ov_r 90), (1, ov_i dep), (2, ov_i j4), (5, ov_i j5)] [ov_i v49] z64 h65 (P_Mo_takePart_90 F z h n dep)
              rw [show h29 92 = h 92 from E31] at f48
              rw [show h29 94 = h 94 from E33] at f48
              have f81 : (v49 = 0 ∨ v49 = 1) ∧ (h29 90 7) ≤ (h65 90 7) ∧ (h65 90 7) ≤ n ∧ (v49 = 1 → (h65 90 7) = (h29 90 7) + 1 ∧ (h29 90 8) = 0) ∧ (v49 = 0 → (h65 90 7) = (h29 90 7)) ∧ (v49 = 1 → (h29 90 8) = 0 ∧ (h 92 ((h29 90 7))) = 3 ∧ (h 94 ((h29 90 7))) = (40 : Int)) ∧ (v49 = 0 → ¬ ((h29 90 8) = 0 ∧ (h 92 ((h29 90 7))) = 3 ∧ (h 94 ((h29 90 7))) = (40 : Int))) ∧ (h65 90 2) = (h29 90 2) ∧ (h65 90 3) = (h29 90 3) ∧ (h65 90 8) = (h29 90 8) ∧ (h65 90 13) = (h29 90 13) ∧ (h65 90 20) = (h29 90 20) ∧ (h65 90 22) = (h29 90 22) ∧ (h65 90 25) = (h29 90 25) ∧ (h65 90 26) = (h29 90 26) ∧ (h65 90 27) = (h29 90 27) ∧ (h65 90 28) = (h29 90 28) ∧ (h65 90 29) = (h29 90 29) ∧ (h65 90 30) = (h29 90 30) ∧ (h65 90 34) = (h29 90 34) ∧ (h65 90 35) = (h29 90 35) ∧ (h65 90 37) = (h29 90 37) := f48
              clear f48
              refine ov_ifeq (tgt := 170) d_230_151 (by decide) (by omega) (fun c82 => ?_) (fun c82 => ?_)
              · skip
                refine ov_blk (ls2 := [(0, ov_r 90), (1, ov_i dep), (2, ov_i j4), (5, ov_i j5)]) (st2 := [ov_i j4, ov_r 90]) (pc2 := 172) b_230_170_2 rfl rfl ?_
                refine ov_ifeq (tgt := 179) d_230_172 (by decide) (by omega) (fun c83 => ?_) (fun c83 => ?_)
                · skip
                  refine ov_blk (ls2 := [(0, ov_r 90), (1, ov_i dep), (2, ov_i j4), (5, ov_i j5)]) (st2 := [ov_i j4, ov_i 2, ov_r 90]) (pc2 := 181) b_230_179_2 rfl rfl ?_
                  refine ov_ifeq (tgt := 197) d_230_181 (by decide) (by omega) (fun c84 => ?_) (fun c84 => ?_)
                  · skip
                    refine ov_blk (ls2 := [(0, ov_r 90), (1, ov_i dep), (2, ov_i j4), (5, ov_i j5)]) (st2 := [ov_i j5, ov_i 2, ov_r 90]) (pc2 := 199) b_230_197_1 rfl rfl ?_
                    refine ov_cV (as := [ov_i 2, ov_i j5]) (st := []) (d2 := d - 1) d_230_199 lk_Mo_246 rfl (Nat.le_of_ble_eq_true rfl) (c := 1) (zb_90 I66) (zs_90 I66) ⟨by decide, rfl⟩ (by omega) (c_Mo_emit_90 (d - 1) (by omega) U I66 2 j5 (by omega) (by omega) (by omega) (by show (h65 90 13) ≤ 999; omega)) ?_
                    rintro _ z100 h101 ⟨rfl, I102, f85, e86, e87, e88, e89, e90, e91, e92, e93, e94, e95, e96, e97, y98, y99⟩
                    have E103 : h101 92 = h 92 := Eq.trans e86 E67
                    have E104 : h101 93 = h 93 := Eq.trans e87 E68
                    have E105 : h101 94 = h 94 := Eq.trans e88 E69
                    have E106 : h101 95 = h 95 := Eq.trans e89 E70
                    have E107 : h101 96 = h 96 := Eq.trans e90 E71
                    have E108 : h101 99 = h 99 := Eq.trans e91 E74
                    have E109 : h101 100 = h 100 := Eq.trans e92 E75
                    have E110 : h101 103 = h 103 := Eq.trans e93 E76
                    have E111 : h101 105 = h 105 := Eq.trans e94 E77
                    have E112 : h101 106 = h 106 := Eq.trans e95 E78
                    have E113 : h101 109 = h 109 := Eq.trans e96 E79
                    have E114 : h101 114 = h 114 := Eq.trans e97 E80
                    show ov_R u d ov_m230 202 [(0, ov_r 90), (1, ov_i dep), (2, ov_i j4), (5, ov_i j5)] [] z100 h101 (P_Mo_takePart_90 F z h n dep)
                    have f115 : (h101 90 13) = (h65 90 13) + 1 ∧ (h101 90 2) = (h65 90 2) ∧ (h101 90 3) = (h65 90 3) ∧ (h101 90 7) = (h65 90 7) ∧ (h101 90 8) = (h65 90 8) ∧ (h101 90 20) = (h65 90 20) ∧ (h101 90 22) = (h65 90 22) ∧ (h101 90 25) = (h65 90 25) ∧ (h101 90 26) = (h65 90 26) ∧ (h101 90 27) = (h65 90 27) ∧ (h101 90 28) = (h65 90 28) ∧ (h101 90 29) = (h65 90 29) ∧ (h101 90 30) = (h65 90 30) ∧ (h101 90 34) = (h65 90 34) ∧ (h101 90 35) = (h65 90 35) ∧ (h101 90 37) = (h65 90 37) := f85
                    clear f85
                    rw [show h65 97 = h 97 from E72] at y98
                    have y98_ : (h101 97) = ov_rs (h 97) (1100 + (h65 90 13)) (2 : Int) := y98
                    rw [show h65 98 = h 98 from E73] at y99
                    have y99_ : (h101 98) = ov_rs (h 98) (1100 + (h65 90 13)) j5 := y99
                    have K116 : ∀ j : Int, j < 1100 + (h 90 13) → h101 97 j = h 97 j ∧ h101 98 j = h 98 j := ov_kpe (fun j _ => ⟨rfl, rfl⟩) y98_ y99_ (by omega)
                    have K117 : h101 90 8 = 0 → ov_sg (h101 97) (h101 98) (h 90 13) (h101 90 13) := fun e => by have q3 := ov_sg_one y98_ y99_ (by omega); rw [show h101 90 13 = (h65 90 13) + 1 by omega, show h 90 13 = (h65 90 13) by omega]; exact q3
                    refine ov_blk (ls2 := [(0, ov_r 90), (1, ov_i dep), (2, ov_i j4), (5, ov_i j5)]) (st2 := [ov_r 90, ov_r 90]) (pc2 := 204) b_230_202_2 rfl rfl ?_
                    refine ov_getf (v := ov_i (h101 90 7)) d_230_204 fl_Mo_177 (zb_90 I102) (zs_90 I102) rfl ?_
                    have g118 := rg_90_7 I102
                    refine ov_blk (ls2 := [(0, ov_r 90), (1, ov_i dep), (2, ov_i j4), (5, ov_i j5)]) (st2 := [ov_i ((h101 90 7) + 1), ov_r 90]) (pc2 := 209) b_230_207_2 rfl rfl ?_
                    refine ov_putf (x := ((h101 90 7) + 1)) d_230_209 fl_Mo_177 (zb_90 I102) (zs_90 I102) rfl nk_0 rfl ?_
                    have I119 := up_90_7 (x := ((h101 90 7) + 1)) I102 (by omega)
                    exact ov_retv (st := []) d_230_212 rfl ⟨rfl, I119, (by show (h 90 7) ≤ ((h101 90 7) + 1) ∧ ((h101 90 7) + 1) ≤ n ∧ (0 < (h 90 8) → (h101 90 8) = (h 90 8)) ∧ (h 90 13) ≤ (h101 90 13) ∧ (h101 90 13) - (h 90 13) ≤ ((h101 90 7) + 1) - (h 90 7) ∧ (h101 90 2) = (h 90 2) ∧ (h101 90 3) = (h 90 3) ∧ (h101 90 20) = (h 90 20) ∧ (h101 90 22) = (h 90 22) ∧ (h101 90 25) = (h 90 25) ∧ (h101 90 26) = (h 90 26) ∧ (h101 90 27) = (h 90 27) ∧ (h101 90 28) = (h 90 28) ∧ (h101 90 29) = (h 90 29) ∧ (h101 90 30) = (h 90 30) ∧ (h101 90 34) = (h 90 34) ∧ (h101 90 35) = (h 90 35) ∧ (h101 90 37) = (h 90 37); omega), E103, E104, E105, E106, E107, E108, E109, E110, E111, E112, E113, E114, K116, (fun e => by have e0 : (h101 90 8) = 0 := e; show ov_sg ((ov_up h101 90 7 ((h101 90 7) + 1)) 97) ((ov_up h101 90 7 ((h101 90 7) + 1)) 98) _ (h101 90 13); rw [show (h101 90 13) = (h101 90 13) by omega]; exact K117 (by omega))⟩
                  · omega
                · skip
                  refine ov_blk (ls2 := [(0, ov_r 90), (1, ov_i dep), (2, ov_i j4), (5, ov_i j5)]) (st2 := [ov_i 1, ov_r 90]) (pc2 := 176) b_230_175_1 rfl rfl ?_
                  refine ov_goto (tgt := 180) d_230_176 (by decide) ?_
                  refine ov_blk (ls2 := [(0, ov_r 90), (1, ov_i dep), (2, ov_i j4), (5, ov_i j5)]) (st2 := [ov_i j4, ov_i 1, ov_r 90]) (pc2 := 181) b_230_180_1 rfl rfl ?_
                  refine ov_ifeq (tgt := 197) d_230_181 (by decide) (by omega) (fun c120 => ?_) (fun c120 => ?_)
                  · omega
                  · skip
                    refine ov_blk (ls2 := [(0, ov_r 90), (1, ov_i dep), (2, ov_i j4), (5, ov_i j5)]) (st2 := [ov_r 90, ov_i 1, ov_r 90]) (pc2 := 185) b_230_184_1 rfl rfl ?_
                    refine ov_getf (v := ov_r 94) d_230_185 fl_Mo_30 (zb_90 I66) (zs_90 I66) (congrArg ov_r (rg_90_6 I66)) ?_
                    refine ov_blk (ls2 := [(0, ov_r 90), (1, ov_i dep), (2, ov_i j4), (5, ov_i j5)]) (st2 := [ov_r 90, ov_r 94, ov_i 1, ov_r 90]) (pc2 := 189) b_230_188_1 rfl rfl ?_
                    refine ov_getf (v := ov_i (h65 90 7)) d_230_189 fl_Mo_177 (zb_90 I66) (zs_90 I66) rfl ?_
                    have g121 := rg_90_7 I66
                    refine ov_lald d_230_192 (zb_94 I66) (zs_94 I66) (by omega) ?_
                    rw [show h65 94 = h 94 from E69]
                    have g122 := ra_94 I (h65 90 7)
                    refine ov_blk (ls2 := [(0, ov_r 90), (1, ov_i dep), (2, ov_i j4), (5, ov_i j5)]) (st2 := [ov_i (h 94 (h65 90 7)), ov_i 1, ov_r 90]) (pc2 := 194) b_230_193_1 rfl rfl ?_
                    refine ov_havw (fun w123 gw123 qw123 => ?_)
                    refine ov_goto (tgt := 199) d_230_194 (by decide) ?_
                    refine ov_cV (as := [ov_i 1, ov_i w123]) (st := []) (d2 := d - 1) d_230_199 lk_Mo_246 rfl (Nat.le_of_ble_eq_true rfl) (c := 1) (zb_90 I66) (zs_90 I66) ⟨by decide, rfl⟩ (by omega) (c_Mo_emit_90 (d - 1) (by omega) U I66 1 w123 (by omega) (by omega) (by omega) (by show (h65 90 13) ≤ 999; omega)) ?_
                    rintro _ z139 h140 ⟨rfl, I141, f124, e125, e126, e127, e128, e129, e130, e131, e132, e133, e134, e135, e136, y137, y138⟩
                    have E142 : h140 92 = h 92 := Eq.trans e125 E67
                    have E143 : h140 93 = h 93 := Eq.trans e126 E68
                    have E144 : h140 94 = h 94 := Eq.trans e127 E69
                    have E145 : h140 95 = h 95 := Eq.trans e128 E70
                    have E146 : h140 96 = h 96 := Eq.trans e129 E71
                    have E147 : h140 99 = h 99 := Eq.trans e130 E74
                    have E148 : h140 100 = h 100 := Eq.trans e131 E75
                    have E149 : h140 103 = h 103 := Eq.trans e132 E76
                    have E150 : h140 105 = h 105 := Eq.trans e133 E77
                    have E151 : h140 106 = h 106 := Eq.trans e134 E78
                    have E152 : h140 109 = h 109 := Eq.trans e135 E79
                    have E153 : h140 114 = h 114 := Eq.trans e136 E80
                    show ov_R u d ov_m230 202 [(0, ov_r 90), (1, ov_i dep), (2, ov_i j4), (5, ov_i j5)] [] z139 h140 (P_Mo_takePart_90 F z h n dep)
                    have f154 : (h140 90 13) = (h65 90 13) + 1 ∧ (h140 90 2) = (h65 90 2) ∧ (h140 90 3) = (h65 90 3) ∧ (h140 90 7) = (h65 90 7) ∧ (h140 90 8) = (h65 90 8) ∧ (h140 90 20) = (h65 90 20) ∧ (h140 90 22) = (h65 90 22) ∧ (h140 90 25) = (h65 90 25) ∧ (h140 90 26) = (h65 90 26) ∧ (h140 90 27) = (h65 90 27) ∧ (h140 90 28) = (h65 90 28) ∧ (h140 90 29) = (h65 90 29) ∧ (h140 90 30) = (h65 90 30) ∧ (h140 90 34) = (h65 90 34) ∧ (h140 90 35) = (h65 90 35) ∧ (h140 90 37) = (h65 90 37) := f124
                    clear f124
                    rw [show h65 97 = h 97 from E72] at y137
                    have y137_ : (h140 97) = ov_rs (h 97) (1100 + (h65 90 13)) (1 : Int) := y137
                    rw [show h65 98 = h 98 from E73] at y138
                    have y138_ : (h140 98) = ov_rs (h 98) (1100 + (h65 90 13)) w123 := y138
                    have K155 : ∀ j : Int, j < 1100 + (h 90 13) → h140 97 j = h 97 j ∧ h140 98 j = h 98 j := ov_kpe (fun j _ => ⟨rfl, rfl⟩) y137_ y138_ (by omega)
                    have K156 : h140 90 8 = 0 → ov_sg (h140 97) (h140 98) (h 90 13) (h140 90 13) := fun e => by have q3 := ov_sg_one y137_ y138_ (by omega); rw [show h140 90 13 = (h65 90 13) + 1 by omega, show h 90 13 = (h65 90 13) by omega]; exact q3
                    refine ov_blk (ls2 := [(0, ov_r 90), (1, ov_i dep), (2, ov_i j4), (5, ov_i j5)]) (st2 := [ov_r 90, ov_r 90]) (pc2 := 204) b_230_202_2 rfl rfl ?_
                    refine ov_getf (v := ov_i (h140 90 7)) d_230_204 fl_Mo_177 (zb_90 I141) (zs_90 I141) rfl ?_
                    have g157 := rg_90_7 I141
                    refine ov_blk (ls2 := [(0, ov_r 90), (1, ov_i dep), (2, ov_i j4), (5, ov_i j5)]) (st2 := [ov_i ((h140 90 7) + 1), ov_r 90]) (pc2 := 209) b_230_207_2 rfl rfl ?_
                    refine ov_putf (x := ((h140 90 7) + 1)) d_230_209 fl_Mo_177 (zb_90 I141) (zs_90 I141) rfl nk_0 rfl ?_
                    have I158 := up_90_7 (x := ((h140 90 7) + 1)) I141 (by omega)
                    exact ov_retv (st := []) d_230_212 rfl ⟨rfl, I158, (by show (h 90 7) ≤ ((h140 90 7) + 1) ∧ ((h140 90 7) + 1) ≤ n ∧ (0 < (h 90 8) → (h140 90 8) = (h 90 8)) ∧ (h 90 13) ≤ (h140 90 13) ∧ (h140 90 13) - (h 90 13) ≤ ((h140 90 7) + 1) - (h 90 7) ∧ (h140 90 2) = (h 90 2) ∧ (h140 90 3) = (h 90 3) ∧ (h140 90 20) = (h 90 20) ∧ (h140 90 22) = (h 90 22) ∧ (h140 90 25) = (h 90 25) ∧ (h140 90 26) = (h 90 26) ∧ (h140 90 27) = (h 90 27) ∧ (h140 90 28) = (h 90 28) ∧ (h140 90 29) = (h 90 29) ∧ (h140 90 30) = (h 90 30) ∧ (h140 90 34) = (h 90 34) ∧ (h140 90 35) = (h 90 35) ∧ (h140 90 37) = (h 90 37); omega), E142, E143, E144, E145, E146, E147, E148, E149, E150, E151, E152, E153, K155, (fun e => by have e0 : (h140 90 8) = 0 := e; show ov_sg ((ov_up h140 90 7 ((h140 90 7) + 1)) 97) ((ov_up h140 90 7 ((h140 90 7) + 1)) 98) _ (h140 90 13); rw [show (h140 90 13) = (h140 90 13) by omega]; exact K156 (by omega))⟩
              · skip
                refine ov_blk (ls2 := [(0, ov_r 90), (1, ov_i dep), (2, ov_i j4), (5, ov_i j5)]) (st2 := [ov_i (dep + 1), ov_r 90]) (pc2 := 158) b_230_154_4 rfl rfl ?_
                have cf159 : h65 92 (n) = h 92 (n) := congrFun E67 (n)
                refine ov_cV (as := [ov_i (dep + 1)]) (st := []) (d2 := d - 1) d_230_158 lk_Mo_243 rfl (Nat.le_of_ble_eq_true rfl) (c := 1) (zb_90 I66) (zs_90 I66) ⟨by decide, rfl⟩ (by omega) (HE (k - 1) (by omega) (d - 1) (by omega) U I66 (dep + 1) (by omega) (by show 0 ≤ n ∧ n ≤ 1000 ∧ (h65 92 (n)) = 0 ∧ (h65 90 7) ≤ n; omega) (by omega) (by show (h65 90 13) ≤ (h65 90 7); omega)) ?_
                rintro _ z175 h176 ⟨rfl, I177, f160, e161, e162, e163, e164, e165, e166, e167, e168, e169, e170, e171, e172, y173, y174⟩
                have E178 : h176 92 = h 92 := Eq.trans e161 E67
                have E179 : h176 93 = h 93 := Eq.trans e162 E68
                have E180 : h176 94 = h 94 := Eq.trans e163 E69
                have E181 : h176 95 = h 95 := Eq.trans e164 E70
                have E182 : h176 96 = h 96 := Eq.trans e165 E71
                have E183 : h176 99 = h 99 := Eq.trans e166 E74
                have E184 : h176 100 = h 100 := Eq.trans e167 E75
                have E185 : h176 103 = h 103 := Eq.trans e168 E76
                have E186 : h176 105 = h 105 := Eq.trans e169 E77
                have E187 : h176 106 = h 106 := Eq.trans e170 E78
                have E188 : h176 109 = h 109 := Eq.trans e171 E79
                have E189 : h176 114 = h 114 := Eq.trans e172 E80
                show ov_R u d ov_m230 161 [(0, ov_r 90), (1, ov_i dep), (2, ov_i j4), (5, ov_i j5)] [] z175 h176 (P_Mo_takePart_90 F z h n dep)
                have f190 : (h65 90 7) ≤ (h176 90 7) ∧ (h176 90 7) ≤ n ∧ (0 < (h65 90 8) → (h176 90 8) = (h65 90 8)) ∧ (h65 90 13) ≤ (h176 90 13) ∧ (h176 90 13) - (h65 90 13) ≤ (h176 90 7) - (h65 90 7) ∧ (h176 90 2) = (h65 90 2) ∧ (h176 90 3) = (h65 90 3) ∧ (h176 90 20) = (h65 90 20) ∧ (h176 90 22) = (h65 90 22) ∧ (h176 90 25) = (h65 90 25) ∧ (h176 90 26) = (h65 90 26) ∧ (h176 90 27) = (h65 90 27) ∧ (h176 90 28) = (h65 90 28) ∧ (h176 90 29) = (h65 90 29) ∧ (h176 90 30) = (h65 90 30) ∧ (h176 90 34) = (h65 90 34) ∧ (h176 90 35) = (h65 90 35) ∧ (h176 90 37) = (h65 90 37) := f160
                clear f160
                rw [show h65 97 = h 97 from E72] at y173
                rw [show h65 98 = h 98 from E73] at y173
                have y173_ : ∀ j : Int, j < 1100 + (h65 90 13) → (h176 97) j = (h 97) j ∧ (h176 98) j = (h 98) j := y173
                have y174_ : (h176 90 8) = 0 → ov_sg (h176 97) (h176 98) (h65 90 13) (h176 90 13) := y174
                have K191 : ∀ j : Int, j < 1100 + (h 90 13) → h176 97 j = h 97 j ∧ h176 98 j = h 98 j := fun j hj => y173_ j (by omega)
                have K192 : h176 90 8 = 0 → ov_sg (h176 97) (h176 98) (h 90 13) (h176 90 13) := fun e => by have q := y174_ e; rw [show (h65 90 13) = h 90 13 by omega] at q; exact q
                refine ov_blk (ls2 := [(0, ov_r 90), (1, ov_i dep), (2, ov_i j4), (5, ov_i j5)]) (st2 := [ov_i 41, ov_r 90]) (pc2 := 164) b_230_161_2 rfl rfl ?_
                have cf193 : h176 92 (n) = h 92 (n) := congrFun E178 (n)
                refine ov_cV (as := [ov_i 41]) (st := []) (d2 := d - 1) d_230_164 lk_Mo_214 rfl (Nat.le_of_ble_eq_true rfl) (c := 1) (zb_90 I177) (zs_90 I177) ⟨by decide, rfl⟩ (by omega) (c_Mo_takeSign_90 n (d - 1) (by omega) U I177 41 (by omega) (by show 0 ≤ n ∧ n ≤ 1000 ∧ (h176 92 (n)) = 0 ∧ (h176 90 7) ≤ n; omega)) ?_
                rintro _ z209 h210 ⟨rfl, I211, f194, e195, e196, e197, e198, e199, e200, e201, e202, e203, e204, e205, e206, e207, e208⟩
                have E212 : h210 92 = h 92 := Eq.trans e195 E178
                have E213 : h210 93 = h 93 := Eq.trans e196 E179
                have E214 : h210 94 = h 94 := Eq.trans e197 E180
                have E215 : h210 95 = h 95 := Eq.trans e198 E181
                have E216 : h210 96 = h 96 := Eq.trans e199 E182
                have E217 : h210 97 = h176 97 := e200
                have E218 : h210 98 = h176 98 := e201
                have E219 : h210 99 = h 99 := Eq.trans e202 E183
                have E220 : h210 100 = h 100 := Eq.trans e203 E184
                have E221 : h210 103 = h 103 := Eq.trans e204 E185
                have E222 : h210 105 = h 105 := Eq.trans e205 E186
                have E223 : h210 106 = h 106 := Eq.trans e206 E187
                have E224 : h210 109 = h 109 := Eq.trans e207 E188
                have E225 : h210 114 = h 114 := Eq.trans e208 E189
                show ov_R u d ov_m230 167 [(0, ov_r 90), (1, ov_i dep), (2, ov_i j4), (5, ov_i j5)] [] z209 h210 (P_Mo_takePart_90 F z h n dep)
                have f226 : (h176 90 7) ≤ (h210 90 7) ∧ (h210 90 7) ≤ n ∧ (0 < (h176 90 8) → (h210 90 8) = (h176 90 8)) ∧ ((h210 90 8) = 0 → (h176 90 7) < (h210 90 7)) ∧ (h210 90 2) = (h176 90 2) ∧ (h210 90 3) = (h176 90 3) ∧ (h210 90 13) = (h176 90 13) ∧ (h210 90 20) = (h176 90 20) ∧ (h210 90 22) = (h176 90 22) ∧ (h210 90 25) = (h176 90 25) ∧ (h210 90 26) = (h176 90 26) ∧ (h210 90 27) = (h176 90 27) ∧ (h210 90 28) = (h176 90 28) ∧ (h210 90 29) = (h176 90 29) ∧ (h210 90 30) = (h176 90 30) ∧ (h210 90 34) = (h176 90 34) ∧ (h210 90 35) = (h176 90 35) ∧ (h210 90 37) = (h176 90 37) := f194
                clear f194
                refine ov_goto (tgt := 212) d_230_167 (by decide) ?_
                exact ov_retv (st := []) d_230_212 rfl ⟨rfl, I211, (by show (h 90 7) ≤ (h210 90 7) ∧ (h210 90 7) ≤ n ∧ (0 < (h 90 8) → (h210 90 8) = (h 90 8)) ∧ (h 90 13) ≤ (h210 90 13) ∧ (h210 90 13) - (h 90 13) ≤ (h210 90 7) - (h 90 7) ∧ (h210 90 2) = (h 90 2) ∧ (h210 90 3) = (h 90 3) ∧ (h210 90 20) = (h 90 20) ∧ (h210 90 22) = (h 90 22) ∧ (h210 90 25) = (h 90 25) ∧ (h210 90 26) = (h 90 26) ∧ (h210 90 27) = (h 90 27) ∧ (h210 90 28) = (h 90 28) ∧ (h210 90 29) = (h 90 29) ∧ (h210 90 30) = (h 90 30) ∧ (h210 90 34) = (h 90 34) ∧ (h210 90 35) = (h 90 35) ∧ (h210 90 37) = (h 90 37); omega), E212, E213, E214, E215, E216, E219, E220, E221, E222, E223, E224, E225, (by rw [show h210 97 = h176 97 from E217, show h210 98 = h176 98 from E218]; exact K191), (fun e => by have e0 : (h210 90 8) = 0 := e; show ov_sg (h210 97) (h210 98) _ (h210 90 13); rw [show h210 97 = h176 97 from E217, show h210 98 = h176 98 from E218, show (h210 90 13) = (h176 90 13) by omega]; exact K192 (by omega))⟩
            · skip
              refine ov_blk (ls2 := [(0, ov_r 90), (1, ov_i dep), (2, ov_i j4), (5, ov_i j5)]) (st2 := [ov_i (dep + 1), ov_r 90]) (pc2 := 133) b_230_129_4 rfl rfl ?_
              have cf227 : h29 92 (n) = h 92 (n) := congrFun E31 (n)
              refine ov_cV (as := [ov_i (dep + 1)]) (st := []) (d2 := d - 1) d_230_133 lk_Mo_269 rfl (Nat.le_of_ble_eq_true rfl) (c := 1) (zb_90 I30) (zs_90 I30) ⟨by decide, rfl⟩ (by omega) (HP (k - 1) (by omega) (d - 1) (by omega) U I30 (dep + 1) (by omega) (by show 0 ≤ n ∧ n ≤ 1000 ∧ (h29 92 (n)) = 0 ∧ (h29 90 7) ≤ n; omega) (by omega) (by show (h29 90 13) ≤ (h29 90 7); omega)) ?_
              rintro _ z243 h244 ⟨rfl, I245, f228, e229, e230, e231, e232, e233, e234, e235, e236, e237, e238, e239, e240, y241, y242⟩
              have E246 : h244 92 = h 92 := Eq.trans e229 E31
              have E247 : h244 93 = h 93 := Eq.trans e230 E32
              have E248 : h244 94 = h 94 := Eq.trans e231 E33
              have E249 : h244 95 = h 95 := Eq.trans e232 E34
              have E250 : h244 96 = h 96 := Eq.trans e233 E35
              have E251 : h244 99 = h 99 := Eq.trans e234 E38
              have E252 : h244 100 = h 100 := Eq.trans e235 E39
              have E253 : h244 103 = h 103 := Eq.trans e236 E40
              have E254 : h244 105 = h 105 := Eq.trans e237 E41
              have E255 : h244 106 = h 106 := Eq.trans e238 E42
              have E256 : h244 109 = h 109 := Eq.trans e239 E43
              have E257 : h244 114 = h 114 := Eq.trans e240 E44
              show ov_R u d ov_m230 136 [(0, ov_r 90), (1, ov_i dep), (2, ov_i j4), (5, ov_i j5)] [] z243 h244 (P_Mo_takePart_90 F z h n dep)
              have f258 : (h29 90 7) ≤ (h244 90 7) ∧ (h244 90 7) ≤ n ∧ (0 < (h29 90 8) → (h244 90 8) = (h29 90 8)) ∧ (h29 90 13) ≤ (h244 90 13) ∧ (h244 90 13) - (h29 90 13) ≤ (h244 90 7) - (h29 90 7) ∧ (h244 90 2) = (h29 90 2) ∧ (h244 90 3) = (h29 90 3) ∧ (h244 90 20) = (h29 90 20) ∧ (h244 90 22) = (h29 90 22) ∧ (h244 90 25) = (h29 90 25) ∧ (h244 90 26) = (h29 90 26) ∧ (h244 90 27) = (h29 90 27) ∧ (h244 90 28) = (h29 90 28) ∧ (h244 90 29) = (h29 90 29) ∧ (h244 90 30) = (h29 90 30) ∧ (h244 90 34) = (h29 90 34) ∧ (h244 90 35) = (h29 90 35) ∧ (h244 90 37) = (h29 90 37) := f228
              clear f228
              rw [show h29 97 = h 97 from E36] at y241
              rw [show h29 98 = h 98 from E37] at y241
              have y241_ : ∀ j : Int, j < 1100 + (h29 90 13) → (h244 97) j = (h 97) j ∧ (h244 98) j = (h 98) j := y241
              have y242_ : (h244 90 8) = 0 → ov_sg (h244 97) (h244 98) (h29 90 13) (h244 90 13) := y242
              have K259 : ∀ j : Int, j < 1100 + (h 90 13) → h244 97 j = h 97 j ∧ h244 98 j = h 98 j := fun j hj => y241_ j (by omega)
              have K260 : h244 90 8 = 0 → ov_sg (h244 97) (h244 98) (h 90 13) (h244 90 13) := fun e => by have q := y242_ e; rw [show (h29 90 13) = h 90 13 by omega] at q; exact q
              refine ov_blk (ls2 := [(0, ov_r 90), (1, ov_i dep), (2, ov_i j4), (5, ov_i j5)]) (st2 := [ov_i 0, ov_i 3, ov_r 90]) (pc2 := 139) b_230_136_3 rfl rfl ?_
              refine ov_cV (as := [ov_i 3, ov_i 0]) (st := []) (d2 := d - 1) d_230_139 lk_Mo_246 rfl (Nat.le_of_ble_eq_true rfl) (c := 1) (zb_90 I245) (zs_90 I245) ⟨by decide, rfl⟩ (by omega) (c_Mo_emit_90 (d - 1) (by omega) U I245 3 0 (by omega) (by omega) (by omega) (by show (h244 90 13) ≤ 999; omega)) ?_
              rintro _ z276 h277 ⟨rfl, I278, f261, e262, e263, e264, e265, e266, e267, e268, e269, e270, e271, e272, e273, y274, y275⟩
              have E279 : h277 92 = h 92 := Eq.trans e262 E246
              have E280 : h277 93 = h 93 := Eq.trans e263 E247
              have E281 : h277 94 = h 94 := Eq.trans e264 E248
              have E282 : h277 95 = h 95 := Eq.trans e265 E249
              have E283 : h277 96 = h 96 := Eq.trans e266 E250
              have E284 : h277 99 = h 99 := Eq.trans e267 E251
              have E285 : h277 100 = h 100 := Eq.trans e268 E252
              have E286 : h277 103 = h 103 := Eq.trans e269 E253
              have E287 : h277 105 = h 105 := Eq.trans e270 E254
              have E288 : h277 106 = h 106 := Eq.trans e271 E255
              have E289 : h277 109 = h 109 := Eq.trans e272 E256
              have E290 : h277 114 = h 114 := Eq.trans e273 E257
              show ov_R u d ov_m230 142 [(0, ov_r 90), (1, ov_i dep), (2, ov_i j4), (5, ov_i j5)] [] z276 h277 (P_Mo_takePart_90 F z h n dep)
              have f291 : (h277 90 13) = (h244 90 13) + 1 ∧ (h277 90 2) = (h244 90 2) ∧ (h277 90 3) = (h244 90 3) ∧ (h277 90 7) = (h244 90 7) ∧ (h277 90 8) = (h244 90 8) ∧ (h277 90 20) = (h244 90 20) ∧ (h277 90 22) = (h244 90 22) ∧ (h277 90 25) = (h244 90 25) ∧ (h277 90 26) = (h244 90 26) ∧ (h277 90 27) = (h244 90 27) ∧ (h277 90 28) = (h244 90 28) ∧ (h277 90 29) = (h244 90 29) ∧ (h277 90 30) = (h244 90 30) ∧ (h277 90 34) = (h244 90 34) ∧ (h277 90 35) = (h244 90 35) ∧ (h277 90 37) = (h244 90 37) := f261
              clear f261
              have y274_ : (h277 97) = ov_rs (h244 97) (1100 + (h244 90 13)) (3 : Int) := y274
              have y275_ : (h277 98) = ov_rs (h244 98) (1100 + (h244 90 13)) (0 : Int) := y275
              have K292 : ∀ j : Int, j < 1100 + (h 90 13) → h277 97 j = h 97 j ∧ h277 98 j = h 98 j := ov_kpe K259 y274_ y275_ (by omega)
              have K293 : h277 90 8 = 0 → ov_sg (h277 97) (h277 98) (h 90 13) (h277 90 13) := fun e => by have q1 := K260 (by omega); have q3 := ov_sg_un q1 y274_ y275_; rw [show h277 90 13 = (h244 90 13) + 1 by omega]; exact q3
              refine ov_goto (tgt := 212) d_230_142 (by decide) ?_
              exact ov_retv (st := []) d_230_212 rfl ⟨rfl, I278, (by show (h 90 7) ≤ (h277 90 7) ∧ (h277 90 7) ≤ n ∧ (0 < (h 90 8) → (h277 90 8) = (h 90 8)) ∧ (h 90 13) ≤ (h277 90 13) ∧ (h277 90 13) - (h 90 13) ≤ (h277 90 7) - (h 90 7) ∧ (h277 90 2) = (h 90 2) ∧ (h277 90 3) = (h 90 3) ∧ (h277 90 20) = (h 90 20) ∧ (h277 90 22) = (h 90 22) ∧ (h277 90 25) = (h 90 25) ∧ (h277 90 26) = (h 90 26) ∧ (h277 90 27) = (h 90 27) ∧ (h277 90 28) = (h 90 28) ∧ (h277 90 29) = (h 90 29) ∧ (h277 90 30) = (h 90 30) ∧ (h277 90 34) = (h 90 34) ∧ (h277 90 35) = (h 90 35) ∧ (h277 90 37) = (h 90 37); omega), E279, E280, E281, E282, E283, E284, E285, E286, E287, E288, E289, E290, K292, (fun e => by have e0 : (h277 90 8) = 0 := e; show ov_sg (h277 97) (h277 98) _ (h277 90 13); rw [show (h277 90 13) = (h277 90 13) by omega]; exact K293 (by omega))⟩
          · omega
        · skip
          refine ov_blk (ls2 := [(0, ov_r 90), (1, ov_i dep), (2, ov_i j4), (5, ov_i j5)]) (st2 := [ov_i 5, ov_r 90]) (pc2 := 109) b_230_107_2 rfl rfl ?_
          refine ov_cV (as := [ov_i 5]) (st := []) (d2 := d - 1) d_230_109 lk_Mo_186 rfl (Nat.le_of_ble_eq_true rfl) (c := 1) (zb_90 I) (zs_90 I) ⟨by decide, rfl⟩ (by omega) (c_Mo_wrong_90 (d - 1) (by omega) U I 5 (by omega) (by omega)) ?_
          rintro _ z309 h310 ⟨rfl, I311, f294, e295, e296, e297, e298, e299, e300, e301, e302, e303, e304, e305, e306, e307, e308⟩
          have E312 : h310 92 = h 92 := e295
          have E313 : h310 93 = h 93 := e296
          have E314 : h310 94 = h 94 := e297
          have E315 : h310 95 = h 95 := e298
          have E316 : h310 96 = h 96 := e299
          have E317 : h310 97 = h 97 := e300
          have E318 : h310 98 = h 98 := e301
          have E319 : h310 99 = h 99 := e302
          have E320 : h310 100 = h 100 := e303
          have E321 : h310 103 = h 103 := e304
          have E322 : h310 105 = h 105 := e305
          have E323 : h310 106 = h 106 := e306
          have E324 : h310 109 = h 109 := e307
          have E325 : h310 114 = h 114 := e308
          show ov_R u d ov_m230 112 [(0, ov_r 90), (1, ov_i dep), (2, ov_i j4), (5, ov_i j5)] [] z309 h310 (P_Mo_takePart_90 F z h n dep)
          have f326 : 0 < (h310 90 8) ∧ (0 < (h 90 8) → (h310 90 8) = (h 90 8)) ∧ (h310 90 2) = (h 90 2) ∧ (h310 90 3) = (h 90 3) ∧ (h310 90 7) = (h 90 7) ∧ (h310 90 13) = (h 90 13) ∧ (h310 90 20) = (h 90 20) ∧ (h310 90 22) = (h 90 22) ∧ (h310 90 25) = (h 90 25) ∧ (h310 90 26) = (h 90 26) ∧ (h310 90 27) = (h 90 27) ∧ (h310 90 28) = (h 90 28) ∧ (h310 90 29) = (h 90 29) ∧ (h310 90 30) = (h 90 30) ∧ (h310 90 34) = (h 90 34) ∧ (h310 90 35) = (h 90 35) ∧ (h310 90 37) = (h 90 37) := f294
          clear f294
          refine ov_blk (ls2 := [(0, ov_r 90), (1, ov_i dep), (2, ov_i j4), (5, ov_i j5)]) (st2 := [ov_r 90]) (pc2 := 113) b_230_112_1 rfl rfl ?_
          refine ov_getf (v := ov_i (h310 90 8)) d_230_113 fl_Mo_180 (zb_90 I311) (zs_90 I311) rfl ?_
          have g327 := rg_90_8 I311
          refine ov_ifle (tgt := 120) d_230_116 (by decide) (by omega) (fun c328 => ?_) (fun c328 => ?_)
          · omega
          · skip
            exact ov_retv (st := []) d_230_119 rfl ⟨rfl, I311, (by show (h 90 7) ≤ (h310 90 7) ∧ (h310 90 7) ≤ n ∧ (0 < (h 90 8) → (h310 90 8) = (h 90 8)) ∧ (h 90 13) ≤ (h310 90 13) ∧ (h310 90 13) - (h 90 13) ≤ (h310 90 7) - (h 90 7) ∧ (h310 90 2) = (h 90 2) ∧ (h310 90 3) = (h 90 3) ∧ (h310 90 20) = (h 90 20) ∧ (h310 90 22) = (h 90 22) ∧ (h310 90 25) = (h 90 25) ∧ (h310 90 26) = (h 90 26) ∧ (h310 90 27) = (h 90 27) ∧ (h310 90 28) = (h 90 28) ∧ (h310 90 29) = (h 90 29) ∧ (h310 90 30) = (h 90 30) ∧ (h310 90 34) = (h 90 34) ∧ (h310 90 35) = (h 90 35) ∧ (h310 90 37) = (h 90 37); omega), E312, E313, E314, E315, E316, E319, E320, E321, E322, E323, E324, E325, (fun j _ => by rw [show h310 97 = h 97 from E317, show h310 98 = h 98 from E318]; exact ⟨rfl, rfl⟩), (fun e => absurd e (by show ¬ (h310 90 8) = 0; omega))⟩
      refine ov_blk (ls2 := [(0, ov_r 90), (1, ov_i dep), (2, ov_i j4), (5, ov_i j5)]) (st2 := [ov_i j5]) (pc2 := 69) b_230_67_1 rfl rfl ?_
      refine ov_ifge (tgt := 102) d_230_69 (by decide) (by omega) (fun c329 => ?_) (fun c329 => ?_)
      · skip
        exact J7  (by show (0 ≤ j5 ∨ j4 = 1 ∨ ((h 90 8) = 0 ∧ (h 92 ((h 90 7))) = 3 ∧ (h 94 ((h 90 7))) = 40) ∨ ((h 90 8) = 0 ∧ (h 92 ((h 90 7))) = 1 ∧ (h 94 ((h 90 7))) = (h 95 (17)))); omega)
      · skip
        refine ov_blk (ls2 := [(0, ov_r 90), (1, ov_i dep), (2, ov_i j4), (5, ov_i j5)]) (st2 := [ov_i j4]) (pc2 := 73) b_230_72_1 rfl rfl ?_
        refine ov_ifne (tgt := 102) d_230_73 (by decide) (by omega) (fun c330 => ?_) (fun c330 => ?_)
        · skip
          exact J7  (by show (0 ≤ j5 ∨ j4 = 1 ∨ ((h 90 8) = 0 ∧ (h 92 ((h 90 7))) = 3 ∧ (h 94 ((h 90 7))) = 40) ∨ ((h 90 8) = 0 ∧ (h 92 ((h 90 7))) = 1 ∧ (h 94 ((h 90 7))) = (h 95 (17)))); omega)
        · skip
          refine ov_blk (ls2 := [(0, ov_r 90), (1, ov_i dep), (2, ov_i j4), (5, ov_i j5)]) (st2 := [ov_i 40, ov_r 90]) (pc2 := 79) b_230_76_2 rfl rfl ?_
          refine ov_cV (as := [ov_i 40]) (st := []) (d2 := d - 1) d_230_79 lk_Mo_183 rfl (Nat.le_of_ble_eq_true rfl) (c := 1) (zb_90 I) (zs_90 I) ⟨by decide, rfl⟩ (by omega) (c_Mo_isSign_90 n (d - 1) (by omega) U I 40 (by omega) (by show 0 ≤ n ∧ n ≤ 1000 ∧ (h 92 (n)) = 0 ∧ (h 90 7) ≤ n; omega)) ?_
          rintro _ _ _ ⟨v332, rfl, rfl, rfl, f331⟩
          show ov_R u d ov_m230 82 [(0, ov_r 90), (1, ov_i dep), (2, ov_i j4), (5, ov_i j5)] [ov_i v332] z h (P_Mo_takePart_90 F z h n dep)
          have f333 : (v332 = 0 ∨ v332 = 1) ∧ (v332 = 1 → (h 90 7) < n) ∧ (v332 = 1 → (h 90 8) = 0 ∧ (h 92 ((h 90 7))) = 3 ∧ (h 94 ((h 90 7))) = (40 : Int)) ∧ (v332 = 0 → ¬ ((h 90 8) = 0 ∧ (h 92 ((h 90 7))) = 3 ∧ (h 94 ((h 90 7))) = (40 : Int))) := f331
          clear f331
          refine ov_ifne (tgt := 102) d_230_82 (by decide) (by omega) (fun c334 => ?_) (fun c334 => ?_)
          · skip
            exact J7  (by show (0 ≤ j5 ∨ j4 = 1 ∨ ((h 90 8) = 0 ∧ (h 92 ((h 90 7))) = 3 ∧ (h 94 ((h 90 7))) = 40) ∨ ((h 90 8) = 0 ∧ (h 92 ((h 90 7))) = 1 ∧ (h 94 ((h 90 7))) = (h 95 (17)))); omega)
          · skip
            refine ov_blk (ls2 := [(0, ov_r 90), (1, ov_i dep), (2, ov_i j4), (5, ov_i j5)]) (st2 := [ov_i 17, ov_r 90]) (pc2 := 88) b_230_85_2 rfl rfl ?_
            refine ov_cV (as := [ov_i 17]) (st := []) (d2 := d - 1) d_230_88 lk_Mo_189 rfl (Nat.le_of_ble_eq_true rfl) (c := 1) (zb_90 I) (zs_90 I) ⟨by decide, rfl⟩ (by omega) (c_Mo_isWord_90 n (d - 1) (by omega) U I 17 (by omega) (by show 0 ≤ n ∧ n ≤ 1000 ∧ (h 92 (n)) = 0 ∧ (h 90 7) ≤ n; omega) (by omega)) ?_
            rintro _ _ _ ⟨v336, rfl, rfl, rfl, f335⟩
            show ov_R u d ov_m230 91 [(0, ov_r 90), (1, ov_i dep), (2, ov_i j4), (5, ov_i j5)] [ov_i v336] z h (P_Mo_takePart_90 F z h n dep)
            have f337 : (v336 = 0 ∨ v336 = 1) ∧ (v336 = 1 → (h 90 7) < n) ∧ (v336 = 1 → (h 90 8) = 0 ∧ (h 92 ((h 90 7))) = 1 ∧ (h 94 ((h 90 7))) = (h 95 ((17 : Int)))) ∧ (v336 = 0 → ¬ ((h 90 8) = 0 ∧ (h 92 ((h 90 7))) = 1 ∧ (h 94 ((h 90 7))) = (h 95 ((17 : Int))))) := f335
            clear f335
            refine ov_ifne (tgt := 102) d_230_91 (by decide) (by omega) (fun c338 => ?_) (fun c338 => ?_)
            · skip
              exact J7  (by show (0 ≤ j5 ∨ j4 = 1 ∨ ((h 90 8) = 0 ∧ (h 92 ((h 90 7))) = 3 ∧ (h 94 ((h 90 7))) = 40) ∨ ((h 90 8) = 0 ∧ (h 92 ((h 90 7))) = 1 ∧ (h 94 ((h 90 7))) = (h 95 (17)))); omega)
            · skip
              refine ov_blk (ls2 := [(0, ov_r 90), (1, ov_i dep), (2, ov_i j4), (5, ov_i j5)]) (st2 := [ov_i 1, ov_r 90]) (pc2 := 96) b_230_94_2 rfl rfl ?_
              refine ov_cV (as := [ov_i 1]) (st := []) (d2 := d - 1) d_230_96 lk_Mo_186 rfl (Nat.le_of_ble_eq_true rfl) (c := 1) (zb_90 I) (zs_90 I) ⟨by decide, rfl⟩ (by omega) (c_Mo_wrong_90 (d - 1) (by omega) U I 1 (by omega) (by omega)) ?_
              rintro _ z354 h355 ⟨rfl, I356, f339, e340, e341, e342, e343, e344, e345, e346, e347, e348, e349, e350, e351, e352, e353⟩
              have E357 : h355 92 = h 92 := e340
              have E358 : h355 93 = h 93 := e341
              have E359 : h355 94 = h 94 := e342
              have E360 : h355 95 = h 95 := e343
              have E361 : h355 96 = h 96 := e344
              have E362 : h355 97 = h 97 := e345
              have E363 : h355 98 = h 98 := e346
              have E364 : h355 99 = h 99 := e347
              have E365 : h355 100 = h 100 := e348
              have E366 : h355 103 = h 103 := e349
              have E367 : h355 105 = h 105 := e350
              have E368 : h355 106 = h 106 := e351
              have E369 : h355 109 = h 109 := e352
              have E370 : h355 114 = h 114 := e353
              show ov_R u d ov_m230 99 [(0, ov_r 90), (1, ov_i dep), (2, ov_i j4), (5, ov_i j5)] [] z354 h355 (P_Mo_takePart_90 F z h n dep)
              have f371 : 0 < (h355 90 8) ∧ (0 < (h 90 8) → (h355 90 8) = (h 90 8)) ∧ (h355 90 2) = (h 90 2) ∧ (h355 90 3) = (h 90 3) ∧ (h355 90 7) = (h 90 7) ∧ (h355 90 13) = (h 90 13) ∧ (h355 90 20) = (h 90 20) ∧ (h355 90 22) = (h 90 22) ∧ (h355 90 25) = (h 90 25) ∧ (h355 90 26) = (h 90 26) ∧ (h355 90 27) = (h 90 27) ∧ (h355 90 28) = (h 90 28) ∧ (h355 90 29) = (h 90 29) ∧ (h355 90 30) = (h 90 30) ∧ (h355 90 34) = (h 90 34) ∧ (h355 90 35) = (h 90 35) ∧ (h355 90 37) = (h 90 37) := f339
              clear f339
              refine ov_goto (tgt := 112) d_230_99 (by decide) ?_
              refine ov_blk (ls2 := [(0, ov_r 90), (1, ov_i dep), (2, ov_i j4), (5, ov_i j5)]) (st2 := [ov_r 90]) (pc2 := 113) b_230_112_1 rfl rfl ?_
              refine ov_getf (v := ov_i (h355 90 8)) d_230_113 fl_Mo_180 (zb_90 I356) (zs_90 I356) rfl ?_
              have g372 := rg_90_8 I356
              refine ov_ifle (tgt := 120) d_230_116 (by decide) (by omega) (fun c373 => ?_) (fun c373 => ?_)
              · omega
              · skip
                exact ov_retv (st := []) d_230_119 rfl ⟨rfl, I356, (by show (h 90 7) ≤ (h355 90 7) ∧ (h355 90 7) ≤ n ∧ (0 < (h 90 8) → (h355 90 8) = (h 90 8)) ∧ (h 90 13) ≤ (h355 90 13) ∧ (h355 90 13) - (h 90 13) ≤ (h355 90 7) - (h 90 7) ∧ (h355 90 2) = (h 90 2) ∧ (h355 90 3) = (h 90 3) ∧ (h355 90 20) = (h 90 20) ∧ (h355 90 22) = (h 90 22) ∧ (h355 90 25) = (h 90 25) ∧ (h355 90 26) = (h 90 26) ∧ (h355 90 27) = (h 90 27) ∧ (h355 90 28) = (h 90 28) ∧ (h355 90 29) = (h 90 29) ∧ (h355 90 30) = (h 90 30) ∧ (h355 90 34) = (h 90 34) ∧ (h355 90 35) = (h 90 35) ∧ (h355 90 37) = (h 90 37); omega), E357, E358, E359, E360, E361, E364, E365, E366, E367, E368, E369, E370, (fun j _ => by rw [show h355 97 = h 97 from E362, show h355 98 = h 98 from E363]; exact ⟨rfl, rfl⟩), (fun e => absurd e (by show ¬ (h355 90 8) = 0; omega))⟩
    refine ov_blk (ls2 := [(0, ov_r 90), (1, ov_i dep)]) (st2 := [ov_r 90]) (pc2 := 9) b_230_8_1 rfl rfl ?_
    refine ov_getf (v := ov_r 92) d_230_9 fl_Mo_24 (zb_90 I) (zs_90 I) (congrArg ov_r (rg_90_4 I)) ?_
    refine ov_blk (ls2 := [(0, ov_r 90), (1, ov_i dep)]) (st2 := [ov_r 90, ov_r 92]) (pc2 := 13) b_230_12_1 rfl rfl ?_
    refine ov_getf (v := ov_i (h 90 7)) d_230_13 fl_Mo_177 (zb_90 I) (zs_90 I) rfl ?_
    have g374 := rg_90_7 I
    refine ov_iald d_230_16 (zb_92 I) (zs_92 I) (by omega) ?_
    have g375 := ra_92 I (h 90 7)
    refine ov_blk (ls2 := [(0, ov_r 90), (1, ov_i dep)]) (st2 := [ov_i 2, ov_i (h 92 (h 90 7))]) (pc2 := 18) b_230_17_1 rfl rfl ?_
    refine ov_icne (tgt := 25) d_230_18 (by decide) (by omega) (by omega) (fun c376 => ?_) (fun c376 => ?_)
    · skip
      refine ov_blk (ls2 := [(0, ov_r 90), (1, ov_i dep), (2, ov_i 0)]) (st2 := [ov_i 2, ov_i 10, ov_r 90]) (pc2 := 31) b_230_25_5 rfl rfl ?_
      refine ov_cV (as := [ov_i 10, ov_i 2]) (st := []) (d2 := d - 1) d_230_31 lk_Mo_202 rfl (Nat.le_of_ble_eq_true rfl) (c := 1) (zb_90 I) (zs_90 I) ⟨by decide, rfl⟩ (by omega) (c_Mo_wordHere_90 n (d - 1) (by omega) U I 10 2 (by omega) (by omega) (by show 0 ≤ n ∧ n ≤ 1000 ∧ (h 92 (n)) = 0 ∧ (h 90 7) ≤ n; omega) (by omega)) ?_
      rintro _ _ _ ⟨v378, rfl, rfl, rfl, f377⟩
      show ov_R u d ov_m230 34 [(0, ov_r 90), (1, ov_i dep), (2, ov_i 0)] [ov_i v378] z h (P_Mo_takePart_90 F z h n dep)
      have f379 : -1 ≤ v378 ∧ v378 < (2 : Int) ∧ (0 ≤ v378 → (h 90 7) < n ∧ (h 90 8) = 0) := f377
      clear f377
      refine ov_blk (ls2 := [(0, ov_r 90), (1, ov_i dep), (2, ov_i 0), (3, ov_i v378)]) (st2 := [ov_i 2, ov_i 20, ov_r 90]) (pc2 := 39) b_230_34_4 rfl rfl ?_
      refine ov_cV (as := [ov_i 20, ov_i 2]) (st := []) (d2 := d - 1) d_230_39 lk_Mo_202 rfl (Nat.le_of_ble_eq_true rfl) (c := 1) (zb_90 I) (zs_90 I) ⟨by decide, rfl⟩ (by omega) (c_Mo_wordHere_90 n (d - 1) (by omega) U I 20 2 (by omega) (by omega) (by show 0 ≤ n ∧ n ≤ 1000 ∧ (h 92 (n)) = 0 ∧ (h 90 7) ≤ n; omega) (by omega)) ?_
      rintro _ _ _ ⟨v381, rfl, rfl, rfl, f380⟩
      show ov_R u d ov_m230 42 [(0, ov_r 90), (1, ov_i dep), (2, ov_i 0), (3, ov_i v378)] [ov_i v381] z h (P_Mo_takePart_90 F z h n dep)
      have f382 : -1 ≤ v381 ∧ v381 < (2 : Int) ∧ (0 ≤ v381 → (h 90 7) < n ∧ (h 90 8) = 0) := f380
      clear f380
      refine ov_blk (ls2 := [(0, ov_r 90), (1, ov_i dep), (2, ov_i 0), (3, ov_i v378), (4, ov_i v381)]) (st2 := [ov_i v378]) (pc2 := 45) b_230_42_2 rfl rfl ?_
      refine ov_iflt (tgt := 52) d_230_45 (by decide) (by omega) (fun c383 => ?_) (fun c383 => ?_)
      · skip
        refine ov_blk (ls2 := [(0, ov_r 90), (1, ov_i dep), (2, ov_i 0), (3, ov_i v378), (4, ov_i v381)]) (st2 := [ov_i v381]) (pc2 := 54) b_230_52_1 rfl rfl ?_
        refine ov_iflt (tgt := 64) d_230_54 (by decide) (by omega) (fun c384 => ?_) (fun c384 => ?_)
        · skip
          refine ov_blk (ls2 := [(0, ov_r 90), (1, ov_i dep), (2, ov_i 0), (3, ov_i v378), (4, ov_i v381), (5, ov_i (-1))]) (st2 := []) (pc2 := 67) b_230_64_2 rfl rfl ?_
          refine ov_sub (ls2 := [(0, ov_r 90), (1, ov_i dep), (2, ov_i 0), (5, ov_i (-1))]) (List.Sublist.subset (by repeat (first | exact List.Sublist.refl _ | apply List.Sublist.cons_cons | apply List.Sublist.cons))) ?_
          exact J3 0 (-1) (by show (0 = 0 ∨ 0 = 1) ∧ (0 = 1 → (h 92 ((h 90 7))) = 2) ∧ -1 ≤ (-1) ∧ (-1) ≤ 3 ∧ (0 ≤ (-1) → (h 90 7) < n); omega)
        · skip
          refine ov_blk (ls2 := [(0, ov_r 90), (1, ov_i dep), (2, ov_i 0), (3, ov_i v378), (4, ov_i v381)]) (st2 := [ov_i (2 + v381)]) (pc2 := 61) b_230_57_3 rfl rfl ?_
          refine ov_goto (tgt := 65) d_230_61 (by decide) ?_
          refine ov_blk (ls2 := [(0, ov_r 90), (1, ov_i dep), (2, ov_i 0), (3, ov_i v378), (4, ov_i v381), (5, ov_i (2 + v381))]) (st2 := []) (pc2 := 67) b_230_65_1 rfl rfl ?_
          refine ov_sub (ls2 := [(0, ov_r 90), (1, ov_i dep), (2, ov_i 0), (5, ov_i (2 + v381))]) (List.Sublist.subset (by repeat (first | exact List.Sublist.refl _ | apply List.Sublist.cons_cons | apply List.Sublist.cons))) ?_
          exact J3 0 (2 + v381) (by show (0 = 0 ∨ 0 = 1) ∧ (0 = 1 → (h 92 ((h 90 7))) = 2) ∧ -1 ≤ (2 + v381) ∧ (2 + v381) ≤ 3 ∧ (0 ≤ (2 + v381) → (h 90 7) < n); omega)
      · skip
        refine ov_blk (ls2 := [(0, ov_r 90), (1, ov_i dep), (2, ov_i 0), (3, ov_i v378), (4, ov_i v381)]) (st2 := [ov_i v378]) (pc2 := 49) b_230_48_1 rfl rfl ?_
        refine ov_goto (tgt := 65) d_230_49 (by decide) ?_
        refine ov_blk (ls2 := [(0, ov_r 90), (1, ov_i dep), (2, ov_i 0), (3, ov_i v378), (4, ov_i v381), (5, ov_i v378)]) (st2 := []) (pc2 := 67) b_230_65_1 rfl rfl ?_
        refine ov_sub (ls2 := [(0, ov_r 90), (1, ov_i dep), (2, ov_i 0), (5, ov_i v378)]) (List.Sublist.subset (by repeat (first | exact List.Sublist.refl _ | apply List.Sublist.cons_cons | apply List.Sublist.cons))) ?_
        exact J3 0 v378 (by show (0 = 0 ∨ 0 = 1) ∧ (0 = 1 → (h 92 ((h 90 7))) = 2) ∧ -1 ≤ v378 ∧ v378 ≤ 3 ∧ (0 ≤ v378 → (h 90 7) < n); omega)
    · skip
      refine ov_blk (ls2 := [(0, ov_r 90), (1, ov_i dep)]) (st2 := [ov_i 1]) (pc2 := 22) b_230_21_1 rfl rfl ?_
      refine ov_goto (tgt := 26) d_230_22 (by decide) ?_
      refine ov_blk (ls2 := [(0, ov_r 90), (1, ov_i dep), (2, ov_i 1)]) (st2 := [ov_i 2, ov_i 10, ov_r 90]) (pc2 := 31) b_230_26_4 rfl rfl ?_
      refine ov_cV (as := [ov_i 10, ov_i 2]) (st := []) (d2 := d - 1) d_230_31 lk_Mo_202 rfl (Nat.le_of_ble_eq_true rfl) (c := 1) (zb_90 I) (zs_90 I) ⟨by decide, rfl⟩ (by omega) (c_Mo_wordHere_90 n (d - 1) (by omega) U I 10 2 (by omega) (by omega) (by show 0 ≤ n ∧ n ≤ 1000 ∧ (h 92 (n)) = 0 ∧ (h 90 7) ≤ n; omega) (by omega)) ?_
      rintro _ _ _ ⟨v386, rfl, rfl, rfl, f385⟩
      show ov_R u d ov_m230 34 [(0, ov_r 90), (1, ov_i dep), (2, ov_i 1)] [ov_i v386] z h (P_Mo_takePart_90 F z h n dep)
      have f387 : -1 ≤ v386 ∧ v386 < (2 : Int) ∧ (0 ≤ v386 → (h 90 7) < n ∧ (h 90 8) = 0) := f385
      clear f385
      refine ov_blk (ls2 := [(0, ov_r 90), (1, ov_i dep), (2, ov_i 1), (3, ov_i v386)]) (st2 := [ov_i 2, ov_i 20, ov_r 90]) (pc2 := 39) b_230_34_4 rfl rfl ?_
      refine ov_cV (as := [ov_i 20, ov_i 2]) (st := []) (d2 := d - 1) d_230_39 lk_Mo_202 rfl (Nat.le_of_ble_eq_true rfl) (c := 1) (zb_90 I) (zs_90 I) ⟨by decide, rfl⟩ (by omega) (c_Mo_wordHere_90 n (d - 1) (by omega) U I 20 2 (by omega) (by omega) (by show 0 ≤ n ∧ n ≤ 1000 ∧ (h 92 (n)) = 0 ∧ (h 90 7) ≤ n; omega) (by omega)) ?_
      rintro _ _ _ ⟨v389, rfl, rfl, rfl, f388⟩
      show ov_R u d ov_m230 42 [(0, ov_r 90), (1, ov_i dep), (2, ov_i 1), (3, ov_i v386)] [ov_i v389] z h (P_Mo_takePart_90 F z h n dep)
      have f390 : -1 ≤ v389 ∧ v389 < (2 : Int) ∧ (0 ≤ v389 → (h 90 7) < n ∧ (h 90 8) = 0) := f388
      clear f388
      refine ov_blk (ls2 := [(0, ov_r 90), (1, ov_i dep), (2, ov_i 1), (3, ov_i v386), (4, ov_i v389)]) (st2 := [ov_i v386]) (pc2 := 45) b_230_42_2 rfl rfl ?_
      refine ov_iflt (tgt := 52) d_230_45 (by decide) (by omega) (fun c391 => ?_) (fun c391 => ?_)
      · skip
        refine ov_blk (ls2 := [(0, ov_r 90), (1, ov_i dep), (2, ov_i 1), (3, ov_i v386), (4, ov_i v389)]) (st2 := [ov_i v389]) (pc2 := 54) b_230_52_1 rfl rfl ?_
        refine ov_iflt (tgt := 64) d_230_54 (by decide) (by omega) (fun c392 => ?_) (fun c392 => ?_)
        · skip
          refine ov_blk (ls2 := [(0, ov_r 90), (1, ov_i dep), (2, ov_i 1), (3, ov_i v386), (4, ov_i v389), (5, ov_i (-1))]) (st2 := []) (pc2 := 67) b_230_64_2 rfl rfl ?_
          refine ov_sub (ls2 := [(0, ov_r 90), (1, ov_i dep), (2, ov_i 1), (5, ov_i (-1))]) (List.Sublist.subset (by repeat (first | exact List.Sublist.refl _ | apply List.Sublist.cons_cons | apply List.Sublist.cons))) ?_
          exact J3 1 (-1) (by show (1 = 0 ∨ 1 = 1) ∧ (1 = 1 → (h 92 ((h 90 7))) = 2) ∧ -1 ≤ (-1) ∧ (-1) ≤ 3 ∧ (0 ≤ (-1) → (h 90 7) < n); omega)
        · skip
          refine ov_blk (ls2 := [(0, ov_r 90), (1, ov_i dep), (2, ov_i 1), (3, ov_i v386), (4, ov_i v389)]) (st2 := [ov_i (2 + v389)]) (pc2 := 61) b_230_57_3 rfl rfl ?_
          refine ov_goto (tgt := 65) d_230_61 (by decide) ?_
          refine ov_blk (ls2 := [(0, ov_r 90), (1, ov_i dep), (2, ov_i 1), (3, ov_i v386), (4, ov_i v389), (5, ov_i (2 + v389))]) (st2 := []) (pc2 := 67) b_230_65_1 rfl rfl ?_
          refine ov_sub (ls2 := [(0, ov_r 90), (1, ov_i dep), (2, ov_i 1), (5, ov_i (2 + v389))]) (List.Sublist.subset (by repeat (first | exact List.Sublist.refl _ | apply List.Sublist.cons_cons | apply List.Sublist.cons))) ?_
          exact J3 1 (2 + v389) (by show (1 = 0 ∨ 1 = 1) ∧ (1 = 1 → (h 92 ((h 90 7))) = 2) ∧ -1 ≤ (2 + v389) ∧ (2 + v389) ≤ 3 ∧ (0 ≤ (2 + v389) → (h 90 7) < n); omega)
      · skip
        refine ov_blk (ls2 := [(0, ov_r 90), (1, ov_i dep), (2, ov_i 1), (3, ov_i v386), (4, ov_i v389)]) (st2 := [ov_i v386]) (pc2 := 49) b_230_48_1 rfl rfl ?_
        refine ov_goto (tgt := 65) d_230_49 (by decide) ?_
        refine ov_blk (ls2 := [(0, ov_r 90), (1, ov_i dep), (2, ov_i 1), (3, ov_i v386), (4, ov_i v389), (5, ov_i v386)]) (st2 := []) (pc2 := 67) b_230_65_1 rfl rfl ?_
        refine ov_sub (ls2 := [(0, ov_r 90), (1, ov_i dep), (2, ov_i 1), (5, ov_i v386)]) (List.Sublist.subset (by repeat (first | exact List.Sublist.refl _ | apply List.Sublist.cons_cons | apply List.Sublist.cons))) ?_
        exact J3 1 v386 (by show (1 = 0 ∨ 1 = 1) ∧ (1 = 1 → (h 92 ((h 90 7))) = 2) ∧ -1 ≤ v386 ∧ v386 ≤ 3 ∧ (0 ≤ v386 → (h 90 7) < n); omega)
  · skip
    exact ov_retv (st := []) d_230_7 rfl ⟨rfl, I, (by show (h 90 7) ≤ (h 90 7) ∧ (h 90 7) ≤ n ∧ (0 < (h 90 8) → (h 90 8) = (h 90 8)) ∧ (h 90 13) ≤ (h 90 13) ∧ (h 90 13) - (h 90 13) ≤ (h 90 7) - (h 90 7) ∧ (h 90 2) = (h 90 2) ∧ (h 90 3) = (h 90 3) ∧ (h 90 20) = (h 90 20) ∧ (h 90 22) = (h 90 22) ∧ (h 90 25) = (h 90 25) ∧ (h 90 26) = (h 90 26) ∧ (h 90 27) = (h 90 27) ∧ (h 90 28) = (h 90 28) ∧ (h 90 29) = (h 90 29) ∧ (h 90 30) = (h 90 30) ∧ (h 90 34) = (h 90 34) ∧ (h 90 35) = (h 90 35) ∧ (h 90 37) = (h 90 37); omega), rfl, rfl, rfl, rfl, rfl, rfl, rfl, rfl, rfl, rfl, rfl, rfl, (fun j _ => ⟨rfl, rfl⟩), (fun e => absurd e (by show ¬ (h 90 8) = 0; omega))⟩
set_option maxHeartbeats 4000000 in
theorem c_Mo_products_90 {u : ov_U} {F : ov_H × ov_Z} (n : Int) (k : Nat) (HE : ∀ k' : Nat, k' + 1 = k → ∀ {z : ov_Z} {h : ov_H} (d : Nat) (hd : (10 + 5 * k' + 4) ≤ d) (U : ov_cap u) (I : ov_N F z h) (dep : Int) (g_dep : ov_g dep) (p0 : 0 ≤ n ∧ n ≤ 1000 ∧ (h 92 (n)) = 0 ∧ (h 90 7) ≤ n) (p1 : 0 ≤ dep ∧ dep + (k' : Int) = 5) (p2 : (h 90 13) ≤ (h 90 7)), ov_T u d ov_m226 [ov_r 90, ov_i dep] z h (P_Mo_all_90 F z h n dep)) (HP : ∀ k' : Nat, k' + 1 = k → ∀ {z : ov_Z} {h : ov_H} (d : Nat) (hd : (10 + 5 * k' + 0) ≤ d) (U : ov_cap u) (I : ov_N F z h) (dep : Int) (g_dep : ov_g dep) (p0 : 0 ≤ n ∧ n ≤ 1000 ∧ (h 92 (n)) = 0 ∧ (h 90 7) ≤ n) (p1 : 0 ≤ dep ∧ dep + (k' : Int) = 5) (p2 : (h 90 13) ≤ (h 90 7)), ov_T u d ov_m230 [ov_r 90, ov_i dep] z h (P_Mo_takePart_90 F z h n dep)) {z : ov_Z} {h : ov_H} (d : Nat) (hd : (10 + 5 * k + 1) ≤ d) (U : ov_cap u) (I : ov_N F z h) (dep : Int) (g_dep : ov_g dep) (p0 : 0 ≤ n ∧ n ≤ 1000 ∧ (h 92 (n)) = 0 ∧ (h 90 7) ≤ n) (p1 : 0 ≤ dep ∧ dep + (k : Int) = 5) (p2 : (h 90 13) ≤ (h 90 7)) : ov_T u d ov_m229 [ov_r 90, ov_i dep] z h (P_Mo_products_90 F z h n dep) := by
  refine ov_en rfl (Nat.le_of_ble_eq_true rfl) ?_
  show ov_R u d ov_m229 0 [(0, ov_r 90), (1, ov_i dep)] [] z h (P_Mo_products_90 F z h n dep)
  refine ov_blk (ls2 := [(0, ov_r 90), (1, ov_i dep)]) (st2 := [ov_i dep, ov_r 90]) (pc2 := 2) b_229_0_2 rfl rfl ?_
  refine ov_cV (as := [ov_i dep]) (st := []) (d2 := d - 1) d_229_2 lk_Mo_269 rfl (Nat.le_of_ble_eq_true rfl) (c := 1) (zb_90 I) (zs_90 I) ⟨by decide, rfl⟩ (by omega) (c_Mo_takePart_90 n k HE HP (d - 1) (by omega) U I dep (by omega) (by show 0 ≤ n ∧ n ≤ 1000 ∧ (h 92 (n)) = 0 ∧ (h 90 7) ≤ n; omega) (by omega) (by show (h 90 13) ≤ (h 90 7); omega)) ?_
  rintro _ z16 h17 ⟨rfl, I18, f1, e2, e3, e4, e5, e6, e7, e8, e9, e10, e11, e12, e13, y14, y15⟩
  have E19 : h17 92 = h 92 := e2
  have E20 : h17 93 = h 93 := e3
  have E21 : h17 94 = h 94 := e4
  have E22 : h17 95 = h 95 := e5
  have E23 : h17 96 = h 96 := e6
  have E24 : h17 99 = h 99 := e7
  have E25 : h17 100 = h 100 := e8
  have E26 : h17 103 = h 103 := e9
  have E27 : h17 105 = h 105 := e10
  have E28 : h17 106 = h 106 := e11
  have E29 : h17 109 = h 109 := e12
  have E30 : h17 114 = h 114 := e13
  show ov_R u d ov_m229 5 [(0, ov_r 90), (1, ov_i dep)] [] z16 h17 (P_Mo_products_90 F z h n dep)
  have f31 : (h 90 7) ≤ (h17 90 7) ∧ (h17 90 7) ≤ n ∧ (0 < (h 90 8) → (h17 90 8) = (h 90 8)) ∧ (h 90 13) ≤ (h17 90 13) ∧ (h17 90 13) - (h 90 13) ≤ (h17 90 7) - (h 90 7) ∧ (h17 90 2) = (h 90 2) ∧ (h17 90 3) = (h 90 3) ∧ (h17 90 20) = (h 90 20) ∧ (h17 90 22) = (h 90 22) ∧ (h17 90 25) = (h 90 25) ∧ (h17 90 26) = (h 90 26) ∧ (h17 90 27) = (h 90 27) ∧ (h17 90 28) = (h 90 28) ∧ (h17 90 29) = (h 90 29) ∧ (h17 90 30) = (h 90 30) ∧ (h17 90 34) = (h 90 34) ∧ (h17 90 35) = (h 90 35) ∧ (h17 90 37) = (h 90 37) := f1
  clear f1
  have y14_ : ∀ j : Int, j < 1100 + (h 90 13) → (h17 97) j = (h 97) j ∧ (h17 98) j = (h 98) j := y14
  have y15_ : (h17 90 8) = 0 → ov_sg (h17 97) (h17 98) (h 90 13) (h17 90 13) := y15
  have K32 : ∀ j : Int, j < 1100 + (h 90 13) → h17 97 j = h 97 j ∧ h17 98 j = h 98 j := fun j hj => y14_ j (by omega)
  have K33 : h17 90 8 = 0 → ov_sg (h17 97) (h17 98) (h 90 13) (h17 90 13) := fun e => by have q := y15_ e; rw [show (h 90 13) = h 90 13 by omega] at q; exact q
  have L37 : ∀ (n34 : Nat) (z38 : ov_Z) (h39 : ov_H) (I40 : ov_N F z38 h39) (E41 : h39 92 = h 92) (E42 : h39 93 = h 93) (E43 : h39 94 = h 94) (E44 : h39 95 = h 95) (E45 : h39 96 = h 96) (E46 : h39 99 = h 99) (E47 : h39 100 = h 100) (E48 : h39 103 = h 103) (E49 : h39 105 = h 105) (E50 : h39 106 = h 106) (E51 : h39 109 = h 109) (E52 : h39 114 = h 114) (xa : ∀ j : Int, j < 1100 + (h 90 13) → (h39 97) j = (h 97) j ∧ (h39 98) j = (h 98) j) (xb : (h39 90 8) = 0 → ov_sg (h39 97) (h39 98) (h 90 13) (h39 90 13)) (q36 : (h 90 7) ≤ (h39 90 7) ∧ (h39 90 7) ≤ n ∧ (0 < (h 90 8) → (h39 90 8) = (h 90 8)) ∧ (h 90 13) ≤ (h39 90 13) ∧ (h39 90 13) - (h 90 13) ≤ (h39 90 7) - (h 90 7) ∧ (h39 90 2) = (h17 90 2) ∧ (h39 90 3) = (h17 90 3) ∧ (h39 90 20) = (h17 90 20) ∧ (h39 90 22) = (h17 90 22) ∧ (h39 90 25) = (h17 90 25) ∧ (h39 90 26) = (h17 90 26) ∧ (h39 90 27) = (h17 90 27) ∧ (h39 90 28) = (h17 90 28) ∧ (h39 90 29) = (h17 90 29) ∧ (h39 90 30) = (h17 90 30) ∧ (h39 90 34) = (h17 90 34) ∧ (h39 90 35) = (h17 90 35) ∧ (h39 90 37) = (h17 90 37)), 1000 - (h39 90 7) < (n34 : Int) → ov_R u d ov_m229 5 [(0, ov_r 90), (1, ov_i dep)] [] z38 h39 (P_Mo_products_90 F z h n dep) := by
    intro n34
    induction n34 with
    | zero =>
      intro  z38 h39 I40 E41 E42 E43 E44 E45 E46 E47 E48 E49 E50 E51 E52 xa xb q36 hn53
      exact absurd hn53 (by omega)
    | succ n34 ih35 =>
      intro  z38 h39 I40 E41 E42 E43 E44 E45 E46 E47 E48 E49 E50 E51 E52 xa xb q36 hn53
      refine ov_blk (ls2 := [(0, ov_r 90), (1, ov_i dep)]) (st2 := [ov_r 90]) (pc2 := 6) b_229_5_1 rfl rfl ?_
      refine ov_blk (ls2 := [(0, ov_r 90), (1, ov_i dep)]) (st2 := [ov_i 42, ov_r 90]) (pc2 := 8) b_229_6_1 rfl rfl ?_
      have cf54 : h39 92 (n) = h 92 (n) := congrFun E41 (n)
      refine ov_cV (as := [ov_i 42]) (st := []) (d2 := d - 1) d_229_8 lk_Mo_263 rfl (Nat.le_of_ble_eq_true rfl) (c := 1) (zb_90 I40) (zs_90 I40) ⟨by decide, rfl⟩ (by omega) (c_Mo_hasSign_90 n (d - 1) (by omega) U I40 42 (by omega) (by show 0 ≤ n ∧ n ≤ 1000 ∧ (h39 92 (n)) = 0 ∧ (h39 90 7) ≤ n; omega)) ?_
      rintro _ z71 h72 ⟨v56, rfl, I73, f55, e57, e58, e59, e60, e61, e62, e63, e64, e65, e66, e67, e68, e69, e70⟩
      have E74 : h72 92 = h 92 := Eq.trans e57 E41
      have E75 : h72 93 = h 93 := Eq.trans e58 E42
      have E76 : h72 94 = h 94 := Eq.trans e59 E43
      have E77 : h72 95 = h 95 := Eq.trans e60 E44
      have E78 : h72 96 = h 96 := Eq.trans e61 E45
      have E79 : h72 97 = h39 97 := e62
      have E80 : h72 98 = h39 98 := e63
      have E81 : h72 99 = h 99 := Eq.trans e64 E46
      have E82 : h72 100 = h 100 := Eq.trans e65 E47
      have E83 : h72 103 = h 103 := Eq.trans e66 E48
      have E84 : h72 105 = h 105 := Eq.trans e67 E49
      have E85 : h72 106 = h 106 := Eq.trans e68 E50
      have E86 : h72 109 = h 109 := Eq.trans e69 E51
      have E87 : h72 114 = h 114 := Eq.trans e70 E52
      show ov_R u d ov_m229 11 [(0, ov_r 90), (1, ov_i dep)] [ov_i v56] z71 h72 (P_Mo_products_90 F z h n dep)
      rw [show h39 92 = h 92 from E41] at f55
      rw [show h39 94 = h 94 from E43] at f55
      have f88 : (v56 = 0 ∨ v56 = 1) ∧ (h39 90 7) ≤ (h72 90 7) ∧ (h72 90 7) ≤ n ∧ (v56 = 1 → (h72 90 7) = (h39 90 7) + 1 ∧ (h39 90 8) = 0) ∧ (v56 = 0 → (h72 90 7) = (h39 90 7)) ∧ (v56 = 1 → (h39 90 8) = 0 ∧ (h 92 ((h39 90 7))) = 3 ∧ (h 94 ((h39 90 7))) = (42 : Int)) ∧ (v56 = 0 → ¬ ((h39 90 8) = 0 ∧ (h 92 ((h39 90 7))) = 3 ∧ (h 94 ((h39 90 7))) = (42 : Int))) ∧ (h72 90 2) = (h39 90 2) ∧ (h72 90 3) = (h39 90 3) ∧ (h72 90 8) = (h39 90 8) ∧ (h72 90 13) = (h39 90 13) ∧ (h72 90 20) = (h39 90 20) ∧ (h72 90 22) = (h39 90 22) ∧ (h72 90 25) = (h39 90 25) ∧ (h72 90 26) = (h39 90 26) ∧ (h72 90 27) = (h39 90 27) ∧ (h72 90 28) = (h39 90 28) ∧ (h72 90 29) = (h39 90 29) ∧ (h72 90 30) = (h39 90 30) ∧ (h72 90 34) = (h39 90 34) ∧ (h72 90 35) = (h39 90 35) ∧ (h72 90 37) = (h39 90 37) := f55
      clear f55
      refine ov_ifeq (tgt := 29) d_229_11 (by decide) (by omega) (fun c89 => ?_) (fun c89 => ?_)
      · skip
        exact ov_retv (st := []) d_229_29 rfl ⟨rfl, I73, (by show (h 90 7) ≤ (h72 90 7) ∧ (h72 90 7) ≤ n ∧ (0 < (h 90 8) → (h72 90 8) = (h 90 8)) ∧ (h 90 13) ≤ (h72 90 13) ∧ (h72 90 13) - (h 90 13) ≤ (h72 90 7) - (h 90 7) ∧ (h72 90 2) = (h 90 2) ∧ (h72 90 3) = (h 90 3) ∧ (h72 90 20) = (h 90 20) ∧ (h72 90 22) = (h 90 22) ∧ (h72 90 25) = (h 90 25) ∧ (h72 90 26) = (h 90 26) ∧ (h72 90 27) = (h 90 27) ∧ (h72 90 28) = (h 90 28) ∧ (h72 90 29) = (h 90 29) ∧ (h72 90 30) = (h 90 30) ∧ (h72 90 34) = (h 90 34) ∧ (h72 90 35) = (h 90 35) ∧ (h72 90 37) = (h 90 37); omega), E74, E75, E76, E77, E78, E81, E82, E83, E84, E85, E86, E87, (by rw [show h72 97 = h39 97 from E79, show h72 98 = h39 98 from E80]; exact xa), (fun e => by have e0 : (h72 90 8) = 0 := e; show ov_sg (h72 97) (h72 98) _ (h72 90 13); rw [show h72 97 = h39 97 from E79, show h72 98 = h39 98 from E80, show (h72 90 13) = (h39 90 13) by omega]; exact xb (by omega))⟩
      · skip
        refine ov_blk (ls2 := [(0, ov_r 90), (1, ov_i dep)]) (st2 := [ov_i dep, ov_r 90]) (pc2 := 16) b_229_14_2 rfl rfl ?_
        have cf90 : h72 92 (n) = h 92 (n) := congrFun E74 (n)
        refine ov_cV (as := [ov_i dep]) (st := []) (d2 := d - 1) d_229_16 lk_Mo_269 rfl (Nat.le_of_ble_eq_true rfl) (c := 1) (zb_90 I73) (zs_90 I73) ⟨by decide, rfl⟩ (by omega) (c_Mo_takePart_90 n k HE HP (d - 1) (by omega) U I73 dep (by omega) (by show 0 ≤ n ∧ n ≤ 1000 ∧ (h72 92 (n)) = 0 ∧ (h72 90 7) ≤ n; omega) (by omega) (by show (h72 90 13) ≤ (h72 90 7); omega)) ?_
        rintro _ z106 h107 ⟨rfl, I108, f91, e92, e93, e94, e95, e96, e97, e98, e99, e100, e101, e102, e103, y104, y105⟩
        have E109 : h107 92 = h 92 := Eq.trans e92 E74
        have E110 : h107 93 = h 93 := Eq.trans e93 E75
        have E111 : h107 94 = h 94 := Eq.trans e94 E76
        have E112 : h107 95 = h 95 := Eq.trans e95 E77
        have E113 : h107 96 = h 96 := Eq.trans e96 E78
        have E114 : h107 99 = h 99 := Eq.trans e97 E81
        have E115 : h107 100 = h 100 := Eq.trans e98 E82
        have E116 : h107 103 = h 103 := Eq.trans e99 E83
        have E117 : h107 105 = h 105 := Eq.trans e100 E84
        have E118 : h107 106 = h 106 := Eq.trans e101 E85
        have E119 : h107 109 = h 109 := Eq.trans e102 E86
        have E120 : h107 114 = h 114 := Eq.trans e103 E87
        show ov_R u d ov_m229 19 [(0, ov_r 90), (1, ov_i dep)] [] z106 h107 (P_Mo_products_90 F z h n dep)
        have f121 : (h72 90 7) ≤ (h107 90 7) ∧ (h107 90 7) ≤ n ∧ (0 < (h72 90 8) → (h107 90 8) = (h72 90 8)) ∧ (h72 90 13) ≤ (h107 90 13) ∧ (h107 90 13) - (h72 90 13) ≤ (h107 90 7) - (h72 90 7) ∧ (h107 90 2) = (h72 90 2) ∧ (h107 90 3) = (h72 90 3) ∧ (h107 90 20) = (h72 90 20) ∧ (h107 90 22) = (h72 90 22) ∧ (h107 90 25) = (h72 90 25) ∧ (h107 90 26) = (h72 90 26) ∧ (h107 90 27) = (h72 90 27) ∧ (h107 90 28) = (h72 90 28) ∧ (h107 90 29) = (h72 90 29) ∧ (h107 90 30) = (h72 90 30) ∧ (h107 90 34) = (h72 90 34) ∧ (h107 90 35) = (h72 90 35) ∧ (h107 90 37) = (h72 90 37) := f91
        clear f91
        rw [show h72 97 = h39 97 from E79] at y104
        rw [show h72 98 = h39 98 from E80] at y104
        have y104_ : ∀ j : Int, j < 1100 + (h72 90 13) → (h107 97) j = (h39 97) j ∧ (h107 98) j = (h39 98) j := y104
        have y105_ : (h107 90 8) = 0 → ov_sg (h107 97) (h107 98) (h72 90 13) (h107 90 13) := y105
        refine ov_blk (ls2 := [(0, ov_r 90), (1, ov_i dep)]) (st2 := [ov_i 0, ov_i 6, ov_r 90]) (pc2 := 23) b_229_19_3 rfl rfl ?_
        refine ov_cV (as := [ov_i 6, ov_i 0]) (st := []) (d2 := d - 1) d_229_23 lk_Mo_246 rfl (Nat.le_of_ble_eq_true rfl) (c := 1) (zb_90 I108) (zs_90 I108) ⟨by decide, rfl⟩ (by omega) (c_Mo_emit_90 (d - 1) (by omega) U I108 6 0 (by omega) (by omega) (by omega) (by show (h107 90 13) ≤ 999; omega)) ?_
        rintro _ z137 h138 ⟨rfl, I139, f122, e123, e124, e125, e126, e127, e128, e129, e130, e131, e132, e133, e134, y135, y136⟩
        have E140 : h138 92 = h 92 := Eq.trans e123 E109
        have E141 : h138 93 = h 93 := Eq.trans e124 E110
        have E142 : h138 94 = h 94 := Eq.trans e125 E111
        have E143 : h138 95 = h 95 := Eq.trans e126 E112
        have E144 : h138 96 = h 96 := Eq.trans e127 E113
        have E145 : h138 99 = h 99 := Eq.trans e128 E114
        have E146 : h138 100 = h 100 := Eq.trans e129 E115
        have E147 : h138 103 = h 103 := Eq.trans e130 E116
        have E148 : h138 105 = h 105 := Eq.trans e131 E117
        have E149 : h138 106 = h 106 := Eq.trans e132 E118
        have E150 : h138 109 = h 109 := Eq.trans e133 E119
        have E151 : h138 114 = h 114 := Eq.trans e134 E120
        show ov_R u d ov_m229 26 [(0, ov_r 90), (1, ov_i dep)] [] z137 h138 (P_Mo_products_90 F z h n dep)
        have f152 : (h138 90 13) = (h107 90 13) + 1 ∧ (h138 90 2) = (h107 90 2) ∧ (h138 90 3) = (h107 90 3) ∧ (h138 90 7) = (h107 90 7) ∧ (h138 90 8) = (h107 90 8) ∧ (h138 90 20) = (h107 90 20) ∧ (h138 90 22) = (h107 90 22) ∧ (h138 90 25) = (h107 90 25) ∧ (h138 90 26) = (h107 90 26) ∧ (h138 90 27) = (h107 90 27) ∧ (h138 90 28) = (h107 90 28) ∧ (h138 90 29) = (h107 90 29) ∧ (h138 90 30) = (h107 90 30) ∧ (h138 90 34) = (h107 90 34) ∧ (h138 90 35) = (h107 90 35) ∧ (h138 90 37) = (h107 90 37) := f122
        clear f122
        have y135_ : (h138 97) = ov_rs (h107 97) (1100 + (h107 90 13)) (6 : Int) := y135
        have y136_ : (h138 98) = ov_rs (h107 98) (1100 + (h107 90 13)) (0 : Int) := y136
        have K153 : ∀ j : Int, j < 1100 + (h 90 13) → h138 97 j = h 97 j ∧ h138 98 j = h 98 j := ov_kpe (ov_kp xa y104_ (by omega)) y135_ y136_ (by omega)
        have K154 : h138 90 8 = 0 → ov_sg (h138 97) (h138 98) (h 90 13) (h138 90 13) := fun e => by have q1 := xb (by omega); have q2 := y105_ (by omega); rw [show (h72 90 13) = (h39 90 13) by omega] at q2; have q3 := ov_sg_bin q1 (fun j hj => y104_ j (by omega)) q2 y135_ y136_ (by omega); rw [show h138 90 13 = (h107 90 13) + 1 by omega]; exact q3
        refine ov_goto (tgt := 5) d_229_26 (by decide) ?_
        exact ih35  _ _ I139 E140 E141 E142 E143 E144 E145 E146 E147 E148 E149 E150 E151 K153 K154 (by show (h 90 7) ≤ (h138 90 7) ∧ (h138 90 7) ≤ n ∧ (0 < (h 90 8) → (h138 90 8) = (h 90 8)) ∧ (h 90 13) ≤ (h138 90 13) ∧ (h138 90 13) - (h 90 13) ≤ (h138 90 7) - (h 90 7) ∧ (h138 90 2) = (h17 90 2) ∧ (h138 90 3) = (h17 90 3) ∧ (h138 90 20) = (h17 90 20) ∧ (h138 90 22) = (h17 90 22) ∧ (h138 90 25) = (h17 90 25) ∧ (h138 90 26) = (h17 90 26) ∧ (h138 90 27) = (h17 90 27) ∧ (h138 90 28) = (h17 90 28) ∧ (h138 90 29) = (h17 90 29) ∧ (h138 90 30) = (h17 90 30) ∧ (h138 90 34) = (h17 90 34) ∧ (h138 90 35) = (h17 90 35) ∧ (h138 90 37) = (h17 90 37); omega) (by omega)
  exact L37 1001  _ _ I18 E19 E20 E21 E22 E23 E24 E25 E26 E27 E28 E29 E30 K32 K33 (by show (h 90 7) ≤ (h17 90 7) ∧ (h17 90 7) ≤ n ∧ (0 < (h 90 8) → (h17 90 8) = (h 90 8)) ∧ (h 90 13) ≤ (h17 90 13) ∧ (h17 90 13) - (h 90 13) ≤ (h17 90 7) - (h 90 7) ∧ (h17 90 2) = (h17 90 2) ∧ (h17 90 3) = (h17 90 3) ∧ (h17 90 20) = (h17 90 20) ∧ (h17 90 22) = (h17 90 22) ∧ (h17 90 25) = (h17 90 25) ∧ (h17 90 26) = (h17 90 26) ∧ (h17 90 27) = (h17 90 27) ∧ (h17 90 28) = (h17 90 28) ∧ (h17 90 29) = (h17 90 29) ∧ (h17 90 30) = (h17 90 30) ∧ (h17 90 34) = (h17 90 34) ∧ (h17 90 35) = (h17 90 35) ∧ (h17 90 37) = (h17 90 37); omega) (by omega)
set_option maxHeartbeats 4000000 in
theorem c_Mo_sums_90 {u : ov_U} {F : ov_H × ov_Z} (n : Int) (k : Nat) (HE : ∀ k' : Nat, k' + 1 = k → ∀ {z : ov_Z} {h : ov_H} (d : Nat) (hd : (10 + 5 * k' + 4) ≤ d) (U : ov_cap u) (I : ov_N F z h) (dep : Int) (g_dep : ov_g dep) (p0 : 0 ≤ n ∧ n ≤ 1000 ∧ (h 92 (n)) = 0 ∧ (h 90 7) ≤ n) (p1 : 0 ≤ dep ∧ dep + (k' : Int) = 5) (p2 : (h 90 13) ≤ (h 90 7)), ov_T u d ov_m226 [ov_r 90, ov_i dep] z h (P_Mo_all_90 F z h n dep)) (HP : ∀ k' : Nat, k' + 1 = k → ∀ {z : ov_Z} {h : ov_H} (d : Nat) (hd : (10 + 5 * k' + 0) ≤ d) (U : ov_cap u) (I : ov_N F z h) (dep : Int) (g_dep : ov_g dep) (p0 : 0 ≤ n ∧ n ≤ 1000 ∧ (h 92 (n)) = 0 ∧ (h 90 7) ≤ n) (p1 : 0 ≤ dep ∧ dep + (k' : Int) = 5) (p2 : (h 90 13) ≤ (h 90 7)), ov_T u d ov_m230 [ov_r 90, ov_i dep] z h (P_Mo_takePart_90 F z h n dep)) {z : ov_Z} {h : ov_H} (d : Nat) (hd : (10 + 5 * k + 2) ≤ d) (U : ov_cap u) (I : ov_N F z h) (dep : Int) (g_dep : ov_g dep) (p0 : 0 ≤ n ∧ n ≤ 1000 ∧ (h 92 (n)) = 0 ∧ (h 90 7) ≤ n) (p1 : 0 ≤ dep ∧ dep + (k : Int) = 5) (p2 : (h 90 13) ≤ (h 90 7)) : ov_T u d ov_m228 [ov_r 90, ov_i dep] z h (P_Mo_sums_90 F z h n dep) := by
  refine ov_en rfl (Nat.le_of_ble_eq_true rfl) ?_
  show ov_R u d ov_m228 0 [(0, ov_r 90), (1, ov_i dep)] [] z h (P_Mo_sums_90 F z h n dep)
  refine ov_blk (ls2 := [(0, ov_r 90), (1, ov_i dep)]) (st2 := [ov_i dep, ov_r 90]) (pc2 := 2) b_228_0_2 rfl rfl ?_
  refine ov_cV (as := [ov_i dep]) (st := []) (d2 := d - 1) d_228_2 lk_Mo_266 rfl (Nat.le_of_ble_eq_true rfl) (c := 1) (zb_90 I) (zs_90 I) ⟨by decide, rfl⟩ (by omega) (c_Mo_products_90 n k HE HP (d - 1) (by omega) U I dep (by omega) (by show 0 ≤ n ∧ n ≤ 1000 ∧ (h 92 (n)) = 0 ∧ (h 90 7) ≤ n; omega) (by omega) (by show (h 90 13) ≤ (h 90 7); omega)) ?_
  rintro _ z16 h17 ⟨rfl, I18, f1, e2, e3, e4, e5, e6, e7, e8, e9, e10, e11, e12, e13, y14, y15⟩
  have E19 : h17 92 = h 92 := e2
  have E20 : h17 93 = h 93 := e3
  have E21 : h17 94 = h 94 := e4
  have E22 : h17 95 = h 95 := e5
  have E23 : h17 96 = h 96 := e6
  have E24 : h17 99 = h 99 := e7
  have E25 : h17 100 = h 100 := e8
  have E26 : h17 103 = h 103 := e9
  have E27 : h17 105 = h 105 := e10
  have E28 : h17 106 = h 106 := e11
  have E29 : h17 109 = h 109 := e12
  have E30 : h17 114 = h 114 := e13
  show ov_R u d ov_m228 5 [(0, ov_r 90), (1, ov_i dep)] [] z16 h17 (P_Mo_sums_90 F z h n dep)
  have f31 : (h 90 7) ≤ (h17 90 7) ∧ (h17 90 7) ≤ n ∧ (0 < (h 90 8) → (h17 90 8) = (h 90 8)) ∧ (h 90 13) ≤ (h17 90 13) ∧ (h17 90 13) - (h 90 13) ≤ (h17 90 7) - (h 90 7) ∧ (h17 90 2) = (h 90 2) ∧ (h17 90 3) = (h 90 3) ∧ (h17 90 20) = (h 90 20) ∧ (h17 90 22) = (h 90 22) ∧ (h17 90 25) = (h 90 25) ∧ (h17 90 26) = (h 90 26) ∧ (h17 90 27) = (h 90 27) ∧ (h17 90 28) = (h 90 28) ∧ (h17 90 29) = (h 90 29) ∧ (h17 90 30) = (h 90 30) ∧ (h17 90 34) = (h 90 34) ∧ (h17 90 35) = (h 90 35) ∧ (h17 90 37) = (h 90 37) := f1
  clear f1
  have y14_ : ∀ j : Int, j < 1100 + (h 90 13) → (h17 97) j = (h 97) j ∧ (h17 98) j = (h 98) j := y14
  have y15_ : (h17 90 8) = 0 → ov_sg (h17 97) (h17 98) (h 90 13) (h17 90 13) := y15
  have K32 : ∀ j : Int, j < 1100 + (h 90 13) → h17 97 j = h 97 j ∧ h17 98 j = h 98 j := fun j hj => y14_ j (by omega)
  have K33 : h17 90 8 = 0 → ov_sg (h17 97) (h17 98) (h 90 13) (h17 90 13) := fun e => by have q := y15_ e; rw [show (h 90 13) = h 90 13 by omega] at q; exact q
  have L37 : ∀ (n34 : Nat) (z38 : ov_Z) (h39 : ov_H) (I40 : ov_N F z38 h39) (E41 : h39 92 = h 92) (E42 : h39 93 = h 93) (E43 : h39 94 = h 94) (E44 : h39 95 = h 95) (E45 : h39 96 = h 96) (E46 : h39 99 = h 99) (E47 : h39 100 = h 100) (E48 : h39 103 = h 103) (E49 : h39 105 = h 105) (E50 : h39 106 = h 106) (E51 : h39 109 = h 109) (E52 : h39 114 = h 114) (xa : ∀ j : Int, j < 1100 + (h 90 13) → (h39 97) j = (h 97) j ∧ (h39 98) j = (h 98) j) (xb : (h39 90 8) = 0 → ov_sg (h39 97) (h39 98) (h 90 13) (h39 90 13)) (q36 : (h 90 7) ≤ (h39 90 7) ∧ (h39 90 7) ≤ n ∧ (0 < (h 90 8) → (h39 90 8) = (h 90 8)) ∧ (h 90 13) ≤ (h39 90 13) ∧ (h39 90 13) - (h 90 13) ≤ (h39 90 7) - (h 90 7) ∧ (h39 90 2) = (h17 90 2) ∧ (h39 90 3) = (h17 90 3) ∧ (h39 90 20) = (h17 90 20) ∧ (h39 90 22) = (h17 90 22) ∧ (h39 90 25) = (h17 90 25) ∧ (h39 90 26) = (h17 90 26) ∧ (h39 90 27) = (h17 90 27) ∧ (h39 90 28) = (h17 90 28) ∧ (h39 90 29) = (h17 90 29) ∧ (h39 90 30) = (h17 90 30) ∧ (h39 90 34) = (h17 90 34) ∧ (h39 90 35) = (h17 90 35) ∧ (h39 90 37) = (h17 90 37)), 1000 - (h39 90 7) < (n34 : Int) → ov_R u d ov_m228 5 [(0, ov_r 90), (1, ov_i dep)] [] z38 h39 (P_Mo_sums_90 F z h n dep) := by
    intro n34
    induction n34 with
    | zero =>
      intro  z38 h39 I40 E41 E42 E43 E44 E45 E46 E47 E48 E49 E50 E51 E52 xa xb q36 hn53
      exact absurd hn53 (by omega)
    | succ n34 ih35 =>
      intro  z38 h39 I40 E41 E42 E43 E44 E45 E46 E47 E48 E49 E50 E51 E52 xa xb q36 hn53
      refine ov_blk (ls2 := [(0, ov_r 90), (1, ov_i dep)]) (st2 := [ov_r 90]) (pc2 := 6) b_228_5_1 rfl rfl ?_
      refine ov_blk (ls2 := [(0, ov_r 90), (1, ov_i dep)]) (st2 := [ov_i 43, ov_r 90]) (pc2 := 8) b_228_6_1 rfl rfl ?_
      have cf54 : h39 92 (n) = h 92 (n) := congrFun E41 (n)
      refine ov_cV (as := [ov_i 43]) (st := []) (d2 := d - 1) d_228_8 lk_Mo_183 rfl (Nat.le_of_ble_eq_true rfl) (c := 1) (zb_90 I40) (zs_90 I40) ⟨by decide, rfl⟩ (by omega) (c_Mo_isSign_90 n (d - 1) (by omega) U I40 43 (by omega) (by show 0 ≤ n ∧ n ≤ 1000 ∧ (h39 92 (n)) = 0 ∧ (h39 90 7) ≤ n; omega)) ?_
      rintro _ _ _ ⟨v56, rfl, rfl, rfl, f55⟩
      show ov_R u d ov_m228 11 [(0, ov_r 90), (1, ov_i dep)] [ov_i v56] z38 h39 (P_Mo_sums_90 F z h n dep)
      rw [show h39 92 = h 92 from E41] at f55
      rw [show h39 94 = h 94 from E43] at f55
      have f57 : (v56 = 0 ∨ v56 = 1) ∧ (v56 = 1 → (h39 90 7) < n) ∧ (v56 = 1 → (h39 90 8) = 0 ∧ (h 92 ((h39 90 7))) = 3 ∧ (h 94 ((h39 90 7))) = (43 : Int)) ∧ (v56 = 0 → ¬ ((h39 90 8) = 0 ∧ (h 92 ((h39 90 7))) = 3 ∧ (h 94 ((h39 90 7))) = (43 : Int))) := f55
      clear f55
      refine ov_ifne (tgt := 23) d_228_11 (by decide) (by omega) (fun c58 => ?_) (fun c58 => ?_)
      · skip
        refine ov_blk (ls2 := [(0, ov_r 90), (1, ov_i dep)]) (st2 := [ov_i 43, ov_r 90]) (pc2 := 26) b_228_23_2 rfl rfl ?_
        have cf59 : h39 92 (n) = h 92 (n) := congrFun E41 (n)
        refine ov_cV (as := [ov_i 43]) (st := []) (d2 := d - 1) d_228_26 lk_Mo_183 rfl (Nat.le_of_ble_eq_true rfl) (c := 1) (zb_90 I40) (zs_90 I40) ⟨by decide, rfl⟩ (by omega) (c_Mo_isSign_90 n (d - 1) (by omega) U I40 43 (by omega) (by show 0 ≤ n ∧ n ≤ 1000 ∧ (h39 92 (n)) = 0 ∧ (h39 90 7) ≤ n; omega)) ?_
        rintro _ _ _ ⟨v61, rfl, rfl, rfl, f60⟩
        show ov_R u d ov_m228 29 [(0, ov_r 90), (1, ov_i dep)] [ov_i v61] z38 h39 (P_Mo_sums_90 F z h n dep)
        rw [show h39 92 = h 92 from E41] at f60
        rw [show h39 94 = h 94 from E43] at f60
        have f62 : (v61 = 0 ∨ v61 = 1) ∧ (v61 = 1 → (h39 90 7) < n) ∧ (v61 = 1 → (h39 90 8) = 0 ∧ (h 92 ((h39 90 7))) = 3 ∧ (h 94 ((h39 90 7))) = (43 : Int)) ∧ (v61 = 0 → ¬ ((h39 90 8) = 0 ∧ (h 92 ((h39 90 7))) = 3 ∧ (h 94 ((h39 90 7))) = (43 : Int))) := f60
        clear f60
        refine ov_blk (ls2 := [(0, ov_r 90), (1, ov_i dep), (2, ov_i v61)]) (st2 := [ov_r 90, ov_r 90]) (pc2 := 32) b_228_29_3 rfl rfl ?_
        refine ov_getf (v := ov_i (h39 90 7)) d_228_32 fl_Mo_177 (zb_90 I40) (zs_90 I40) rfl ?_
        have g63 := rg_90_7 I40
        refine ov_blk (ls2 := [(0, ov_r 90), (1, ov_i dep), (2, ov_i v61)]) (st2 := [ov_i ((h39 90 7) + 1), ov_r 90]) (pc2 := 37) b_228_35_2 rfl rfl ?_
        refine ov_putf (x := ((h39 90 7) + 1)) d_228_37 fl_Mo_177 (zb_90 I40) (zs_90 I40) rfl nk_0 rfl ?_
        have I64 := up_90_7 (x := ((h39 90 7) + 1)) I40 (by omega)
        refine ov_blk (ls2 := [(0, ov_r 90), (1, ov_i dep), (2, ov_i v61)]) (st2 := [ov_i dep, ov_r 90]) (pc2 := 42) b_228_40_2 rfl rfl ?_
        have cf65 : h39 92 (n) = h 92 (n) := congrFun E41 (n)
        refine ov_cV (as := [ov_i dep]) (st := []) (d2 := d - 1) d_228_42 lk_Mo_266 rfl (Nat.le_of_ble_eq_true rfl) (c := 1) (zb_90 I64) (zs_90 I64) ⟨by decide, rfl⟩ (by omega) (c_Mo_products_90 n k HE HP (d - 1) (by omega) U I64 dep (by omega) (by show 0 ≤ n ∧ n ≤ 1000 ∧ (h39 92 (n)) = 0 ∧ ((h39 90 7) + 1) ≤ n; omega) (by omega) (by show (h39 90 13) ≤ ((h39 90 7) + 1); omega)) ?_
        rintro _ z81 h82 ⟨rfl, I83, f66, e67, e68, e69, e70, e71, e72, e73, e74, e75, e76, e77, e78, y79, y80⟩
        have E84 : h82 92 = h 92 := Eq.trans e67 E41
        have E85 : h82 93 = h 93 := Eq.trans e68 E42
        have E86 : h82 94 = h 94 := Eq.trans e69 E43
        have E87 : h82 95 = h 95 := Eq.trans e70 E44
        have E88 : h82 96 = h 96 := Eq.trans e71 E45
        have E89 : h82 99 = h 99 := Eq.trans e72 E46
        have E90 : h82 100 = h 100 := Eq.trans e73 E47
        have E91 : h82 103 = h 103 := Eq.trans e74 E48
        have E92 : h82 105 = h 105 := Eq.trans e75 E49
        have E93 : h82 106 = h 106 := Eq.trans e76 E50
        have E94 : h82 109 = h 109 := Eq.trans e77 E51
        have E95 : h82 114 = h 114 := Eq.trans e78 E52
        show ov_R u d ov_m228 45 [(0, ov_r 90), (1, ov_i dep), (2, ov_i v61)] [] z81 h82 (P_Mo_sums_90 F z h n dep)
        have f96 : ((h39 90 7) + 1) ≤ (h82 90 7) ∧ (h82 90 7) ≤ n ∧ (0 < (h39 90 8) → (h82 90 8) = (h39 90 8)) ∧ (h39 90 13) ≤ (h82 90 13) ∧ (h82 90 13) - (h39 90 13) ≤ (h82 90 7) - ((h39 90 7) + 1) ∧ (h82 90 2) = (h39 90 2) ∧ (h82 90 3) = (h39 90 3) ∧ (h82 90 20) = (h39 90 20) ∧ (h82 90 22) = (h39 90 22) ∧ (h82 90 25) = (h39 90 25) ∧ (h82 90 26) = (h39 90 26) ∧ (h82 90 27) = (h39 90 27) ∧ (h82 90 28) = (h39 90 28) ∧ (h82 90 29) = (h39 90 29) ∧ (h82 90 30) = (h39 90 30) ∧ (h82 90 34) = (h39 90 34) ∧ (h82 90 35) = (h39 90 35) ∧ (h82 90 37) = (h39 90 37) := f66
        clear f66
        have y79_ : ∀ j : Int, j < 1100 + (h39 90 13) → (h82 97) j = (h39 97) j ∧ (h82 98) j = (h39 98) j := y79
        have y80_ : (h82 90 8) = 0 → ov_sg (h82 97) (h82 98) (h39 90 13) (h82 90 13) := y80
        refine ov_blk (ls2 := [(0, ov_r 90), (1, ov_i dep), (2, ov_i v61)]) (st2 := [ov_i v61, ov_r 90]) (pc2 := 47) b_228_45_2 rfl rfl ?_
        refine ov_ifeq (tgt := 54) d_228_47 (by decide) (by omega) (fun c97 => ?_) (fun c97 => ?_)
        · skip
          refine ov_blk (ls2 := [(0, ov_r 90), (1, ov_i dep), (2, ov_i v61)]) (st2 := [ov_i 0, ov_i 5, ov_r 90]) (pc2 := 56) b_228_54_2 rfl rfl ?_
          refine ov_cV (as := [ov_i 5, ov_i 0]) (st := []) (d2 := d - 1) d_228_56 lk_Mo_246 rfl (Nat.le_of_ble_eq_true rfl) (c := 1) (zb_90 I83) (zs_90 I83) ⟨by decide, rfl⟩ (by omega) (c_Mo_emit_90 (d - 1) (by omega) U I83 5 0 (by omega) (by omega) (by omega) (by show (h82 90 13) ≤ 999; omega)) ?_
          rintro _ z113 h114 ⟨rfl, I115, f98, e99, e100, e101, e102, e103, e104, e105, e106, e107, e108, e109, e110, y111, y112⟩
          have E116 : h114 92 = h 92 := Eq.trans e99 E84
          have E117 : h114 93 = h 93 := Eq.trans e100 E85
          have E118 : h114 94 = h 94 := Eq.trans e101 E86
          have E119 : h114 95 = h 95 := Eq.trans e102 E87
          have E120 : h114 96 = h 96 := Eq.trans e103 E88
          have E121 : h114 99 = h 99 := Eq.trans e104 E89
          have E122 : h114 100 = h 100 := Eq.trans e105 E90
          have E123 : h114 103 = h 103 := Eq.trans e106 E91
          have E124 : h114 105 = h 105 := Eq.trans e107 E92
          have E125 : h114 106 = h 106 := Eq.trans e108 E93
          have E126 : h114 109 = h 109 := Eq.trans e109 E94
          have E127 : h114 114 = h 114 := Eq.trans e110 E95
          show ov_R u d ov_m228 59 [(0, ov_r 90), (1, ov_i dep), (2, ov_i v61)] [] z113 h114 (P_Mo_sums_90 F z h n dep)
          have f128 : (h114 90 13) = (h82 90 13) + 1 ∧ (h114 90 2) = (h82 90 2) ∧ (h114 90 3) = (h82 90 3) ∧ (h114 90 7) = (h82 90 7) ∧ (h114 90 8) = (h82 90 8) ∧ (h114 90 20) = (h82 90 20) ∧ (h114 90 22) = (h82 90 22) ∧ (h114 90 25) = (h82 90 25) ∧ (h114 90 26) = (h82 90 26) ∧ (h114 90 27) = (h82 90 27) ∧ (h114 90 28) = (h82 90 28) ∧ (h114 90 29) = (h82 90 29) ∧ (h114 90 30) = (h82 90 30) ∧ (h114 90 34) = (h82 90 34) ∧ (h114 90 35) = (h82 90 35) ∧ (h114 90 37) = (h82 90 37) := f98
          clear f98
          have y111_ : (h114 97) = ov_rs (h82 97) (1100 + (h82 90 13)) (5 : Int) := y111
          have y112_ : (h114 98) = ov_rs (h82 98) (1100 + (h82 90 13)) (0 : Int) := y112
          have K129 : ∀ j : Int, j < 1100 + (h 90 13) → h114 97 j = h 97 j ∧ h114 98 j = h 98 j := ov_kpe (ov_kp xa y79_ (by omega)) y111_ y112_ (by omega)
          have K130 : h114 90 8 = 0 → ov_sg (h114 97) (h114 98) (h 90 13) (h114 90 13) := fun e => by have q1 := xb (by omega); have q2 := y80_ (by omega); rw [show (h39 90 13) = (h39 90 13) by omega] at q2; have q3 := ov_sg_bin q1 (fun j hj => y79_ j (by omega)) q2 y111_ y112_ (by omega); rw [show h114 90 13 = (h82 90 13) + 1 by omega]; exact q3
          refine ov_goto (tgt := 5) d_228_59 (by decide) ?_
          refine ov_sub (ls2 := [(0, ov_r 90), (1, ov_i dep)]) (List.Sublist.subset (by repeat (first | exact List.Sublist.refl _ | apply List.Sublist.cons_cons | apply List.Sublist.cons))) ?_
          exact ih35  _ _ I115 E116 E117 E118 E119 E120 E121 E122 E123 E124 E125 E126 E127 K129 K130 (by show (h 90 7) ≤ (h114 90 7) ∧ (h114 90 7) ≤ n ∧ (0 < (h 90 8) → (h114 90 8) = (h 90 8)) ∧ (h 90 13) ≤ (h114 90 13) ∧ (h114 90 13) - (h 90 13) ≤ (h114 90 7) - (h 90 7) ∧ (h114 90 2) = (h17 90 2) ∧ (h114 90 3) = (h17 90 3) ∧ (h114 90 20) = (h17 90 20) ∧ (h114 90 22) = (h17 90 22) ∧ (h114 90 25) = (h17 90 25) ∧ (h114 90 26) = (h17 90 26) ∧ (h114 90 27) = (h17 90 27) ∧ (h114 90 28) = (h17 90 28) ∧ (h114 90 29) = (h17 90 29) ∧ (h114 90 30) = (h17 90 30) ∧ (h114 90 34) = (h17 90 34) ∧ (h114 90 35) = (h17 90 35) ∧ (h114 90 37) = (h17 90 37); omega) (by omega)
        · skip
          refine ov_blk (ls2 := [(0, ov_r 90), (1, ov_i dep), (2, ov_i v61)]) (st2 := [ov_i 4, ov_r 90]) (pc2 := 51) b_228_50_1 rfl rfl ?_
          refine ov_goto (tgt := 55) d_228_51 (by decide) ?_
          refine ov_blk (ls2 := [(0, ov_r 90), (1, ov_i dep), (2, ov_i v61)]) (st2 := [ov_i 0, ov_i 4, ov_r 90]) (pc2 := 56) b_228_55_1 rfl rfl ?_
          refine ov_cV (as := [ov_i 4, ov_i 0]) (st := []) (d2 := d - 1) d_228_56 lk_Mo_246 rfl (Nat.le_of_ble_eq_true rfl) (c := 1) (zb_90 I83) (zs_90 I83) ⟨by decide, rfl⟩ (by omega) (c_Mo_emit_90 (d - 1) (by omega) U I83 4 0 (by omega) (by omega) (by omega) (by show (h82 90 13) ≤ 999; omega)) ?_
          rintro _ z146 h147 ⟨rfl, I148, f131, e132, e133, e134, e135, e136, e137, e138, e139, e140, e141, e142, e143, y144, y145⟩
          have E149 : h147 92 = h 92 := Eq.trans e132 E84
          have E150 : h147 93 = h 93 := Eq.trans e133 E85
          have E151 : h147 94 = h 94 := Eq.trans e134 E86
          have E152 : h147 95 = h 95 := Eq.trans e135 E87
          have E153 : h147 96 = h 96 := Eq.trans e136 E88
          have E154 : h147 99 = h 99 := Eq.trans e137 E89
          have E155 : h147 100 = h 100 := Eq.trans e138 E90
          have E156 : h147 103 = h 103 := Eq.trans e139 E91
          have E157 : h147 105 = h 105 := Eq.trans e140 E92
          have E158 : h147 106 = h 106 := Eq.trans e141 E93
          have E159 : h147 109 = h 109 := Eq.trans e142 E94
          have E160 : h147 114 = h 114 := Eq.trans e143 E95
          show ov_R u d ov_m228 59 [(0, ov_r 90), (1, ov_i dep), (2, ov_i v61)] [] z146 h147 (P_Mo_sums_90 F z h n dep)
          have f161 : (h147 90 13) = (h82 90 13) + 1 ∧ (h147 90 2) = (h82 90 2) ∧ (h147 90 3) = (h82 90 3) ∧ (h147 90 7) = (h82 90 7) ∧ (h147 90 8) = (h82 90 8) ∧ (h147 90 20) = (h82 90 20) ∧ (h147 90 22) = (h82 90 22) ∧ (h147 90 25) = (h82 90 25) ∧ (h147 90 26) = (h82 90 26) ∧ (h147 90 27) = (h82 90 27) ∧ (h147 90 28) = (h82 90 28) ∧ (h147 90 29) = (h82 90 29) ∧ (h147 90 30) = (h82 90 30) ∧ (h147 90 34) = (h82 90 34) ∧ (h147 90 35) = (h82 90 35) ∧ (h147 90 37) = (h82 90 37) := f131
          clear f131
          have y144_ : (h147 97) = ov_rs (h82 97) (1100 + (h82 90 13)) (4 : Int) := y144
          have y145_ : (h147 98) = ov_rs (h82 98) (1100 + (h82 90 13)) (0 : Int) := y145
          have K162 : ∀ j : Int, j < 1100 + (h 90 13) → h147 97 j = h 97 j ∧ h147 98 j = h 98 j := ov_kpe (ov_kp xa y79_ (by omega)) y144_ y145_ (by omega)
          have K163 : h147 90 8 = 0 → ov_sg (h147 97) (h147 98) (h 90 13) (h147 90 13) := fun e => by have q1 := xb (by omega); have q2 := y80_ (by omega); rw [show (h39 90 13) = (h39 90 13) by omega] at q2; have q3 := ov_sg_bin q1 (fun j hj => y79_ j (by omega)) q2 y144_ y145_ (by omega); rw [show h147 90 13 = (h82 90 13) + 1 by omega]; exact q3
          refine ov_goto (tgt := 5) d_228_59 (by decide) ?_
          refine ov_sub (ls2 := [(0, ov_r 90), (1, ov_i dep)]) (List.Sublist.subset (by repeat (first | exact List.Sublist.refl _ | apply List.Sublist.cons_cons | apply List.Sublist.cons))) ?_
          exact ih35  _ _ I148 E149 E150 E151 E152 E153 E154 E155 E156 E157 E158 E159 E160 K162 K163 (by show (h 90 7) ≤ (h147 90 7) ∧ (h147 90 7) ≤ n ∧ (0 < (h 90 8) → (h147 90 8) = (h 90 8)) ∧ (h 90 13) ≤ (h147 90 13) ∧ (h147 90 13) - (h 90 13) ≤ (h147 90 7) - (h 90 7) ∧ (h147 90 2) = (h17 90 2) ∧ (h147 90 3) = (h17 90 3) ∧ (h147 90 20) = (h17 90 20) ∧ (h147 90 22) = (h17 90 22) ∧ (h147 90 25) = (h17 90 25) ∧ (h147 90 26) = (h17 90 26) ∧ (h147 90 27) = (h17 90 27) ∧ (h147 90 28) = (h17 90 28) ∧ (h147 90 29) = (h17 90 29) ∧ (h147 90 30) = (h17 90 30) ∧ (h147 90 34) = (h17 90 34) ∧ (h147 90 35) = (h17 90 35) ∧ (h147 90 37) = (h17 90 37); omega) (by omega)
      · skip
        refine ov_blk (ls2 := [(0, ov_r 90), (1, ov_i dep)]) (st2 := [ov_i 45, ov_r 90]) (pc2 := 17) b_228_14_2 rfl rfl ?_
        have cf164 : h39 92 (n) = h 92 (n) := congrFun E41 (n)
        refine ov_cV (as := [ov_i 45]) (st := []) (d2 := d - 1) d_228_17 lk_Mo_183 rfl (Nat.le_of_ble_eq_true rfl) (c := 1) (zb_90 I40) (zs_90 I40) ⟨by decide, rfl⟩ (by omega) (c_Mo_isSign_90 n (d - 1) (by omega) U I40 45 (by omega) (by show 0 ≤ n ∧ n ≤ 1000 ∧ (h39 92 (n)) = 0 ∧ (h39 90 7) ≤ n; omega)) ?_
        rintro _ _ _ ⟨v166, rfl, rfl, rfl, f165⟩
        show ov_R u d ov_m228 20 [(0, ov_r 90), (1, ov_i dep)] [ov_i v166] z38 h39 (P_Mo_sums_90 F z h n dep)
        rw [show h39 92 = h 92 from E41] at f165
        rw [show h39 94 = h 94 from E43] at f165
        have f167 : (v166 = 0 ∨ v166 = 1) ∧ (v166 = 1 → (h39 90 7) < n) ∧ (v166 = 1 → (h39 90 8) = 0 ∧ (h 92 ((h39 90 7))) = 3 ∧ (h 94 ((h39 90 7))) = (45 : Int)) ∧ (v166 = 0 → ¬ ((h39 90 8) = 0 ∧ (h 92 ((h39 90 7))) = 3 ∧ (h 94 ((h39 90 7))) = (45 : Int))) := f165
        clear f165
        refine ov_ifeq (tgt := 62) d_228_20 (by decide) (by omega) (fun c168 => ?_) (fun c168 => ?_)
        · skip
          exact ov_retv (st := []) d_228_62 rfl ⟨rfl, I40, (by show (h 90 7) ≤ (h39 90 7) ∧ (h39 90 7) ≤ n ∧ (0 < (h 90 8) → (h39 90 8) = (h 90 8)) ∧ (h 90 13) ≤ (h39 90 13) ∧ (h39 90 13) - (h 90 13) ≤ (h39 90 7) - (h 90 7) ∧ (h39 90 2) = (h 90 2) ∧ (h39 90 3) = (h 90 3) ∧ (h39 90 20) = (h 90 20) ∧ (h39 90 22) = (h 90 22) ∧ (h39 90 25) = (h 90 25) ∧ (h39 90 26) = (h 90 26) ∧ (h39 90 27) = (h 90 27) ∧ (h39 90 28) = (h 90 28) ∧ (h39 90 29) = (h 90 29) ∧ (h39 90 30) = (h 90 30) ∧ (h39 90 34) = (h 90 34) ∧ (h39 90 35) = (h 90 35) ∧ (h39 90 37) = (h 90 37); omega), E41, E42, E43, E44, E45, E46, E47, E48, E49, E50, E51, E52, xa, (fun e => by have e0 : (h39 90 8) = 0 := e; show ov_sg (h39 97) (h39 98) _ (h39 90 13); rw [show (h39 90 13) = (h39 90 13) by omega]; exact xb (by omega))⟩
        · skip
          refine ov_blk (ls2 := [(0, ov_r 90), (1, ov_i dep)]) (st2 := [ov_i 43, ov_r 90]) (pc2 := 26) b_228_23_2 rfl rfl ?_
          have cf169 : h39 92 (n) = h 92 (n) := congrFun E41 (n)
          refine ov_cV (as := [ov_i 43]) (st := []) (d2 := d - 1) d_228_26 lk_Mo_183 rfl (Nat.le_of_ble_eq_true rfl) (c := 1) (zb_90 I40) (zs_90 I40) ⟨by decide, rfl⟩ (by omega) (c_Mo_isSign_90 n (d - 1) (by omega) U I40 43 (by omega) (by show 0 ≤ n ∧ n ≤ 1000 ∧ (h39 92 (n)) = 0 ∧ (h39 90 7) ≤ n; omega)) ?_
          rintro _ _ _ ⟨v171, rfl, rfl, rfl, f170⟩
          show ov_R u d ov_m228 29 [(0, ov_r 90), (1, ov_i dep)] [ov_i v171] z38 h39 (P_Mo_sums_90 F z h n dep)
          rw [show h39 92 = h 92 from E41] at f170
          rw [show h39 94 = h 94 from E43] at f170
          have f172 : (v171 = 0 ∨ v171 = 1) ∧ (v171 = 1 → (h39 90 7) < n) ∧ (v171 = 1 → (h39 90 8) = 0 ∧ (h 92 ((h39 90 7))) = 3 ∧ (h 94 ((h39 90 7))) = (43 : Int)) ∧ (v171 = 0 → ¬ ((h39 90 8) = 0 ∧ (h 92 ((h39 90 7))) = 3 ∧ (h 94 ((h39 90 7))) = (43 : Int))) := f170
          clear f170
          refine ov_blk (ls2 := [(0, ov_r 90), (1, ov_i dep), (2, ov_i v171)]) (st2 := [ov_r 90, ov_r 90]) (pc2 := 32) b_228_29_3 rfl rfl ?_
          refine ov_getf (v := ov_i (h39 90 7)) d_228_32 fl_Mo_177 (zb_90 I40) (zs_90 I40) rfl ?_
          have g173 := rg_90_7 I40
          refine ov_blk (ls2 := [(0, ov_r 90), (1, ov_i dep), (2, ov_i v171)]) (st2 := [ov_i ((h39 90 7) + 1), ov_r 90]) (pc2 := 37) b_228_35_2 rfl rfl ?_
          refine ov_putf (x := ((h39 90 7) + 1)) d_228_37 fl_Mo_177 (zb_90 I40) (zs_90 I40) rfl nk_0 rfl ?_
          have I174 := up_90_7 (x := ((h39 90 7) + 1)) I40 (by omega)
          refine ov_blk (ls2 := [(0, ov_r 90), (1, ov_i dep), (2, ov_i v171)]) (st2 := [ov_i dep, ov_r 90]) (pc2 := 42) b_228_40_2 rfl rfl ?_
          have cf175 : h39 92 (n) = h 92 (n) := congrFun E41 (n)
          refine ov_cV (as := [ov_i dep]) (st := []) (d2 := d - 1) d_228_42 lk_Mo_266 rfl (Nat.le_of_ble_eq_true rfl) (c := 1) (zb_90 I174) (zs_90 I174) ⟨by decide, rfl⟩ (by omega) (c_Mo_products_90 n k HE HP (d - 1) (by omega) U I174 dep (by omega) (by show 0 ≤ n ∧ n ≤ 1000 ∧ (h39 92 (n)) = 0 ∧ ((h39 90 7) + 1) ≤ n; omega) (by omega) (by show (h39 90 13) ≤ ((h39 90 7) + 1); omega)) ?_
          rintro _ z191 h192 ⟨rfl, I193, f176, e177, e178, e179, e180, e181, e182, e183, e184, e185, e186, e187, e188, y189, y190⟩
          have E194 : h192 92 = h 92 := Eq.trans e177 E41
          have E195 : h192 93 = h 93 := Eq.trans e178 E42
          have E196 : h192 94 = h 94 := Eq.trans e179 E43
          have E197 : h192 95 = h 95 := Eq.trans e180 E44
          have E198 : h192 96 = h 96 := Eq.trans e181 E45
          have E199 : h192 99 = h 99 := Eq.trans e182 E46
          have E200 : h192 100 = h 100 := Eq.trans e183 E47
          have E201 : h192 103 = h 103 := Eq.trans e184 E48
          have E202 : h192 105 = h 105 := Eq.trans e185 E49
          have E203 : h192 106 = h 106 := Eq.trans e186 E50
          have E204 : h192 109 = h 109 := Eq.trans e187 E51
          have E205 : h192 114 = h 114 := Eq.trans e188 E52
          show ov_R u d ov_m228 45 [(0, ov_r 90), (1, ov_i dep), (2, ov_i v171)] [] z191 h192 (P_Mo_sums_90 F z h n dep)
          have f206 : ((h39 90 7) + 1) ≤ (h192 90 7) ∧ (h192 90 7) ≤ n ∧ (0 < (h39 90 8) → (h192 90 8) = (h39 90 8)) ∧ (h39 90 13) ≤ (h192 90 13) ∧ (h192 90 13) - (h39 90 13) ≤ (h192 90 7) - ((h39 90 7) + 1) ∧ (h192 90 2) = (h39 90 2) ∧ (h192 90 3) = (h39 90 3) ∧ (h192 90 20) = (h39 90 20) ∧ (h192 90 22) = (h39 90 22) ∧ (h192 90 25) = (h39 90 25) ∧ (h192 90 26) = (h39 90 26) ∧ (h192 90 27) = (h39 90 27) ∧ (h192 90 28) = (h39 90 28) ∧ (h192 90 29) = (h39 90 29) ∧ (h192 90 30) = (h39 90 30) ∧ (h192 90 34) = (h39 90 34) ∧ (h192 90 35) = (h39 90 35) ∧ (h192 90 37) = (h39 90 37) := f176
          clear f176
          have y189_ : ∀ j : Int, j < 1100 + (h39 90 13) → (h192 97) j = (h39 97) j ∧ (h192 98) j = (h39 98) j := y189
          have y190_ : (h192 90 8) = 0 → ov_sg (h192 97) (h192 98) (h39 90 13) (h192 90 13) := y190
          refine ov_blk (ls2 := [(0, ov_r 90), (1, ov_i dep), (2, ov_i v171)]) (st2 := [ov_i v171, ov_r 90]) (pc2 := 47) b_228_45_2 rfl rfl ?_
          refine ov_ifeq (tgt := 54) d_228_47 (by decide) (by omega) (fun c207 => ?_) (fun c207 => ?_)
          · skip
            refine ov_blk (ls2 := [(0, ov_r 90), (1, ov_i dep), (2, ov_i v171)]) (st2 := [ov_i 0, ov_i 5, ov_r 90]) (pc2 := 56) b_228_54_2 rfl rfl ?_
            refine ov_cV (as := [ov_i 5, ov_i 0]) (st := []) (d2 := d - 1) d_228_56 lk_Mo_246 rfl (Nat.le_of_ble_eq_true rfl) (c := 1) (zb_90 I193) (zs_90 I193) ⟨by decide, rfl⟩ (by omega) (c_Mo_emit_90 (d - 1) (by omega) U I193 5 0 (by omega) (by omega) (by omega) (by show (h192 90 13) ≤ 999; omega)) ?_
            rintro _ z223 h224 ⟨rfl, I225, f208, e209, e210, e211, e212, e213, e214, e215, e216, e217, e218, e219, e220, y221, y222⟩
            have E226 : h224 92 = h 92 := Eq.trans e209 E194
            have E227 : h224 93 = h 93 := Eq.trans e210 E195
            have E228 : h224 94 = h 94 := Eq.trans e211 E196
            have E229 : h224 95 = h 95 := Eq.trans e212 E197
            have E230 : h224 96 = h 96 := Eq.trans e213 E198
            have E231 : h224 99 = h 99 := Eq.trans e214 E199
            have E232 : h224 100 = h 100 := Eq.trans e215 E200
            have E233 : h224 103 = h 103 := Eq.trans e216 E201
            have E234 : h224 105 = h 105 := Eq.trans e217 E202
            have E235 : h224 106 = h 106 := Eq.trans e218 E203
            have E236 : h224 109 = h 109 := Eq.trans e219 E204
            have E237 : h224 114 = h 114 := Eq.trans e220 E205
            show ov_R u d ov_m228 59 [(0, ov_r 90), (1, ov_i dep), (2, ov_i v171)] [] z223 h224 (P_Mo_sums_90 F z h n dep)
            have f238 : (h224 90 13) = (h192 90 13) + 1 ∧ (h224 90 2) = (h192 90 2) ∧ (h224 90 3) = (h192 90 3) ∧ (h224 90 7) = (h192 90 7) ∧ (h224 90 8) = (h192 90 8) ∧ (h224 90 20) = (h192 90 20) ∧ (h224 90 22) = (h192 90 22) ∧ (h224 90 25) = (h192 90 25) ∧ (h224 90 26) = (h192 90 26) ∧ (h224 90 27) = (h192 90 27) ∧ (h224 90 28) = (h192 90 28) ∧ (h224 90 29) = (h192 90 29) ∧ (h224 90 30) = (h192 90 30) ∧ (h224 90 34) = (h192 90 34) ∧ (h224 90 35) = (h192 90 35) ∧ (h224 90 37) = (h192 90 37) := f208
            clear f208
            have y221_ : (h224 97) = ov_rs (h192 97) (1100 + (h192 90 13)) (5 : Int) := y221
            have y222_ : (h224 98) = ov_rs (h192 98) (1100 + (h192 90 13)) (0 : Int) := y222
            have K239 : ∀ j : Int, j < 1100 + (h 90 13) → h224 97 j = h 97 j ∧ h224 98 j = h 98 j := ov_kpe (ov_kp xa y189_ (by omega)) y221_ y222_ (by omega)
            have K240 : h224 90 8 = 0 → ov_sg (h224 97) (h224 98) (h 90 13) (h224 90 13) := fun e => by have q1 := xb (by omega); have q2 := y190_ (by omega); rw [show (h39 90 13) = (h39 90 13) by omega] at q2; have q3 := ov_sg_bin q1 (fun j hj => y189_ j (by omega)) q2 y221_ y222_ (by omega); rw [show h224 90 13 = (h192 90 13) + 1 by omega]; exact q3
            refine ov_goto (tgt := 5) d_228_59 (by decide) ?_
            refine ov_sub (ls2 := [(0, ov_r 90), (1, ov_i dep)]) (List.Sublist.subset (by repeat (first | exact List.Sublist.refl _ | apply List.Sublist.cons_cons | apply List.Sublist.cons))) ?_
            exact ih35  _ _ I225 E226 E227 E228 E229 E230 E231 E232 E233 E234 E235 E236 E237 K239 K240 (by show (h 90 7) ≤ (h224 90 7) ∧ (h224 90 7) ≤ n ∧ (0 < (h 90 8) → (h224 90 8) = (h 90 8)) ∧ (h 90 13) ≤ (h224 90 13) ∧ (h224 90 13) - (h 90 13) ≤ (h224 90 7) - (h 90 7) ∧ (h224 90 2) = (h17 90 2) ∧ (h224 90 3) = (h17 90 3) ∧ (h224 90 20) = (h17 90 20) ∧ (h224 90 22) = (h17 90 22) ∧ (h224 90 25) = (h17 90 25) ∧ (h224 90 26) = (h17 90 26) ∧ (h224 90 27) = (h17 90 27) ∧ (h224 90 28) = (h17 90 28) ∧ (h224 90 29) = (h17 90 29) ∧ (h224 90 30) = (h17 90 30) ∧ (h224 90 34) = (h17 90 34) ∧ (h224 90 35) = (h17 90 35) ∧ (h224 90 37) = (h17 90 37); omega) (by omega)
          · skip
            refine ov_blk (ls2 := [(0, ov_r 90), (1, ov_i dep), (2, ov_i v171)]) (st2 := [ov_i 4, ov_r 90]) (pc2 := 51) b_228_50_1 rfl rfl ?_
            refine ov_goto (tgt := 55) d_228_51 (by decide) ?_
            refine ov_blk (ls2 := [(0, ov_r 90), (1, ov_i dep), (2, ov_i v171)]) (st2 := [ov_i 0, ov_i 4, ov_r 90]) (pc2 := 56) b_228_55_1 rfl rfl ?_
            refine ov_cV (as := [ov_i 4, ov_i 0]) (st := []) (d2 := d - 1) d_228_56 lk_Mo_246 rfl (Nat.le_of_ble_eq_true rfl) (c := 1) (zb_90 I193) (zs_90 I193) ⟨by decide, rfl⟩ (by omega) (c_Mo_emit_90 (d - 1) (by omega) U I193 4 0 (by omega) (by omega) (by omega) (by show (h192 90 13) ≤ 999; omega)) ?_
            rintro _ z256 h257 ⟨rfl, I258, f241, e242, e243, e244, e245, e246, e247, e248, e249, e250, e251, e252, e253, y254, y255⟩
            have E259 : h257 92 = h 92 := Eq.trans e242 E194
            have E260 : h257 93 = h 93 := Eq.trans e243 E195
            have E261 : h257 94 = h 94 := Eq.trans e244 E196
            have E262 : h257 95 = h 95 := Eq.trans e245 E197
            have E263 : h257 96 = h 96 := Eq.trans e246 E198
            have E264 : h257 99 = h 99 := Eq.trans e247 E199
            have E265 : h257 100 = h 100 := Eq.trans e248 E200
            have E266 : h257 103 = h 103 := Eq.trans e249 E201
            have E267 : h257 105 = h 105 := Eq.trans e250 E202
            have E268 : h257 106 = h 106 := Eq.trans e251 E203
            have E269 : h257 109 = h 109 := Eq.trans e252 E204
            have E270 : h257 114 = h 114 := Eq.trans e253 E205
            show ov_R u d ov_m228 59 [(0, ov_r 90), (1, ov_i dep), (2, ov_i v171)] [] z256 h257 (P_Mo_sums_90 F z h n dep)
            have f271 : (h257 90 13) = (h192 90 13) + 1 ∧ (h257 90 2) = (h192 90 2) ∧ (h257 90 3) = (h192 90 3) ∧ (h257 90 7) = (h192 90 7) ∧ (h257 90 8) = (h192 90 8) ∧ (h257 90 20) = (h192 90 20) ∧ (h257 90 22) = (h192 90 22) ∧ (h257 90 25) = (h192 90 25) ∧ (h257 90 26) = (h192 90 26) ∧ (h257 90 27) = (h192 90 27) ∧ (h257 90 28) = (h192 90 28) ∧ (h257 90 29) = (h192 90 29) ∧ (h257 90 30) = (h192 90 30) ∧ (h257 90 34) = (h192 90 34) ∧ (h257 90 35) = (h192 90 35) ∧ (h257 90 37) = (h192 90 37) := f241
            clear f241
            have y254_ : (h257 97) = ov_rs (h192 97) (1100 + (h192 90 13)) (4 : Int) := y254
            have y255_ : (h257 98) = ov_rs (h192 98) (1100 + (h192 90 13)) (0 : Int) := y255
            have K272 : ∀ j : Int, j < 1100 + (h 90 13) → h257 97 j = h 97 j ∧ h257 98 j = h 98 j := ov_kpe (ov_kp xa y189_ (by omega)) y254_ y255_ (by omega)
            have K273 : h257 90 8 = 0 → ov_sg (h257 97) (h257 98) (h 90 13) (h257 90 13) := fun e => by have q1 := xb (by omega); have q2 := y190_ (by omega); rw [show (h39 90 13) = (h39 90 13) by omega] at q2; have q3 := ov_sg_bin q1 (fun j hj => y189_ j (by omega)) q2 y254_ y255_ (by omega); rw [show h257 90 13 = (h192 90 13) + 1 by omega]; exact q3
            refine ov_goto (tgt := 5) d_228_59 (by decide) ?_
            refine ov_sub (ls2 := [(0, ov_r 90), (1, ov_i dep)]) (List.Sublist.subset (by repeat (first | exact List.Sublist.refl _ | apply List.Sublist.cons_cons | apply List.Sublist.cons))) ?_
            exact ih35  _ _ I258 E259 E260 E261 E262 E263 E264 E265 E266 E267 E268 E269 E270 K272 K273 (by show (h 90 7) ≤ (h257 90 7) ∧ (h257 90 7) ≤ n ∧ (0 < (h 90 8) → (h257 90 8) = (h 90 8)) ∧ (h 90 13) ≤ (h257 90 13) ∧ (h257 90 13) - (h 90 13) ≤ (h257 90 7) - (h 90 7) ∧ (h257 90 2) = (h17 90 2) ∧ (h257 90 3) = (h17 90 3) ∧ (h257 90 20) = (h17 90 20) ∧ (h257 90 22) = (h17 90 22) ∧ (h257 90 25) = (h17 90 25) ∧ (h257 90 26) = (h17 90 26) ∧ (h257 90 27) = (h17 90 27) ∧ (h257 90 28) = (h17 90 28) ∧ (h257 90 29) = (h17 90 29) ∧ (h257 90 30) = (h17 90 30) ∧ (h257 90 34) = (h17 90 34) ∧ (h257 90 35) = (h17 90 35) ∧ (h257 90 37) = (h17 90 37); omega) (by omega)
  exact L37 1001  _ _ I18 E19 E20 E21 E22 E23 E24 E25 E26 E27 E28 E29 E30 K32 K33 (by show (h 90 7) ≤ (h17 90 7) ∧ (h17 90 7) ≤ n ∧ (0 < (h 90 8) → (h17 90 8) = (h 90 8)) ∧ (h 90 13) ≤ (h17 90 13) ∧ (h17 90 13) - (h 90 13) ≤ (h17 90 7) - (h 90 7) ∧ (h17 90 2) = (h17 90 2) ∧ (h17 90 3) = (h17 90 3) ∧ (h17 90 20) = (h17 90 20) ∧ (h17 90 22) = (h17 90 22) ∧ (h17 90 25) = (h17 90 25) ∧ (h17 90 26) = (h17 90 26) ∧ (h17 90 27) = (h17 90 27) ∧ (h17 90 28) = (h17 90 28) ∧ (h17 90 29) = (h17 90 29) ∧ (h17 90 30) = (h17 90 30) ∧ (h17 90 34) = (h17 90 34) ∧ (h17 90 35) = (h17 90 35) ∧ (h17 90 37) = (h17 90 37); omega) (by omega)
set_option maxHeartbeats 4000000 in
theorem c_Mo_test_90 {u : ov_U} {F : ov_H × ov_Z} (n : Int) (k : Nat) (HE : ∀ k' : Nat, k' + 1 = k → ∀ {z : ov_Z} {h : ov_H} (d : Nat) (hd : (10 + 5 * k' + 4) ≤ d) (U : ov_cap u) (I : ov_N F z h) (dep : Int) (g_dep : ov_g dep) (p0 : 0 ≤ n ∧ n ≤ 1000 ∧ (h 92 (n)) = 0 ∧ (h 90 7) ≤ n) (p1 : 0 ≤ dep ∧ dep + (k' : Int) = 5) (p2 : (h 90 13) ≤ (h 90 7)), ov_T u d ov_m226 [ov_r 90, ov_i dep] z h (P_Mo_all_90 F z h n dep)) (HP : ∀ k' : Nat, k' + 1 = k → ∀ {z : ov_Z} {h : ov_H} (d : Nat) (hd : (10 + 5 * k' + 0) ≤ d) (U : ov_cap u) (I : ov_N F z h) (dep : Int) (g_dep : ov_g dep) (p0 : 0 ≤ n ∧ n ≤ 1000 ∧ (h 92 (n)) = 0 ∧ (h 90 7) ≤ n) (p1 : 0 ≤ dep ∧ dep + (k' : Int) = 5) (p2 : (h 90 13) ≤ (h 90 7)), ov_T u d ov_m230 [ov_r 90, ov_i dep] z h (P_Mo_takePart_90 F z h n dep)) {z : ov_Z} {h : ov_H} (d : Nat) (hd : (10 + 5 * k + 3) ≤ d) (U : ov_cap u) (I : ov_N F z h) (dep : Int) (g_dep : ov_g dep) (p0 : 0 ≤ n ∧ n ≤ 1000 ∧ (h 92 (n)) = 0 ∧ (h 90 7) ≤ n) (p1 : 0 ≤ dep ∧ dep + (k : Int) = 5) (p2 : (h 90 13) ≤ (h 90 7)) : ov_T u d ov_m227 [ov_r 90, ov_i dep] z h (P_Mo_test_90 F z h n dep) := by
  refine ov_en rfl (Nat.le_of_ble_eq_true rfl) ?_
  show ov_R u d ov_m227 0 [(0, ov_r 90), (1, ov_i dep)] [] z h (P_Mo_test_90 F z h n dep)
  refine ov_blk (ls2 := [(0, ov_r 90), (1, ov_i dep)]) (st2 := [ov_i dep, ov_r 90]) (pc2 := 2) b_227_0_2 rfl rfl ?_
  refine ov_cV (as := [ov_i dep]) (st := []) (d2 := d - 1) d_227_2 lk_Mo_260 rfl (Nat.le_of_ble_eq_true rfl) (c := 1) (zb_90 I) (zs_90 I) ⟨by decide, rfl⟩ (by omega) (c_Mo_sums_90 n k HE HP (d - 1) (by omega) U I dep (by omega) (by show 0 ≤ n ∧ n ≤ 1000 ∧ (h 92 (n)) = 0 ∧ (h 90 7) ≤ n; omega) (by omega) (by show (h 90 13) ≤ (h 90 7); omega)) ?_
  rintro _ z16 h17 ⟨rfl, I18, f1, e2, e3, e4, e5, e6, e7, e8, e9, e10, e11, e12, e13, y14, y15⟩
  have E19 : h17 92 = h 92 := e2
  have E20 : h17 93 = h 93 := e3
  have E21 : h17 94 = h 94 := e4
  have E22 : h17 95 = h 95 := e5
  have E23 : h17 96 = h 96 := e6
  have E24 : h17 99 = h 99 := e7
  have E25 : h17 100 = h 100 := e8
  have E26 : h17 103 = h 103 := e9
  have E27 : h17 105 = h 105 := e10
  have E28 : h17 106 = h 106 := e11
  have E29 : h17 109 = h 109 := e12
  have E30 : h17 114 = h 114 := e13
  show ov_R u d ov_m227 5 [(0, ov_r 90), (1, ov_i dep)] [] z16 h17 (P_Mo_test_90 F z h n dep)
  have f31 : (h 90 7) ≤ (h17 90 7) ∧ (h17 90 7) ≤ n ∧ (0 < (h 90 8) → (h17 90 8) = (h 90 8)) ∧ (h 90 13) ≤ (h17 90 13) ∧ (h17 90 13) - (h 90 13) ≤ (h17 90 7) - (h 90 7) ∧ (h17 90 2) = (h 90 2) ∧ (h17 90 3) = (h 90 3) ∧ (h17 90 20) = (h 90 20) ∧ (h17 90 22) = (h 90 22) ∧ (h17 90 25) = (h 90 25) ∧ (h17 90 26) = (h 90 26) ∧ (h17 90 27) = (h 90 27) ∧ (h17 90 28) = (h 90 28) ∧ (h17 90 29) = (h 90 29) ∧ (h17 90 30) = (h 90 30) ∧ (h17 90 34) = (h 90 34) ∧ (h17 90 35) = (h 90 35) ∧ (h17 90 37) = (h 90 37) := f1
  clear f1
  have y14_ : ∀ j : Int, j < 1100 + (h 90 13) → (h17 97) j = (h 97) j ∧ (h17 98) j = (h 98) j := y14
  have y15_ : (h17 90 8) = 0 → ov_sg (h17 97) (h17 98) (h 90 13) (h17 90 13) := y15
  have K32 : ∀ j : Int, j < 1100 + (h 90 13) → h17 97 j = h 97 j ∧ h17 98 j = h 98 j := fun j hj => y14_ j (by omega)
  have K33 : h17 90 8 = 0 → ov_sg (h17 97) (h17 98) (h 90 13) (h17 90 13) := fun e => by have q := y15_ e; rw [show (h 90 13) = h 90 13 by omega] at q; exact q
  refine ov_blk (ls2 := [(0, ov_r 90), (1, ov_i dep)]) (st2 := [ov_i 60, ov_r 90]) (pc2 := 8) b_227_5_2 rfl rfl ?_
  have cf34 : h17 92 (n) = h 92 (n) := congrFun E19 (n)
  refine ov_cV (as := [ov_i 60]) (st := []) (d2 := d - 1) d_227_8 lk_Mo_183 rfl (Nat.le_of_ble_eq_true rfl) (c := 1) (zb_90 I18) (zs_90 I18) ⟨by decide, rfl⟩ (by omega) (c_Mo_isSign_90 n (d - 1) (by omega) U I18 60 (by omega) (by show 0 ≤ n ∧ n ≤ 1000 ∧ (h17 92 (n)) = 0 ∧ (h17 90 7) ≤ n; omega)) ?_
  rintro _ _ _ ⟨v36, rfl, rfl, rfl, f35⟩
  show ov_R u d ov_m227 11 [(0, ov_r 90), (1, ov_i dep)] [ov_i v36] z16 h17 (P_Mo_test_90 F z h n dep)
  rw [show h17 92 = h 92 from E19] at f35
  rw [show h17 94 = h 94 from E21] at f35
  have f37 : (v36 = 0 ∨ v36 = 1) ∧ (v36 = 1 → (h17 90 7) < n) ∧ (v36 = 1 → (h17 90 8) = 0 ∧ (h 92 ((h17 90 7))) = 3 ∧ (h 94 ((h17 90 7))) = (60 : Int)) ∧ (v36 = 0 → ¬ ((h17 90 8) = 0 ∧ (h 92 ((h17 90 7))) = 3 ∧ (h 94 ((h17 90 7))) = (60 : Int))) := f35
  clear f35
  refine ov_blk (ls2 := [(0, ov_r 90), (1, ov_i dep), (2, ov_i v36)]) (st2 := [ov_i 60, ov_r 90]) (pc2 := 15) b_227_11_3 rfl rfl ?_
  have cf38 : h17 92 (n) = h 92 (n) := congrFun E19 (n)
  refine ov_cV (as := [ov_i 60]) (st := []) (d2 := d - 1) d_227_15 lk_Mo_263 rfl (Nat.le_of_ble_eq_true rfl) (c := 1) (zb_90 I18) (zs_90 I18) ⟨by decide, rfl⟩ (by omega) (c_Mo_hasSign_90 n (d - 1) (by omega) U I18 60 (by omega) (by show 0 ≤ n ∧ n ≤ 1000 ∧ (h17 92 (n)) = 0 ∧ (h17 90 7) ≤ n; omega)) ?_
  rintro _ z55 h56 ⟨v40, rfl, I57, f39, e41, e42, e43, e44, e45, e46, e47, e48, e49, e50, e51, e52, e53, e54⟩
  have E58 : h56 92 = h 92 := Eq.trans e41 E19
  have E59 : h56 93 = h 93 := Eq.trans e42 E20
  have E60 : h56 94 = h 94 := Eq.trans e43 E21
  have E61 : h56 95 = h 95 := Eq.trans e44 E22
  have E62 : h56 96 = h 96 := Eq.trans e45 E23
  have E63 : h56 97 = h17 97 := e46
  have E64 : h56 98 = h17 98 := e47
  have E65 : h56 99 = h 99 := Eq.trans e48 E24
  have E66 : h56 100 = h 100 := Eq.trans e49 E25
  have E67 : h56 103 = h 103 := Eq.trans e50 E26
  have E68 : h56 105 = h 105 := Eq.trans e51 E27
  have E69 : h56 106 = h 106 := Eq.trans e52 E28
  have E70 : h56 109 = h 109 := Eq.trans e53 E29
  have E71 : h56 114 = h 114 := Eq.trans e54 E30
  show ov_R u d ov_m227 18 [(0, ov_r 90), (1, ov_i dep), (2, ov_i v36)] [ov_i v40] z55 h56 (P_Mo_test_90 F z h n dep)
  rw [show h17 92 = h 92 from E19] at f39
  rw [show h17 94 = h 94 from E21] at f39
  have f72 : (v40 = 0 ∨ v40 = 1) ∧ (h17 90 7) ≤ (h56 90 7) ∧ (h56 90 7) ≤ n ∧ (v40 = 1 → (h56 90 7) = (h17 90 7) + 1 ∧ (h17 90 8) = 0) ∧ (v40 = 0 → (h56 90 7) = (h17 90 7)) ∧ (v40 = 1 → (h17 90 8) = 0 ∧ (h 92 ((h17 90 7))) = 3 ∧ (h 94 ((h17 90 7))) = (60 : Int)) ∧ (v40 = 0 → ¬ ((h17 90 8) = 0 ∧ (h 92 ((h17 90 7))) = 3 ∧ (h 94 ((h17 90 7))) = (60 : Int))) ∧ (h56 90 2) = (h17 90 2) ∧ (h56 90 3) = (h17 90 3) ∧ (h56 90 8) = (h17 90 8) ∧ (h56 90 13) = (h17 90 13) ∧ (h56 90 20) = (h17 90 20) ∧ (h56 90 22) = (h17 90 22) ∧ (h56 90 25) = (h17 90 25) ∧ (h56 90 26) = (h17 90 26) ∧ (h56 90 27) = (h17 90 27) ∧ (h56 90 28) = (h17 90 28) ∧ (h56 90 29) = (h17 90 29) ∧ (h56 90 30) = (h17 90 30) ∧ (h56 90 34) = (h17 90 34) ∧ (h56 90 35) = (h17 90 35) ∧ (h56 90 37) = (h17 90 37) := f39
  clear f39
  refine ov_ifne (tgt := 30) d_227_18 (by decide) (by omega) (fun c73 => ?_) (fun c73 => ?_)
  · skip
    refine ov_blk (ls2 := [(0, ov_r 90), (1, ov_i dep), (2, ov_i v36)]) (st2 := [ov_i dep, ov_r 90]) (pc2 := 32) b_227_30_2 rfl rfl ?_
    have cf74 : h56 92 (n) = h 92 (n) := congrFun E58 (n)
    refine ov_cV (as := [ov_i dep]) (st := []) (d2 := d - 1) d_227_32 lk_Mo_260 rfl (Nat.le_of_ble_eq_true rfl) (c := 1) (zb_90 I57) (zs_90 I57) ⟨by decide, rfl⟩ (by omega) (c_Mo_sums_90 n k HE HP (d - 1) (by omega) U I57 dep (by omega) (by show 0 ≤ n ∧ n ≤ 1000 ∧ (h56 92 (n)) = 0 ∧ (h56 90 7) ≤ n; omega) (by omega) (by show (h56 90 13) ≤ (h56 90 7); omega)) ?_
    rintro _ z90 h91 ⟨rfl, I92, f75, e76, e77, e78, e79, e80, e81, e82, e83, e84, e85, e86, e87, y88, y89⟩
    have E93 : h91 92 = h 92 := Eq.trans e76 E58
    have E94 : h91 93 = h 93 := Eq.trans e77 E59
    have E95 : h91 94 = h 94 := Eq.trans e78 E60
    have E96 : h91 95 = h 95 := Eq.trans e79 E61
    have E97 : h91 96 = h 96 := Eq.trans e80 E62
    have E98 : h91 99 = h 99 := Eq.trans e81 E65
    have E99 : h91 100 = h 100 := Eq.trans e82 E66
    have E100 : h91 103 = h 103 := Eq.trans e83 E67
    have E101 : h91 105 = h 105 := Eq.trans e84 E68
    have E102 : h91 106 = h 106 := Eq.trans e85 E69
    have E103 : h91 109 = h 109 := Eq.trans e86 E70
    have E104 : h91 114 = h 114 := Eq.trans e87 E71
    show ov_R u d ov_m227 35 [(0, ov_r 90), (1, ov_i dep), (2, ov_i v36)] [] z90 h91 (P_Mo_test_90 F z h n dep)
    have f105 : (h56 90 7) ≤ (h91 90 7) ∧ (h91 90 7) ≤ n ∧ (0 < (h56 90 8) → (h91 90 8) = (h56 90 8)) ∧ (h56 90 13) ≤ (h91 90 13) ∧ (h91 90 13) - (h56 90 13) ≤ (h91 90 7) - (h56 90 7) ∧ (h91 90 2) = (h56 90 2) ∧ (h91 90 3) = (h56 90 3) ∧ (h91 90 20) = (h56 90 20) ∧ (h91 90 22) = (h56 90 22) ∧ (h91 90 25) = (h56 90 25) ∧ (h91 90 26) = (h56 90 26) ∧ (h91 90 27) = (h56 90 27) ∧ (h91 90 28) = (h56 90 28) ∧ (h91 90 29) = (h56 90 29) ∧ (h91 90 30) = (h56 90 30) ∧ (h91 90 34) = (h56 90 34) ∧ (h91 90 35) = (h56 90 35) ∧ (h91 90 37) = (h56 90 37) := f75
    clear f75
    rw [show h56 97 = h17 97 from E63] at y88
    rw [show h56 98 = h17 98 from E64] at y88
    have y88_ : ∀ j : Int, j < 1100 + (h56 90 13) → (h91 97) j = (h17 97) j ∧ (h91 98) j = (h17 98) j := y88
    have y89_ : (h91 90 8) = 0 → ov_sg (h91 97) (h91 98) (h56 90 13) (h91 90 13) := y89
    refine ov_blk (ls2 := [(0, ov_r 90), (1, ov_i dep), (2, ov_i v36)]) (st2 := [ov_i v36, ov_r 90]) (pc2 := 37) b_227_35_2 rfl rfl ?_
    refine ov_ifeq (tgt := 45) d_227_37 (by decide) (by omega) (fun c106 => ?_) (fun c106 => ?_)
    · skip
      refine ov_blk (ls2 := [(0, ov_r 90), (1, ov_i dep), (2, ov_i v36)]) (st2 := [ov_i 0, ov_i 8, ov_r 90]) (pc2 := 48) b_227_45_2 rfl rfl ?_
      refine ov_cV (as := [ov_i 8, ov_i 0]) (st := []) (d2 := d - 1) d_227_48 lk_Mo_246 rfl (Nat.le_of_ble_eq_true rfl) (c := 1) (zb_90 I92) (zs_90 I92) ⟨by decide, rfl⟩ (by omega) (c_Mo_emit_90 (d - 1) (by omega) U I92 8 0 (by omega) (by omega) (by omega) (by show (h91 90 13) ≤ 999; omega)) ?_
      rintro _ z122 h123 ⟨rfl, I124, f107, e108, e109, e110, e111, e112, e113, e114, e115, e116, e117, e118, e119, y120, y121⟩
      have E125 : h123 92 = h 92 := Eq.trans e108 E93
      have E126 : h123 93 = h 93 := Eq.trans e109 E94
      have E127 : h123 94 = h 94 := Eq.trans e110 E95
      have E128 : h123 95 = h 95 := Eq.trans e111 E96
      have E129 : h123 96 = h 96 := Eq.trans e112 E97
      have E130 : h123 99 = h 99 := Eq.trans e113 E98
      have E131 : h123 100 = h 100 := Eq.trans e114 E99
      have E132 : h123 103 = h 103 := Eq.trans e115 E100
      have E133 : h123 105 = h 105 := Eq.trans e116 E101
      have E134 : h123 106 = h 106 := Eq.trans e117 E102
      have E135 : h123 109 = h 109 := Eq.trans e118 E103
      have E136 : h123 114 = h 114 := Eq.trans e119 E104
      show ov_R u d ov_m227 51 [(0, ov_r 90), (1, ov_i dep), (2, ov_i v36)] [] z122 h123 (P_Mo_test_90 F z h n dep)
      have f137 : (h123 90 13) = (h91 90 13) + 1 ∧ (h123 90 2) = (h91 90 2) ∧ (h123 90 3) = (h91 90 3) ∧ (h123 90 7) = (h91 90 7) ∧ (h123 90 8) = (h91 90 8) ∧ (h123 90 20) = (h91 90 20) ∧ (h123 90 22) = (h91 90 22) ∧ (h123 90 25) = (h91 90 25) ∧ (h123 90 26) = (h91 90 26) ∧ (h123 90 27) = (h91 90 27) ∧ (h123 90 28) = (h91 90 28) ∧ (h123 90 29) = (h91 90 29) ∧ (h123 90 30) = (h91 90 30) ∧ (h123 90 34) = (h91 90 34) ∧ (h123 90 35) = (h91 90 35) ∧ (h123 90 37) = (h91 90 37) := f107
      clear f107
      have y120_ : (h123 97) = ov_rs (h91 97) (1100 + (h91 90 13)) (8 : Int) := y120
      have y121_ : (h123 98) = ov_rs (h91 98) (1100 + (h91 90 13)) (0 : Int) := y121
      have K138 : ∀ j : Int, j < 1100 + (h 90 13) → h123 97 j = h 97 j ∧ h123 98 j = h 98 j := ov_kpe (ov_kp K32 y88_ (by omega)) y120_ y121_ (by omega)
      have K139 : h123 90 8 = 0 → ov_sg (h123 97) (h123 98) (h 90 13) (h123 90 13) := fun e => by have q1 := K33 (by omega); have q2 := y89_ (by omega); rw [show (h56 90 13) = (h17 90 13) by omega] at q2; have q3 := ov_sg_bin q1 (fun j hj => y88_ j (by omega)) q2 y120_ y121_ (by omega); rw [show h123 90 13 = (h91 90 13) + 1 by omega]; exact q3
      exact ov_retv (st := []) d_227_51 rfl ⟨rfl, I124, (by show (h 90 7) ≤ (h123 90 7) ∧ (h123 90 7) ≤ n ∧ (0 < (h 90 8) → (h123 90 8) = (h 90 8)) ∧ (h 90 13) ≤ (h123 90 13) ∧ (h123 90 13) - (h 90 13) ≤ (h123 90 7) - (h 90 7) ∧ (h123 90 2) = (h 90 2) ∧ (h123 90 3) = (h 90 3) ∧ (h123 90 20) = (h 90 20) ∧ (h123 90 22) = (h 90 22) ∧ (h123 90 25) = (h 90 25) ∧ (h123 90 26) = (h 90 26) ∧ (h123 90 27) = (h 90 27) ∧ (h123 90 28) = (h 90 28) ∧ (h123 90 29) = (h 90 29) ∧ (h123 90 30) = (h 90 30) ∧ (h123 90 34) = (h 90 34) ∧ (h123 90 35) = (h 90 35) ∧ (h123 90 37) = (h 90 37); omega), E125, E126, E127, E128, E129, E130, E131, E132, E133, E134, E135, E136, K138, (fun e => by have e0 : (h123 90 8) = 0 := e; show ov_sg (h123 97) (h123 98) _ (h123 90 13); rw [show (h123 90 13) = (h123 90 13) by omega]; exact K139 (by omega))⟩
    · skip
      refine ov_blk (ls2 := [(0, ov_r 90), (1, ov_i dep), (2, ov_i v36)]) (st2 := [ov_i 7, ov_r 90]) (pc2 := 42) b_227_40_1 rfl rfl ?_
      refine ov_goto (tgt := 47) d_227_42 (by decide) ?_
      refine ov_blk (ls2 := [(0, ov_r 90), (1, ov_i dep), (2, ov_i v36)]) (st2 := [ov_i 0, ov_i 7, ov_r 90]) (pc2 := 48) b_227_47_1 rfl rfl ?_
      refine ov_cV (as := [ov_i 7, ov_i 0]) (st := []) (d2 := d - 1) d_227_48 lk_Mo_246 rfl (Nat.le_of_ble_eq_true rfl) (c := 1) (zb_90 I92) (zs_90 I92) ⟨by decide, rfl⟩ (by omega) (c_Mo_emit_90 (d - 1) (by omega) U I92 7 0 (by omega) (by omega) (by omega) (by show (h91 90 13) ≤ 999; omega)) ?_
      rintro _ z155 h156 ⟨rfl, I157, f140, e141, e142, e143, e144, e145, e146, e147, e148, e149, e150, e151, e152, y153, y154⟩
      have E158 : h156 92 = h 92 := Eq.trans e141 E93
      have E159 : h156 93 = h 93 := Eq.trans e142 E94
      have E160 : h156 94 = h 94 := Eq.trans e143 E95
      have E161 : h156 95 = h 95 := Eq.trans e144 E96
      have E162 : h156 96 = h 96 := Eq.trans e145 E97
      have E163 : h156 99 = h 99 := Eq.trans e146 E98
      have E164 : h156 100 = h 100 := Eq.trans e147 E99
      have E165 : h156 103 = h 103 := Eq.trans e148 E100
      have E166 : h156 105 = h 105 := Eq.trans e149 E101
      have E167 : h156 106 = h 106 := Eq.trans e150 E102
      have E168 : h156 109 = h 109 := Eq.trans e151 E103
      have E169 : h156 114 = h 114 := Eq.trans e152 E104
      show ov_R u d ov_m227 51 [(0, ov_r 90), (1, ov_i dep), (2, ov_i v36)] [] z155 h156 (P_Mo_test_90 F z h n dep)
      have f170 : (h156 90 13) = (h91 90 13) + 1 ∧ (h156 90 2) = (h91 90 2) ∧ (h156 90 3) = (h91 90 3) ∧ (h156 90 7) = (h91 90 7) ∧ (h156 90 8) = (h91 90 8) ∧ (h156 90 20) = (h91 90 20) ∧ (h156 90 22) = (h91 90 22) ∧ (h156 90 25) = (h91 90 25) ∧ (h156 90 26) = (h91 90 26) ∧ (h156 90 27) = (h91 90 27) ∧ (h156 90 28) = (h91 90 28) ∧ (h156 90 29) = (h91 90 29) ∧ (h156 90 30) = (h91 90 30) ∧ (h156 90 34) = (h91 90 34) ∧ (h156 90 35) = (h91 90 35) ∧ (h156 90 37) = (h91 90 37) := f140
      clear f140
      have y153_ : (h156 97) = ov_rs (h91 97) (1100 + (h91 90 13)) (7 : Int) := y153
      have y154_ : (h156 98) = ov_rs (h91 98) (1100 + (h91 90 13)) (0 : Int) := y154
      have K171 : ∀ j : Int, j < 1100 + (h 90 13) → h156 97 j = h 97 j ∧ h156 98 j = h 98 j := ov_kpe (ov_kp K32 y88_ (by omega)) y153_ y154_ (by omega)
      have K172 : h156 90 8 = 0 → ov_sg (h156 97) (h156 98) (h 90 13) (h156 90 13) := fun e => by have q1 := K33 (by omega); have q2 := y89_ (by omega); rw [show (h56 90 13) = (h17 90 13) by omega] at q2; have q3 := ov_sg_bin q1 (fun j hj => y88_ j (by omega)) q2 y153_ y154_ (by omega); rw [show h156 90 13 = (h91 90 13) + 1 by omega]; exact q3
      exact ov_retv (st := []) d_227_51 rfl ⟨rfl, I157, (by show (h 90 7) ≤ (h156 90 7) ∧ (h156 90 7) ≤ n ∧ (0 < (h 90 8) → (h156 90 8) = (h 90 8)) ∧ (h 90 13) ≤ (h156 90 13) ∧ (h156 90 13) - (h 90 13) ≤ (h156 90 7) - (h 90 7) ∧ (h156 90 2) = (h 90 2) ∧ (h156 90 3) = (h 90 3) ∧ (h156 90 20) = (h 90 20) ∧ (h156 90 22) = (h 90 22) ∧ (h156 90 25) = (h 90 25) ∧ (h156 90 26) = (h 90 26) ∧ (h156 90 27) = (h 90 27) ∧ (h156 90 28) = (h 90 28) ∧ (h156 90 29) = (h 90 29) ∧ (h156 90 30) = (h 90 30) ∧ (h156 90 34) = (h 90 34) ∧ (h156 90 35) = (h 90 35) ∧ (h156 90 37) = (h 90 37); omega), E158, E159, E160, E161, E162, E163, E164, E165, E166, E167, E168, E169, K171, (fun e => by have e0 : (h156 90 8) = 0 := e; show ov_sg (h156 97) (h156 98) _ (h156 90 13); rw [show (h156 90 13) = (h156 90 13) by omega]; exact K172 (by omega))⟩
  · skip
    refine ov_blk (ls2 := [(0, ov_r 90), (1, ov_i dep), (2, ov_i v36)]) (st2 := [ov_i 61, ov_r 90]) (pc2 := 24) b_227_21_2 rfl rfl ?_
    have cf173 : h56 92 (n) = h 92 (n) := congrFun E58 (n)
    refine ov_cV (as := [ov_i 61]) (st := []) (d2 := d - 1) d_227_24 lk_Mo_263 rfl (Nat.le_of_ble_eq_true rfl) (c := 1) (zb_90 I57) (zs_90 I57) ⟨by decide, rfl⟩ (by omega) (c_Mo_hasSign_90 n (d - 1) (by omega) U I57 61 (by omega) (by show 0 ≤ n ∧ n ≤ 1000 ∧ (h56 92 (n)) = 0 ∧ (h56 90 7) ≤ n; omega)) ?_
    rintro _ z190 h191 ⟨v175, rfl, I192, f174, e176, e177, e178, e179, e180, e181, e182, e183, e184, e185, e186, e187, e188, e189⟩
    have E193 : h191 92 = h 92 := Eq.trans e176 E58
    have E194 : h191 93 = h 93 := Eq.trans e177 E59
    have E195 : h191 94 = h 94 := Eq.trans e178 E60
    have E196 : h191 95 = h 95 := Eq.trans e179 E61
    have E197 : h191 96 = h 96 := Eq.trans e180 E62
    have E198 : h191 97 = h17 97 := Eq.trans e181 E63
    have E199 : h191 98 = h17 98 := Eq.trans e182 E64
    have E200 : h191 99 = h 99 := Eq.trans e183 E65
    have E201 : h191 100 = h 100 := Eq.trans e184 E66
    have E202 : h191 103 = h 103 := Eq.trans e185 E67
    have E203 : h191 105 = h 105 := Eq.trans e186 E68
    have E204 : h191 106 = h 106 := Eq.trans e187 E69
    have E205 : h191 109 = h 109 := Eq.trans e188 E70
    have E206 : h191 114 = h 114 := Eq.trans e189 E71
    show ov_R u d ov_m227 27 [(0, ov_r 90), (1, ov_i dep), (2, ov_i v36)] [ov_i v175] z190 h191 (P_Mo_test_90 F z h n dep)
    rw [show h56 92 = h 92 from E58] at f174
    rw [show h56 94 = h 94 from E60] at f174
    have f207 : (v175 = 0 ∨ v175 = 1) ∧ (h56 90 7) ≤ (h191 90 7) ∧ (h191 90 7) ≤ n ∧ (v175 = 1 → (h191 90 7) = (h56 90 7) + 1 ∧ (h56 90 8) = 0) ∧ (v175 = 0 → (h191 90 7) = (h56 90 7)) ∧ (v175 = 1 → (h56 90 8) = 0 ∧ (h 92 ((h56 90 7))) = 3 ∧ (h 94 ((h56 90 7))) = (61 : Int)) ∧ (v175 = 0 → ¬ ((h56 90 8) = 0 ∧ (h 92 ((h56 90 7))) = 3 ∧ (h 94 ((h56 90 7))) = (61 : Int))) ∧ (h191 90 2) = (h56 90 2) ∧ (h191 90 3) = (h56 90 3) ∧ (h191 90 8) = (h56 90 8) ∧ (h191 90 13) = (h56 90 13) ∧ (h191 90 20) = (h56 90 20) ∧ (h191 90 22) = (h56 90 22) ∧ (h191 90 25) = (h56 90 25) ∧ (h191 90 26) = (h56 90 26) ∧ (h191 90 27) = (h56 90 27) ∧ (h191 90 28) = (h56 90 28) ∧ (h191 90 29) = (h56 90 29) ∧ (h191 90 30) = (h56 90 30) ∧ (h191 90 34) = (h56 90 34) ∧ (h191 90 35) = (h56 90 35) ∧ (h191 90 37) = (h56 90 37) := f174
    clear f174
    refine ov_ifeq (tgt := 51) d_227_27 (by decide) (by omega) (fun c208 => ?_) (fun c208 => ?_)
    · skip
      exact ov_retv (st := []) d_227_51 rfl ⟨rfl, I192, (by show (h 90 7) ≤ (h191 90 7) ∧ (h191 90 7) ≤ n ∧ (0 < (h 90 8) → (h191 90 8) = (h 90 8)) ∧ (h 90 13) ≤ (h191 90 13) ∧ (h191 90 13) - (h 90 13) ≤ (h191 90 7) - (h 90 7) ∧ (h191 90 2) = (h 90 2) ∧ (h191 90 3) = (h 90 3) ∧ (h191 90 20) = (h 90 20) ∧ (h191 90 22) = (h 90 22) ∧ (h191 90 25) = (h 90 25) ∧ (h191 90 26) = (h 90 26) ∧ (h191 90 27) = (h 90 27) ∧ (h191 90 28) = (h 90 28) ∧ (h191 90 29) = (h 90 29) ∧ (h191 90 30) = (h 90 30) ∧ (h191 90 34) = (h 90 34) ∧ (h191 90 35) = (h 90 35) ∧ (h191 90 37) = (h 90 37); omega), E193, E194, E195, E196, E197, E200, E201, E202, E203, E204, E205, E206, (by rw [show h191 97 = h17 97 from E198, show h191 98 = h17 98 from E199]; exact K32), (fun e => by have e0 : (h191 90 8) = 0 := e; show ov_sg (h191 97) (h191 98) _ (h191 90 13); rw [show h191 97 = h17 97 from E198, show h191 98 = h17 98 from E199, show (h191 90 13) = (h17 90 13) by omega]; exact K33 (by omega))⟩
    · skip
      refine ov_blk (ls2 := [(0, ov_r 90), (1, ov_i dep), (2, ov_i v36)]) (st2 := [ov_i dep, ov_r 90]) (pc2 := 32) b_227_30_2 rfl rfl ?_
      have cf209 : h191 92 (n) = h 92 (n) := congrFun E193 (n)
      refine ov_cV (as := [ov_i dep]) (st := []) (d2 := d - 1) d_227_32 lk_Mo_260 rfl (Nat.le_of_ble_eq_true rfl) (c := 1) (zb_90 I192) (zs_90 I192) ⟨by decide, rfl⟩ (by omega) (c_Mo_sums_90 n k HE HP (d - 1) (by omega) U I192 dep (by omega) (by show 0 ≤ n ∧ n ≤ 1000 ∧ (h191 92 (n)) = 0 ∧ (h191 90 7) ≤ n; omega) (by omega) (by show (h191 90 13) ≤ (h191 90 7); omega)) ?_
      rintro _ z225 h226 ⟨rfl, I227, f210, e211, e212, e213, e214, e215, e216, e217, e218, e219, e220, e221, e222, y223, y224⟩
      have E228 : h226 92 = h 92 := Eq.trans e211 E193
      have E229 : h226 93 = h 93 := Eq.trans e212 E194
      have E230 : h226 94 = h 94 := Eq.trans e213 E195
      have E231 : h226 95 = h 95 := Eq.trans e214 E196
      have E232 : h226 96 = h 96 := Eq.trans e215 E197
      have E233 : h226 99 = h 99 := Eq.trans e216 E200
      have E234 : h226 100 = h 100 := Eq.trans e217 E201
      have E235 : h226 103 = h 103 := Eq.trans e218 E202
      have E236 : h226 105 = h 105 := Eq.trans e219 E203
      have E237 : h226 106 = h 106 := Eq.trans e220 E204
      have E238 : h226 109 = h 109 := Eq.trans e221 E205
      have E239 : h226 114 = h 114 := Eq.trans e222 E206
      show ov_R u d ov_m227 35 [(0, ov_r 90), (1, ov_i dep), (2, ov_i v36)] [] z225 h226 (P_Mo_test_90 F z h n dep)
      have f240 : (h191 90 7) ≤ (h226 90 7) ∧ (h226 90 7) ≤ n ∧ (0 < (h191 90 8) → (h226 90 8) = (h191 90 8)) ∧ (h191 90 13) ≤ (h226 90 13) ∧ (h226 90 13) - (h191 90 13) ≤ (h226 90 7) - (h191 90 7) ∧ (h226 90 2) = (h191 90 2) ∧ (h226 90 3) = (h191 90 3) ∧ (h226 90 20) = (h191 90 20) ∧ (h226 90 22) = (h191 90 22) ∧ (h226 90 25) = (h191 90 25) ∧ (h226 90 26) = (h191 90 26) ∧ (h226 90 27) = (h191 90 27) ∧ (h226 90 28) = (h191 90 28) ∧ (h226 90 29) = (h191 90 29) ∧ (h226 90 30) = (h191 90 30) ∧ (h226 90 34) = (h191 90 34) ∧ (h226 90 35) = (h191 90 35) ∧ (h226 90 37) = (h191 90 37) := f210
      clear f210
      rw [show h191 97 = h17 97 from E198] at y223
      rw [show h191 98 = h17 98 from E199] at y223
      have y223_ : ∀ j : Int, j < 1100 + (h191 90 13) → (h226 97) j = (h17 97) j ∧ (h226 98) j = (h17 98) j := y223
      have y224_ : (h226 90 8) = 0 → ov_sg (h226 97) (h226 98) (h191 90 13) (h226 90 13) := y224
      refine ov_blk (ls2 := [(0, ov_r 90), (1, ov_i dep), (2, ov_i v36)]) (st2 := [ov_i v36, ov_r 90]) (pc2 := 37) b_227_35_2 rfl rfl ?_
      refine ov_ifeq (tgt := 45) d_227_37 (by decide) (by omega) (fun c241 => ?_) (fun c241 => ?_)
      · skip
        refine ov_blk (ls2 := [(0, ov_r 90), (1, ov_i dep), (2, ov_i v36)]) (st2 := [ov_i 0, ov_i 8, ov_r 90]) (pc2 := 48) b_227_45_2 rfl rfl ?_
        refine ov_cV (as := [ov_i 8, ov_i 0]) (st := []) (d2 := d - 1) d_227_48 lk_Mo_246 rfl (Nat.le_of_ble_eq_true rfl) (c := 1) (zb_90 I227) (zs_90 I227) ⟨by decide, rfl⟩ (by omega) (c_Mo_emit_90 (d - 1) (by omega) U I227 8 0 (by omega) (by omega) (by omega) (by show (h226 90 13) ≤ 999; omega)) ?_
        rintro _ z257 h258 ⟨rfl, I259, f242, e243, e244, e245, e246, e247, e248, e249, e250, e251, e252, e253, e254, y255, y256⟩
        have E260 : h258 92 = h 92 := Eq.trans e243 E228
        have E261 : h258 93 = h 93 := Eq.trans e244 E229
        have E262 : h258 94 = h 94 := Eq.trans e245 E230
        have E263 : h258 95 = h 95 := Eq.trans e246 E231
        have E264 : h258 96 = h 96 := Eq.trans e247 E232
        have E265 : h258 99 = h 99 := Eq.trans e248 E233
        have E266 : h258 100 = h 100 := Eq.trans e249 E234
        have E267 : h258 103 = h 103 := Eq.trans e250 E235
        have E268 : h258 105 = h 105 := Eq.trans e251 E236
        have E269 : h258 106 = h 106 := Eq.trans e252 E237
        have E270 : h258 109 = h 109 := Eq.trans e253 E238
        have E271 : h258 114 = h 114 := Eq.trans e254 E239
        show ov_R u d ov_m227 51 [(0, ov_r 90), (1, ov_i dep), (2, ov_i v36)] [] z257 h258 (P_Mo_test_90 F z h n dep)
        have f272 : (h258 90 13) = (h226 90 13) + 1 ∧ (h258 90 2) = (h226 90 2) ∧ (h258 90 3) = (h226 90 3) ∧ (h258 90 7) = (h226 90 7) ∧ (h258 90 8) = (h226 90 8) ∧ (h258 90 20) = (h226 90 20) ∧ (h258 90 22) = (h226 90 22) ∧ (h258 90 25) = (h226 90 25) ∧ (h258 90 26) = (h226 90 26) ∧ (h258 90 27) = (h226 90 27) ∧ (h258 90 28) = (h226 90 28) ∧ (h258 90 29) = (h226 90 29) ∧ (h258 90 30) = (h226 90 30) ∧ (h258 90 34) = (h226 90 34) ∧ (h258 90 35) = (h226 90 35) ∧ (h258 90 37) = (h226 90 37) := f242
        clear f242
        have y255_ : (h258 97) = ov_rs (h226 97) (1100 + (h226 90 13)) (8 : Int) := y255
        have y256_ : (h258 98) = ov_rs (h226 98) (1100 + (h226 90 13)) (0 : Int) := y256
        have K273 : ∀ j : Int, j < 1100 + (h 90 13) → h258 97 j = h 97 j ∧ h258 98 j = h 98 j := ov_kpe (ov_kp K32 y223_ (by omega)) y255_ y256_ (by omega)
        have K274 : h258 90 8 = 0 → ov_sg (h258 97) (h258 98) (h 90 13) (h258 90 13) := fun e => by have q1 := K33 (by omega); have q2 := y224_ (by omega); rw [show (h191 90 13) = (h17 90 13) by omega] at q2; have q3 := ov_sg_bin q1 (fun j hj => y223_ j (by omega)) q2 y255_ y256_ (by omega); rw [show h258 90 13 = (h226 90 13) + 1 by omega]; exact q3
        exact ov_retv (st := []) d_227_51 rfl ⟨rfl, I259, (by show (h 90 7) ≤ (h258 90 7) ∧ (h258 90 7) ≤ n ∧ (0 < (h 90 8) → (h258 90 8) = (h 90 8)) ∧ (h 90 13) ≤ (h258 90 13) ∧ (h258 90 13) - (h 90 13) ≤ (h258 90 7) - (h 90 7) ∧ (h258 90 2) = (h 90 2) ∧ (h258 90 3) = (h 90 3) ∧ (h258 90 20) = (h 90 20) ∧ (h258 90 22) = (h 90 22) ∧ (h258 90 25) = (h 90 25) ∧ (h258 90 26) = (h 90 26) ∧ (h258 90 27) = (h 90 27) ∧ (h258 90 28) = (h 90 28) ∧ (h258 90 29) = (h 90 29) ∧ (h258 90 30) = (h 90 30) ∧ (h258 90 34) = (h 90 34) ∧ (h258 90 35) = (h 90 35) ∧ (h258 90 37) = (h 90 37); omega), E260, E261, E262, E263, E264, E265, E266, E267, E268, E269, E270, E271, K273, (fun e => by have e0 : (h258 90 8) = 0 := e; show ov_sg (h258 97) (h258 98) _ (h258 90 13); rw [show (h258 90 13) = (h258 90 13) by omega]; exact K274 (by omega))⟩
      · skip
        refine ov_blk (ls2 := [(0, ov_r 90), (1, ov_i dep), (2, ov_i v36)]) (st2 := [ov_i 7, ov_r 90]) (pc2 := 42) b_227_40_1 rfl rfl ?_
        refine ov_goto (tgt := 47) d_227_42 (by decide) ?_
        refine ov_blk (ls2 := [(0, ov_r 90), (1, ov_i dep), (2, ov_i v36)]) (st2 := [ov_i 0, ov_i 7, ov_r 90]) (pc2 := 48) b_227_47_1 rfl rfl ?_
        refine ov_cV (as := [ov_i 7, ov_i 0]) (st := []) (d2 := d - 1) d_227_48 lk_Mo_246 rfl (Nat.le_of_ble_eq_true rfl) (c := 1) (zb_90 I227) (zs_90 I227) ⟨by decide, rfl⟩ (by omega) (c_Mo_emit_90 (d - 1) (by omega) U I227 7 0 (by omega) (by omega) (by omega) (by show (h226 90 13) ≤ 999; omega)) ?_
        rintro _ z290 h291 ⟨rfl, I292, f275, e276, e277, e278, e279, e280, e281, e282, e283, e284, e285, e286, e287, y288, y289⟩
        have E293 : h291 92 = h 92 := Eq.trans e276 E228
        have E294 : h291 93 = h 93 := Eq.trans e277 E229
        have E295 : h291 94 = h 94 := Eq.trans e278 E230
        have E296 : h291 95 = h 95 := Eq.trans e279 E231
        have E297 : h291 96 = h 96 := Eq.trans e280 E232
        have E298 : h291 99 = h 99 := Eq.trans e281 E233
        have E299 : h291 100 = h 100 := Eq.trans e282 E234
        have E300 : h291 103 = h 103 := Eq.trans e283 E235
        have E301 : h291 105 = h 105 := Eq.trans e284 E236
        have E302 : h291 106 = h 106 := Eq.trans e285 E237
        have E303 : h291 109 = h 109 := Eq.trans e286 E238
        have E304 : h291 114 = h 114 := Eq.trans e287 E239
        show ov_R u d ov_m227 51 [(0, ov_r 90), (1, ov_i dep), (2, ov_i v36)] [] z290 h291 (P_Mo_test_90 F z h n dep)
        have f305 : (h291 90 13) = (h226 90 13) + 1 ∧ (h291 90 2) = (h226 90 2) ∧ (h291 90 3) = (h226 90 3) ∧ (h291 90 7) = (h226 90 7) ∧ (h291 90 8) = (h226 90 8) ∧ (h291 90 20) = (h226 90 20) ∧ (h291 90 22) = (h226 90 22) ∧ (h291 90 25) = (h226 90 25) ∧ (h291 90 26) = (h226 90 26) ∧ (h291 90 27) = (h226 90 27) ∧ (h291 90 28) = (h226 90 28) ∧ (h291 90 29) = (h226 90 29) ∧ (h291 90 30) = (h226 90 30) ∧ (h291 90 34) = (h226 90 34) ∧ (h291 90 35) = (h226 90 35) ∧ (h291 90 37) = (h226 90 37) := f275
        clear f275
        have y288_ : (h291 97) = ov_rs (h226 97) (1100 + (h226 90 13)) (7 : Int) := y288
        have y289_ : (h291 98) = ov_rs (h226 98) (1100 + (h226 90 13)) (0 : Int) := y289
        have K306 : ∀ j : Int, j < 1100 + (h 90 13) → h291 97 j = h 97 j ∧ h291 98 j = h 98 j := ov_kpe (ov_kp K32 y223_ (by omega)) y288_ y289_ (by omega)
        have K307 : h291 90 8 = 0 → ov_sg (h291 97) (h291 98) (h 90 13) (h291 90 13) := fun e => by have q1 := K33 (by omega); have q2 := y224_ (by omega); rw [show (h191 90 13) = (h17 90 13) by omega] at q2; have q3 := ov_sg_bin q1 (fun j hj => y223_ j (by omega)) q2 y288_ y289_ (by omega); rw [show h291 90 13 = (h226 90 13) + 1 by omega]; exact q3
        exact ov_retv (st := []) d_227_51 rfl ⟨rfl, I292, (by show (h 90 7) ≤ (h291 90 7) ∧ (h291 90 7) ≤ n ∧ (0 < (h 90 8) → (h291 90 8) = (h 90 8)) ∧ (h 90 13) ≤ (h291 90 13) ∧ (h291 90 13) - (h 90 13) ≤ (h291 90 7) - (h 90 7) ∧ (h291 90 2) = (h 90 2) ∧ (h291 90 3) = (h 90 3) ∧ (h291 90 20) = (h 90 20) ∧ (h291 90 22) = (h 90 22) ∧ (h291 90 25) = (h 90 25) ∧ (h291 90 26) = (h 90 26) ∧ (h291 90 27) = (h 90 27) ∧ (h291 90 28) = (h 90 28) ∧ (h291 90 29) = (h 90 29) ∧ (h291 90 30) = (h 90 30) ∧ (h291 90 34) = (h 90 34) ∧ (h291 90 35) = (h 90 35) ∧ (h291 90 37) = (h 90 37); omega), E293, E294, E295, E296, E297, E298, E299, E300, E301, E302, E303, E304, K306, (fun e => by have e0 : (h291 90 8) = 0 := e; show ov_sg (h291 97) (h291 98) _ (h291 90 13); rw [show (h291 90 13) = (h291 90 13) by omega]; exact K307 (by omega))⟩

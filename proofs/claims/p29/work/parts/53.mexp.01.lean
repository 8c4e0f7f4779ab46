abbrev P_Mo_emit_90 (F : ov_H × ov_Z) (z : ov_Z) (h : ov_H) (c : Int) (a : Int) : Option ov_V → ov_Z → ov_H → Prop := fun r0 z' h' => r0 = none ∧ ov_N F z' h' ∧ ((h' 90 2) = (h 90 2) ∧ (h' 90 7) = (h 90 7) ∧ (h' 90 8) = (h 90 8) ∧ (h' 90 20) = (h 90 20) ∧ (h' 90 22) = (h 90 22) ∧ (h' 90 25) = (h 90 25) ∧ (h' 90 26) = (h 90 26) ∧ (h' 90 28) = (h 90 28) ∧ (h' 90 29) = (h 90 29) ∧ (h' 90 30) = (h 90 30) ∧ (h' 90 34) = (h 90 34) ∧ (h' 90 13) = (h 90 13) + 1) ∧ h' 91 = h 91 ∧ h' 92 = h 92 ∧ h' 93 = h 93 ∧ h' 94 = h 94 ∧ h' 95 = h 95 ∧ h' 96 = h 96 ∧ h' 99 = h 99 ∧ h' 100 = h 100 ∧ h' 103 = h 103 ∧ h' 104 = h 104 ∧ h' 105 = h 105 ∧ h' 106 = h 106 ∧ h' 109 = h 109 ∧ h' 114 = h 114 ∧ ((h' 97) = ov_rs (h 97) (1100 + (h 90 13)) c) ∧ ((h' 98) = ov_rs (h 98) (1100 + (h 90 13)) a)
set_option maxHeartbeats 4000000 in
theorem c_Mo_emit_90 {u : ov_U} {F : ov_H × ov_Z} {z : ov_Z} {h : ov_H} (d : Nat) (hd : 0 ≤ d) (U : ov_cap u) (I : ov_N F z h) (c : Int) (a : Int) (g_c : ov_g c) (g_a : ov_g a) (p0 : 0 ≤ c ∧ c ≤ 10) (p1 : (h 90 13) ≤ 999) : ov_T u d ov_m231 [ov_r 90, ov_i c, ov_i a] z h (P_Mo_emit_90 F z h c a) := by
  refine ov_en rfl (Nat.le_of_ble_eq_true rfl) ?_
  show ov_R u d ov_m231 0 [(0, ov_r 90), (1, ov_i c), (2, ov_i a)] [] z h (P_Mo_emit_90 F z h c a)
  refine ov_blk (ls2 := [(0, ov_r 90), (1, ov_i c), (2, ov_i a)]) (st2 := [ov_r 90]) (pc2 := 1) b_231_0_1 rfl rfl ?_
  refine ov_getf (v := ov_r 97) d_231_1 fl_Mo_84 (zb_90 I) (zs_90 I) (congrArg ov_r (rg_90_11 I)) ?_
  refine ov_blk (ls2 := [(0, ov_r 90), (1, ov_i c), (2, ov_i a)]) (st2 := [ov_r 90, ov_i 1100, ov_r 97]) (pc2 := 8) b_231_4_2 rfl rfl ?_
  refine ov_getf (v := ov_i (h 90 13)) d_231_8 fl_Mo_208 (zb_90 I) (zs_90 I) rfl ?_
  have g1 := rg_90_13 I
  refine ov_blk (ls2 := [(0, ov_r 90), (1, ov_i c), (2, ov_i a)]) (st2 := [ov_i c, ov_i (1100 + (h 90 13)), ov_r 97]) (pc2 := 13) b_231_11_2 rfl rfl ?_
  refine ov_iast d_231_13 (zb_97 I) (zs_97 I) (by omega) ?_
  have I2 := ua_97 (k := (1100 + (h 90 13))) (x := c) I (by omega)
  refine ov_blk (ls2 := [(0, ov_r 90), (1, ov_i c), (2, ov_i a)]) (st2 := [ov_r 90]) (pc2 := 15) b_231_14_1 rfl rfl ?_
  refine ov_getf (v := ov_r 98) d_231_15 fl_Mo_87 (zb_90 I2) (zs_90 I2) (congrArg ov_r (rg_90_12 I2)) ?_
  refine ov_blk (ls2 := [(0, ov_r 90), (1, ov_i c), (2, ov_i a)]) (st2 := [ov_r 90, ov_i 1100, ov_r 98]) (pc2 := 22) b_231_18_2 rfl rfl ?_
  refine ov_getf (v := ov_i (h 90 13)) d_231_22 fl_Mo_208 (zb_90 I2) (zs_90 I2) rfl ?_
  refine ov_blk (ls2 := [(0, ov_r 90), (1, ov_i c), (2, ov_i a)]) (st2 := [ov_i a, ov_i (1100 + (h 90 13)), ov_r 98]) (pc2 := 27) b_231_25_2 rfl rfl ?_
  refine ov_iast d_231_27 (zb_98 I2) (zs_98 I2) (by omega) ?_
  have I4 := ua_98 (k := (1100 + (h 90 13))) (x := a) I2 (by omega)
  refine ov_blk (ls2 := [(0, ov_r 90), (1, ov_i c), (2, ov_i a)]) (st2 := [ov_r 90, ov_r 90]) (pc2 := 30) b_231_28_2 rfl rfl ?_
  refine ov_getf (v := ov_i (h 90 13)) d_231_30 fl_Mo_208 (zb_90 I4) (zs_90 I4) rfl ?_
  refine ov_blk (ls2 := [(0, ov_r 90), (1, ov_i c), (2, ov_i a)]) (st2 := [ov_i ((h 90 13) + 1), ov_r 90]) (pc2 := 35) b_231_33_2 rfl rfl ?_
  refine ov_putf (x := ((h 90 13) + 1)) d_231_35 fl_Mo_208 (zb_90 I4) (zs_90 I4) rfl nk_0 rfl ?_
  have I6 := up_90_13 (x := ((h 90 13) + 1)) I4 (by omega)
  exact ov_retv (st := []) d_231_38 rfl ⟨rfl, I6, ⟨rfl, rfl, rfl, rfl, rfl, rfl, rfl, rfl, rfl, rfl, rfl, (by show ((h 90 13) + 1) = (h 90 13) + 1; omega)⟩, rfl, rfl, rfl, rfl, rfl, rfl, rfl, rfl, rfl, rfl, rfl, rfl, rfl, rfl, (show ov_up h 97 (1100 + (h 90 13)) c 97 = _ from ov_up_row _ _ _ _), (show ov_up h 98 (1100 + (h 90 13)) a 98 = _ from ov_up_row _ _ _ _)⟩
abbrev P_Mo_takePart_90 (F : ov_H × ov_Z) (z : ov_Z) (h : ov_H) (n : Int) (dep : Int) : Option ov_V → ov_Z → ov_H → Prop := fun r0 z' h' => r0 = none ∧ ov_N F z' h' ∧ ((h' 90 2) = (h 90 2) ∧ (h' 90 20) = (h 90 20) ∧ (h' 90 22) = (h 90 22) ∧ (h' 90 25) = (h 90 25) ∧ (h' 90 26) = (h 90 26) ∧ (h' 90 28) = (h 90 28) ∧ (h' 90 29) = (h 90 29) ∧ (h' 90 30) = (h 90 30) ∧ (h' 90 34) = (h 90 34) ∧ (h 90 7) ≤ (h' 90 7) ∧ (h' 90 7) ≤ n ∧ (h 90 8) ≤ (h' 90 8) ∧ (h 90 13) ≤ (h' 90 13) ∧ (h' 90 13) - (h 90 13) ≤ (h' 90 7) - (h 90 7)) ∧ h' 91 = h 91 ∧ h' 92 = h 92 ∧ h' 93 = h 93 ∧ h' 94 = h 94 ∧ h' 95 = h 95 ∧ h' 96 = h 96 ∧ h' 99 = h 99 ∧ h' 100 = h 100 ∧ h' 103 = h 103 ∧ h' 104 = h 104 ∧ h' 105 = h 105 ∧ h' 106 = h 106 ∧ h' 109 = h 109 ∧ h' 114 = h 114 ∧ (∀ j : Int, j < 1100 + (h 90 13) → (h' 97) j = (h 97) j ∧ (h' 98) j = (h 98) j) ∧ ((h' 90 8) = 0 → ov_sg (h' 97) (h' 98) (h 90 13) (h' 90 13))
abbrev P_Mo_products_90 (F : ov_H × ov_Z) (z : ov_Z) (h : ov_H) (n : Int) (dep : Int) : Option ov_V → ov_Z → ov_H → Prop := fun r0 z' h' => r0 = none ∧ ov_N F z' h' ∧ ((h' 90 2) = (h 90 2) ∧ (h' 90 20) = (h 90 20) ∧ (h' 90 22) = (h 90 22) ∧ (h' 90 25) = (h 90 25) ∧ (h' 90 26) = (h 90 26) ∧ (h' 90 28) = (h 90 28) ∧ (h' 90 29) = (h 90 29) ∧ (h' 90 30) = (h 90 30) ∧ (h' 90 34) = (h 90 34) ∧ (h 90 7) ≤ (h' 90 7) ∧ (h' 90 7) ≤ n ∧ (h 90 8) ≤ (h' 90 8) ∧ (h 90 13) ≤ (h' 90 13) ∧ (h' 90 13) - (h 90 13) ≤ (h' 90 7) - (h 90 7)) ∧ h' 91 = h 91 ∧ h' 92 = h 92 ∧ h' 93 = h 93 ∧ h' 94 = h 94 ∧ h' 95 = h 95 ∧ h' 96 = h 96 ∧ h' 99 = h 99 ∧ h' 100 = h 100 ∧ h' 103 = h 103 ∧ h' 104 = h 104 ∧ h' 105 = h 105 ∧ h' 106 = h 106 ∧ h' 109 = h 109 ∧ h' 114 = h 114 ∧ (∀ j : Int, j < 1100 + (h 90 13) → (h' 97) j = (h 97) j ∧ (h' 98) j = (h 98) j) ∧ ((h' 90 8) = 0 → ov_sg (h' 97) (h' 98) (h 90 13) (h' 90 13))
abbrev P_Mo_sums_90 (F : ov_H × ov_Z) (z : ov_Z) (h : ov_H) (n : Int) (dep : Int) : Option ov_V → ov_Z → ov_H → Prop := fun r0 z' h' => r0 = none ∧ ov_N F z' h' ∧ ((h' 90 2) = (h 90 2) ∧ (h' 90 20) = (h 90 20) ∧ (h' 90 22) = (h 90 22) ∧ (h' 90 25) = (h 90 25) ∧ (h' 90 26) = (h 90 26) ∧ (h' 90 28) = (h 90 28) ∧ (h' 90 29) = (h 90 29) ∧ (h' 90 30) = (h 90 30) ∧ (h' 90 34) = (h 90 34) ∧ (h 90 7) ≤ (h' 90 7) ∧ (h' 90 7) ≤ n ∧ (h 90 8) ≤ (h' 90 8) ∧ (h 90 13) ≤ (h' 90 13) ∧ (h' 90 13) - (h 90 13) ≤ (h' 90 7) - (h 90 7)) ∧ h' 91 = h 91 ∧ h' 92 = h 92 ∧ h' 93 = h 93 ∧ h' 94 = h 94 ∧ h' 95 = h 95 ∧ h' 96 = h 96 ∧ h' 99 = h 99 ∧ h' 100 = h 100 ∧ h' 103 = h 103 ∧ h' 104 = h 104 ∧ h' 105 = h 105 ∧ h' 106 = h 106 ∧ h' 109 = h 109 ∧ h' 114 = h 114 ∧ (∀ j : Int, j < 1100 + (h 90 13) → (h' 97) j = (h 97) j ∧ (h' 98) j = (h 98) j) ∧ ((h' 90 8) = 0 → ov_sg (h' 97) (h' 98) (h 90 13) (h' 90 13))
abbrev P_Mo_test_90 (F : ov_H × ov_Z) (z : ov_Z) (h : ov_H) (n : Int) (dep : Int) : Option ov_V → ov_Z → ov_H → Prop := fun r0 z' h' => r0 = none ∧ ov_N F z' h' ∧ ((h' 90 2) = (h 90 2) ∧ (h' 90 20) = (h 90 20) ∧ (h' 90 22) = (h 90 22) ∧ (h' 90 25) = (h 90 25) ∧ (h' 90 26) = (h 90 26) ∧ (h' 90 28) = (h 90 28) ∧ (h' 90 29) = (h 90 29) ∧ (h' 90 30) = (h 90 30) ∧ (h' 90 34) = (h 90 34) ∧ (h 90 7) ≤ (h' 90 7) ∧ (h' 90 7) ≤ n ∧ (h 90 8) ≤ (h' 90 8) ∧ (h 90 13) ≤ (h' 90 13) ∧ (h' 90 13) - (h 90 13) ≤ (h' 90 7) - (h 90 7)) ∧ h' 91 = h 91 ∧ h' 92 = h 92 ∧ h' 93 = h 93 ∧ h' 94 = h 94 ∧ h' 95 = h 95 ∧ h' 96 = h 96 ∧ h' 99 = h 99 ∧ h' 100 = h 100 ∧ h' 103 = h 103 ∧ h' 104 = h 104 ∧ h' 105 = h 105 ∧ h' 106 = h 106 ∧ h' 109 = h 109 ∧ h' 114 = h 114 ∧ (∀ j : Int, j < 1100 + (h 90 13) → (h' 97) j = (h 97) j ∧ (h' 98) j = (h 98) j) ∧ ((h' 90 8) = 0 → ov_sg (h' 97) (h' 98) (h 90 13) (h' 90 13))
abbrev P_Mo_all_90 (F : ov_H × ov_Z) (z : ov_Z) (h : ov_H) (n : Int) (dep : Int) : Option ov_V → ov_Z → ov_H → Prop := fun r0 z' h' => r0 = none ∧ ov_N F z' h' ∧ ((h' 90 2) = (h 90 2) ∧ (h' 90 20) = (h 90 20) ∧ (h' 90 22) = (h 90 22) ∧ (h' 90 25) = (h 90 25) ∧ (h' 90 26) = (h 90 26) ∧ (h' 90 28) = (h 90 28) ∧ (h' 90 29) = (h 90 29) ∧ (h' 90 30) = (h 90 30) ∧ (h' 90 34) = (h 90 34) ∧ (h 90 7) ≤ (h' 90 7) ∧ (h' 90 7) ≤ n ∧ (h 90 8) ≤ (h' 90 8) ∧ (h 90 13) ≤ (h' 90 13) ∧ (h' 90 13) - (h 90 13) ≤ (h' 90 7) - (h 90 7)) ∧ h' 91 = h 91 ∧ h' 92 = h 92 ∧ h' 93 = h 93 ∧ h' 94 = h 94 ∧ h' 95 = h 95 ∧ h' 96 = h 96 ∧ h' 99 = h 99 ∧ h' 100 = h 100 ∧ h' 103 = h 103 ∧ h' 104 = h 104 ∧ h' 105 = h 105 ∧ h' 106 = h 106 ∧ h' 109 = h 109 ∧ h' 114 = h 114 ∧ (∀ j : Int, j < 1100 + (h 90 13) → (h' 97) j = (h 97) j ∧ (h' 98) j = (h 98) j) ∧ ((h' 90 8) = 0 → ov_sg (h' 97) (h' 98) (h 90 13) (h' 90 13))
set_option maxHeartbeats 4000000 in
theorem c_Mo_takePart_90 {u : ov_U} {F : ov_H × ov_Z} (n : Int) (k : Nat) (HE : ∀ k' : Nat, k' + 1 = k → ∀ {z : ov_Z} {h : ov_H} (d : Nat) (hd : (10 + 5 * k' + 4) ≤ d) (U : ov_cap u) (I : ov_N F z h) (dep : Int) (g_dep : ov_g dep) (p0 : 0 ≤ n ∧ n ≤ 1000 ∧ (h 92 (n)) = 0 ∧ (h 90 7) ≤ n) (p1 : 0 ≤ dep ∧ dep + (k' : Int) = 5) (p2 : (h 90 13) ≤ (h 90 7)), ov_T u d ov_m226 [ov_r 90, ov_i dep] z h (P_Mo_all_90 F z h n dep)) (HP : ∀ k' : Nat, k' + 1 = k → ∀ {z : ov_Z} {h : ov_H} (d : Nat) (hd : (10 + 5 * k' + 0) ≤ d) (U : ov_cap u) (I : ov_N F z h) (dep : Int) (g_dep : ov_g dep) (p0 : 0 ≤ n ∧ n ≤ 1000 ∧ (h 92 (n)) = 0 ∧ (h 90 7) ≤ n) (p1 : 0 ≤ dep ∧ dep + (k' : Int) = 5) (p2 : (h 90 13) ≤ (h 90 7)), ov_T u d ov_m230 [ov_r 90, ov_i dep] z h (P_Mo_takePart_90 F z h n dep)) {z : ov_Z} {h : ov_H} (d : Nat) (hd : (10 + 5 * k + 0) ≤ d) (U : ov_cap u) (I : ov_N F z h) (dep : Int) (g_dep : ov_g dep) (p0 : 0 ≤ n ∧ n ≤ 1000 ∧ (h 92 (n)) = 0 ∧ (h 90 7) ≤ n) (p1 : 0 ≤ dep ∧ dep + (k : Int) = 5) (p2 : (h 90 13) ≤ (h 90 7)) : ov_T u d ov_m230 [ov_r 90, ov_i dep] z h (P_Mo_takePart_90 F z h n dep) := by
  refine ov_en rfl (Nat.le_of_ble_eq_true rfl) ?_
  show ov_R u d ov_m230 0 [(0, ov_r 90), (1, ov_i dep)] [] z h (P_Mo_takePart_90 F z h n dep)
  have qn : h 90 7 = n → h 92 (h 90 7) = h 92 n := fun e => by rw [e]
  refine ov_blk (ls2 := [(0, ov_r 90), (1, ov_i dep)]) (st2 := [ov_r 90]) (pc2 := 1) b_230_0_1 rfl rfl ?_
  refine ov_getf (v := ov_i (h 90 8)) d_230_1 fl_Mo_180 (zb_90 I) (zs_90 I) rfl ?_
  have g1 := rg_90_8 I
  refine ov_ifle (tgt := 8) d_230_4 (by decide) (by omega) (fun c2 => ?_) (fun c2 => ?_)
  · skip
    have J3 : ∀ (j4 : Int) (j5 : Int) (q6 : (j4 = 0 ∨ j4 = 1) ∧ (j4 = 1 → (h 92 ((h 90 7))) = 2) ∧ -1 ≤ j5 ∧ j5 ≤ 3 ∧ (0 ≤ j5 → (h 90 7) < n)), ov_R u d ov_m230 67 [(0, ov_r 90), (1, ov_i dep), (2, ov_i j4), (5, ov_i j5)] [] z h (P_Mo_takePart_90 F z h n dep) := by
      intro j4 j5 q6
      have J7 : ∀ (q8 : (0 ≤ j5 ∨ j4 = 1 ∨ ((h 90 8) = 0 ∧ (h 92 ((h 90 7))) = 3 ∧ (h 94 ((h 90 7))) = 40) ∨ ((h 90 8) = 0 ∧ (h 92 ((h 90 7))) = 1 ∧ (h 94 ((h 90 7))) = (h 95 (17))))), ov_R u d ov_m230 102 [(0, ov_r 90), (1, ov_i dep), (2, ov_i j4), (5, ov_i j5)] [] z h (P_Mo_takePart_90 F z h n dep) := by
        intro  q8
        refine ov_blk (ls2 := [(0, ov_r 90), (1, ov_i dep), (2, ov_i j4), (5, ov_i j5)]) (st2 := [ov_i 5, ov_i dep]) (pc2 := 104) b_230_102_2 rfl rfl ?_
        refine ov_icne (tgt := 112) d_230_104 (by decide) (by omega) (by omega) (fun c9 => ?_) (fun c9 => ?_)
        · skip
          refine ov_blk (ls2 := [(0, ov_r 90), (1, ov_i dep), (2, ov_i j4), (5, ov_i j5)]) (st2 := [ov_r 90]) (pc2 := 113) b_230_112_1 rfl rfl ?_
          refine ov_getf (v := ov_i (h 90 8)) d_230_113 fl_Mo_180 (zb_90 I) (zs_90 I) rfl ?_
          refine ov_ifle (tgt := 120) d_230_116 (by decide) (by omega) (fun c11 => ?_) (fun c11 => ?_)
          · skip
            refine ov_blk (ls2 := [(0, ov_r 90), (1, ov_i dep), (2, ov_i j4), (5, ov_i j5)]) (st2 := [ov_i 17, ov_r 90]) (pc2 := 123) b_230_120_2 rfl rfl ?_
            refine ov_cV (as := [ov_i 17]) (st := []) (d2 := d - 1) d_230_123 lk_Mo_192 rfl (Nat.le_of_ble_eq_true rfl) (c := 1) (zb_90 I) (zs_90 I) ⟨by decide, rfl⟩ (by omega) (c_Mo_hasWord_90 n (d - 1) (by omega) U I 17 (by omega) (by show 0 ≤ n ∧ n ≤ 1000 ∧ (h 92 (n)) = 0 ∧ (h 90 7) ≤ n; omega) (by omega)) ?_
            rintro _ z30 h31 ⟨v13, rfl, I32, f12, e14, e15, e16, e17, e18, e19, e20, e21, e22, e23, e24, e25, e26, e27, e28, e29⟩
            have E33 : h31 91 = h 91 := e14
            have E34 : h31 92 = h 92 := e15
            have E35 : h31 93 = h 93 := e16
            have E36 : h31 94 = h 94 := e17
            have E37 : h31 95 = h 95 := e18
            have E38 : h31 96 = h 96 := e19
            have E39 : h31 97 = h 97 := e20
            have E40 : h31 98 = h 98 := e21
            have E41 : h31 99 = h 99 := e22
            have E42 : h31 100 = h 100 := e23
            have E43 : h31 103 = h 103 := e24
            have E44 : h31 104 = h 104 := e25
            have E45 : h31 105 = h 105 := e26
            have E46 : h31 106 = h 106 := e27
            have E47 : h31 109 = h 109 := e28
            have E48 : h31 114 = h 114 := e29
            show ov_R u d ov_m230 126 [(0, ov_r 90), (1, ov_i dep), (2, ov_i j4), (5, ov_i j5)] [ov_i v13] z30 h31 (P_Mo_takePart_90 F z h n dep)
            have f49 : (h31 90 2) = (h 90 2) ∧ (h31 90 8) = (h 90 8) ∧ (h31 90 13) = (h 90 13) ∧ (h31 90 20) = (h 90 20) ∧ (h31 90 22) = (h 90 22) ∧ (h31 90 25) = (h 90 25) ∧ (h31 90 26) = (h 90 26) ∧ (h31 90 28) = (h 90 28) ∧ (h31 90 29) = (h 90 29) ∧ (h31 90 30) = (h 90 30) ∧ (h31 90 34) = (h 90 34) ∧ (v13 = 0 ∨ v13 = 1) ∧ (h 90 7) ≤ (h31 90 7) ∧ (h31 90 7) ≤ n ∧ (v13 = 1 → (h31 90 7) = (h 90 7) + 1 ∧ (h 90 8) = 0) ∧ (v13 = 0 → (h31 90 7) = (h 90 7)) ∧ (v13 = 1 → (h 90 8) = 0 ∧ (h 92 ((h 90 7))) = 1 ∧ (h 94 ((h 90 7))) = (h 95 ((17 : Int)))) ∧ (v13 = 0 → ¬ ((h 90 8) = 0 ∧ (h 92 ((h 90 7))) = 1 ∧ (h 94 ((h 90 7))) = (h 95 ((17 : Int))))) := f12
            clear f12
            have qm : h31 90 7 = h 90 7 → h 92 (h31 90 7) = h 92 (h 90 7) ∧ h 94 (h31 90 7) = h 94 (h 90 7) := fun e => by rw [e]; exact ⟨rfl, rfl⟩
            refine ov_ifeq (tgt := 145) d_230_126 (by decide) (by omega) (fun c50 => ?_) (fun c50 => ?_)
            · skip
              have f49_ : v13 = 0 := by omega
              have f51 : (h31 90 2) = (h 90 2) := f49.1
              have f52 : (h31 90 8) = (h 90 8) := f49.2.1
              have f53 : (h31 90 13) = (h 90 13) := f49.2.2.1
              have f54 : (h31 90 20) = (h 90 20) := f49.2.2.2.1
              have f55 : (h31 90 22) = (h 90 22) := f49.2.2.2.2.1
              have f56 : (h31 90 25) = (h 90 25) := f49.2.2.2.2.2.1
              have f57 : (h31 90 26) = (h 90 26) := f49.2.2.2.2.2.2.1
              have f58 : (h31 90 28) = (h 90 28) := f49.2.2.2.2.2.2.2.1
              have f59 : (h31 90 29) = (h 90 29) := f49.2.2.2.2.2.2.2.2.1
              have f60 : (h31 90 30) = (h 90 30) := f49.2.2.2.2.2.2.2.2.2.1
              have f61 : (h31 90 34) = (h 90 34) := f49.2.2.2.2.2.2.2.2.2.2.1
              have f62 : (h 90 7) ≤ (h31 90 7) := f49.2.2.2.2.2.2.2.2.2.2.2.2.1
              have f63 : (h31 90 7) ≤ n := f49.2.2.2.2.2.2.2.2.2.2.2.2.2.1
              have f64 : (h31 90 7) = (h 90 7) := f49.2.2.2.2.2.2.2.2.2.2.2.2.2.2.2.1 (by omega)
              have f65 : ¬ ((h 90 8) = 0 ∧ (h 92 ((h 90 7))) = 1 ∧ (h 94 ((h 90 7))) = (h 95 ((17 : Int)))) := f49.2.2.2.2.2.2.2.2.2.2.2.2.2.2.2.2.2 (by omega)
              clear f49
              refine ov_blk (ls2 := [(0, ov_r 90), (1, ov_i dep), (2, ov_i j4), (5, ov_i j5)]) (st2 := [ov_i 40, ov_r 90]) (pc2 := 148) b_230_145_2 rfl rfl ?_
              have cf66 : h31 92 (n) = h 92 (n) := congrFun E34 (n)
              refine ov_cV (as := [ov_i 40]) (st := []) (d2 := d - 1) d_230_148 lk_Mo_263 rfl (Nat.le_of_ble_eq_true rfl) (c := 1) (zb_90 I32) (zs_90 I32) ⟨by decide, rfl⟩ (by omega) (c_Mo_hasSign_90 n (d - 1) (by omega) U I32 40 (by omega) (by show 0 ≤ n ∧ n ≤ 1000 ∧ (h31 92 (n)) = 0 ∧ (h31 90 7) ≤ n; omega)) ?_
              rintro _ z85 h86 ⟨v68, rfl, I87, f67, e69, e70, e71, e72, e73, e74, e75, e76, e77, e78, e79, e80, e81, e82, e83, e84⟩
              have E88 : h86 91 = h 91 := Eq.trans e69 E33
              have E89 : h86 92 = h 92 := Eq.trans e70 E34
              have E90 : h86 93 = h 93 := Eq.trans e71 E35
              have E91 : h86 94 = h 94 := Eq.trans e72 E36
              have E92 : h86 95 = h 95 := Eq.trans e73 E37
              have E93 : h86 96 = h 96 := Eq.trans e74 E38
              have E94 : h86 97 = h 97 := Eq.trans e75 E39
              have E95 : h86 98 = h 98 := Eq.trans e76 E40
              have E96 : h86 99 = h 99 := Eq.trans e77 E41
              have E97 : h86 100 = h 100 := Eq.trans e78 E42
              have E98 : h86 103 = h 103 := Eq.trans e79 E43
              have E99 : h86 104 = h 104 := Eq.trans e80 E44
              have E100 : h86 105 = h 105 := Eq.trans e81 E45
              have E101 : h86 106 = h 106 := Eq.trans e82 E46
              have E102 : h86 109 = h 109 := Eq.trans e83 E47
              have E103 : h86 114 = h 114 := Eq.trans e84 E48
              show ov_R u d ov_m230 151 [(0, ov_r 90), (1, ov_i dep), (2, ov_i j4), (5, ov_i j5)] [ov_i v68] z85 h86 (P_Mo_takePart_90 F z h n dep)
              rw [show h31 92 = h 92 from E34] at f67
              rw [show h31 94 = h 94 from E36] at f67
              have f104 : (h86 90 2) = (h31 90 2) ∧ (h86 90 8) = (h31 90 8) ∧ (h86 90 13) = (h31 90 13) ∧ (h86 90 20) = (h31 90 20) ∧ (h86 90 22) = (h31 90 22) ∧ (h86 90 25) = (h31 90 25) ∧ (h86 90 26) = (h31 90 26) ∧ (h86 90 28) = (h31 90 28) ∧ (h86 90 29) = (h31 90 29) ∧ (h86 90 30) = (h31 90 30) ∧ (h86 90 34) = (h31 90 34) ∧ (v68 = 0 ∨ v68 = 1) ∧ (h31 90 7) ≤ (h86 90 7) ∧ (h86 90 7) ≤ n ∧ (v68 = 1 → (h86 90 7) = (h31 90 7) + 1 ∧ (h31 90 8) = 0) ∧ (v68 = 0 → (h86 90 7) = (h31 90 7)) ∧ (v68 = 1 → (h31 90 8) = 0 ∧ (h 92 ((h31 90 7))) = 3 ∧ (h 94 ((h31 90 7))) = (40 : Int)) ∧ (v68 = 0 → ¬ ((h31 90 8) = 0 ∧ (h 92 ((h31 90 7))) = 3 ∧ (h 94 ((h31 90 7))) = (40 : Int))) := f67
              clear f67
              refine ov_ifeq (tgt := 170) d_230_151 (by decide) (by omega) (fun c105 => ?_) (fun c105 => ?_)
              · skip
                have f104_ : v68 = 0 := by omega
                have f106 : (h86 90 2) = (h31 90 2) := f104.1
                have f107 : (h86 90 8) = (h31 90 8) := f104.2.1
                have f108 : (h86 90 13) = (h31 90 13) := f104.2.2.1
                have f109 : (h86 90 20) = (h31 90 20) := f104.2.2.2.1
                have f110 : (h86 90 22) = (h31 90 22) := f104.2.2.2.2.1
                have f111 : (h86 90 25) = (h31 90 25) := f104.2.2.2.2.2.1
                have f112 : (h86 90 26) = (h31 90 26) := f104.2.2.2.2.2.2.1
                have f113 : (h86 90 28) = (h31 90 28) := f104.2.2.2.2.2.2.2.1
                have f114 : (h86 90 29) = (h31 90 29) := f104.2.2.2.2.2.2.2.2.1
                have f115 : (h86 90 30) = (h31 90 30) := f104.2.2.2.2.2.2.2.2.2.1
                have f116 : (h86 90 34) = (h31 90 34) := f104.2.2.2.2.2.2.2.2.2.2.1
                have f117 : (h31 90 7) ≤ (h86 90 7) := f104.2.2.2.2.2.2.2.2.2.2.2.2.1
                have f118 : (h86 90 7) ≤ n := f104.2.2.2.2.2.2.2.2.2.2.2.2.2.1
                have f119 : (h86 90 7) = (h31 90 7) := f104.2.2.2.2.2.2.2.2.2.2.2.2.2.2.2.1 (by omega)
                have f120 : ¬ ((h31 90 8) = 0 ∧ (h 92 ((h31 90 7))) = 3 ∧ (h 94 ((h31 90 7))) = (40 : Int)) := f104.2.2.2.2.2.2.2.2.2.2.2.2.2.2.2.2.2 (by omega)
                clear f104
                refine ov_blk (ls2 := [(0, ov_r 90), (1, ov_i dep), (2, ov_i j4), (5, ov_i j5)]) (st2 := [ov_i j4, ov_r 90]) (pc2 := 172) b_230_170_2 rfl rfl ?_
                refine ov_ifeq (tgt := 179) d_230_172 (by decide) (by omega) (fun c121 => ?_) (fun c121 => ?_)
                · skip
                  refine ov_blk (ls2 := [(0, ov_r 90), (1, ov_i dep), (2, ov_i j4), (5, ov_i j5)]) (st2 := [ov_i j4, ov_i 2, ov_r 90]) (pc2 := 181) b_230_179_2 rfl rfl ?_
                  refine ov_ifeq (tgt := 197) d_230_181 (by decide) (by omega) (fun c122 => ?_) (fun c122 => ?_)
                  · skip
                    refine ov_blk (ls2 := [(0, ov_r 90), (1, ov_i dep), (2, ov_i j4), (5, ov_i j5)]) (st2 := [ov_i j5, ov_i 2, ov_r 90]) (pc2 := 199) b_230_197_1 rfl rfl ?_
                    refine ov_cV (as := [ov_i 2, ov_i j5]) (st := []) (d2 := d - 1) d_230_199 lk_Mo_246 rfl (Nat.le_of_ble_eq_true rfl) (c := 1) (zb_90 I87) (zs_90 I87) ⟨by decide, rfl⟩ (by omega) (c_Mo_emit_90 (d - 1) (by omega) U I87 2 j5 (by omega) (by omega) (by omega) (by show (h86 90 13) ≤ 999; omega)) ?_
                    rintro _ z140 h141 ⟨rfl, I142, f123, e124, e125, e126, e127, e128, e129, e130, e131, e132, e133, e134, e135, e136, e137, y138, y139⟩
                    have E143 : h141 91 = h 91 := Eq.trans e124 E88
                    have E144 : h141 92 = h 92 := Eq.trans e125 E89
                    have E145 : h141 93 = h 93 := Eq.trans e126 E90
                    have E146 : h141 94 = h 94 := Eq.trans e127 E91
                    have E147 : h141 95 = h 95 := Eq.trans e128 E92
                    have E148 : h141 96 = h 96 := Eq.trans e129 E93
                    have E149 : h141 99 = h 99 := Eq.trans e130 E96
                    have E150 : h141 100 = h 100 := Eq.trans e131 E97
                    have E151 : h141 103 = h 103 := Eq.trans e132 E98
                    have E152 : h141 104 = h 104 := Eq.trans e133 E99
                    have E153 : h141 105 = h 105 := Eq.trans e134 E100
                    have E154 : h141 106 = h 106 := Eq.trans e135 E101
                    have E155 : h141 109 = h 109 := Eq.trans e136 E102
                    have E156 : h141 114 = h 114 := Eq.trans e137 E103
                    show ov_R u d ov_m230 202 [(0, ov_r 90), (1, ov_i dep), (2, ov_i j4), (5, ov_i j5)] [] z140 h141 (P_Mo_takePart_90 F z h n dep)
                    have f157 : (h141 90 2) = (h86 90 2) ∧ (h141 90 7) = (h86 90 7) ∧ (h141 90 8) = (h86 90 8) ∧ (h141 90 20) = (h86 90 20) ∧ (h141 90 22) = (h86 90 22) ∧ (h141 90 25) = (h86 90 25) ∧ (h141 90 26) = (h86 90 26) ∧ (h141 90 28) = (h86 90 28) ∧ (h141 90 29) = (h86 90 29) ∧ (h141 90 30) = (h86 90 30) ∧ (h141 90 34) = (h86 90 34) ∧ (h141 90 13) = (h86 90 13) + 1 := f123
                    clear f123
                    rw [show h86 97 = h 97 from E94] at y138
                    have y138_ : (h141 97) = ov_rs (h 97) (1100 + (h86 90 13)) (2 : Int) := y138
                    rw [show h86 98 = h 98 from E95] at y139
                    have y139_ : (h141 98) = ov_rs (h 98) (1100 + (h86 90 13)) j5 := y139
                    have K158 : ∀ j : Int, j < 1100 + (h 90 13) → h141 97 j = h 97 j ∧ h141 98 j = h 98 j := ov_kpe (fun j _ => ⟨rfl, rfl⟩) y138_ y139_ (by omega)
                    have K159 : h141 90 8 = 0 → ov_sg (h141 97) (h141 98) (h 90 13) (h141 90 13) := fun e => by have q3 := ov_sg_one y138_ y139_ (by omega); rw [show h141 90 13 = (h86 90 13) + 1 by omega, show h 90 13 = (h86 90 13) by omega]; exact q3
                    refine ov_blk (ls2 := [(0, ov_r 90), (1, ov_i dep), (2, ov_i j4), (5, ov_i j5)]) (st2 := [ov_r 90, ov_r 90]) (pc2 := 204) b_230_202_2 rfl rfl ?_
                    refine ov_getf (v := ov_i (h141 90 7)) d_230_204 fl_Mo_177 (zb_90 I142) (zs_90 I142) rfl ?_
                    have g160 := rg_90_7 I142
                    refine ov_blk (ls2 := [(0, ov_r 90), (1, ov_i dep), (2, ov_i j4), (5, ov_i j5)]) (st2 := [ov_i ((h141 90 7) + 1), ov_r 90]) (pc2 := 209) b_230_207_2 rfl rfl ?_
                    refine ov_putf (x := ((h141 90 7) + 1)) d_230_209 fl_Mo_177 (zb_90 I142) (zs_90 I142) rfl nk_0 rfl ?_
                    have I161 := up_90_7 (x := ((h141 90 7) + 1)) I142 (by omega)
                    exact ov_retv (st := []) d_230_212 rfl ⟨rfl, I161, (by show (h141 90 2) = (h 90 2) ∧ (h141 90 20) = (h 90 20) ∧ (h141 90 22) = (h 90 22) ∧ (h141 90 25) = (h 90 25) ∧ (h141 90 26) = (h 90 26) ∧ (h141 90 28) = (h 90 28) ∧ (h141 90 29) = (h 90 29) ∧ (h141 90 30) = (h 90 30) ∧ (h141 90 34) = (h 90 34) ∧ (h 90 7) ≤ ((h141 90 7) + 1) ∧ ((h141 90 7) + 1) ≤ n ∧ (h 90 8) ≤ (h141 90 8) ∧ (h 90 13) ≤ (h141 90 13) ∧ (h141 90 13) - (h 90 13) ≤ ((h141 90 7) + 1) - (h 90 7); omega), E143, E144, E145, E146, E147, E148, E149, E150, E151, E152, E153, E154, E155, E156, K158, (fun e => by have e0 : (h141 90 8) = 0 := e; show ov_sg ((ov_up h141 90 7 ((h141 90 7) + 1)) 97) ((ov_up h141 90 7 ((h141 90 7) + 1)) 98) _ (h141 90 13); rw [show (h141 90 13) = (h141 90 13) by omega]; exact K159 (by omega))⟩
                  · omega
                · skip
                  refine ov_blk (ls2 := [(0, ov_r 90), (1, ov_i dep), (2, ov_i j4), (5, ov_i j5)]) (st2 := [ov_i 1, ov_r 90]) (pc2 := 176) b_230_175_1 rfl rfl ?_
                  refine ov_goto (tgt := 180) d_230_176 (by decide) ?_
                  refine ov_blk (ls2 := [(0, ov_r 90), (1, ov_i dep), (2, ov_i j4), (5, ov_i j5)]) (st2 := [ov_i j4, ov_i 1, ov_r 90]) (pc2 := 181) b_230_180_1 rfl rfl ?_
                  refine ov_ifeq (tgt := 197) d_230_181 (by decide) (by omega) (fun c162 => ?_) (fun c162 => ?_)
                  · omega
                  · skip
                    refine ov_blk (ls2 := [(0, ov_r 90), (1, ov_i dep), (2, ov_i j4), (5, ov_i j5)]) (st2 := [ov_r 90, ov_i 1, ov_r 90]) (pc2 := 185) b_230_184_1 rfl rfl ?_
                    refine ov_getf (v := ov_r 94) d_230_185 fl_Mo_30 (zb_90 I87) (zs_90 I87) (congrArg ov_r (rg_90_6 I87)) ?_
                    refine ov_blk (ls2 := [(0, ov_r 90), (1, ov_i dep), (2, ov_i j4), (5, ov_i j5)]) (st2 := [ov_r 90, ov_r 94, ov_i 1, ov_r 90]) (pc2 := 189) b_230_188_1 rfl rfl ?_
                    refine ov_getf (v := ov_i (h86 90 7)) d_230_189 fl_Mo_177 (zb_90 I87) (zs_90 I87) rfl ?_
                    have g163 := rg_90_7 I87
                    refine ov_lald d_230_192 (zb_94 I87) (zs_94 I87) (by omega) ?_
                    rw [show h86 94 = h 94 from E91]
                    have g164 := ra_94 I (h86 90 7)
                    refine ov_blk (ls2 := [(0, ov_r 90), (1, ov_i dep), (2, ov_i j4), (5, ov_i j5)]) (st2 := [ov_i (h 94 (h86 90 7)), ov_i 1, ov_r 90]) (pc2 := 194) b_230_193_1 rfl rfl ?_
                    refine ov_havw (fun w165 gw165 qw165 => ?_)
                    refine ov_goto (tgt := 199) d_230_194 (by decide) ?_
                    refine ov_cV (as := [ov_i 1, ov_i w165]) (st := []) (d2 := d - 1) d_230_199 lk_Mo_246 rfl (Nat.le_of_ble_eq_true rfl) (c := 1) (zb_90 I87) (zs_90 I87) ⟨by decide, rfl⟩ (by omega) (c_Mo_emit_90 (d - 1) (by omega) U I87 1 w165 (by omega) (by omega) (by omega) (by show (h86 90 13) ≤ 999; omega)) ?_
                    rintro _ z183 h184 ⟨rfl, I185, f166, e167, e168, e169, e170, e171, e172, e173, e174, e175, e176, e177, e178, e179, e180, y181, y182⟩
                    have E186 : h184 91 = h 91 := Eq.trans e167 E88
                    have E187 : h184 92 = h 92 := Eq.trans e168 E89
                    have E188 : h184 93 = h 93 := Eq.trans e169 E90
                    have E189 : h184 94 = h 94 := Eq.trans e170 E91
                    have E190 : h184 95 = h 95 := Eq.trans e171 E92
                    have E191 : h184 96 = h 96 := Eq.trans e172 E93
                    have E192 : h184 99 = h 99 := Eq.trans e173 E96
                    have E193 : h184 100 = h 100 := Eq.trans e174 E97
                    have E194 : h184 103 = h 103 := Eq.trans e175 E98
                    have E195 : h184 104 = h 104 := Eq.trans e176 E99
                    have E196 : h184 105 = h 105 := Eq.trans e177 E100
                    have E197 : h184 106 = h 106 := Eq.trans e178 E101
                    have E198 : h184 109 = h 109 := Eq.trans e179 E102
                    have E199 : h184 114 = h 114 := Eq.trans e180 E103
                    show ov_R u d ov_m230 202 [(0, ov_r 90), (1, ov_i dep), (2, ov_i j4), (5, ov_i j5)] [] z183 h184 (P_Mo_takePart_90 F z h n dep)
                    have f200 : (h184 90 2) = (h86 90 2) ∧ (h184 90 7) = (h86 90 7) ∧ (h184 90 8) = (h86 90 8) ∧ (h184 90 20) = (h86 90 20) ∧ (h184 90 22) = (h86 90 22) ∧ (h184 90 25) = (h86 90 25) ∧ (h184 90 26) = (h86 90 26) ∧ (h184 90 28) = (h86 90 28) ∧ (h184 90 29) = (h86 90 29) ∧ (h184 90 30) = (h86 90 30) ∧ (h184 90 34) = (h86 90 34) ∧ (h184 90 13) = (h86 90 13) + 1 := f166
                    clear f166
                    rw [show h86 97 = h 97 from E94] at y181
                    have y181_ : (h184 97) = ov_rs (h 97) (1100 + (h86 90 13)) (1 : Int) := y181
                    rw [show h86 98 = h 98 from E95] at y182
                    have y182_ : (h184 98) = ov_rs (h 98) (1100 + (h86 90 13)) w165 := y182
                    have K201 : ∀ j : Int, j < 1100 + (h 90 13) → h184 97 j = h 97 j ∧ h184 98 j = h 98 j := ov_kpe (fun j _ => ⟨rfl, rfl⟩) y181_ y182_ (by omega)
                    have K202 : h184 90 8 = 0 → ov_sg (h184 97) (h184 98) (h 90 13) (h184 90 13) := fun e => by have q3 := ov_sg_one y181_ y182_ (by omega); rw [show h184 90 13 = (h86 90 13) + 1 by omega, show h 90 13 = (h86 90 13) by omega]; exact q3
                    refine ov_blk (ls2 := [(0, ov_r 90), (1, ov_i dep), (2, ov_i j4), (5, ov_i j5)]) (st2 := [ov_r 90, ov_r 90]) (pc2 := 204) b_230_202_2 rfl rfl ?_
                    refine ov_getf (v := ov_i (h184 90 7)) d_230_204 fl_Mo_177 (zb_90 I185) (zs_90 I185) rfl ?_
                    have g203 := rg_90_7 I185
                    refine ov_blk (ls2 := [(0, ov_r 90), (1, ov_i dep), (2, ov_i j4), (5, ov_i j5)]) (st2 := [ov_i ((h184 90 7) + 1), ov_r 90]) (pc2 := 209) b_230_207_2 rfl rfl ?_
                    refine ov_putf (x := ((h184 90 7) + 1)) d_230_209 fl_Mo_177 (zb_90 I185) (zs_90 I185) rfl nk_0 rfl ?_
                    have I204 := up_90_7 (x := ((h184 90 7) + 1)) I185 (by omega)
                    exact ov_retv (st := []) d_230_212 rfl ⟨rfl, I204, (by show (h184 90 2) = (h 90 2) ∧ (h184 90 20) = (h 90 20) ∧ (h184 90 22) = (h 90 22) ∧ (h184 90 25) = (h 90 25) ∧ (h184 90 26) = (h 90 26) ∧ (h184 90 28) = (h 90 28) ∧ (h184 90 29) = (h 90 29) ∧ (h184 90 30) = (h 90 30) ∧ (h184 90 34) = (h 90 34) ∧ (h 90 7) ≤ ((h184 90 7) + 1) ∧ ((h184 90 7) + 1) ≤ n ∧ (h 90 8) ≤ (h184 90 8) ∧ (h 90 13) ≤ (h184 90 13) ∧ (h184 90 13) - (h 90 13) ≤ ((h184 90 7) + 1) - (h 90 7); omega), E186, E187, E188, E189, E190, E191, E192, E193, E194, E195, E196, E197, E198, E199, K201, (fun e => by have e0 : (h184 90 8) = 0 := e; show ov_sg ((ov_up h184 90 7 ((h184 90 7) + 1)) 97) ((ov_up h184 90 7 ((h184 90 7) + 1)) 98) _ (h184 90 13); rw [show (h184 90 13) = (h184 90 13) by omega]; exact K202 (by omega))⟩
              · skip
                have f104_ : v68 = 1 := by omega
                have f205 : (h86 90 2) = (h31 90 2) := f104.1
                have f206 : (h86 90 8) = (h31 90 8) := f104.2.1
                have f207 : (h86 90 13) = (h31 90 13) := f104.2.2.1
                have f208 : (h86 90 20) = (h31 90 20) := f104.2.2.2.1
                have f209 : (h86 90 22) = (h31 90 22) := f104.2.2.2.2.1
                have f210 : (h86 90 25) = (h31 90 25) := f104.2.2.2.2.2.1
                have f211 : (h86 90 26) = (h31 90 26) := f104.2.2.2.2.2.2.1
                have f212 : (h86 90 28) = (h31 90 28) := f104.2.2.2.2.2.2.2.1
                have f213 : (h86 90 29) = (h31 90 29) := f104.2.2.2.2.2.2.2.2.1
                have f214 : (h86 90 30) = (h31 90 30) := f104.2.2.2.2.2.2.2.2.2.1
                have f215 : (h86 90 34) = (h31 90 34) := f104.2.2.2.2.2.2.2.2.2.2.1
                have f216 : (h31 90 7) ≤ (h86 90 7) := f104.2.2.2.2.2.2.2.2.2.2.2.2.1
                have f217 : (h86 90 7) ≤ n := f104.2.2.2.2.2.2.2.2.2.2.2.2.2.1
                have f218 : (h86 90 7) = (h31 90 7) + 1 ∧ (h31 90 8) = 0 := f104.2.2.2.2.2.2.2.2.2.2.2.2.2.2.1 (by omega)
                have f219 : (h31 90 8) = 0 ∧ (h 92 ((h31 90 7))) = 3 ∧ (h 94 ((h31 90 7))) = (40 : Int) := f104.2.2.2.2.2.2.2.2.2.2.2.2.2.2.2.2.1 (by omega)
                clear f104
                refine ov_blk (ls2 := [(0, ov_r 90), (1, ov_i dep), (2, ov_i j4), (5, ov_i j5)]) (st2 := [ov_i (dep + 1), ov_r 90]) (pc2 := 158) b_230_154_4 rfl rfl ?_
                have cf220 : h86 92 (n) = h 92 (n) := congrFun E89 (n)
                refine ov_cV (as := [ov_i (dep + 1)]) (st := []) (d2 := d - 1) d_230_158 lk_Mo_243 rfl (Nat.le_of_ble_eq_true rfl) (c := 1) (zb_90 I87) (zs_90 I87) ⟨by decide, rfl⟩ (by omega) (HE (k - 1) (by omega) (d - 1) (by omega) U I87 (dep + 1) (by omega) (by show 0 ≤ n ∧ n ≤ 1000 ∧ (h86 92 (n)) = 0 ∧ (h86 90 7) ≤ n; omega) (by omega) (by show (h86 90 13) ≤ (h86 90 7); omega)) ?_
                rintro _ z238 h239 ⟨rfl, I240, f221, e222, e223, e224, e225, e226, e227, e228, e229, e230, e231, e232, e233, e234, e235, y236, y237⟩
                have E241 : h239 91 = h 91 := Eq.trans e222 E88
                have E242 : h239 92 = h 92 := Eq.trans e223 E89
                have E243 : h239 93 = h 93 := Eq.trans e224 E90
                have E244 : h239 94 = h 94 := Eq.trans e225 E91
                have E245 : h239 95 = h 95 := Eq.trans e226 E92
                have E246 : h239 96 = h 96 := Eq.trans e227 E93
                have E247 : h239 99 = h 99 := Eq.trans e228 E96
                have E248 : h239 100 = h 100 := Eq.trans e229 E97
                have E249 : h239 103 = h 103 := Eq.trans e230 E98
                have E250 : h239 104 = h 104 := Eq.trans e231 E99
                have E251 : h239 105 = h 105 := Eq.trans e232 E100
                have E252 : h239 106 = h 106 := Eq.trans e233 E101
                have E253 : h239 109 = h 109 := Eq.trans e234 E102
                have E254 : h239 114 = h 114 := Eq.trans e235 E103
                show ov_R u d ov_m230 161 [(0, ov_r 90), (1, ov_i dep), (2, ov_i j4), (5, ov_i j5)] [] z238 h239 (P_Mo_takePart_90 F z h n dep)
                have f255 : (h239 90 2) = (h86 90 2) ∧ (h239 90 20) = (h86 90 20) ∧ (h239 90 22) = (h86 90 22) ∧ (h239 90 25) = (h86 90 25) ∧ (h239 90 26) = (h86 90 26) ∧ (h239 90 28) = (h86 90 28) ∧ (h239 90 29) = (h86 90 29) ∧ (h239 90 30) = (h86 90 30) ∧ (h239 90 34) = (h86 90 34) ∧ (h86 90 7) ≤ (h239 90 7) ∧ (h239 90 7) ≤ n ∧ (h86 90 8) ≤ (h239 90 8) ∧ (h86 90 13) ≤ (h239 90 13) ∧ (h239 90 13) - (h86 90 13) ≤ (h239 90 7) - (h86 90 7) := f221
                clear f221
                rw [show h86 97 = h 97 from E94] at y236
                rw [show h86 98 = h 98 from E95] at y236
                have y236_ : ∀ j : Int, j < 1100 + (h86 90 13) → (h239 97) j = (h 97) j ∧ (h239 98) j = (h 98) j := y236
                have y237_ : (h239 90 8) = 0 → ov_sg (h239 97) (h239 98) (h86 90 13) (h239 90 13) := y237
                have K256 : ∀ j : Int, j < 1100 + (h 90 13) → h239 97 j = h 97 j ∧ h239 98 j = h 98 j := fun j hj => y236_ j (by omega)
                have K257 : h239 90 8 = 0 → ov_sg (h239 97) (h239 98) (h 90 13) (h239 90 13) := fun e => by have q := y237_ e; rw [show (h86 90 13) = h 90 13 by omega] at q; exact q
                refine ov_blk (ls2 := [(0, ov_r 90), (1, ov_i dep), (2, ov_i j4), (5, ov_i j5)]) (st2 := [ov_i 41, ov_r 90]) (pc2 := 164) b_230_161_2 rfl rfl ?_
                have cf258 : h239 92 (n) = h 92 (n) := congrFun E242 (n)
                refine ov_cV (as := [ov_i 41]) (st := []) (d2 := d - 1) d_230_164 lk_Mo_214 rfl (Nat.le_of_ble_eq_true rfl) (c := 1) (zb_90 I240) (zs_90 I240) ⟨by decide, rfl⟩ (by omega) (c_Mo_takeSign_90 n (d - 1) (by omega) U I240 41 (by omega) (by show 0 ≤ n ∧ n ≤ 1000 ∧ (h239 92 (n)) = 0 ∧ (h239 90 7) ≤ n; omega)) ?_
                rintro _ z276 h277 ⟨rfl, I278, f259, e260, e261, e262, e263, e264, e265, e266, e267, e268, e269, e270, e271, e272, e273, e274, e275⟩
                have E279 : h277 91 = h 91 := Eq.trans e260 E241
                have E280 : h277 92 = h 92 := Eq.trans e261 E242
                have E281 : h277 93 = h 93 := Eq.trans e262 E243
                have E282 : h277 94 = h 94 := Eq.trans e263 E244
                have E283 : h277 95 = h 95 := Eq.trans e264 E245
                have E284 : h277 96 = h 96 := Eq.trans e265 E246
                have E285 : h277 97 = h239 97 := e266
                have E286 : h277 98 = h239 98 := e267
                have E287 : h277 99 = h 99 := Eq.trans e268 E247
                have E288 : h277 100 = h 100 := Eq.trans e269 E248
                have E289 : h277 103 = h 103 := Eq.trans e270 E249
                have E290 : h277 104 = h 104 := Eq.trans e271 E250
                have E291 : h277 105 = h 105 := Eq.trans e272 E251
                have E292 : h277 106 = h 106 := Eq.trans e273 E252
                have E293 : h277 109 = h 109 := Eq.trans e274 E253
                have E294 : h277 114 = h 114 := Eq.trans e275 E254
                show ov_R u d ov_m230 167 [(0, ov_r 90), (1, ov_i dep), (2, ov_i j4), (5, ov_i j5)] [] z276 h277 (P_Mo_takePart_90 F z h n dep)
                have f295 : (h277 90 2) = (h239 90 2) ∧ (h277 90 13) = (h239 90 13) ∧ (h277 90 20) = (h239 90 20) ∧ (h277 90 22) = (h239 90 22) ∧ (h277 90 25) = (h239 90 25) ∧ (h277 90 26) = (h239 90 26) ∧ (h277 90 28) = (h239 90 28) ∧ (h277 90 29) = (h239 90 29) ∧ (h277 90 30) = (h239 90 30) ∧ (h277 90 34) = (h239 90 34) ∧ (h239 90 7) ≤ (h277 90 7) ∧ (h277 90 7) ≤ n ∧ (h239 90 8) ≤ (h277 90 8) ∧ (h239 90 7) < (h277 90 7) + (h277 90 8) := f259
                clear f259
                refine ov_goto (tgt := 212) d_230_167 (by decide) ?_
                exact ov_retv (st := []) d_230_212 rfl ⟨rfl, I278, (by show (h277 90 2) = (h 90 2) ∧ (h277 90 20) = (h 90 20) ∧ (h277 90 22) = (h 90 22) ∧ (h277 90 25) = (h 90 25) ∧ (h277 90 26) = (h 90 26) ∧ (h277 90 28) = (h 90 28) ∧ (h277 90 29) = (h 90 29) ∧ (h277 90 30) = (h 90 30) ∧ (h277 90 34) = (h 90 34) ∧ (h 90 7) ≤ (h277 90 7) ∧ (h277 90 7) ≤ n ∧ (h 90 8) ≤ (h277 90 8) ∧ (h 90 13) ≤ (h277 90 13) ∧ (h277 90 13) - (h 90 13) ≤ (h277 90 7) - (h 90 7); omega), E279, E280, E281, E282, E283, E284, E287, E288, E289, E290, E291, E292, E293, E294, (by rw [show h277 97 = h239 97 from E285, show h277 98 = h239 98 from E286]; exact K256), (fun e => by have e0 : (h277 90 8) = 0 := e; show ov_sg (h277 97) (h277 98) _ (h277 90 13); rw [show h277 97 = h239 97 from E285, show h277 98 = h239 98 from E286, show (h277 90 13) = (h239 90 13) by omega]; exact K257 (by omega))⟩
            · skip
              have f49_ : v13 = 1 := by omega
              have f296 : (h31 90 2) = (h 90 2) := f49.1
              have f297 : (h31 90 8) = (h 90 8) := f49.2.1
              have f298 : (h31 90 13) = (h 90 13) := f49.2.2.1
              have f299 : (h31 90 20) = (h 90 20) := f49.2.2.2.1
              have f300 : (h31 90 22) = (h 90 22) := f49.2.2.2.2.1
              have f301 : (h31 90 25) = (h 90 25) := f49.2.2.2.2.2.1
              have f302 : (h31 90 26) = (h 90 26) := f49.2.2.2.2.2.2.1
              have f303 : (h31 90 28) = (h 90 28) := f49.2.2.2.2.2.2.2.1
              have f304 : (h31 90 29) = (h 90 29) := f49.2.2.2.2.2.2.2.2.1
              have f305 : (h31 90 30) = (h 90 30) := f49.2.2.2.2.2.2.2.2.2.1
              have f306 : (h31 90 34) = (h 90 34) := f49.2.2.2.2.2.2.2.2.2.2.1
              have f307 : (h 90 7) ≤ (h31 90 7) := f49.2.2.2.2.2.2.2.2.2.2.2.2.1
              have f308 : (h31 90 7) ≤ n := f49.2.2.2.2.2.2.2.2.2.2.2.2.2.1
              have f309 : (h31 90 7) = (h 90 7) + 1 ∧ (h 90 8) = 0 := f49.2.2.2.2.2.2.2.2.2.2.2.2.2.2.1 (by omega)
              have f310 : (h 90 8) = 0 ∧ (h 92 ((h 90 7))) = 1 ∧ (h 94 ((h 90 7))) = (h 95 ((17 : Int))) := f49.2.2.2.2.2.2.2.2.2.2.2.2.2.2.2.2.1 (by omega)
              clear f49
              refine ov_blk (ls2 := [(0, ov_r 90), (1, ov_i dep), (2, ov_i j4), (5, ov_i j5)]) (st2 := [ov_i (dep + 1), ov_r 90]) (pc2 := 133) b_230_129_4 rfl rfl ?_
              have cf311 : h31 92 (n) = h 92 (n) := congrFun E34 (n)
              refine ov_cV (as := [ov_i (dep + 1)]) (st := []) (d2 := d - 1) d_230_133 lk_Mo_269 rfl (Nat.le_of_ble_eq_true rfl) (c := 1) (zb_90 I32) (zs_90 I32) ⟨by decide, rfl⟩ (by omega) (HP (k - 1) (by omega) (d - 1) (by omega) U I32 (dep + 1) (by omega) (by show 0 ≤ n ∧ n ≤ 1000 ∧ (h31 92 (n)) = 0 ∧ (h31 90 7) ≤ n; omega) (by omega) (by show (h31 90 13) ≤ (h31 90 7); omega)) ?_
              rintro _ z329 h330 ⟨rfl, I331, f312, e313, e314, e315, e316, e317, e318, e319, e320, e321, e322, e323, e324, e325, e326, y327, y328⟩
              have E332 : h330 91 = h 91 := Eq.trans e313 E33
              have E333 : h330 92 = h 92 := Eq.trans e314 E34
              have E334 : h330 93 = h 93 := Eq.trans e315 E35
              have E335 : h330 94 = h 94 := Eq.trans e316 E36
              have E336 : h330 95 = h 95 := Eq.trans e317 E37
              have E337 : h330 96 = h 96 := Eq.trans e318 E38
              have E338 : h330 99 = h 99 := Eq.trans e319 E41
              have E339 : h330 100 = h 100 := Eq.trans e320 E42
              have E340 : h330 103 = h 103 := Eq.trans e321 E43
              have E341 : h330 104 = h 104 := Eq.trans e322 E44
              have E342 : h330 105 = h 105 := Eq.trans e323 E45
              have E343 : h330 106 = h 106 := Eq.trans e324 E46
              have E344 : h330 109 = h 109 := Eq.trans e325 E47
              have E345 : h330 114 = h 114 := Eq.trans e326 E48
              show ov_R u d ov_m230 136 [(0, ov_r 90), (1, ov_i dep), (2, ov_i j4), (5, ov_i j5)] [] z329 h330 (P_Mo_takePart_90 F z h n dep)
              have f346 : (h330 90 2) = (h31 90 2) ∧ (h330 90 20) = (h31 90 20) ∧ (h330 90 22) = (h31 90 22) ∧ (h330 90 25) = (h31 90 25) ∧ (h330 90 26) = (h31 90 26) ∧ (h330 90 28) = (h31 90 28) ∧ (h330 90 29) = (h31 90 29) ∧ (h330 90 30) = (h31 90 30) ∧ (h330 90 34) = (h31 90 34) ∧ (h31 90 7) ≤ (h330 90 7) ∧ (h330 90 7) ≤ n ∧ (h31 90 8) ≤ (h330 90 8) ∧ (h31 90 13) ≤ (h330 90 13) ∧ (h330 90 13) - (h31 90 13) ≤ (h330 90 7) - (h31 90 7) := f312
              clear f312
              rw [show h31 97 = h 97 from E39] at y327
              rw [show h31 98 = h 98 from E40] at y327
              have y327_ : ∀ j : Int, j < 1100 + (h31 90 13) → (h330 97) j = (h 97) j ∧ (h330 98) j = (h 98) j := y327
              have y328_ : (h330 90 8) = 0 → ov_sg (h330 97) (h330 98) (h31 90 13) (h330 90 13) := y328
              have K347 : ∀ j : Int, j < 1100 + (h 90 13) → h330 97 j = h 97 j ∧ h330 98 j = h 98 j := fun j hj => y327_ j (by omega)
              have K348 : h330 90 8 = 0 → ov_sg (h330 97) (h330 98) (h 90 13) (h330 90 13) := fun e => by have q := y328_ e; rw [show (h31 90 13) = h 90 13 by omega] at q; exact q
              refine ov_blk (ls2 := [(0, ov_r 90), (1, ov_i dep), (2, ov_i j4), (5, ov_i j5)]) (st2 := [ov_i 0, ov_i 3, ov_r 90]) (pc2 := 139) b_230_136_3 rfl rfl ?_
              refine ov_cV (as := [ov_i 3, ov_i 0]) (st := []) (d2 := d - 1) d_230_139 lk_Mo_246 rfl (Nat.le_of_ble_eq_true rfl) (c := 1) (zb_90 I331) (zs_90 I331) ⟨by decide, rfl⟩ (by omega) (c_Mo_emit_90 (d - 1) (by omega) U I331 3 0 (by omega) (by omega) (by omega) (by show (h330 90 13) ≤ 999; omega)) ?_
              rintro _ z366 h367 ⟨rfl, I368, f349, e350, e351, e352, e353, e354, e355, e356, e357, e358, e359, e360, e361, e362, e363, y364, y365⟩
              have E369 : h367 91 = h 91 := Eq.trans e350 E332
              have E370 : h367 92 = h 92 := Eq.trans e351 E333
              have E371 : h367 93 = h 93 := Eq.trans e352 E334
              have E372 : h367 94 = h 94 := Eq.trans e353 E335
              have E373 : h367 95 = h 95 := Eq.trans e354 E336
              have E374 : h367 96 = h 96 := Eq.trans e355 E337
              have E375 : h367 99 = h 99 := Eq.trans e356 E338
              have E376 : h367 100 = h 100 := Eq.trans e357 E339
              have E377 : h367 103 = h 103 := Eq.trans e358 E340
              have E378 : h367 104 = h 104 := Eq.trans e359 E341
              have E379 : h367 105 = h 105 := Eq.trans e360 E342
              have E380 : h367 106 = h 106 := Eq.trans e361 E343
              have E381 : h367 109 = h 109 := Eq.trans e362 E344
              have E382 : h367 114 = h 114 := Eq.trans e363 E345
              show ov_R u d ov_m230 142 [(0, ov_r 90), (1, ov_i dep), (2, ov_i j4), (5, ov_i j5)] [] z366 h367 (P_Mo_takePart_90 F z h n dep)
              have f383 : (h367 90 2) = (h330 90 2) ∧ (h367 90 7) = (h330 90 7) ∧ (h367 90 8) = (h330 90 8) ∧ (h367 90 20) = (h330 90 20) ∧ (h367 90 22) = (h330 90 22) ∧ (h367 90 25) = (h330 90 25) ∧ (h367 90 26) = (h330 90 26) ∧ (h367 90 28) = (h330 90 28) ∧ (h367 90 29) = (h330 90 29) ∧ (h367 90 30) = (h330 90 30) ∧ (h367 90 34) = (h330 90 34) ∧ (h367 90 13) = (h330 90 13) + 1 := f349
              clear f349
              have y364_ : (h367 97) = ov_rs (h330 97) (1100 + (h330 90 13)) (3 : Int) := y364
              have y365_ : (h367 98) = ov_rs (h330 98) (1100 + (h330 90 13)) (0 : Int) := y365
              have K384 : ∀ j : Int, j < 1100 + (h 90 13) → h367 97 j = h 97 j ∧ h367 98 j = h 98 j := ov_kpe K347 y364_ y365_ (by omega)
              have K385 : h367 90 8 = 0 → ov_sg (h367 97) (h367 98) (h 90 13) (h367 90 13) := fun e => by have q1 := K348 (by omega); have q3 := ov_sg_un q1 y364_ y365_; rw [show h367 90 13 = (h330 90 13) + 1 by omega]; exact q3
              refine ov_goto (tgt := 212) d_230_142 (by decide) ?_
              exact ov_retv (st := []) d_230_212 rfl ⟨rfl, I368, (by show (h367 90 2) = (h 90 2) ∧ (h367 90 20) = (h 90 20) ∧ (h367 90 22) = (h 90 22) ∧ (h367 90 25) = (h 90 25) ∧ (h367 90 26) = (h 90 26) ∧ (h367 90 28) = (h 90 28) ∧ (h367 90 29) = (h 90 29) ∧ (h367 90 30) = (h 90 30) ∧ (h367 90 34) = (h 90 34) ∧ (h 90 7) ≤ (h367 90 7) ∧ (h367 90 7) ≤ n ∧ (h 90 8) ≤ (h367 90 8) ∧ (h 90 13) ≤ (h367 90 13) ∧ (h367 90 13) - (h 90 13) ≤ (h367 90 7) - (h 90 7); omega), E369, E370, E371, E372, E373, E374, E375, E376, E377, E378, E379, E380, E381, E382, K384, (fun e => by have e0 : (h367 90 8) = 0 := e; show ov_sg (h367 97) (h367 98) _ (h367 90 13); rw [show (h367 90 13) = (h367 90 13) by omega]; exact K385 (by omega))⟩
          · omega
        · skip
          refine ov_blk (ls2 := [(0, ov_r 90), (1, ov_i dep), (2, ov_i j4), (5, ov_i j5)]) (st2 := [ov_i 5, ov_r 90]) (pc2 := 109) b_230_107_2 rfl rfl ?_
          refine ov_cV (as := [ov_i 5]) (st := []) (d2 := d - 1) d_230_109 lk_Mo_186 rfl (Nat.le_of_ble_eq_true rfl) (c := 1) (zb_90 I) (zs_90 I) ⟨by decide, rfl⟩ (by omega) (c_Mo_wrong_90 (d - 1) (by omega) U I 5 (by omega) (by omega)) ?_
          rintro _ z403 h404 ⟨rfl, I405, f386, e387, e388, e389, e390, e391, e392, e393, e394, e395, e396, e397, e398, e399, e400, e401, e402⟩
          have E406 : h404 91 = h 91 := e387
          have E407 : h404 92 = h 92 := e388
          have E408 : h404 93 = h 93 := e389
          have E409 : h404 94 = h 94 := e390
          have E410 : h404 95 = h 95 := e391
          have E411 : h404 96 = h 96 := e392
          have E412 : h404 97 = h 97 := e393
          have E413 : h404 98 = h 98 := e394
          have E414 : h404 99 = h 99 := e395
          have E415 : h404 100 = h 100 := e396
          have E416 : h404 103 = h 103 := e397
          have E417 : h404 104 = h 104 := e398
          have E418 : h404 105 = h 105 := e399
          have E419 : h404 106 = h 106 := e400
          have E420 : h404 109 = h 109 := e401
          have E421 : h404 114 = h 114 := e402
          show ov_R u d ov_m230 112 [(0, ov_r 90), (1, ov_i dep), (2, ov_i j4), (5, ov_i j5)] [] z403 h404 (P_Mo_takePart_90 F z h n dep)
          have f422 : (h404 90 2) = (h 90 2) ∧ (h404 90 7) = (h 90 7) ∧ (h404 90 13) = (h 90 13) ∧ (h404 90 20) = (h 90 20) ∧ (h404 90 22) = (h 90 22) ∧ (h404 90 25) = (h 90 25) ∧ (h404 90 26) = (h 90 26) ∧ (h404 90 28) = (h 90 28) ∧ (h404 90 29) = (h 90 29) ∧ (h404 90 30) = (h 90 30) ∧ (h404 90 34) = (h 90 34) ∧ 0 < (h404 90 8) ∧ (h 90 8) ≤ (h404 90 8) := f386
          clear f386
          refine ov_blk (ls2 := [(0, ov_r 90), (1, ov_i dep), (2, ov_i j4), (5, ov_i j5)]) (st2 := [ov_r 90]) (pc2 := 113) b_230_112_1 rfl rfl ?_
          refine ov_getf (v := ov_i (h404 90 8)) d_230_113 fl_Mo_180 (zb_90 I405) (zs_90 I405) rfl ?_
          have g423 := rg_90_8 I405
          refine ov_ifle (tgt := 120) d_230_116 (by decide) (by omega) (fun c424 => ?_) (fun c424 => ?_)
          · omega
          · skip
            exact ov_retv (st := []) d_230_119 rfl ⟨rfl, I405, (by show (h404 90 2) = (h 90 2) ∧ (h404 90 20) = (h 90 20) ∧ (h404 90 22) = (h 90 22) ∧ (h404 90 25) = (h 90 25) ∧ (h404 90 26) = (h 90 26) ∧ (h404 90 28) = (h 90 28) ∧ (h404 90 29) = (h 90 29) ∧ (h404 90 30) = (h 90 30) ∧ (h404 90 34) = (h 90 34) ∧ (h 90 7) ≤ (h404 90 7) ∧ (h404 90 7) ≤ n ∧ (h 90 8) ≤ (h404 90 8) ∧ (h 90 13) ≤ (h404 90 13) ∧ (h404 90 13) - (h 90 13) ≤ (h404 90 7) - (h 90 7); omega), E406, E407, E408, E409, E410, E411, E414, E415, E416, E417, E418, E419, E420, E421, (fun j _ => by rw [show h404 97 = h 97 from E412, show h404 98 = h 98 from E413]; exact ⟨rfl, rfl⟩), (fun e => absurd e (by show ¬ (h404 90 8) = 0; omega))⟩
      refine ov_blk (ls2 := [(0, ov_r 90), (1, ov_i dep), (2, ov_i j4), (5, ov_i j5)]) (st2 := [ov_i j5]) (pc2 := 69) b_230_67_1 rfl rfl ?_
      refine ov_ifge (tgt := 102) d_230_69 (by decide) (by omega) (fun c425 => ?_) (fun c425 => ?_)
      · skip
        exact J7  (by show (0 ≤ j5 ∨ j4 = 1 ∨ ((h 90 8) = 0 ∧ (h 92 ((h 90 7))) = 3 ∧ (h 94 ((h 90 7))) = 40) ∨ ((h 90 8) = 0 ∧ (h 92 ((h 90 7))) = 1 ∧ (h 94 ((h 90 7))) = (h 95 (17)))); omega)
      · skip
        refine ov_blk (ls2 := [(0, ov_r 90), (1, ov_i dep), (2, ov_i j4), (5, ov_i j5)]) (st2 := [ov_i j4]) (pc2 := 73) b_230_72_1 rfl rfl ?_
        refine ov_ifne (tgt := 102) d_230_73 (by decide) (by omega) (fun c426 => ?_) (fun c426 => ?_)
        · skip
          exact J7  (by show (0 ≤ j5 ∨ j4 = 1 ∨ ((h 90 8) = 0 ∧ (h 92 ((h 90 7))) = 3 ∧ (h 94 ((h 90 7))) = 40) ∨ ((h 90 8) = 0 ∧ (h 92 ((h 90 7))) = 1 ∧ (h 94 ((h 90 7))) = (h 95 (17)))); omega)
        · skip
          refine ov_blk (ls2 := [(0, ov_r 90), (1, ov_i dep), (2, ov_i j4), (5, ov_i j5)]) (st2 := [ov_i 40, ov_r 90]) (pc2 := 79) b_230_76_2 rfl rfl ?_
          refine ov_cV (as := [ov_i 40]) (st := []) (d2 := d - 1) d_230_79 lk_Mo_183 rfl (Nat.le_of_ble_eq_true rfl) (c := 1) (zb_90 I) (zs_90 I) ⟨by decide, rfl⟩ (by omega) (c_Mo_isSign_90 n (d - 1) (by omega) U I 40 (by omega) (by show 0 ≤ n ∧ n ≤ 1000 ∧ (h 92 (n)) = 0 ∧ (h 90 7) ≤ n; omega)) ?_
          rintro _ _ _ ⟨v428, rfl, rfl, rfl, f427⟩
          show ov_R u d ov_m230 82 [(0, ov_r 90), (1, ov_i dep), (2, ov_i j4), (5, ov_i j5)] [ov_i v428] z h (P_Mo_takePart_90 F z h n dep)
          have f429 : (v428 = 0 ∨ v428 = 1) ∧ (v428 = 1 → (h 90 7) < n) ∧ (v428 = 1 → (h 90 8) = 0 ∧ (h 92 ((h 90 7))) = 3 ∧ (h 94 ((h 90 7))) = (40 : Int)) ∧ (v428 = 0 → ¬ ((h 90 8) = 0 ∧ (h 92 ((h 90 7))) = 3 ∧ (h 94 ((h 90 7))) = (40 : Int))) := f427
          clear f427
          refine ov_ifne (tgt := 102) d_230_82 (by decide) (by omega) (fun c430 => ?_) (fun c430 => ?_)
          · skip
            have f429_ : v428 = 1 := by omega
            have f431 : (h 90 7) < n := f429.2.1 (by omega)
            have f432 : (h 90 8) = 0 ∧ (h 92 ((h 90 7))) = 3 ∧ (h 94 ((h 90 7))) = (40 : Int) := f429.2.2.1 (by omega)
            clear f429
            exact J7  (by show (0 ≤ j5 ∨ j4 = 1 ∨ ((h 90 8) = 0 ∧ (h 92 ((h 90 7))) = 3 ∧ (h 94 ((h 90 7))) = 40) ∨ ((h 90 8) = 0 ∧ (h 92 ((h 90 7))) = 1 ∧ (h 94 ((h 90 7))) = (h 95 (17)))); omega)
          · skip
            have f429_ : v428 = 0 := by omega
            have f433 : ¬ ((h 90 8) = 0 ∧ (h 92 ((h 90 7))) = 3 ∧ (h 94 ((h 90 7))) = (40 : Int)) := f429.2.2.2 (by omega)
            clear f429
            refine ov_blk (ls2 := [(0, ov_r 90), (1, ov_i dep), (2, ov_i j4), (5, ov_i j5)]) (st2 := [ov_i 17, ov_r 90]) (pc2 := 88) b_230_85_2 rfl rfl ?_
            refine ov_cV (as := [ov_i 17]) (st := []) (d2 := d - 1) d_230_88 lk_Mo_189 rfl (Nat.le_of_ble_eq_true rfl) (c := 1) (zb_90 I) (zs_90 I) ⟨by decide, rfl⟩ (by omega) (c_Mo_isWord_90 n (d - 1) (by omega) U I 17 (by omega) (by show 0 ≤ n ∧ n ≤ 1000 ∧ (h 92 (n)) = 0 ∧ (h 90 7) ≤ n; omega) (by omega)) ?_
            rintro _ _ _ ⟨v435, rfl, rfl, rfl, f434⟩
            show ov_R u d ov_m230 91 [(0, ov_r 90), (1, ov_i dep), (2, ov_i j4), (5, ov_i j5)] [ov_i v435] z h (P_Mo_takePart_90 F z h n dep)
            have f436 : (v435 = 0 ∨ v435 = 1) ∧ (v435 = 1 → (h 90 7) < n) ∧ (v435 = 1 → (h 90 8) = 0 ∧ (h 92 ((h 90 7))) = 1 ∧ (h 94 ((h 90 7))) = (h 95 ((17 : Int)))) ∧ (v435 = 0 → ¬ ((h 90 8) = 0 ∧ (h 92 ((h 90 7))) = 1 ∧ (h 94 ((h 90 7))) = (h 95 ((17 : Int))))) := f434
            clear f434
            refine ov_ifne (tgt := 102) d_230_91 (by decide) (by omega) (fun c437 => ?_) (fun c437 => ?_)
            · skip
              have f436_ : v435 = 1 := by omega
              have f438 : (h 90 7) < n := f436.2.1 (by omega)
              have f439 : (h 90 8) = 0 ∧ (h 92 ((h 90 7))) = 1 ∧ (h 94 ((h 90 7))) = (h 95 ((17 : Int))) := f436.2.2.1 (by omega)
              clear f436
              exact J7  (by show (0 ≤ j5 ∨ j4 = 1 ∨ ((h 90 8) = 0 ∧ (h 92 ((h 90 7))) = 3 ∧ (h 94 ((h 90 7))) = 40) ∨ ((h 90 8) = 0 ∧ (h 92 ((h 90 7))) = 1 ∧ (h 94 ((h 90 7))) = (h 95 (17)))); omega)
            · skip
              have f436_ : v435 = 0 := by omega
              have f440 : ¬ ((h 90 8) = 0 ∧ (h 92 ((h 90 7))) = 1 ∧ (h 94 ((h 90 7))) = (h 95 ((17 : Int)))) := f436.2.2.2 (by omega)
              clear f436
              refine ov_blk (ls2 := [(0, ov_r 90), (1, ov_i dep), (2, ov_i j4), (5, ov_i j5)]) (st2 := [ov_i 1, ov_r 90]) (pc2 := 96) b_230_94_2 rfl rfl ?_
              refine ov_cV (as := [ov_i 1]) (st := []) (d2 := d - 1) d_230_96 lk_Mo_186 rfl (Nat.le_of_ble_eq_true rfl) (c := 1) (zb_90 I) (zs_90 I) ⟨by decide, rfl⟩ (by omega) (c_Mo_wrong_90 (d - 1) (by omega) U I 1 (by omega) (by omega)) ?_
              rintro _ z458 h459 ⟨rfl, I460, f441, e442, e443, e444, e445, e446, e447, e448, e449, e450, e451, e452, e453, e454, e455, e456, e457⟩
              have E461 : h459 91 = h 91 := e442
              have E462 : h459 92 = h 92 := e443
              have E463 : h459 93 = h 93 := e444
              have E464 : h459 94 = h 94 := e445
              have E465 : h459 95 = h 95 := e446
              have E466 : h459 96 = h 96 := e447
              have E467 : h459 97 = h 97 := e448
              have E468 : h459 98 = h 98 := e449
              have E469 : h459 99 = h 99 := e450
              have E470 : h459 100 = h 100 := e451
              have E471 : h459 103 = h 103 := e452
              have E472 : h459 104 = h 104 := e453
              have E473 : h459 105 = h 105 := e454
              have E474 : h459 106 = h 106 := e455
              have E475 : h459 109 = h 109 := e456
              have E476 : h459 114 = h 114 := e457
              show ov_R u d ov_m230 99 [(0, ov_r 90), (1, ov_i dep), (2, ov_i j4), (5, ov_i j5)] [] z458 h459 (P_Mo_takePart_90 F z h n dep)
              have f477 : (h459 90 2) = (h 90 2) ∧ (h459 90 7) = (h 90 7) ∧ (h459 90 13) = (h 90 13) ∧ (h459 90 20) = (h 90 20) ∧ (h459 90 22) = (h 90 22) ∧ (h459 90 25) = (h 90 25) ∧ (h459 90 26) = (h 90 26) ∧ (h459 90 28) = (h 90 28) ∧ (h459 90 29) = (h 90 29) ∧ (h459 90 30) = (h 90 30) ∧ (h459 90 34) = (h 90 34) ∧ 0 < (h459 90 8) ∧ (h 90 8) ≤ (h459 90 8) := f441
              clear f441
              refine ov_goto (tgt := 112) d_230_99 (by decide) ?_
              refine ov_blk (ls2 := [(0, ov_r 90), (1, ov_i dep), (2, ov_i j4), (5, ov_i j5)]) (st2 := [ov_r 90]) (pc2 := 113) b_230_112_1 rfl rfl ?_
              refine ov_getf (v := ov_i (h459 90 8)) d_230_113 fl_Mo_180 (zb_90 I460) (zs_90 I460) rfl ?_
              have g478 := rg_90_8 I460
              refine ov_ifle (tgt := 120) d_230_116 (by decide) (by omega) (fun c479 => ?_) (fun c479 => ?_)
              · omega
              · skip
                exact ov_retv (st := []) d_230_119 rfl ⟨rfl, I460, (by show (h459 90 2) = (h 90 2) ∧ (h459 90 20) = (h 90 20) ∧ (h459 90 22) = (h 90 22) ∧ (h459 90 25) = (h 90 25) ∧ (h459 90 26) = (h 90 26) ∧ (h459 90 28) = (h 90 28) ∧ (h459 90 29) = (h 90 29) ∧ (h459 90 30) = (h 90 30) ∧ (h459 90 34) = (h 90 34) ∧ (h 90 7) ≤ (h459 90 7) ∧ (h459 90 7) ≤ n ∧ (h 90 8) ≤ (h459 90 8) ∧ (h 90 13) ≤ (h459 90 13) ∧ (h459 90 13) - (h 90 13) ≤ (h459 90 7) - (h 90 7); omega), E461, E462, E463, E464, E465, E466, E469, E470, E471, E472, E473, E474, E475, E476, (fun j _ => by rw [show h459 97 = h 97 from E467, show h459 98 = h 98 from E468]; exact ⟨rfl, rfl⟩), (fun e => absurd e (by show ¬ (h459 90 8) = 0; omega))⟩
    refine ov_blk (ls2 := [(0, ov_r 90), (1, ov_i dep)]) (st2 := [ov_r 90]) (pc2 := 9) b_230_8_1 rfl rfl ?_
    refine ov_getf (v := ov_r 92) d_230_9 fl_Mo_24 (zb_90 I) (zs_90 I) (congrArg ov_r (rg_90_4 I)) ?_
    refine ov_blk (ls2 := [(0, ov_r 90), (1, ov_i dep)]) (st2 := [ov_r 90, ov_r 92]) (pc2 := 13) b_230_12_1 rfl rfl ?_
    refine ov_getf (v := ov_i (h 90 7)) d_230_13 fl_Mo_177 (zb_90 I) (zs_90 I) rfl ?_
    have g480 := rg_90_7 I
    refine ov_iald d_230_16 (zb_92 I) (zs_92 I) (by omega) ?_
    have g481 := ra_92 I (h 90 7)
    refine ov_blk (ls2 := [(0, ov_r 90), (1, ov_i dep)]) (st2 := [ov_i 2, ov_i (h 92 (h 90 7))]) (pc2 := 18) b_230_17_1 rfl rfl ?_
    refine ov_icne (tgt := 25) d_230_18 (by decide) (by omega) (by omega) (fun c482 => ?_) (fun c482 => ?_)
    · skip
      refine ov_blk (ls2 := [(0, ov_r 90), (1, ov_i dep), (2, ov_i 0)]) (st2 := [ov_i 2, ov_i 10, ov_r 90]) (pc2 := 31) b_230_25_5 rfl rfl ?_
      refine ov_cV (as := [ov_i 10, ov_i 2]) (st := []) (d2 := d - 1) d_230_31 lk_Mo_202 rfl (Nat.le_of_ble_eq_true rfl) (c := 1) (zb_90 I) (zs_90 I) ⟨by decide, rfl⟩ (by omega) (c_Mo_wordHere_90 n (d - 1) (by omega) U I 10 2 (by omega) (by omega) (by show 0 ≤ n ∧ n ≤ 1000 ∧ (h 92 (n)) = 0 ∧ (h 90 7) ≤ n; omega) (by omega)) ?_
      rintro _ _ _ ⟨v484, rfl, rfl, rfl, f483⟩
      show ov_R u d ov_m230 34 [(0, ov_r 90), (1, ov_i dep), (2, ov_i 0)] [ov_i v484] z h (P_Mo_takePart_90 F z h n dep)
      have f485 : -1 ≤ v484 ∧ v484 < (2 : Int) ∧ (0 ≤ v484 → (h 90 7) < n ∧ (h 90 8) = 0) := f483
      clear f483
      refine ov_blk (ls2 := [(0, ov_r 90), (1, ov_i dep), (2, ov_i 0), (3, ov_i v484)]) (st2 := [ov_i 2, ov_i 20, ov_r 90]) (pc2 := 39) b_230_34_4 rfl rfl ?_
      refine ov_cV (as := [ov_i 20, ov_i 2]) (st := []) (d2 := d - 1) d_230_39 lk_Mo_202 rfl (Nat.le_of_ble_eq_true rfl) (c := 1) (zb_90 I) (zs_90 I) ⟨by decide, rfl⟩ (by omega) (c_Mo_wordHere_90 n (d - 1) (by omega) U I 20 2 (by omega) (by omega) (by show 0 ≤ n ∧ n ≤ 1000 ∧ (h 92 (n)) = 0 ∧ (h 90 7) ≤ n; omega) (by omega)) ?_
      rintro _ _ _ ⟨v487, rfl, rfl, rfl, f486⟩
      show ov_R u d ov_m230 42 [(0, ov_r 90), (1, ov_i dep), (2, ov_i 0), (3, ov_i v484)] [ov_i v487] z h (P_Mo_takePart_90 F z h n dep)
      have f488 : -1 ≤ v487 ∧ v487 < (2 : Int) ∧ (0 ≤ v487 → (h 90 7) < n ∧ (h 90 8) = 0) := f486
      clear f486
      refine ov_blk (ls2 := [(0, ov_r 90), (1, ov_i dep), (2, ov_i 0), (3, ov_i v484), (4, ov_i v487)]) (st2 := [ov_i v484]) (pc2 := 45) b_230_42_2 rfl rfl ?_
      refine ov_iflt (tgt := 52) d_230_45 (by decide) (by omega) (fun c489 => ?_) (fun c489 => ?_)
      · skip
        refine ov_blk (ls2 := [(0, ov_r 90), (1, ov_i dep), (2, ov_i 0), (3, ov_i v484), (4, ov_i v487)]) (st2 := [ov_i v487]) (pc2 := 54) b_230_52_1 rfl rfl ?_
        refine ov_iflt (tgt := 64) d_230_54 (by decide) (by omega) (fun c490 => ?_) (fun c490 => ?_)
        · skip
          refine ov_blk (ls2 := [(0, ov_r 90), (1, ov_i dep), (2, ov_i 0), (3, ov_i v484), (4, ov_i v487), (5, ov_i (-1))]) (st2 := []) (pc2 := 67) b_230_64_2 rfl rfl ?_
          refine ov_sub (ls2 := [(0, ov_r 90), (1, ov_i dep), (2, ov_i 0), (5, ov_i (-1))]) (List.Sublist.subset (by repeat (first | exact List.Sublist.refl _ | apply List.Sublist.cons_cons | apply List.Sublist.cons))) ?_
          exact J3 0 (-1) (by show (0 = 0 ∨ 0 = 1) ∧ (0 = 1 → (h 92 ((h 90 7))) = 2) ∧ -1 ≤ (-1) ∧ (-1) ≤ 3 ∧ (0 ≤ (-1) → (h 90 7) < n); omega)
        · skip
          refine ov_blk (ls2 := [(0, ov_r 90), (1, ov_i dep), (2, ov_i 0), (3, ov_i v484), (4, ov_i v487)]) (st2 := [ov_i (2 + v487)]) (pc2 := 61) b_230_57_3 rfl rfl ?_
          refine ov_goto (tgt := 65) d_230_61 (by decide) ?_
          refine ov_blk (ls2 := [(0, ov_r 90), (1, ov_i dep), (2, ov_i 0), (3, ov_i v484), (4, ov_i v487), (5, ov_i (2 + v487))]) (st2 := []) (pc2 := 67) b_230_65_1 rfl rfl ?_
          refine ov_sub (ls2 := [(0, ov_r 90), (1, ov_i dep), (2, ov_i 0), (5, ov_i (2 + v487))]) (List.Sublist.subset (by repeat (first | exact List.Sublist.refl _ | apply List.Sublist.cons_cons | apply List.Sublist.cons))) ?_
          exact J3 0 (2 + v487) (by show (0 = 0 ∨ 0 = 1) ∧ (0 = 1 → (h 92 ((h 90 7))) = 2) ∧ -1 ≤ (2 + v487) ∧ (2 + v487) ≤ 3 ∧ (0 ≤ (2 + v487) → (h 90 7) < n); omega)
      · skip
        refine ov_blk (ls2 := [(0, ov_r 90), (1, ov_i dep), (2, ov_i 0), (3, ov_i v484), (4, ov_i v487)]) (st2 := [ov_i v484]) (pc2 := 49) b_230_48_1 rfl rfl ?_
        refine ov_goto (tgt := 65) d_230_49 (by decide) ?_
        refine ov_blk (ls2 := [(0, ov_r 90), (1, ov_i dep), (2, ov_i 0), (3, ov_i v484), (4, ov_i v487), (5, ov_i v484)]) (st2 := []) (pc2 := 67) b_230_65_1 rfl rfl ?_
        refine ov_sub (ls2 := [(0, ov_r 90), (1, ov_i dep), (2, ov_i 0), (5, ov_i v484)]) (List.Sublist.subset (by repeat (first | exact List.Sublist.refl _ | apply List.Sublist.cons_cons | apply List.Sublist.cons))) ?_
        exact J3 0 v484 (by show (0 = 0 ∨ 0 = 1) ∧ (0 = 1 → (h 92 ((h 90 7))) = 2) ∧ -1 ≤ v484 ∧ v484 ≤ 3 ∧ (0 ≤ v484 → (h 90 7) < n); omega)
    · skip
      refine ov_blk (ls2 := [(0, ov_r 90), (1, ov_i dep)]) (st2 := [ov_i 1]) (pc2 := 22) b_230_21_1 rfl rfl ?_
      refine ov_goto (tgt := 26) d_230_22 (by decide) ?_
      refine ov_blk (ls2 := [(0, ov_r 90), (1, ov_i dep), (2, ov_i 1)]) (st2 := [ov_i 2, ov_i 10, ov_r 90]) (pc2 := 31) b_230_26_4 rfl rfl ?_
      refine ov_cV (as := [ov_i 10, ov_i 2]) (st := []) (d2 := d - 1) d_230_31 lk_Mo_202 rfl (Nat.le_of_ble_eq_true rfl) (c := 1) (zb_90 I) (zs_90 I) ⟨by decide, rfl⟩ (by omega) (c_Mo_wordHere_90 n (d - 1) (by omega) U I 10 2 (by omega) (by omega) (by show 0 ≤ n ∧ n ≤ 1000 ∧ (h 92 (n)) = 0 ∧ (h 90 7) ≤ n; omega) (by omega)) ?_
      rintro _ _ _ ⟨v492, rfl, rfl, rfl, f491⟩
      show ov_R u d ov_m230 34 [(0, ov_r 90), (1, ov_i dep), (2, ov_i 1)] [ov_i v492] z h (P_Mo_takePart_90 F z h n dep)
      have f493 : -1 ≤ v492 ∧ v492 < (2 : Int) ∧ (0 ≤ v492 → (h 90 7) < n ∧ (h 90 8) = 0) := f491
      clear f491
      refine ov_blk (ls2 := [(0, ov_r 90), (1, ov_i dep), (2, ov_i 1), (3, ov_i v492)]) (st2 := [ov_i 2, ov_i 20, ov_r 90]) (pc2 := 39) b_230_34_4 rfl rfl ?_
      refine ov_cV (as := [ov_i 20, ov_i 2]) (st := []) (d2 := d - 1) d_230_39 lk_Mo_202 rfl (Nat.le_of_ble_eq_true rfl) (c := 1) (zb_90 I) (zs_90 I) ⟨by decide, rfl⟩ (by omega) (c_Mo_wordHere_90 n (d - 1) (by omega) U I 20 2 (by omega) (by omega) (by show 0 ≤ n ∧ n ≤ 1000 ∧ (h 92 (n)) = 0 ∧ (h 90 7) ≤ n; omega) (by omega)) ?_
      rintro _ _ _ ⟨v495, rfl, rfl, rfl, f494⟩
      show ov_R u d ov_m230 42 [(0, ov_r 90), (1, ov_i dep), (2, ov_i 1), (3, ov_i v492)] [ov_i v495] z h (P_Mo_takePart_90 F z h n dep)
      have f496 : -1 ≤ v495 ∧ v495 < (2 : Int) ∧ (0 ≤ v495 → (h 90 7) < n ∧ (h 90 8) = 0) := f494
      clear f494
      refine ov_blk (ls2 := [(0, ov_r 90), (1, ov_i dep), (2, ov_i 1), (3, ov_i v492), (4, ov_i v495)]) (st2 := [ov_i v492]) (pc2 := 45) b_230_42_2 rfl rfl ?_
      refine ov_iflt (tgt := 52) d_230_45 (by decide) (by omega) (fun c497 => ?_) (fun c497 => ?_)
      · skip
        refine ov_blk (ls2 := [(0, ov_r 90), (1, ov_i dep), (2, ov_i 1), (3, ov_i v492), (4, ov_i v495)]) (st2 := [ov_i v495]) (pc2 := 54) b_230_52_1 rfl rfl ?_
        refine ov_iflt (tgt := 64) d_230_54 (by decide) (by omega) (fun c498 => ?_) (fun c498 => ?_)
        · skip
          refine ov_blk (ls2 := [(0, ov_r 90), (1, ov_i dep), (2, ov_i 1), (3, ov_i v492), (4, ov_i v495), (5, ov_i (-1))]) (st2 := []) (pc2 := 67) b_230_64_2 rfl rfl ?_
          refine ov_sub (ls2 := [(0, ov_r 90), (1, ov_i dep), (2, ov_i 1), (5, ov_i (-1))]) (List.Sublist.subset (by repeat (first | exact List.Sublist.refl _ | apply List.Sublist.cons_cons | apply List.Sublist.cons))) ?_
          exact J3 1 (-1) (by show (1 = 0 ∨ 1 = 1) ∧ (1 = 1 → (h 92 ((h 90 7))) = 2) ∧ -1 ≤ (-1) ∧ (-1) ≤ 3 ∧ (0 ≤ (-1) → (h 90 7) < n); omega)
        · skip
          refine ov_blk (ls2 := [(0, ov_r 90), (1, ov_i dep), (2, ov_i 1), (3, ov_i v492), (4, ov_i v495)]) (st2 := [ov_i (2 + v495)]) (pc2 := 61) b_230_57_3 rfl rfl ?_
          refine ov_goto (tgt := 65) d_230_61 (by decide) ?_
          refine ov_blk (ls2 := [(0, ov_r 90), (1, ov_i dep), (2, ov_i 1), (3, ov_i v492), (4, ov_i v495), (5, ov_i (2 + v495))]) (st2 := []) (pc2 := 67) b_230_65_1 rfl rfl ?_
          refine ov_sub (ls2 := [(0, ov_r 90), (1, ov_i dep), (2, ov_i 1), (5, ov_i (2 + v495))]) (List.Sublist.subset (by repeat (first | exact List.Sublist.refl _ | apply List.Sublist.cons_cons | apply List.Sublist.cons))) ?_
          exact J3 1 (2 + v495) (by show (1 = 0 ∨ 1 = 1) ∧ (1 = 1 → (h 92 ((h 90 7))) = 2) ∧ -1 ≤ (2 + v495) ∧ (2 + v495) ≤ 3 ∧ (0 ≤ (2 + v495) → (h 90 7) < n); omega)
      · skip
        refine ov_blk (ls2 := [(0, ov_r 90), (1, ov_i dep), (2, ov_i 1), (3, ov_i v492), (4, ov_i v495)]) (st2 := [ov_i v492]) (pc2 := 49) b_230_48_1 rfl rfl ?_
        refine ov_goto (tgt := 65) d_230_49 (by decide) ?_
        refine ov_blk (ls2 := [(0, ov_r 90), (1, ov_i dep), (2, ov_i 1), (3, ov_i v492), (4, ov_i v495), (5, ov_i v492)]) (st2 := []) (pc2 := 67) b_230_65_1 rfl rfl ?_
        refine ov_sub (ls2 := [(0, ov_r 90), (1, ov_i dep), (2, ov_i 1), (5, ov_i v492)]) (List.Sublist.subset (by repeat (first | exact List.Sublist.refl _ | apply List.Sublist.cons_cons | apply List.Sublist.cons))) ?_
        exact J3 1 v492 (by show (1 = 0 ∨ 1 = 1) ∧ (1 = 1 → (h 92 ((h 90 7))) = 2) ∧ -1 ≤ v492 ∧ v492 ≤ 3 ∧ (0 ≤ v492 → (h 90 7) < n); omega)
  · skip
    exact ov_retv (st := []) d_230_7 rfl ⟨rfl, I, ⟨rfl, rfl, rfl, rfl, rfl, rfl, rfl, rfl, rfl, (by show (h 90 7) ≤ (h 90 7) ∧ (h 90 7) ≤ n ∧ (h 90 8) ≤ (h 90 8) ∧ (h 90 13) ≤ (h 90 13) ∧ (h 90 13) - (h 90 13) ≤ (h 90 7) - (h 90 7); omega)⟩, rfl, rfl, rfl, rfl, rfl, rfl, rfl, rfl, rfl, rfl, rfl, rfl, rfl, rfl, (fun j _ => ⟨rfl, rfl⟩), (fun e => absurd e (by show ¬ (h 90 8) = 0; omega))⟩
set_option maxHeartbeats 4000000 in
theorem c_Mo_products_90 {u : ov_U} {F : ov_H × ov_Z} (n : Int) (k : Nat) (HE : ∀ k' : Nat, k' + 1 = k → ∀ {z : ov_Z} {h : ov_H} (d : Nat) (hd : (10 + 5 * k' + 4) ≤ d) (U : ov_cap u) (I : ov_N F z h) (dep : Int) (g_dep : ov_g dep) (p0 : 0 ≤ n ∧ n ≤ 1000 ∧ (h 92 (n)) = 0 ∧ (h 90 7) ≤ n) (p1 : 0 ≤ dep ∧ dep + (k' : Int) = 5) (p2 : (h 90 13) ≤ (h 90 7)), ov_T u d ov_m226 [ov_r 90, ov_i dep] z h (P_Mo_all_90 F z h n dep)) (HP : ∀ k' : Nat, k' + 1 = k → ∀ {z : ov_Z} {h : ov_H} (d : Nat) (hd : (10 + 5 * k' + 0) ≤ d) (U : ov_cap u) (I : ov_N F z h) (dep : Int) (g_dep : ov_g dep) (p0 : 0 ≤ n ∧ n ≤ 1000 ∧ (h 92 (n)) = 0 ∧ (h 90 7) ≤ n) (p1 : 0 ≤ dep ∧ dep + (k' : Int) = 5) (p2 : (h 90 13) ≤ (h 90 7)), ov_T u d ov_m230 [ov_r 90, ov_i dep] z h (P_Mo_takePart_90 F z h n dep)) {z : ov_Z} {h : ov_H} (d : Nat) (hd : (10 + 5 * k + 1) ≤ d) (U : ov_cap u) (I : ov_N F z h) (dep : Int) (g_dep : ov_g dep) (p0 : 0 ≤ n ∧ n ≤ 1000 ∧ (h 92 (n)) = 0 ∧ (h 90 7) ≤ n) (p1 : 0 ≤ dep ∧ dep + (k : Int) = 5) (p2 : (h 90 13) ≤ (h 90 7)) : ov_T u d ov_m229 [ov_r 90, ov_i dep] z h (P_Mo_products_90 F z h n dep) := by
  refine ov_en rfl (Nat.le_of_ble_eq_true rfl) ?_
  show ov_R u d ov_m229 0 [(0, ov_r 90), (1, ov_i dep)] [] z h (P_Mo_products_90 F z h n dep)
  have gq7 := rg_90_7 I
  refine ov_blk (ls2 := [(0, ov_r 90), (1, ov_i dep)]) (st2 := [ov_i dep, ov_r 90]) (pc2 := 2) b_229_0_2 rfl rfl ?_
  refine ov_cV (as := [ov_i dep]) (st := []) (d2 := d - 1) d_229_2 lk_Mo_269 rfl (Nat.le_of_ble_eq_true rfl) (c := 1) (zb_90 I) (zs_90 I) ⟨by decide, rfl⟩ (by omega) (c_Mo_takePart_90 n k HE HP (d - 1) (by omega) U I dep (by omega) (by show 0 ≤ n ∧ n ≤ 1000 ∧ (h 92 (n)) = 0 ∧ (h 90 7) ≤ n; omega) (by omega) (by show (h 90 13) ≤ (h 90 7); omega)) ?_
  rintro _ z18 h19 ⟨rfl, I20, f1, e2, e3, e4, e5, e6, e7, e8, e9, e10, e11, e12, e13, e14, e15, y16, y17⟩
  have E21 : h19 91 = h 91 := e2
  have E22 : h19 92 = h 92 := e3
  have E23 : h19 93 = h 93 := e4
  have E24 : h19 94 = h 94 := e5
  have E25 : h19 95 = h 95 := e6
  have E26 : h19 96 = h 96 := e7
  have E27 : h19 99 = h 99 := e8
  have E28 : h19 100 = h 100 := e9
  have E29 : h19 103 = h 103 := e10
  have E30 : h19 104 = h 104 := e11
  have E31 : h19 105 = h 105 := e12
  have E32 : h19 106 = h 106 := e13
  have E33 : h19 109 = h 109 := e14
  have E34 : h19 114 = h 114 := e15
  show ov_R u d ov_m229 5 [(0, ov_r 90), (1, ov_i dep)] [] z18 h19 (P_Mo_products_90 F z h n dep)
  have f35 : (h19 90 2) = (h 90 2) ∧ (h19 90 20) = (h 90 20) ∧ (h19 90 22) = (h 90 22) ∧ (h19 90 25) = (h 90 25) ∧ (h19 90 26) = (h 90 26) ∧ (h19 90 28) = (h 90 28) ∧ (h19 90 29) = (h 90 29) ∧ (h19 90 30) = (h 90 30) ∧ (h19 90 34) = (h 90 34) ∧ (h 90 7) ≤ (h19 90 7) ∧ (h19 90 7) ≤ n ∧ (h 90 8) ≤ (h19 90 8) ∧ (h 90 13) ≤ (h19 90 13) ∧ (h19 90 13) - (h 90 13) ≤ (h19 90 7) - (h 90 7) := f1
  clear f1
  have y16_ : ∀ j : Int, j < 1100 + (h 90 13) → (h19 97) j = (h 97) j ∧ (h19 98) j = (h 98) j := y16
  have y17_ : (h19 90 8) = 0 → ov_sg (h19 97) (h19 98) (h 90 13) (h19 90 13) := y17
  have K36 : ∀ j : Int, j < 1100 + (h 90 13) → h19 97 j = h 97 j ∧ h19 98 j = h 98 j := fun j hj => y16_ j (by omega)
  have K37 : h19 90 8 = 0 → ov_sg (h19 97) (h19 98) (h 90 13) (h19 90 13) := fun e => by have q := y17_ e; rw [show (h 90 13) = h 90 13 by omega] at q; exact q
  have L41 : ∀ (n38 : Nat) (z42 : ov_Z) (h43 : ov_H) (I44 : ov_N F z42 h43) (E45 : h43 91 = h 91) (E46 : h43 92 = h 92) (E47 : h43 93 = h 93) (E48 : h43 94 = h 94) (E49 : h43 95 = h 95) (E50 : h43 96 = h 96) (E51 : h43 99 = h 99) (E52 : h43 100 = h 100) (E53 : h43 103 = h 103) (E54 : h43 104 = h 104) (E55 : h43 105 = h 105) (E56 : h43 106 = h 106) (E57 : h43 109 = h 109) (E58 : h43 114 = h 114) (xa : ∀ j : Int, j < 1100 + (h 90 13) → (h43 97) j = (h 97) j ∧ (h43 98) j = (h 98) j) (xb : (h43 90 8) = 0 → ov_sg (h43 97) (h43 98) (h 90 13) (h43 90 13)) (q40 : (h 90 7) ≤ (h43 90 7) ∧ (h43 90 7) ≤ n ∧ (h 90 8) ≤ (h43 90 8) ∧ (h 90 13) ≤ (h43 90 13) ∧ (h43 90 13) - (h 90 13) ≤ (h43 90 7) - (h 90 7) ∧ (h43 90 2) = (h19 90 2) ∧ (h43 90 20) = (h19 90 20) ∧ (h43 90 22) = (h19 90 22) ∧ (h43 90 25) = (h19 90 25) ∧ (h43 90 26) = (h19 90 26) ∧ (h43 90 28) = (h19 90 28) ∧ (h43 90 29) = (h19 90 29) ∧ (h43 90 30) = (h19 90 30) ∧ (h43 90 34) = (h19 90 34)), 1000 - (h43 90 7) < (n38 : Int) → ov_R u d ov_m229 5 [(0, ov_r 90), (1, ov_i dep)] [] z42 h43 (P_Mo_products_90 F z h n dep) := by
    intro n38
    induction n38 with
    | zero =>
      intro  z42 h43 I44 E45 E46 E47 E48 E49 E50 E51 E52 E53 E54 E55 E56 E57 E58 xa xb q40 hn59
      exact absurd hn59 (by omega)
    | succ n38 ih39 =>
      intro  z42 h43 I44 E45 E46 E47 E48 E49 E50 E51 E52 E53 E54 E55 E56 E57 E58 xa xb q40 hn59
      refine ov_blk (ls2 := [(0, ov_r 90), (1, ov_i dep)]) (st2 := [ov_r 90]) (pc2 := 6) b_229_5_1 rfl rfl ?_
      refine ov_blk (ls2 := [(0, ov_r 90), (1, ov_i dep)]) (st2 := [ov_i 42, ov_r 90]) (pc2 := 8) b_229_6_1 rfl rfl ?_
      have cf60 : h43 92 (n) = h 92 (n) := congrFun E46 (n)
      refine ov_cV (as := [ov_i 42]) (st := []) (d2 := d - 1) d_229_8 lk_Mo_263 rfl (Nat.le_of_ble_eq_true rfl) (c := 1) (zb_90 I44) (zs_90 I44) ⟨by decide, rfl⟩ (by omega) (c_Mo_hasSign_90 n (d - 1) (by omega) U I44 42 (by omega) (by show 0 ≤ n ∧ n ≤ 1000 ∧ (h43 92 (n)) = 0 ∧ (h43 90 7) ≤ n; omega)) ?_
      rintro _ z79 h80 ⟨v62, rfl, I81, f61, e63, e64, e65, e66, e67, e68, e69, e70, e71, e72, e73, e74, e75, e76, e77, e78⟩
      have E82 : h80 91 = h 91 := Eq.trans e63 E45
      have E83 : h80 92 = h 92 := Eq.trans e64 E46
      have E84 : h80 93 = h 93 := Eq.trans e65 E47
      have E85 : h80 94 = h 94 := Eq.trans e66 E48
      have E86 : h80 95 = h 95 := Eq.trans e67 E49
      have E87 : h80 96 = h 96 := Eq.trans e68 E50
      have E88 : h80 97 = h43 97 := e69
      have E89 : h80 98 = h43 98 := e70
      have E90 : h80 99 = h 99 := Eq.trans e71 E51
      have E91 : h80 100 = h 100 := Eq.trans e72 E52
      have E92 : h80 103 = h 103 := Eq.trans e73 E53
      have E93 : h80 104 = h 104 := Eq.trans e74 E54
      have E94 : h80 105 = h 105 := Eq.trans e75 E55
      have E95 : h80 106 = h 106 := Eq.trans e76 E56
      have E96 : h80 109 = h 109 := Eq.trans e77 E57
      have E97 : h80 114 = h 114 := Eq.trans e78 E58
      show ov_R u d ov_m229 11 [(0, ov_r 90), (1, ov_i dep)] [ov_i v62] z79 h80 (P_Mo_products_90 F z h n dep)
      rw [show h43 92 = h 92 from E46] at f61
      rw [show h43 94 = h 94 from E48] at f61
      have f98 : (h80 90 2) = (h43 90 2) ∧ (h80 90 8) = (h43 90 8) ∧ (h80 90 13) = (h43 90 13) ∧ (h80 90 20) = (h43 90 20) ∧ (h80 90 22) = (h43 90 22) ∧ (h80 90 25) = (h43 90 25) ∧ (h80 90 26) = (h43 90 26) ∧ (h80 90 28) = (h43 90 28) ∧ (h80 90 29) = (h43 90 29) ∧ (h80 90 30) = (h43 90 30) ∧ (h80 90 34) = (h43 90 34) ∧ (v62 = 0 ∨ v62 = 1) ∧ (h43 90 7) ≤ (h80 90 7) ∧ (h80 90 7) ≤ n ∧ (v62 = 1 → (h80 90 7) = (h43 90 7) + 1 ∧ (h43 90 8) = 0) ∧ (v62 = 0 → (h80 90 7) = (h43 90 7)) ∧ (v62 = 1 → (h43 90 8) = 0 ∧ (h 92 ((h43 90 7))) = 3 ∧ (h 94 ((h43 90 7))) = (42 : Int)) ∧ (v62 = 0 → ¬ ((h43 90 8) = 0 ∧ (h 92 ((h43 90 7))) = 3 ∧ (h 94 ((h43 90 7))) = (42 : Int))) := f61
      clear f61
      refine ov_ifeq (tgt := 29) d_229_11 (by decide) (by omega) (fun c99 => ?_) (fun c99 => ?_)
      · skip
        have f98_ : v62 = 0 := by omega
        have f100 : (h80 90 2) = (h43 90 2) := f98.1
        have f101 : (h80 90 8) = (h43 90 8) := f98.2.1
        have f102 : (h80 90 13) = (h43 90 13) := f98.2.2.1
        have f103 : (h80 90 20) = (h43 90 20) := f98.2.2.2.1
        have f104 : (h80 90 22) = (h43 90 22) := f98.2.2.2.2.1
        have f105 : (h80 90 25) = (h43 90 25) := f98.2.2.2.2.2.1
        have f106 : (h80 90 26) = (h43 90 26) := f98.2.2.2.2.2.2.1
        have f107 : (h80 90 28) = (h43 90 28) := f98.2.2.2.2.2.2.2.1
        have f108 : (h80 90 29) = (h43 90 29) := f98.2.2.2.2.2.2.2.2.1
        have f109 : (h80 90 30) = (h43 90 30) := f98.2.2.2.2.2.2.2.2.2.1
        have f110 : (h80 90 34) = (h43 90 34) := f98.2.2.2.2.2.2.2.2.2.2.1
        have f111 : (h43 90 7) ≤ (h80 90 7) := f98.2.2.2.2.2.2.2.2.2.2.2.2.1
        have f112 : (h80 90 7) ≤ n := f98.2.2.2.2.2.2.2.2.2.2.2.2.2.1
        have f113 : (h80 90 7) = (h43 90 7) := f98.2.2.2.2.2.2.2.2.2.2.2.2.2.2.2.1 (by omega)
        have f114 : ¬ ((h43 90 8) = 0 ∧ (h 92 ((h43 90 7))) = 3 ∧ (h 94 ((h43 90 7))) = (42 : Int)) := f98.2.2.2.2.2.2.2.2.2.2.2.2.2.2.2.2.2 (by omega)
        clear f98
        exact ov_retv (st := []) d_229_29 rfl ⟨rfl, I81, (by show (h80 90 2) = (h 90 2) ∧ (h80 90 20) = (h 90 20) ∧ (h80 90 22) = (h 90 22) ∧ (h80 90 25) = (h 90 25) ∧ (h80 90 26) = (h 90 26) ∧ (h80 90 28) = (h 90 28) ∧ (h80 90 29) = (h 90 29) ∧ (h80 90 30) = (h 90 30) ∧ (h80 90 34) = (h 90 34) ∧ (h 90 7) ≤ (h80 90 7) ∧ (h80 90 7) ≤ n ∧ (h 90 8) ≤ (h80 90 8) ∧ (h 90 13) ≤ (h80 90 13) ∧ (h80 90 13) - (h 90 13) ≤ (h80 90 7) - (h 90 7); omega), E82, E83, E84, E85, E86, E87, E90, E91, E92, E93, E94, E95, E96, E97, (by rw [show h80 97 = h43 97 from E88, show h80 98 = h43 98 from E89]; exact xa), (fun e => by have e0 : (h80 90 8) = 0 := e; show ov_sg (h80 97) (h80 98) _ (h80 90 13); rw [show h80 97 = h43 97 from E88, show h80 98 = h43 98 from E89, show (h80 90 13) = (h43 90 13) by omega]; exact xb (by omega))⟩
      · skip
        have f98_ : v62 = 1 := by omega
        have f115 : (h80 90 2) = (h43 90 2) := f98.1
        have f116 : (h80 90 8) = (h43 90 8) := f98.2.1
        have f117 : (h80 90 13) = (h43 90 13) := f98.2.2.1
        have f118 : (h80 90 20) = (h43 90 20) := f98.2.2.2.1
        have f119 : (h80 90 22) = (h43 90 22) := f98.2.2.2.2.1
        have f120 : (h80 90 25) = (h43 90 25) := f98.2.2.2.2.2.1
        have f121 : (h80 90 26) = (h43 90 26) := f98.2.2.2.2.2.2.1
        have f122 : (h80 90 28) = (h43 90 28) := f98.2.2.2.2.2.2.2.1
        have f123 : (h80 90 29) = (h43 90 29) := f98.2.2.2.2.2.2.2.2.1
        have f124 : (h80 90 30) = (h43 90 30) := f98.2.2.2.2.2.2.2.2.2.1
        have f125 : (h80 90 34) = (h43 90 34) := f98.2.2.2.2.2.2.2.2.2.2.1
        have f126 : (h43 90 7) ≤ (h80 90 7) := f98.2.2.2.2.2.2.2.2.2.2.2.2.1
        have f127 : (h80 90 7) ≤ n := f98.2.2.2.2.2.2.2.2.2.2.2.2.2.1
        have f128 : (h80 90 7) = (h43 90 7) + 1 ∧ (h43 90 8) = 0 := f98.2.2.2.2.2.2.2.2.2.2.2.2.2.2.1 (by omega)
        have f129 : (h43 90 8) = 0 ∧ (h 92 ((h43 90 7))) = 3 ∧ (h 94 ((h43 90 7))) = (42 : Int) := f98.2.2.2.2.2.2.2.2.2.2.2.2.2.2.2.2.1 (by omega)
        clear f98
        refine ov_blk (ls2 := [(0, ov_r 90), (1, ov_i dep)]) (st2 := [ov_i dep, ov_r 90]) (pc2 := 16) b_229_14_2 rfl rfl ?_
        have cf130 : h80 92 (n) = h 92 (n) := congrFun E83 (n)
        refine ov_cV (as := [ov_i dep]) (st := []) (d2 := d - 1) d_229_16 lk_Mo_269 rfl (Nat.le_of_ble_eq_true rfl) (c := 1) (zb_90 I81) (zs_90 I81) ⟨by decide, rfl⟩ (by omega) (c_Mo_takePart_90 n k HE HP (d - 1) (by omega) U I81 dep (by omega) (by show 0 ≤ n ∧ n ≤ 1000 ∧ (h80 92 (n)) = 0 ∧ (h80 90 7) ≤ n; omega) (by omega) (by show (h80 90 13) ≤ (h80 90 7); omega)) ?_
        rintro _ z148 h149 ⟨rfl, I150, f131, e132, e133, e134, e135, e136, e137, e138, e139, e140, e141, e142, e143, e144, e145, y146, y147⟩
        have E151 : h149 91 = h 91 := Eq.trans e132 E82
        have E152 : h149 92 = h 92 := Eq.trans e133 E83
        have E153 : h149 93 = h 93 := Eq.trans e134 E84
        have E154 : h149 94 = h 94 := Eq.trans e135 E85
        have E155 : h149 95 = h 95 := Eq.trans e136 E86
        have E156 : h149 96 = h 96 := Eq.trans e137 E87
        have E157 : h149 99 = h 99 := Eq.trans e138 E90
        have E158 : h149 100 = h 100 := Eq.trans e139 E91
        have E159 : h149 103 = h 103 := Eq.trans e140 E92
        have E160 : h149 104 = h 104 := Eq.trans e141 E93
        have E161 : h149 105 = h 105 := Eq.trans e142 E94
        have E162 : h149 106 = h 106 := Eq.trans e143 E95
        have E163 : h149 109 = h 109 := Eq.trans e144 E96
        have E164 : h149 114 = h 114 := Eq.trans e145 E97
        show ov_R u d ov_m229 19 [(0, ov_r 90), (1, ov_i dep)] [] z148 h149 (P_Mo_products_90 F z h n dep)
        have f165 : (h149 90 2) = (h80 90 2) ∧ (h149 90 20) = (h80 90 20) ∧ (h149 90 22) = (h80 90 22) ∧ (h149 90 25) = (h80 90 25) ∧ (h149 90 26) = (h80 90 26) ∧ (h149 90 28) = (h80 90 28) ∧ (h149 90 29) = (h80 90 29) ∧ (h149 90 30) = (h80 90 30) ∧ (h149 90 34) = (h80 90 34) ∧ (h80 90 7) ≤ (h149 90 7) ∧ (h149 90 7) ≤ n ∧ (h80 90 8) ≤ (h149 90 8) ∧ (h80 90 13) ≤ (h149 90 13) ∧ (h149 90 13) - (h80 90 13) ≤ (h149 90 7) - (h80 90 7) := f131
        clear f131
        rw [show h80 97 = h43 97 from E88] at y146
        rw [show h80 98 = h43 98 from E89] at y146
        have y146_ : ∀ j : Int, j < 1100 + (h80 90 13) → (h149 97) j = (h43 97) j ∧ (h149 98) j = (h43 98) j := y146
        have y147_ : (h149 90 8) = 0 → ov_sg (h149 97) (h149 98) (h80 90 13) (h149 90 13) := y147
        refine ov_blk (ls2 := [(0, ov_r 90), (1, ov_i dep)]) (st2 := [ov_i 0, ov_i 6, ov_r 90]) (pc2 := 23) b_229_19_3 rfl rfl ?_
        refine ov_cV (as := [ov_i 6, ov_i 0]) (st := []) (d2 := d - 1) d_229_23 lk_Mo_246 rfl (Nat.le_of_ble_eq_true rfl) (c := 1) (zb_90 I150) (zs_90 I150) ⟨by decide, rfl⟩ (by omega) (c_Mo_emit_90 (d - 1) (by omega) U I150 6 0 (by omega) (by omega) (by omega) (by show (h149 90 13) ≤ 999; omega)) ?_
        rintro _ z183 h184 ⟨rfl, I185, f166, e167, e168, e169, e170, e171, e172, e173, e174, e175, e176, e177, e178, e179, e180, y181, y182⟩
        have E186 : h184 91 = h 91 := Eq.trans e167 E151
        have E187 : h184 92 = h 92 := Eq.trans e168 E152
        have E188 : h184 93 = h 93 := Eq.trans e169 E153
        have E189 : h184 94 = h 94 := Eq.trans e170 E154
        have E190 : h184 95 = h 95 := Eq.trans e171 E155
        have E191 : h184 96 = h 96 := Eq.trans e172 E156
        have E192 : h184 99 = h 99 := Eq.trans e173 E157
        have E193 : h184 100 = h 100 := Eq.trans e174 E158
        have E194 : h184 103 = h 103 := Eq.trans e175 E159
        have E195 : h184 104 = h 104 := Eq.trans e176 E160
        have E196 : h184 105 = h 105 := Eq.trans e177 E161
        have E197 : h184 106 = h 106 := Eq.trans e178 E162
        have E198 : h184 109 = h 109 := Eq.trans e179 E163
        have E199 : h184 114 = h 114 := Eq.trans e180 E164
        show ov_R u d ov_m229 26 [(0, ov_r 90), (1, ov_i dep)] [] z183 h184 (P_Mo_products_90 F z h n dep)
        have f200 : (h184 90 2) = (h149 90 2) ∧ (h184 90 7) = (h149 90 7) ∧ (h184 90 8) = (h149 90 8) ∧ (h184 90 20) = (h149 90 20) ∧ (h184 90 22) = (h149 90 22) ∧ (h184 90 25) = (h149 90 25) ∧ (h184 90 26) = (h149 90 26) ∧ (h184 90 28) = (h149 90 28) ∧ (h184 90 29) = (h149 90 29) ∧ (h184 90 30) = (h149 90 30) ∧ (h184 90 34) = (h149 90 34) ∧ (h184 90 13) = (h149 90 13) + 1 := f166
        clear f166
        have y181_ : (h184 97) = ov_rs (h149 97) (1100 + (h149 90 13)) (6 : Int) := y181
        have y182_ : (h184 98) = ov_rs (h149 98) (1100 + (h149 90 13)) (0 : Int) := y182
        have K201 : ∀ j : Int, j < 1100 + (h 90 13) → h184 97 j = h 97 j ∧ h184 98 j = h 98 j := ov_kpe (ov_kp xa y146_ (by omega)) y181_ y182_ (by omega)
        have K202 : h184 90 8 = 0 → ov_sg (h184 97) (h184 98) (h 90 13) (h184 90 13) := fun e => by have q1 := xb (by omega); have q2 := y147_ (by omega); rw [show (h80 90 13) = (h43 90 13) by omega] at q2; have q3 := ov_sg_bin q1 (fun j hj => y146_ j (by omega)) q2 y181_ y182_ (by omega); rw [show h184 90 13 = (h149 90 13) + 1 by omega]; exact q3
        refine ov_goto (tgt := 5) d_229_26 (by decide) ?_
        exact ih39  _ _ I185 E186 E187 E188 E189 E190 E191 E192 E193 E194 E195 E196 E197 E198 E199 K201 K202 (by show (h 90 7) ≤ (h184 90 7) ∧ (h184 90 7) ≤ n ∧ (h 90 8) ≤ (h184 90 8) ∧ (h 90 13) ≤ (h184 90 13) ∧ (h184 90 13) - (h 90 13) ≤ (h184 90 7) - (h 90 7) ∧ (h184 90 2) = (h19 90 2) ∧ (h184 90 20) = (h19 90 20) ∧ (h184 90 22) = (h19 90 22) ∧ (h184 90 25) = (h19 90 25) ∧ (h184 90 26) = (h19 90 26) ∧ (h184 90 28) = (h19 90 28) ∧ (h184 90 29) = (h19 90 29) ∧ (h184 90 30) = (h19 90 30) ∧ (h184 90 34) = (h19 90 34); omega) (by omega)
  exact L41 1001  _ _ I20 E21 E22 E23 E24 E25 E26 E27 E28 E29 E30 E31 E32 E33 E34 K36 K37 (by show (h 90 7) ≤ (h19 90 7) ∧ (h19 90 7) ≤ n ∧ (h 90 8) ≤ (h19 90 8) ∧ (h 90 13) ≤ (h19 90 13) ∧ (h19 90 13) - (h 90 13) ≤ (h19 90 7) - (h 90 7) ∧ (h19 90 2) = (h19 90 2) ∧ (h19 90 20) = (h19 90 20) ∧ (h19 90 22) = (h19 90 22) ∧ (h19 90 25) = (h19 90 25) ∧ (h19 90 26) = (h19 90 26) ∧ (h19 90 28) = (h19 90 28) ∧ (h19 90 29) = (h19 90 29) ∧ (h19 90 30) = (h19 90 30) ∧ (h19 90 34) = (h19 90 34); omega) (by omega)
set_option maxHeartbeats 4000000 in
theorem c_Mo_sums_90 {u : ov_U} {F : ov_H × ov_Z} (n : Int) (k : Nat) (HE : ∀ k' : Nat, k' + 1 = k → ∀ {z : ov_Z} {h : ov_H} (d : Nat) (hd : (10 + 5 * k' + 4) ≤ d) (U : ov_cap u) (I : ov_N F z h) (dep : Int) (g_dep : ov_g dep) (p0 : 0 ≤ n ∧ n ≤ 1000 ∧ (h 92 (n)) = 0 ∧ (h 90 7) ≤ n) (p1 : 0 ≤ dep ∧ dep + (k' : Int) = 5) (p2 : (h 90 13) ≤ (h 90 7)), ov_T u d ov_m226 [ov_r 90, ov_i dep] z h (P_Mo_all_90 F z h n dep)) (HP : ∀ k' : Nat, k' + 1 = k → ∀ {z : ov_Z} {h : ov_H} (d : Nat) (hd : (10 + 5 * k' + 0) ≤ d) (U : ov_cap u) (I : ov_N F z h) (dep : Int) (g_dep : ov_g dep) (p0 : 0 ≤ n ∧ n ≤ 1000 ∧ (h 92 (n)) = 0 ∧ (h 90 7) ≤ n) (p1 : 0 ≤ dep ∧ dep + (k' : Int) = 5) (p2 : (h 90 13) ≤ (h 90 7)), ov_T u d ov_m230 [ov_r 90, ov_i dep] z h (P_Mo_takePart_90 F z h n dep)) {z : ov_Z} {h : ov_H} (d : Nat) (hd : (10 + 5 * k + 2) ≤ d) (U : ov_cap u) (I : ov_N F z h) (dep : Int) (g_dep : ov_g dep) (p0 : 0 ≤ n ∧ n ≤ 1000 ∧ (h 92 (n)) = 0 ∧ (h 90 7) ≤ n) (p1 : 0 ≤ dep ∧ dep + (k : Int) = 5) (p2 : (h 90 13) ≤ (h 90 7)) : ov_T u d ov_m228 [ov_r 90, ov_i dep] z h (P_Mo_sums_90 F z h n dep) := by
  refine ov_en rfl (Nat.le_of_ble_eq_true rfl) ?_
  show ov_R u d ov_m228 0 [(0, ov_r 90), (1, ov_i dep)] [] z h (P_Mo_sums_90 F z h n dep)
  have gq7 := rg_90_7 I
  refine ov_blk (ls2 := [(0, ov_r 90), (1, ov_i dep)]) (st2 := [ov_i dep, ov_r 90]) (pc2 := 2) b_228_0_2 rfl rfl ?_
  refine ov_cV (as := [ov_i dep]) (st := []) (d2 := d - 1) d_228_2 lk_Mo_266 rfl (Nat.le_of_ble_eq_true rfl) (c := 1) (zb_90 I) (zs_90 I) ⟨by decide, rfl⟩ (by omega) (c_Mo_products_90 n k HE HP (d - 1) (by omega) U I dep (by omega) (by show 0 ≤ n ∧ n ≤ 1000 ∧ (h 92 (n)) = 0 ∧ (h 90 7) ≤ n; omega) (by omega) (by show (h 90 13) ≤ (h 90 7); omega)) ?_
  rintro _ z18 h19 ⟨rfl, I20, f1, e2, e3, e4, e5, e6, e7, e8, e9, e10, e11, e12, e13, e14, e15, y16, y17⟩
  have E21 : h19 91 = h 91 := e2
  have E22 : h19 92 = h 92 := e3
  have E23 : h19 93 = h 93 := e4
  have E24 : h19 94 = h 94 := e5
  have E25 : h19 95 = h 95 := e6
  have E26 : h19 96 = h 96 := e7
  have E27 : h19 99 = h 99 := e8
  have E28 : h19 100 = h 100 := e9
  have E29 : h19 103 = h 103 := e10
  have E30 : h19 104 = h 104 := e11
  have E31 : h19 105 = h 105 := e12
  have E32 : h19 106 = h 106 := e13
  have E33 : h19 109 = h 109 := e14
  have E34 : h19 114 = h 114 := e15
  show ov_R u d ov_m228 5 [(0, ov_r 90), (1, ov_i dep)] [] z18 h19 (P_Mo_sums_90 F z h n dep)
  have f35 : (h19 90 2) = (h 90 2) ∧ (h19 90 20) = (h 90 20) ∧ (h19 90 22) = (h 90 22) ∧ (h19 90 25) = (h 90 25) ∧ (h19 90 26) = (h 90 26) ∧ (h19 90 28) = (h 90 28) ∧ (h19 90 29) = (h 90 29) ∧ (h19 90 30) = (h 90 30) ∧ (h19 90 34) = (h 90 34) ∧ (h 90 7) ≤ (h19 90 7) ∧ (h19 90 7) ≤ n ∧ (h 90 8) ≤ (h19 90 8) ∧ (h 90 13) ≤ (h19 90 13) ∧ (h19 90 13) - (h 90 13) ≤ (h19 90 7) - (h 90 7) := f1
  clear f1
  have y16_ : ∀ j : Int, j < 1100 + (h 90 13) → (h19 97) j = (h 97) j ∧ (h19 98) j = (h 98) j := y16
  have y17_ : (h19 90 8) = 0 → ov_sg (h19 97) (h19 98) (h 90 13) (h19 90 13) := y17
  have K36 : ∀ j : Int, j < 1100 + (h 90 13) → h19 97 j = h 97 j ∧ h19 98 j = h 98 j := fun j hj => y16_ j (by omega)
  have K37 : h19 90 8 = 0 → ov_sg (h19 97) (h19 98) (h 90 13) (h19 90 13) := fun e => by have q := y17_ e; rw [show (h 90 13) = h 90 13 by omega] at q; exact q
  have L41 : ∀ (n38 : Nat) (z42 : ov_Z) (h43 : ov_H) (I44 : ov_N F z42 h43) (E45 : h43 91 = h 91) (E46 : h43 92 = h 92) (E47 : h43 93 = h 93) (E48 : h43 94 = h 94) (E49 : h43 95 = h 95) (E50 : h43 96 = h 96) (E51 : h43 99 = h 99) (E52 : h43 100 = h 100) (E53 : h43 103 = h 103) (E54 : h43 104 = h 104) (E55 : h43 105 = h 105) (E56 : h43 106 = h 106) (E57 : h43 109 = h 109) (E58 : h43 114 = h 114) (xa : ∀ j : Int, j < 1100 + (h 90 13) → (h43 97) j = (h 97) j ∧ (h43 98) j = (h 98) j) (xb : (h43 90 8) = 0 → ov_sg (h43 97) (h43 98) (h 90 13) (h43 90 13)) (q40 : (h 90 7) ≤ (h43 90 7) ∧ (h43 90 7) ≤ n ∧ (h 90 8) ≤ (h43 90 8) ∧ (h 90 13) ≤ (h43 90 13) ∧ (h43 90 13) - (h 90 13) ≤ (h43 90 7) - (h 90 7) ∧ (h43 90 2) = (h19 90 2) ∧ (h43 90 20) = (h19 90 20) ∧ (h43 90 22) = (h19 90 22) ∧ (h43 90 25) = (h19 90 25) ∧ (h43 90 26) = (h19 90 26) ∧ (h43 90 28) = (h19 90 28) ∧ (h43 90 29) = (h19 90 29) ∧ (h43 90 30) = (h19 90 30) ∧ (h43 90 34) = (h19 90 34)), 1000 - (h43 90 7) < (n38 : Int) → ov_R u d ov_m228 5 [(0, ov_r 90), (1, ov_i dep)] [] z42 h43 (P_Mo_sums_90 F z h n dep) := by
    intro n38
    induction n38 with
    | zero =>
      intro  z42 h43 I44 E45 E46 E47 E48 E49 E50 E51 E52 E53 E54 E55 E56 E57 E58 xa xb q40 hn59
      exact absurd hn59 (by omega)
    | succ n38 ih39 =>
      intro  z42 h43 I44 E45 E46 E47 E48 E49 E50 E51 E52 E53 E54 E55 E56 E57 E58 xa xb q40 hn59
      refine ov_blk (ls2 := [(0, ov_r 90), (1, ov_i dep)]) (st2 := [ov_r 90]) (pc2 := 6) b_228_5_1 rfl rfl ?_
      refine ov_blk (ls2 := [(0, ov_r 90), (1, ov_i dep)]) (st2 := [ov_i 43, ov_r 90]) (pc2 := 8) b_228_6_1 rfl rfl ?_
      have cf60 : h43 92 (n) = h 92 (n) := congrFun E46 (n)
      refine ov_cV (as := [ov_i 43]) (st := []) (d2 := d - 1) d_228_8 lk_Mo_183 rfl (Nat.le_of_ble_eq_true rfl) (c := 1) (zb_90 I44) (zs_90 I44) ⟨by decide, rfl⟩ (by omega) (c_Mo_isSign_90 n (d - 1) (by omega) U I44 43 (by omega) (by show 0 ≤ n ∧ n ≤ 1000 ∧ (h43 92 (n)) = 0 ∧ (h43 90 7) ≤ n; omega)) ?_
      rintro _ _ _ ⟨v62, rfl, rfl, rfl, f61⟩
      show ov_R u d ov_m228 11 [(0, ov_r 90), (1, ov_i dep)] [ov_i v62] z42 h43 (P_Mo_sums_90 F z h n dep)
      rw [show h43 92 = h 92 from E46] at f61
      rw [show h43 94 = h 94 from E48] at f61
      have f63 : (v62 = 0 ∨ v62 = 1) ∧ (v62 = 1 → (h43 90 7) < n) ∧ (v62 = 1 → (h43 90 8) = 0 ∧ (h 92 ((h43 90 7))) = 3 ∧ (h 94 ((h43 90 7))) = (43 : Int)) ∧ (v62 = 0 → ¬ ((h43 90 8) = 0 ∧ (h 92 ((h43 90 7))) = 3 ∧ (h 94 ((h43 90 7))) = (43 : Int))) := f61
      clear f61
      refine ov_ifne (tgt := 23) d_228_11 (by decide) (by omega) (fun c64 => ?_) (fun c64 => ?_)
      · skip
        have f63_ : v62 = 1 := by omega
        have f65 : (h43 90 7) < n := f63.2.1 (by omega)
        have f66 : (h43 90 8) = 0 ∧ (h 92 ((h43 90 7))) = 3 ∧ (h 94 ((h43 90 7))) = (43 : Int) := f63.2.2.1 (by omega)
        clear f63
        refine ov_blk (ls2 := [(0, ov_r 90), (1, ov_i dep)]) (st2 := [ov_i 43, ov_r 90]) (pc2 := 26) b_228_23_2 rfl rfl ?_
        have cf67 : h43 92 (n) = h 92 (n) := congrFun E46 (n)
        refine ov_cV (as := [ov_i 43]) (st := []) (d2 := d - 1) d_228_26 lk_Mo_183 rfl (Nat.le_of_ble_eq_true rfl) (c := 1) (zb_90 I44) (zs_90 I44) ⟨by decide, rfl⟩ (by omega) (c_Mo_isSign_90 n (d - 1) (by omega) U I44 43 (by omega) (by show 0 ≤ n ∧ n ≤ 1000 ∧ (h43 92 (n)) = 0 ∧ (h43 90 7) ≤ n; omega)) ?_
        rintro _ _ _ ⟨v69, rfl, rfl, rfl, f68⟩
        show ov_R u d ov_m228 29 [(0, ov_r 90), (1, ov_i dep)] [ov_i v69] z42 h43 (P_Mo_sums_90 F z h n dep)
        rw [show h43 92 = h 92 from E46] at f68
        rw [show h43 94 = h 94 from E48] at f68
        have f70 : (v69 = 0 ∨ v69 = 1) ∧ (v69 = 1 → (h43 90 7) < n) ∧ (v69 = 1 → (h43 90 8) = 0 ∧ (h 92 ((h43 90 7))) = 3 ∧ (h 94 ((h43 90 7))) = (43 : Int)) ∧ (v69 = 0 → ¬ ((h43 90 8) = 0 ∧ (h 92 ((h43 90 7))) = 3 ∧ (h 94 ((h43 90 7))) = (43 : Int))) := f68
        clear f68
        refine ov_blk (ls2 := [(0, ov_r 90), (1, ov_i dep), (2, ov_i v69)]) (st2 := [ov_r 90, ov_r 90]) (pc2 := 32) b_228_29_3 rfl rfl ?_
        refine ov_getf (v := ov_i (h43 90 7)) d_228_32 fl_Mo_177 (zb_90 I44) (zs_90 I44) rfl ?_
        have g71 := rg_90_7 I44
        refine ov_blk (ls2 := [(0, ov_r 90), (1, ov_i dep), (2, ov_i v69)]) (st2 := [ov_i ((h43 90 7) + 1), ov_r 90]) (pc2 := 37) b_228_35_2 rfl rfl ?_
        refine ov_putf (x := ((h43 90 7) + 1)) d_228_37 fl_Mo_177 (zb_90 I44) (zs_90 I44) rfl nk_0 rfl ?_
        have I72 := up_90_7 (x := ((h43 90 7) + 1)) I44 (by omega)
        refine ov_blk (ls2 := [(0, ov_r 90), (1, ov_i dep), (2, ov_i v69)]) (st2 := [ov_i dep, ov_r 90]) (pc2 := 42) b_228_40_2 rfl rfl ?_
        have cf73 : h43 92 (n) = h 92 (n) := congrFun E46 (n)
        refine ov_cV (as := [ov_i dep]) (st := []) (d2 := d - 1) d_228_42 lk_Mo_266 rfl (Nat.le_of_ble_eq_true rfl) (c := 1) (zb_90 I72) (zs_90 I72) ⟨by decide, rfl⟩ (by omega) (c_Mo_products_90 n k HE HP (d - 1) (by omega) U I72 dep (by omega) (by show 0 ≤ n ∧ n ≤ 1000 ∧ (h43 92 (n)) = 0 ∧ ((h43 90 7) + 1) ≤ n; omega) (by omega) (by show (h43 90 13) ≤ ((h43 90 7) + 1); omega)) ?_
        rintro _ z91 h92 ⟨rfl, I93, f74, e75, e76, e77, e78, e79, e80, e81, e82, e83, e84, e85, e86, e87, e88, y89, y90⟩
        have E94 : h92 91 = h 91 := Eq.trans e75 E45
        have E95 : h92 92 = h 92 := Eq.trans e76 E46
        have E96 : h92 93 = h 93 := Eq.trans e77 E47
        have E97 : h92 94 = h 94 := Eq.trans e78 E48
        have E98 : h92 95 = h 95 := Eq.trans e79 E49
        have E99 : h92 96 = h 96 := Eq.trans e80 E50
        have E100 : h92 99 = h 99 := Eq.trans e81 E51
        have E101 : h92 100 = h 100 := Eq.trans e82 E52
        have E102 : h92 103 = h 103 := Eq.trans e83 E53
        have E103 : h92 104 = h 104 := Eq.trans e84 E54
        have E104 : h92 105 = h 105 := Eq.trans e85 E55
        have E105 : h92 106 = h 106 := Eq.trans e86 E56
        have E106 : h92 109 = h 109 := Eq.trans e87 E57
        have E107 : h92 114 = h 114 := Eq.trans e88 E58
        show ov_R u d ov_m228 45 [(0, ov_r 90), (1, ov_i dep), (2, ov_i v69)] [] z91 h92 (P_Mo_sums_90 F z h n dep)
        have f108 : (h92 90 2) = (h43 90 2) ∧ (h92 90 20) = (h43 90 20) ∧ (h92 90 22) = (h43 90 22) ∧ (h92 90 25) = (h43 90 25) ∧ (h92 90 26) = (h43 90 26) ∧ (h92 90 28) = (h43 90 28) ∧ (h92 90 29) = (h43 90 29) ∧ (h92 90 30) = (h43 90 30) ∧ (h92 90 34) = (h43 90 34) ∧ ((h43 90 7) + 1) ≤ (h92 90 7) ∧ (h92 90 7) ≤ n ∧ (h43 90 8) ≤ (h92 90 8) ∧ (h43 90 13) ≤ (h92 90 13) ∧ (h92 90 13) - (h43 90 13) ≤ (h92 90 7) - ((h43 90 7) + 1) := f74
        clear f74
        have y89_ : ∀ j : Int, j < 1100 + (h43 90 13) → (h92 97) j = (h43 97) j ∧ (h92 98) j = (h43 98) j := y89
        have y90_ : (h92 90 8) = 0 → ov_sg (h92 97) (h92 98) (h43 90 13) (h92 90 13) := y90
        refine ov_blk (ls2 := [(0, ov_r 90), (1, ov_i dep), (2, ov_i v69)]) (st2 := [ov_i v69, ov_r 90]) (pc2 := 47) b_228_45_2 rfl rfl ?_
        refine ov_ifeq (tgt := 54) d_228_47 (by decide) (by omega) (fun c109 => ?_) (fun c109 => ?_)
        · skip
          have f70_ : v69 = 0 := by omega
          have f110 : ¬ ((h43 90 8) = 0 ∧ (h 92 ((h43 90 7))) = 3 ∧ (h 94 ((h43 90 7))) = (43 : Int)) := f70.2.2.2 (by omega)
          clear f70
          refine ov_blk (ls2 := [(0, ov_r 90), (1, ov_i dep), (2, ov_i v69)]) (st2 := [ov_i 0, ov_i 5, ov_r 90]) (pc2 := 56) b_228_54_2 rfl rfl ?_
          refine ov_cV (as := [ov_i 5, ov_i 0]) (st := []) (d2 := d - 1) d_228_56 lk_Mo_246 rfl (Nat.le_of_ble_eq_true rfl) (c := 1) (zb_90 I93) (zs_90 I93) ⟨by decide, rfl⟩ (by omega) (c_Mo_emit_90 (d - 1) (by omega) U I93 5 0 (by omega) (by omega) (by omega) (by show (h92 90 13) ≤ 999; omega)) ?_
          rintro _ z128 h129 ⟨rfl, I130, f111, e112, e113, e114, e115, e116, e117, e118, e119, e120, e121, e122, e123, e124, e125, y126, y127⟩
          have E131 : h129 91 = h 91 := Eq.trans e112 E94
          have E132 : h129 92 = h 92 := Eq.trans e113 E95
          have E133 : h129 93 = h 93 := Eq.trans e114 E96
          have E134 : h129 94 = h 94 := Eq.trans e115 E97
          have E135 : h129 95 = h 95 := Eq.trans e116 E98
          have E136 : h129 96 = h 96 := Eq.trans e117 E99
          have E137 : h129 99 = h 99 := Eq.trans e118 E100
          have E138 : h129 100 = h 100 := Eq.trans e119 E101
          have E139 : h129 103 = h 103 := Eq.trans e120 E102
          have E140 : h129 104 = h 104 := Eq.trans e121 E103
          have E141 : h129 105 = h 105 := Eq.trans e122 E104
          have E142 : h129 106 = h 106 := Eq.trans e123 E105
          have E143 : h129 109 = h 109 := Eq.trans e124 E106
          have E144 : h129 114 = h 114 := Eq.trans e125 E107
          show ov_R u d ov_m228 59 [(0, ov_r 90), (1, ov_i dep), (2, ov_i v69)] [] z128 h129 (P_Mo_sums_90 F z h n dep)
          have f145 : (h129 90 2) = (h92 90 2) ∧ (h129 90 7) = (h92 90 7) ∧ (h129 90 8) = (h92 90 8) ∧ (h129 90 20) = (h92 90 20) ∧ (h129 90 22) = (h92 90 22) ∧ (h129 90 25) = (h92 90 25) ∧ (h129 90 26) = (h92 90 26) ∧ (h129 90 28) = (h92 90 28) ∧ (h129 90 29) = (h92 90 29) ∧ (h129 90 30) = (h92 90 30) ∧ (h129 90 34) = (h92 90 34) ∧ (h129 90 13) = (h92 90 13) + 1 := f111
          clear f111
          have y126_ : (h129 97) = ov_rs (h92 97) (1100 + (h92 90 13)) (5 : Int) := y126
          have y127_ : (h129 98) = ov_rs (h92 98) (1100 + (h92 90 13)) (0 : Int) := y127
          have K146 : ∀ j : Int, j < 1100 + (h 90 13) → h129 97 j = h 97 j ∧ h129 98 j = h 98 j := ov_kpe (ov_kp xa y89_ (by omega)) y126_ y127_ (by omega)
          have K147 : h129 90 8 = 0 → ov_sg (h129 97) (h129 98) (h 90 13) (h129 90 13) := fun e => by have q1 := xb (by omega); have q2 := y90_ (by omega); rw [show (h43 90 13) = (h43 90 13) by omega] at q2; have q3 := ov_sg_bin q1 (fun j hj => y89_ j (by omega)) q2 y126_ y127_ (by omega); rw [show h129 90 13 = (h92 90 13) + 1 by omega]; exact q3
          refine ov_goto (tgt := 5) d_228_59 (by decide) ?_
          refine ov_sub (ls2 := [(0, ov_r 90), (1, ov_i dep)]) (List.Sublist.subset (by repeat (first | exact List.Sublist.refl _ | apply List.Sublist.cons_cons | apply List.Sublist.cons))) ?_
          exact ih39  _ _ I130 E131 E132 E133 E134 E135 E136 E137 E138 E139 E140 E141 E142 E143 E144 K146 K147 (by show (h 90 7) ≤ (h129 90 7) ∧ (h129 90 7) ≤ n ∧ (h 90 8) ≤ (h129 90 8) ∧ (h 90 13) ≤ (h129 90 13) ∧ (h129 90 13) - (h 90 13) ≤ (h129 90 7) - (h 90 7) ∧ (h129 90 2) = (h19 90 2) ∧ (h129 90 20) = (h19 90 20) ∧ (h129 90 22) = (h19 90 22) ∧ (h129 90 25) = (h19 90 25) ∧ (h129 90 26) = (h19 90 26) ∧ (h129 90 28) = (h19 90 28) ∧ (h129 90 29) = (h19 90 29) ∧ (h129 90 30) = (h19 90 30) ∧ (h129 90 34) = (h19 90 34); omega) (by omega)
        · skip
          have f70_ : v69 = 1 := by omega
          have f148 : (h43 90 7) < n := f70.2.1 (by omega)
          have f149 : (h43 90 8) = 0 ∧ (h 92 ((h43 90 7))) = 3 ∧ (h 94 ((h43 90 7))) = (43 : Int) := f70.2.2.1 (by omega)
          clear f70
          refine ov_blk (ls2 := [(0, ov_r 90), (1, ov_i dep), (2, ov_i v69)]) (st2 := [ov_i 4, ov_r 90]) (pc2 := 51) b_228_50_1 rfl rfl ?_
          refine ov_goto (tgt := 55) d_228_51 (by decide) ?_
          refine ov_blk (ls2 := [(0, ov_r 90), (1, ov_i dep), (2, ov_i v69)]) (st2 := [ov_i 0, ov_i 4, ov_r 90]) (pc2 := 56) b_228_55_1 rfl rfl ?_
          refine ov_cV (as := [ov_i 4, ov_i 0]) (st := []) (d2 := d - 1) d_228_56 lk_Mo_246 rfl (Nat.le_of_ble_eq_true rfl) (c := 1) (zb_90 I93) (zs_90 I93) ⟨by decide, rfl⟩ (by omega) (c_Mo_emit_90 (d - 1) (by omega) U I93 4 0 (by omega) (by omega) (by omega) (by show (h92 90 13) ≤ 999; omega)) ?_
          rintro _ z167 h168 ⟨rfl, I169, f150, e151, e152, e153, e154, e155, e156, e157, e158, e159, e160, e161, e162, e163, e164, y165, y166⟩
          have E170 : h168 91 = h 91 := Eq.trans e151 E94
          have E171 : h168 92 = h 92 := Eq.trans e152 E95
          have E172 : h168 93 = h 93 := Eq.trans e153 E96
          have E173 : h168 94 = h 94 := Eq.trans e154 E97
          have E174 : h168 95 = h 95 := Eq.trans e155 E98
          have E175 : h168 96 = h 96 := Eq.trans e156 E99
          have E176 : h168 99 = h 99 := Eq.trans e157 E100
          have E177 : h168 100 = h 100 := Eq.trans e158 E101
          have E178 : h168 103 = h 103 := Eq.trans e159 E102
          have E179 : h168 104 = h 104 := Eq.trans e160 E103
          have E180 : h168 105 = h 105 := Eq.trans e161 E104
          have E181 : h168 106 = h 106 := Eq.trans e162 E105
          have E182 : h168 109 = h 109 := Eq.trans e163 E106
          have E183 : h168 114 = h 114 := Eq.trans e164 E107
          show ov_R u d ov_m228 59 [(0, ov_r 90), (1, ov_i dep), (2, ov_i v69)] [] z167 h168 (P_Mo_sums_90 F z h n dep)
          have f184 : (h168 90 2) = (h92 90 2) ∧ (h168 90 7) = (h92 90 7) ∧ (h168 90 8) = (h92 90 8) ∧ (h168 90 20) = (h92 90 20) ∧ (h168 90 22) = (h92 90 22) ∧ (h168 90 25) = (h92 90 25) ∧ (h168 90 26) = (h92 90 26) ∧ (h168 90 28) = (h92 90 28) ∧ (h168 90 29) = (h92 90 29) ∧ (h168 90 30) = (h92 90 30) ∧ (h168 90 34) = (h92 90 34) ∧ (h168 90 13) = (h92 90 13) + 1 := f150
          clear f150
          have y165_ : (h168 97) = ov_rs (h92 97) (1100 + (h92 90 13)) (4 : Int) := y165
          have y166_ : (h168 98) = ov_rs (h92 98) (1100 + (h92 90 13)) (0 : Int) := y166
          have K185 : ∀ j : Int, j < 1100 + (h 90 13) → h168 97 j = h 97 j ∧ h168 98 j = h 98 j := ov_kpe (ov_kp xa y89_ (by omega)) y165_ y166_ (by omega)
          have K186 : h168 90 8 = 0 → ov_sg (h168 97) (h168 98) (h 90 13) (h168 90 13) := fun e => by have q1 := xb (by omega); have q2 := y90_ (by omega); rw [show (h43 90 13) = (h43 90 13) by omega] at q2; have q3 := ov_sg_bin q1 (fun j hj => y89_ j (by omega)) q2 y165_ y166_ (by omega); rw [show h168 90 13 = (h92 90 13) + 1 by omega]; exact q3
          refine ov_goto (tgt := 5) d_228_59 (by decide) ?_
          refine ov_sub (ls2 := [(0, ov_r 90), (1, ov_i dep)]) (List.Sublist.subset (by repeat (first | exact List.Sublist.refl _ | apply List.Sublist.cons_cons | apply List.Sublist.cons))) ?_
          exact ih39  _ _ I169 E170 E171 E172 E173 E174 E175 E176 E177 E178 E179 E180 E181 E182 E183 K185 K186 (by show (h 90 7) ≤ (h168 90 7) ∧ (h168 90 7) ≤ n ∧ (h 90 8) ≤ (h168 90 8) ∧ (h 90 13) ≤ (h168 90 13) ∧ (h168 90 13) - (h 90 13) ≤ (h168 90 7) - (h 90 7) ∧ (h168 90 2) = (h19 90 2) ∧ (h168 90 20) = (h19 90 20) ∧ (h168 90 22) = (h19 90 22) ∧ (h168 90 25) = (h19 90 25) ∧ (h168 90 26) = (h19 90 26) ∧ (h168 90 28) = (h19 90 28) ∧ (h168 90 29) = (h19 90 29) ∧ (h168 90 30) = (h19 90 30) ∧ (h168 90 34) = (h19 90 34); omega) (by omega)
      · skip
        have f63_ : v62 = 0 := by omega
        have f187 : ¬ ((h43 90 8) = 0 ∧ (h 92 ((h43 90 7))) = 3 ∧ (h 94 ((h43 90 7))) = (43 : Int)) := f63.2.2.2 (by omega)
        clear f63
        refine ov_blk (ls2 := [(0, ov_r 90), (1, ov_i dep)]) (st2 := [ov_i 45, ov_r 90]) (pc2 := 17) b_228_14_2 rfl rfl ?_
        have cf188 : h43 92 (n) = h 92 (n) := congrFun E46 (n)
        refine ov_cV (as := [ov_i 45]) (st := []) (d2 := d - 1) d_228_17 lk_Mo_183 rfl (Nat.le_of_ble_eq_true rfl) (c := 1) (zb_90 I44) (zs_90 I44) ⟨by decide, rfl⟩ (by omega) (c_Mo_isSign_90 n (d - 1) (by omega) U I44 45 (by omega) (by show 0 ≤ n ∧ n ≤ 1000 ∧ (h43 92 (n)) = 0 ∧ (h43 90 7) ≤ n; omega)) ?_
        rintro _ _ _ ⟨v190, rfl, rfl, rfl, f189⟩
        show ov_R u d ov_m228 20 [(0, ov_r 90), (1, ov_i dep)] [ov_i v190] z42 h43 (P_Mo_sums_90 F z h n dep)
        rw [show h43 92 = h 92 from E46] at f189
        rw [show h43 94 = h 94 from E48] at f189
        have f191 : (v190 = 0 ∨ v190 = 1) ∧ (v190 = 1 → (h43 90 7) < n) ∧ (v190 = 1 → (h43 90 8) = 0 ∧ (h 92 ((h43 90 7))) = 3 ∧ (h 94 ((h43 90 7))) = (45 : Int)) ∧ (v190 = 0 → ¬ ((h43 90 8) = 0 ∧ (h 92 ((h43 90 7))) = 3 ∧ (h 94 ((h43 90 7))) = (45 : Int))) := f189
        clear f189
        refine ov_ifeq (tgt := 62) d_228_20 (by decide) (by omega) (fun c192 => ?_) (fun c192 => ?_)
        · skip
          have f191_ : v190 = 0 := by omega
          have f193 : ¬ ((h43 90 8) = 0 ∧ (h 92 ((h43 90 7))) = 3 ∧ (h 94 ((h43 90 7))) = (45 : Int)) := f191.2.2.2 (by omega)
          clear f191
          exact ov_retv (st := []) d_228_62 rfl ⟨rfl, I44, (by show (h43 90 2) = (h 90 2) ∧ (h43 90 20) = (h 90 20) ∧ (h43 90 22) = (h 90 22) ∧ (h43 90 25) = (h 90 25) ∧ (h43 90 26) = (h 90 26) ∧ (h43 90 28) = (h 90 28) ∧ (h43 90 29) = (h 90 29) ∧ (h43 90 30) = (h 90 30) ∧ (h43 90 34) = (h 90 34) ∧ (h 90 7) ≤ (h43 90 7) ∧ (h43 90 7) ≤ n ∧ (h 90 8) ≤ (h43 90 8) ∧ (h 90 13) ≤ (h43 90 13) ∧ (h43 90 13) - (h 90 13) ≤ (h43 90 7) - (h 90 7); omega), E45, E46, E47, E48, E49, E50, E51, E52, E53, E54, E55, E56, E57, E58, xa, (fun e => by have e0 : (h43 90 8) = 0 := e; show ov_sg (h43 97) (h43 98) _ (h43 90 13); rw [show (h43 90 13) = (h43 90 13) by omega]; exact xb (by omega))⟩
        · skip
          have f191_ : v190 = 1 := by omega
          have f194 : (h43 90 7) < n := f191.2.1 (by omega)
          have f195 : (h43 90 8) = 0 ∧ (h 92 ((h43 90 7))) = 3 ∧ (h 94 ((h43 90 7))) = (45 : Int) := f191.2.2.1 (by omega)
          clear f191
          refine ov_blk (ls2 := [(0, ov_r 90), (1, ov_i dep)]) (st2 := [ov_i 43, ov_r 90]) (pc2 := 26) b_228_23_2 rfl rfl ?_
          have cf196 : h43 92 (n) = h 92 (n) := congrFun E46 (n)
          refine ov_cV (as := [ov_i 43]) (st := []) (d2 := d - 1) d_228_26 lk_Mo_183 rfl (Nat.le_of_ble_eq_true rfl) (c := 1) (zb_90 I44) (zs_90 I44) ⟨by decide, rfl⟩ (by omega) (c_Mo_isSign_90 n (d - 1) (by omega) U I44 43 (by omega) (by show 0 ≤ n ∧ n ≤ 1000 ∧ (h43 92 (n)) = 0 ∧ (h43 90 7) ≤ n; omega)) ?_
          rintro _ _ _ ⟨v198, rfl, rfl, rfl, f197⟩
          show ov_R u d ov_m228 29 [(0, ov_r 90), (1, ov_i dep)] [ov_i v198] z42 h43 (P_Mo_sums_90 F z h n dep)
          rw [show h43 92 = h 92 from E46] at f197
          rw [show h43 94 = h 94 from E48] at f197
          have f199 : (v198 = 0 ∨ v198 = 1) ∧ (v198 = 1 → (h43 90 7) < n) ∧ (v198 = 1 → (h43 90 8) = 0 ∧ (h 92 ((h43 90 7))) = 3 ∧ (h 94 ((h43 90 7))) = (43 : Int)) ∧ (v198 = 0 → ¬ ((h43 90 8) = 0 ∧ (h 92 ((h43 90 7))) = 3 ∧ (h 94 ((h43 90 7))) = (43 : Int))) := f197
          clear f197
          refine ov_blk (ls2 := [(0, ov_r 90), (1, ov_i dep), (2, ov_i v198)]) (st2 := [ov_r 90, ov_r 90]) (pc2 := 32) b_228_29_3 rfl rfl ?_
          refine ov_getf (v := ov_i (h43 90 7)) d_228_32 fl_Mo_177 (zb_90 I44) (zs_90 I44) rfl ?_
          have g200 := rg_90_7 I44
          refine ov_blk (ls2 := [(0, ov_r 90), (1, ov_i dep), (2, ov_i v198)]) (st2 := [ov_i ((h43 90 7) + 1), ov_r 90]) (pc2 := 37) b_228_35_2 rfl rfl ?_
          refine ov_putf (x := ((h43 90 7) + 1)) d_228_37 fl_Mo_177 (zb_90 I44) (zs_90 I44) rfl nk_0 rfl ?_
          have I201 := up_90_7 (x := ((h43 90 7) + 1)) I44 (by omega)
          refine ov_blk (ls2 := [(0, ov_r 90), (1, ov_i dep), (2, ov_i v198)]) (st2 := [ov_i dep, ov_r 90]) (pc2 := 42) b_228_40_2 rfl rfl ?_
          have cf202 : h43 92 (n) = h 92 (n) := congrFun E46 (n)
          refine ov_cV (as := [ov_i dep]) (st := []) (d2 := d - 1) d_228_42 lk_Mo_266 rfl (Nat.le_of_ble_eq_true rfl) (c := 1) (zb_90 I201) (zs_90 I201) ⟨by decide, rfl⟩ (by omega) (c_Mo_products_90 n k HE HP (d - 1) (by omega) U I201 dep (by omega) (by show 0 ≤ n ∧ n ≤ 1000 ∧ (h43 92 (n)) = 0 ∧ ((h43 90 7) + 1) ≤ n; omega) (by omega) (by show (h43 90 13) ≤ ((h43 90 7) + 1); omega)) ?_
          rintro _ z220 h221 ⟨rfl, I222, f203, e204, e205, e206, e207, e208, e209, e210, e211, e212, e213, e214, e215, e216, e217, y218, y219⟩
          have E223 : h221 91 = h 91 := Eq.trans e204 E45
          have E224 : h221 92 = h 92 := Eq.trans e205 E46
          have E225 : h221 93 = h 93 := Eq.trans e206 E47
          have E226 : h221 94 = h 94 := Eq.trans e207 E48
          have E227 : h221 95 = h 95 := Eq.trans e208 E49
          have E228 : h221 96 = h 96 := Eq.trans e209 E50
          have E229 : h221 99 = h 99 := Eq.trans e210 E51
          have E230 : h221 100 = h 100 := Eq.trans e211 E52
          have E231 : h221 103 = h 103 := Eq.trans e212 E53
          have E232 : h221 104 = h 104 := Eq.trans e213 E54
          have E233 : h221 105 = h 105 := Eq.trans e214 E55
          have E234 : h221 106 = h 106 := Eq.trans e215 E56
          have E235 : h221 109 = h 109 := Eq.trans e216 E57
          have E236 : h221 114 = h 114 := Eq.trans e217 E58
          show ov_R u d ov_m228 45 [(0, ov_r 90), (1, ov_i dep), (2, ov_i v198)] [] z220 h221 (P_Mo_sums_90 F z h n dep)
          have f237 : (h221 90 2) = (h43 90 2) ∧ (h221 90 20) = (h43 90 20) ∧ (h221 90 22) = (h43 90 22) ∧ (h221 90 25) = (h43 90 25) ∧ (h221 90 26) = (h43 90 26) ∧ (h221 90 28) = (h43 90 28) ∧ (h221 90 29) = (h43 90 29) ∧ (h221 90 30) = (h43 90 30) ∧ (h221 90 34) = (h43 90 34) ∧ ((h43 90 7) + 1) ≤ (h221 90 7) ∧ (h221 90 7) ≤ n ∧ (h43 90 8) ≤ (h221 90 8) ∧ (h43 90 13) ≤ (h221 90 13) ∧ (h221 90 13) - (h43 90 13) ≤ (h221 90 7) - ((h43 90 7) + 1) := f203
          clear f203
          have y218_ : ∀ j : Int, j < 1100 + (h43 90 13) → (h221 97) j = (h43 97) j ∧ (h221 98) j = (h43 98) j := y218
          have y219_ : (h221 90 8) = 0 → ov_sg (h221 97) (h221 98) (h43 90 13) (h221 90 13) := y219
          refine ov_blk (ls2 := [(0, ov_r 90), (1, ov_i dep), (2, ov_i v198)]) (st2 := [ov_i v198, ov_r 90]) (pc2 := 47) b_228_45_2 rfl rfl ?_
          refine ov_ifeq (tgt := 54) d_228_47 (by decide) (by omega) (fun c238 => ?_) (fun c238 => ?_)
          · skip
            have f199_ : v198 = 0 := by omega
            have f239 : ¬ ((h43 90 8) = 0 ∧ (h 92 ((h43 90 7))) = 3 ∧ (h 94 ((h43 90 7))) = (43 : Int)) := f199.2.2.2 (by omega)
            clear f199
            refine ov_blk (ls2 := [(0, ov_r 90), (1, ov_i dep), (2, ov_i v198)]) (st2 := [ov_i 0, ov_i 5, ov_r 90]) (pc2 := 56) b_228_54_2 rfl rfl ?_
            refine ov_cV (as := [ov_i 5, ov_i 0]) (st := []) (d2 := d - 1) d_228_56 lk_Mo_246 rfl (Nat.le_of_ble_eq_true rfl) (c := 1) (zb_90 I222) (zs_90 I222) ⟨by decide, rfl⟩ (by omega) (c_Mo_emit_90 (d - 1) (by omega) U I222 5 0 (by omega) (by omega) (by omega) (by show (h221 90 13) ≤ 999; omega)) ?_
            rintro _ z257 h258 ⟨rfl, I259, f240, e241, e242, e243, e244, e245, e246, e247, e248, e249, e250, e251, e252, e253, e254, y255, y256⟩
            have E260 : h258 91 = h 91 := Eq.trans e241 E223
            have E261 : h258 92 = h 92 := Eq.trans e242 E224
            have E262 : h258 93 = h 93 := Eq.trans e243 E225
            have E263 : h258 94 = h 94 := Eq.trans e244 E226
            have E264 : h258 95 = h 95 := Eq.trans e245 E227
            have E265 : h258 96 = h 96 := Eq.trans e246 E228
            have E266 : h258 99 = h 99 := Eq.trans e247 E229
            have E267 : h258 100 = h 100 := Eq.trans e248 E230
            have E268 : h258 103 = h 103 := Eq.trans e249 E231
            have E269 : h258 104 = h 104 := Eq.trans e250 E232
            have E270 : h258 105 = h 105 := Eq.trans e251 E233
            have E271 : h258 106 = h 106 := Eq.trans e252 E234
            have E272 : h258 109 = h 109 := Eq.trans e253 E235
            have E273 : h258 114 = h 114 := Eq.trans e254 E236
            show ov_R u d ov_m228 59 [(0, ov_r 90), (1, ov_i dep), (2, ov_i v198)] [] z257 h258 (P_Mo_sums_90 F z h n dep)
            have f274 : (h258 90 2) = (h221 90 2) ∧ (h258 90 7) = (h221 90 7) ∧ (h258 90 8) = (h221 90 8) ∧ (h258 90 20) = (h221 90 20) ∧ (h258 90 22) = (h221 90 22) ∧ (h258 90 25) = (h221 90 25) ∧ (h258 90 26) = (h221 90 26) ∧ (h258 90 28) = (h221 90 28) ∧ (h258 90 29) = (h221 90 29) ∧ (h258 90 30) = (h221 90 30) ∧ (h258 90 34) = (h221 90 34) ∧ (h258 90 13) = (h221 90 13) + 1 := f240
            clear f240
            have y255_ : (h258 97) = ov_rs (h221 97) (1100 + (h221 90 13)) (5 : Int) := y255
            have y256_ : (h258 98) = ov_rs (h221 98) (1100 + (h221 90 13)) (0 : Int) := y256
            have K275 : ∀ j : Int, j < 1100 + (h 90 13) → h258 97 j = h 97 j ∧ h258 98 j = h 98 j := ov_kpe (ov_kp xa y218_ (by omega)) y255_ y256_ (by omega)
            have K276 : h258 90 8 = 0 → ov_sg (h258 97) (h258 98) (h 90 13) (h258 90 13) := fun e => by have q1 := xb (by omega); have q2 := y219_ (by omega); rw [show (h43 90 13) = (h43 90 13) by omega] at q2; have q3 := ov_sg_bin q1 (fun j hj => y218_ j (by omega)) q2 y255_ y256_ (by omega); rw [show h258 90 13 = (h221 90 13) + 1 by omega]; exact q3
            refine ov_goto (tgt := 5) d_228_59 (by decide) ?_
            refine ov_sub (ls2 := [(0, ov_r 90), (1, ov_i dep)]) (List.Sublist.subset (by repeat (first | exact List.Sublist.refl _ | apply List.Sublist.cons_cons | apply List.Sublist.cons))) ?_
            exact ih39  _ _ I259 E260 E261 E262 E263 E264 E265 E266 E267 E268 E269 E270 E271 E272 E273 K275 K276 (by show (h 90 7) ≤ (h258 90 7) ∧ (h258 90 7) ≤ n ∧ (h 90 8) ≤ (h258 90 8) ∧ (h 90 13) ≤ (h258 90 13) ∧ (h258 90 13) - (h 90 13) ≤ (h258 90 7) - (h 90 7) ∧ (h258 90 2) = (h19 90 2) ∧ (h258 90 20) = (h19 90 20) ∧ (h258 90 22) = (h19 90 22) ∧ (h258 90 25) = (h19 90 25) ∧ (h258 90 26) = (h19 90 26) ∧ (h258 90 28) = (h19 90 28) ∧ (h258 90 29) = (h19 90 29) ∧ (h258 90 30) = (h19 90 30) ∧ (h258 90 34) = (h19 90 34); omega) (by omega)
          · skip
            have f199_ : v198 = 1 := by omega
            have f277 : (h43 90 7) < n := f199.2.1 (by omega)
            have f278 : (h43 90 8) = 0 ∧ (h 92 ((h43 90 7))) = 3 ∧ (h 94 ((h43 90 7))) = (43 : Int) := f199.2.2.1 (by omega)
            clear f199
            refine ov_blk (ls2 := [(0, ov_r 90), (1, ov_i dep), (2, ov_i v198)]) (st2 := [ov_i 4, ov_r 90]) (pc2 := 51) b_228_50_1 rfl rfl ?_
            refine ov_goto (tgt := 55) d_228_51 (by decide) ?_
            refine ov_blk (ls2 := [(0, ov_r 90), (1, ov_i dep), (2, ov_i v198)]) (st2 := [ov_i 0, ov_i 4, ov_r 90]) (pc2 := 56) b_228_55_1 rfl rfl ?_
            refine ov_cV (as := [ov_i 4, ov_i 0]) (st := []) (d2 := d - 1) d_228_56 lk_Mo_246 rfl (Nat.le_of_ble_eq_true rfl) (c := 1) (zb_90 I222) (zs_90 I222) ⟨by decide, rfl⟩ (by omega) (c_Mo_emit_90 (d - 1) (by omega) U I222 4 0 (by omega) (by omega) (by omega) (by show (h221 90 13) ≤ 999; omega)) ?_
            rintro _ z296 h297 ⟨rfl, I298, f279, e280, e281, e282, e283, e284, e285, e286, e287, e288, e289, e290, e291, e292, e293, y294, y295⟩
            have E299 : h297 91 = h 91 := Eq.trans e280 E223
            have E300 : h297 92 = h 92 := Eq.trans e281 E224
            have E301 : h297 93 = h 93 := Eq.trans e282 E225
            have E302 : h297 94 = h 94 := Eq.trans e283 E226
            have E303 : h297 95 = h 95 := Eq.trans e284 E227
            have E304 : h297 96 = h 96 := Eq.trans e285 E228
            have E305 : h297 99 = h 99 := Eq.trans e286 E229
            have E306 : h297 100 = h 100 := Eq.trans e287 E230
            have E307 : h297 103 = h 103 := Eq.trans e288 E231
            have E308 : h297 104 = h 104 := Eq.trans e289 E232
            have E309 : h297 105 = h 105 := Eq.trans e290 E233
            have E310 : h297 106 = h 106 := Eq.trans e291 E234
            have E311 : h297 109 = h 109 := Eq.trans e292 E235
            have E312 : h297 114 = h 114 := Eq.trans e293 E236
            show ov_R u d ov_m228 59 [(0, ov_r 90), (1, ov_i dep), (2, ov_i v198)] [] z296 h297 (P_Mo_sums_90 F z h n dep)
            have f313 : (h297 90 2) = (h221 90 2) ∧ (h297 90 7) = (h221 90 7) ∧ (h297 90 8) = (h221 90 8) ∧ (h297 90 20) = (h221 90 20) ∧ (h297 90 22) = (h221 90 22) ∧ (h297 90 25) = (h221 90 25) ∧ (h297 90 26) = (h221 90 26) ∧ (h297 90 28) = (h221 90 28) ∧ (h297 90 29) = (h221 90 29) ∧ (h297 90 30) = (h221 90 30) ∧ (h297 90 34) = (h221 90 34) ∧ (h297 90 13) = (h221 90 13) + 1 := f279
            clear f279
            have y294_ : (h297 97) = ov_rs (h221 97) (1100 + (h221 90 13)) (4 : Int) := y294
            have y295_ : (h297 98) = ov_rs (h221 98) (1100 + (h221 90 13)) (0 : Int) := y295
            have K314 : ∀ j : Int, j < 1100 + (h 90 13) → h297 97 j = h 97 j ∧ h297 98 j = h 98 j := ov_kpe (ov_kp xa y218_ (by omega)) y294_ y295_ (by omega)
            have K315 : h297 90 8 = 0 → ov_sg (h297 97) (h297 98) (h 90 13) (h297 90 13) := fun e => by have q1 := xb (by omega); have q2 := y219_ (by omega); rw [show (h43 90 13) = (h43 90 13) by omega] at q2; have q3 := ov_sg_bin q1 (fun j hj => y218_ j (by omega)) q2 y294_ y295_ (by omega); rw [show h297 90 13 = (h221 90 13) + 1 by omega]; exact q3
            refine ov_goto (tgt := 5) d_228_59 (by decide) ?_
            refine ov_sub (ls2 := [(0, ov_r 90), (1, ov_i dep)]) (List.Sublist.subset (by repeat (first | exact List.Sublist.refl _ | apply List.Sublist.cons_cons | apply List.Sublist.cons))) ?_
            exact ih39  _ _ I298 E299 E300 E301 E302 E303 E304 E305 E306 E307 E308 E309 E310 E311 E312 K314 K315 (by show (h 90 7) ≤ (h297 90 7) ∧ (h297 90 7) ≤ n ∧ (h 90 8) ≤ (h297 90 8) ∧ (h 90 13) ≤ (h297 90 13) ∧ (h297 90 13) - (h 90 13) ≤ (h297 90 7) - (h 90 7) ∧ (h297 90 2) = (h19 90 2) ∧ (h297 90 20) = (h19 90 20) ∧ (h297 90 22) = (h19 90 22) ∧ (h297 90 25) = (h19 90 25) ∧ (h297 90 26) = (h19 90 26) ∧ (h297 90 28) = (h19 90 28) ∧ (h297 90 29) = (h19 90 29) ∧ (h297 90 30) = (h19 90 30) ∧ (h297 90 34) = (h19 90 34); omega) (by omega)
  exact L41 1001  _ _ I20 E21 E22 E23 E24 E25 E26 E27 E28 E29 E30 E31 E32 E33 E34 K36 K37 (by show (h 90 7) ≤ (h19 90 7) ∧ (h19 90 7) ≤ n ∧ (h 90 8) ≤ (h19 90 8) ∧ (h 90 13) ≤ (h19 90 13) ∧ (h19 90 13) - (h 90 13) ≤ (h19 90 7) - (h 90 7) ∧ (h19 90 2) = (h19 90 2) ∧ (h19 90 20) = (h19 90 20) ∧ (h19 90 22) = (h19 90 22) ∧ (h19 90 25) = (h19 90 25) ∧ (h19 90 26) = (h19 90 26) ∧ (h19 90 28) = (h19 90 28) ∧ (h19 90 29) = (h19 90 29) ∧ (h19 90 30) = (h19 90 30) ∧ (h19 90 34) = (h19 90 34); omega) (by omega)

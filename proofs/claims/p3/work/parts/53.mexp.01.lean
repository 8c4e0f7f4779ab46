abbrev P_Mo_emit_90 (F : ov_H × ov_Z) (z : ov_Z) (h : ov_H) (c : Int) (a : Int) : Option ov_V → ov_Z → ov_H → Prop := fun r0 z' h' => r0 = none ∧ ov_N F z' h' ∧ ((h' 90 2) = (h 90 2) ∧ (h' 90 7) = (h 90 7) ∧ (h' 90 8) = (h 90 8) ∧ (h' 90 20) = (h 90 20) ∧ (h' 90 22) = (h 90 22) ∧ (h' 90 25) = (h 90 25) ∧ (h' 90 26) = (h 90 26) ∧ (h' 90 28) = (h 90 28) ∧ (h' 90 29) = (h 90 29) ∧ (h' 90 30) = (h 90 30) ∧ (h' 90 34) = (h 90 34) ∧ (h' 90 13) = (h 90 13) + 1) ∧ h' 92 = h 92 ∧ h' 93 = h 93 ∧ h' 94 = h 94 ∧ h' 95 = h 95 ∧ h' 96 = h 96 ∧ h' 99 = h 99 ∧ h' 100 = h 100 ∧ h' 103 = h 103 ∧ h' 105 = h 105 ∧ h' 106 = h 106 ∧ h' 109 = h 109 ∧ h' 114 = h 114 ∧ ((h' 97) = ov_rs (h 97) (1100 + (h 90 13)) c) ∧ ((h' 98) = ov_rs (h 98) (1100 + (h 90 13)) a)
set_option maxHeartbeats 4000000 in
theorem c_Mo_emit_90 {u : ov_U} {F : ov_H × ov_Z} {z : ov_Z} {h : ov_H} (d : Nat) (hd : 0 ≤ d) (U : ov_cap u) (I : ov_N F z h) (c : Int) (a : Int) (g_c : ov_g c) (g_a : ov_g a) (p0 : 0 ≤ c ∧ c ≤ 10) (p1 : (h 90 13) ≤ 999) : ov_T u d ov_m231 [ov_r 90, ov_i c, ov_i a] z h (P_Mo_emit_90 F z h c a) := by
  refine ov_en rfl (Nat.le_of_ble_eq_true rfl) ?_
  show ov_R u d ov_m231 0 [(0, ov_r 90), (1, ov_i c), (2, ov_i a)] [] z h (P_Mo_emit_90 F z h c a)
  refine ov_blk (ls2 := [(0, ov_r 90), (1, ov_i c), (2, ov_i a)]) (st2 := [ov_r 90]) (pc2 := 1) b_231_0_1 rfl rfl ?_
  refine ov_getf (v := ov_r 97) d_231_1 fl_Mo_84 (zb_90 I) (zs_90 I) (congrArg ov_r (rg_90_11 I)) ?_
  refine ov_blk (ls2 := [(0, ov_r 90), (1, ov_i c), (2, ov_i a)]) (st2 := [ov_r 90, ov_i 1100, ov_r 97]) (pc2 := 8) b_231_4_2 rfl rfl ?_
  refine ov_getf (v := ov_i (h 90 13)) d_231_8 fl_Mo_208 (zb_90 I) (zs_90 I) rfl ?_
  have g1 := rg_90_13 I
  refine ov_blk (ls2 := [(0, ov_r 90), (1, ov_i c), (2, ov_i a)]) (st2 := [ov_i c, ov_i (1100 + (h 90 13)), ov_r 97]) (pc2 := 13) b_231_11_2 rfl rfl ?_
  refine ov_iast d_231_13 (zb_97 I) (zs_97 I) (by omega) ?_
  have I2 := ua_97 (k := (1100 + (h 90 13))) (x := c) I (by omega)
  refine ov_blk (ls2 := [(0, ov_r 90), (1, ov_i c), (2, ov_i a)]) (st2 := [ov_r 90]) (pc2 := 15) b_231_14_1 rfl rfl ?_
  refine ov_getf (v := ov_r 98) d_231_15 fl_Mo_87 (zb_90 I2) (zs_90 I2) (congrArg ov_r (rg_90_12 I2)) ?_
  refine ov_blk (ls2 := [(0, ov_r 90), (1, ov_i c), (2, ov_i a)]) (st2 := [ov_r 90, ov_i 1100, ov_r 98]) (pc2 := 22) b_231_18_2 rfl rfl ?_
  refine ov_getf (v := ov_i (h 90 13)) d_231_22 fl_Mo_208 (zb_90 I2) (zs_90 I2) rfl ?_
  refine ov_blk (ls2 := [(0, ov_r 90), (1, ov_i c), (2, ov_i a)]) (st2 := [ov_i a, ov_i (1100 + (h 90 13)), ov_r 98]) (pc2 := 27) b_231_25_2 rfl rfl ?_
  refine ov_iast d_231_27 (zb_98 I2) (zs_98 I2) (by omega) ?_
  have I4 := ua_98 (k := (1100 + (h 90 13))) (x := a) I2 (by omega)
  refine ov_blk (ls2 := [(0, ov_r 90), (1, ov_i c), (2, ov_i a)]) (st2 := [ov_r 90, ov_r 90]) (pc2 := 30) b_231_28_2 rfl rfl ?_
  refine ov_getf (v := ov_i (h 90 13)) d_231_30 fl_Mo_208 (zb_90 I4) (zs_90 I4) rfl ?_
  refine ov_blk (ls2 := [(0, ov_r 90), (1, ov_i c), (2, ov_i a)]) (st2 := [ov_i ((h 90 13) + 1), ov_r 90]) (pc2 := 35) b_231_33_2 rfl rfl ?_
  refine ov_putf (x := ((h 90 13) + 1)) d_231_35 fl_Mo_208 (zb_90 I4) (zs_90 I4) rfl nk_0 rfl ?_
  have I6 := up_90_13 (x := ((h 90 13) + 1)) I4 (by omega)
  exact ov_retv (st := []) d_231_38 rfl ⟨rfl, I6, ⟨rfl, rfl, rfl, rfl, rfl, rfl, rfl, rfl, rfl, rfl, rfl, (by show ((h 90 13) + 1) = (h 90 13) + 1; omega)⟩, rfl, rfl, rfl, rfl, rfl, rfl, rfl, rfl, rfl, rfl, rfl, rfl, (show ov_up h 97 (1100 + (h 90 13)) c 97 = _ from ov_up_row _ _ _ _), (show ov_up h 98 (1100 + (h 90 13)) a 98 = _ from ov_up_row _ _ _ _)⟩
abbrev P_Mo_takePart_90 (F : ov_H × ov_Z) (z : ov_Z) (h : ov_H) (n : Int) (dep : Int) : Option ov_V → ov_Z → ov_H → Prop := fun r0 z' h' => r0 = none ∧ ov_N F z' h' ∧ ((h' 90 2) = (h 90 2) ∧ (h' 90 20) = (h 90 20) ∧ (h' 90 22) = (h 90 22) ∧ (h' 90 25) = (h 90 25) ∧ (h' 90 26) = (h 90 26) ∧ (h' 90 28) = (h 90 28) ∧ (h' 90 29) = (h 90 29) ∧ (h' 90 30) = (h 90 30) ∧ (h' 90 34) = (h 90 34) ∧ (h 90 7) ≤ (h' 90 7) ∧ (h' 90 7) ≤ n ∧ (h 90 8) ≤ (h' 90 8) ∧ (h 90 13) ≤ (h' 90 13) ∧ (h' 90 13) - (h 90 13) ≤ (h' 90 7) - (h 90 7)) ∧ h' 92 = h 92 ∧ h' 93 = h 93 ∧ h' 94 = h 94 ∧ h' 95 = h 95 ∧ h' 96 = h 96 ∧ h' 99 = h 99 ∧ h' 100 = h 100 ∧ h' 103 = h 103 ∧ h' 105 = h 105 ∧ h' 106 = h 106 ∧ h' 109 = h 109 ∧ h' 114 = h 114 ∧ (∀ j : Int, j < 1100 + (h 90 13) → (h' 97) j = (h 97) j ∧ (h' 98) j = (h 98) j) ∧ ((h' 90 8) = 0 → ov_sg (h' 97) (h' 98) (h 90 13) (h' 90 13))
abbrev P_Mo_products_90 (F : ov_H × ov_Z) (z : ov_Z) (h : ov_H) (n : Int) (dep : Int) : Option ov_V → ov_Z → ov_H → Prop := fun r0 z' h' => r0 = none ∧ ov_N F z' h' ∧ ((h' 90 2) = (h 90 2) ∧ (h' 90 20) = (h 90 20) ∧ (h' 90 22) = (h 90 22) ∧ (h' 90 25) = (h 90 25) ∧ (h' 90 26) = (h 90 26) ∧ (h' 90 28) = (h 90 28) ∧ (h' 90 29) = (h 90 29) ∧ (h' 90 30) = (h 90 30) ∧ (h' 90 34) = (h 90 34) ∧ (h 90 7) ≤ (h' 90 7) ∧ (h' 90 7) ≤ n ∧ (h 90 8) ≤ (h' 90 8) ∧ (h 90 13) ≤ (h' 90 13) ∧ (h' 90 13) - (h 90 13) ≤ (h' 90 7) - (h 90 7)) ∧ h' 92 = h 92 ∧ h' 93 = h 93 ∧ h' 94 = h 94 ∧ h' 95 = h 95 ∧ h' 96 = h 96 ∧ h' 99 = h 99 ∧ h' 100 = h 100 ∧ h' 103 = h 103 ∧ h' 105 = h 105 ∧ h' 106 = h 106 ∧ h' 109 = h 109 ∧ h' 114 = h 114 ∧ (∀ j : Int, j < 1100 + (h 90 13) → (h' 97) j = (h 97) j ∧ (h' 98) j = (h 98) j) ∧ ((h' 90 8) = 0 → ov_sg (h' 97) (h' 98) (h 90 13) (h' 90 13))
abbrev P_Mo_sums_90 (F : ov_H × ov_Z) (z : ov_Z) (h : ov_H) (n : Int) (dep : Int) : Option ov_V → ov_Z → ov_H → Prop := fun r0 z' h' => r0 = none ∧ ov_N F z' h' ∧ ((h' 90 2) = (h 90 2) ∧ (h' 90 20) = (h 90 20) ∧ (h' 90 22) = (h 90 22) ∧ (h' 90 25) = (h 90 25) ∧ (h' 90 26) = (h 90 26) ∧ (h' 90 28) = (h 90 28) ∧ (h' 90 29) = (h 90 29) ∧ (h' 90 30) = (h 90 30) ∧ (h' 90 34) = (h 90 34) ∧ (h 90 7) ≤ (h' 90 7) ∧ (h' 90 7) ≤ n ∧ (h 90 8) ≤ (h' 90 8) ∧ (h 90 13) ≤ (h' 90 13) ∧ (h' 90 13) - (h 90 13) ≤ (h' 90 7) - (h 90 7)) ∧ h' 92 = h 92 ∧ h' 93 = h 93 ∧ h' 94 = h 94 ∧ h' 95 = h 95 ∧ h' 96 = h 96 ∧ h' 99 = h 99 ∧ h' 100 = h 100 ∧ h' 103 = h 103 ∧ h' 105 = h 105 ∧ h' 106 = h 106 ∧ h' 109 = h 109 ∧ h' 114 = h 114 ∧ (∀ j : Int, j < 1100 + (h 90 13) → (h' 97) j = (h 97) j ∧ (h' 98) j = (h 98) j) ∧ ((h' 90 8) = 0 → ov_sg (h' 97) (h' 98) (h 90 13) (h' 90 13))
abbrev P_Mo_test_90 (F : ov_H × ov_Z) (z : ov_Z) (h : ov_H) (n : Int) (dep : Int) : Option ov_V → ov_Z → ov_H → Prop := fun r0 z' h' => r0 = none ∧ ov_N F z' h' ∧ ((h' 90 2) = (h 90 2) ∧ (h' 90 20) = (h 90 20) ∧ (h' 90 22) = (h 90 22) ∧ (h' 90 25) = (h 90 25) ∧ (h' 90 26) = (h 90 26) ∧ (h' 90 28) = (h 90 28) ∧ (h' 90 29) = (h 90 29) ∧ (h' 90 30) = (h 90 30) ∧ (h' 90 34) = (h 90 34) ∧ (h 90 7) ≤ (h' 90 7) ∧ (h' 90 7) ≤ n ∧ (h 90 8) ≤ (h' 90 8) ∧ (h 90 13) ≤ (h' 90 13) ∧ (h' 90 13) - (h 90 13) ≤ (h' 90 7) - (h 90 7)) ∧ h' 92 = h 92 ∧ h' 93 = h 93 ∧ h' 94 = h 94 ∧ h' 95 = h 95 ∧ h' 96 = h 96 ∧ h' 99 = h 99 ∧ h' 100 = h 100 ∧ h' 103 = h 103 ∧ h' 105 = h 105 ∧ h' 106 = h 106 ∧ h' 109 = h 109 ∧ h' 114 = h 114 ∧ (∀ j : Int, j < 1100 + (h 90 13) → (h' 97) j = (h 97) j ∧ (h' 98) j = (h 98) j) ∧ ((h' 90 8) = 0 → ov_sg (h' 97) (h' 98) (h 90 13) (h' 90 13))
abbrev P_Mo_all_90 (F : ov_H × ov_Z) (z : ov_Z) (h : ov_H) (n : Int) (dep : Int) : Option ov_V → ov_Z → ov_H → Prop := fun r0 z' h' => r0 = none ∧ ov_N F z' h' ∧ ((h' 90 2) = (h 90 2) ∧ (h' 90 20) = (h 90 20) ∧ (h' 90 22) = (h 90 22) ∧ (h' 90 25) = (h 90 25) ∧ (h' 90 26) = (h 90 26) ∧ (h' 90 28) = (h 90 28) ∧ (h' 90 29) = (h 90 29) ∧ (h' 90 30) = (h 90 30) ∧ (h' 90 34) = (h 90 34) ∧ (h 90 7) ≤ (h' 90 7) ∧ (h' 90 7) ≤ n ∧ (h 90 8) ≤ (h' 90 8) ∧ (h 90 13) ≤ (h' 90 13) ∧ (h' 90 13) - (h 90 13) ≤ (h' 90 7) - (h 90 7)) ∧ h' 92 = h 92 ∧ h' 93 = h 93 ∧ h' 94 = h 94 ∧ h' 95 = h 95 ∧ h' 96 = h 96 ∧ h' 99 = h 99 ∧ h' 100 = h 100 ∧ h' 103 = h 103 ∧ h' 105 = h 105 ∧ h' 106 = h 106 ∧ h' 109 = h 109 ∧ h' 114 = h 114 ∧ (∀ j : Int, j < 1100 + (h 90 13) → (h' 97) j = (h 97) j ∧ (h' 98) j = (h 98) j) ∧ ((h' 90 8) = 0 → ov_sg (h' 97) (h' 98) (h 90 13) (h' 90 13))
set_option maxHeartbeats 4000000 in
theorem c_Mo_takePart_90 {u : ov_U} {F : ov_H × ov_Z} (n : Int) (k : Nat) (HE : ∀ k' : Nat, k' + 1 = k → ∀ {z : ov_Z} {h : ov_H} (d : Nat) (hd : (10 + 5 * k' + 4) ≤ d) (U : ov_cap u) (I : ov_N F z h) (dep : Int) (g_dep : ov_g dep) (p0 : 0 ≤ n ∧ n ≤ 1000 ∧ (h 92 (n)) = 0 ∧ (h 90 7) ≤ n) (p1 : 0 ≤ dep ∧ dep + (k' : Int) = 5) (p2 : (h 90 13) ≤ (h 90 7)), ov_T u d ov_m226 [ov_r 90, ov_i dep] z h (P_Mo_all_90 F z h n dep)) (HP : ∀ k' : Nat, k' + 1 = k → ∀ {z : ov_Z} {h : ov_H} (d : Nat) (hd : (10 + 5 * k' + 0) ≤ d) (U : ov_cap u) (I : ov_N F z h) (dep : Int) (g_dep : ov_g dep) (p0 : 0 ≤ n ∧ n ≤ 1000 ∧ (h 92 (n)) = 0 ∧ (h 90 7) ≤ n) (p1 : 0 ≤ dep ∧ dep + (k' : Int) = 5) (p2 : (h 90 13) ≤ (h 90 7)), ov_T u d ov_m230 [ov_r 90, ov_i dep] z h (P_Mo_takePart_90 F z h n dep)) {z : ov_Z} {h : ov_H} (d : Nat) (hd : (10 + 5 * k + 0) ≤ d) (U : ov_cap u) (I : ov_N F z h) (dep : Int) (g_dep : ov_g dep) (p0 : 0 ≤ n ∧ n ≤ 1000 ∧ (h 92 (n)) = 0 ∧ (h 90 7) ≤ n) (p1 : 0 ≤ dep ∧ dep + (k : Int) = 5) (p2 : (h 90 13) ≤ (h 90 7)) : ov_T u d ov_m230 [ov_r 90, ov_i dep] z h (P_Mo_takePart_90 F z h n dep) := by
  refine ov_en rfl (Nat.le_of_ble_eq_true rfl) ?_
  show ov_R u d ov_m230 0 [(0, ov_r 90), (1, ov_i dep)] [] z h (P_Mo_takePart_90 F z h n dep)
  have qn : h 90 7 = n → h 92 (h 90 7) = h 92 n := fun e => by rw [e]
  refine ov_blk (ls2 := [(0, ov_r 90), (1, ov_i dep)]) (st2 := [ov_r 90]) (pc2 := 1) b_230_0_1 rfl rfl ?_
  refine ov_getf (v := ov_i (h 90 8)) d_230_1 fl_Mo_180 (zb_90 I) (zs_90 I) rfl ?_
  have g1 := rg_90_8 I
  refine ov_ifle (tgt := 8) d_230_4 (by decide) (by omega) (fun c2 => ?_) (fun c2 => ?_)
  · skip
    have J3 : ∀ (j4 : Int) (j5 : Int) (q6 : (j4 = 0 ∨ j4 = 1) ∧ (j4 = 1 → (h 92 ((h 90 7))) = 2) ∧ -1 ≤ j5 ∧ j5 ≤ 3 ∧ (0 ≤ j5 → (h 90 7) < n)), ov_R u d ov_m230 67 [(0, ov_r 90), (1, ov_i dep), (2, ov_i j4), (5, ov_i j5)] [] z h (P_Mo_takePart_90 F z h n dep) := by
      intro j4 j5 q6
      have J7 : ∀ (q8 : (0 ≤ j5 ∨ j4 = 1 ∨ ((h 90 8) = 0 ∧ (h 92 ((h 90 7))) = 3 ∧ (h 94 ((h 90 7))) = 40) ∨ ((h 90 8) = 0 ∧ (h 92 ((h 90 7))) = 1 ∧ (h 94 ((h 90 7))) = (h 95 (17))))), ov_R u d ov_m230 102 [(0, ov_r 90), (1, ov_i dep), (2, ov_i j4), (5, ov_i j5)] [] z h (P_Mo_takePart_90 F z h n dep) := by
        intro  q8
        refine ov_blk (ls2 := [(0, ov_r 90), (1, ov_i dep), (2, ov_i j4), (5, ov_i j5)]) (st2 := [ov_i 5, ov_i dep]) (pc2 := 104) b_230_102_2 rfl rfl ?_
        refine ov_icne (tgt := 112) d_230_104 (by decide) (by omega) (by omega) (fun c9 => ?_) (fun c9 => ?_)
        · skip
          refine ov_blk (ls2 := [(0, ov_r 90), (1, ov_i dep), (2, ov_i j4), (5, ov_i j5)]) (st2 := [ov_r 90]) (pc2 := 113) b_230_112_1 rfl rfl ?_
          refine ov_getf (v := ov_i (h 90 8)) d_230_113 fl_Mo_180 (zb_90 I) (zs_90 I) rfl ?_
          refine ov_ifle (tgt := 120) d_230_116 (by decide) (by omega) (fun c11 => ?_) (fun c11 => ?_)
          · skip
            refine ov_blk (ls2 := [(0, ov_r 90), (1, ov_i dep), (2, ov_i j4), (5, ov_i j5)]) (st2 := [ov_i 17, ov_r 90]) (pc2 := 123) b_230_120_2 rfl rfl ?_
            refine ov_cV (as := [ov_i 17]) (st := []) (d2 := d - 1) d_230_123 lk_Mo_192 rfl (Nat.le_of_ble_eq_true rfl) (c := 1) (zb_90 I) (zs_90 I) ⟨by decide, rfl⟩ (by omega) (c_Mo_hasWord_90 n (d - 1) (by omega) U I 17 (by omega) (by show 0 ≤ n ∧ n ≤ 1000 ∧ (h 92 (n)) = 0 ∧ (h 90 7) ≤ n; omega) (by omega)) ?_
            rintro _ z28 h29 ⟨v13, rfl, I30, f12, e14, e15, e16, e17, e18, e19, e20, e21, e22, e23, e24, e25, e26, e27⟩
            have E31 : h29 92 = h 92 := e14
            have E32 : h29 93 = h 93 := e15
            have E33 : h29 94 = h 94 := e16
            have E34 : h29 95 = h 95 := e17
            have E35 : h29 96 = h 96 := e18
            have E36 : h29 97 = h 97 := e19
            have E37 : h29 98 = h 98 := e20
            have E38 : h29 99 = h 99 := e21
            have E39 : h29 100 = h 100 := e22
            have E40 : h29 103 = h 103 := e23
            have E41 : h29 105 = h 105 := e24
            have E42 : h29 106 = h 106 := e25
            have E43 : h29 109 = h 109 := e26
            have E44 : h29 114 = h 114 := e27
            show ov_R u d ov_m230 126 [(0, ov_r 90), (1, ov_i dep), (2, ov_i j4), (5, ov_i j5)] [ov_i v13] z28 h29 (P_Mo_takePart_90 F z h n dep)
            have f45 : (h29 90 2) = (h 90 2) ∧ (h29 90 8) = (h 90 8) ∧ (h29 90 13) = (h 90 13) ∧ (h29 90 20) = (h 90 20) ∧ (h29 90 22) = (h 90 22) ∧ (h29 90 25) = (h 90 25) ∧ (h29 90 26) = (h 90 26) ∧ (h29 90 28) = (h 90 28) ∧ (h29 90 29) = (h 90 29) ∧ (h29 90 30) = (h 90 30) ∧ (h29 90 34) = (h 90 34) ∧ (v13 = 0 ∨ v13 = 1) ∧ (h 90 7) ≤ (h29 90 7) ∧ (h29 90 7) ≤ n ∧ (v13 = 1 → (h29 90 7) = (h 90 7) + 1 ∧ (h 90 8) = 0) ∧ (v13 = 0 → (h29 90 7) = (h 90 7)) ∧ (v13 = 1 → (h 90 8) = 0 ∧ (h 92 ((h 90 7))) = 1 ∧ (h 94 ((h 90 7))) = (h 95 ((17 : Int)))) ∧ (v13 = 0 → ¬ ((h 90 8) = 0 ∧ (h 92 ((h 90 7))) = 1 ∧ (h 94 ((h 90 7))) = (h 95 ((17 : Int))))) := f12
            clear f12
            have qm : h29 90 7 = h 90 7 → h 92 (h29 90 7) = h 92 (h 90 7) ∧ h 94 (h29 90 7) = h 94 (h 90 7) := fun e => by rw [e]; exact ⟨rfl, rfl⟩
            refine ov_ifeq (tgt := 145) d_230_126 (by decide) (by omega) (fun c46 => ?_) (fun c46 => ?_)
            · skip
              have f45_ : v13 = 0 := by omega
              have f47 : (h29 90 2) = (h 90 2) := f45.1
              have f48 : (h29 90 8) = (h 90 8) := f45.2.1
              have f49 : (h29 90 13) = (h 90 13) := f45.2.2.1
              have f50 : (h29 90 20) = (h 90 20) := f45.2.2.2.1
              have f51 : (h29 90 22) = (h 90 22) := f45.2.2.2.2.1
              have f52 : (h29 90 25) = (h 90 25) := f45.2.2.2.2.2.1
              have f53 : (h29 90 26) = (h 90 26) := f45.2.2.2.2.2.2.1
              have f54 : (h29 90 28) = (h 90 28) := f45.2.2.2.2.2.2.2.1
              have f55 : (h29 90 29) = (h 90 29) := f45.2.2.2.2.2.2.2.2.1
              have f56 : (h29 90 30) = (h 90 30) := f45.2.2.2.2.2.2.2.2.2.1
              have f57 : (h29 90 34) = (h 90 34) := f45.2.2.2.2.2.2.2.2.2.2.1
              have f58 : (h 90 7) ≤ (h29 90 7) := f45.2.2.2.2.2.2.2.2.2.2.2.2.1
              have f59 : (h29 90 7) ≤ n := f45.2.2.2.2.2.2.2.2.2.2.2.2.2.1
              have f60 : (h29 90 7) = (h 90 7) := f45.2.2.2.2.2.2.2.2.2.2.2.2.2.2.2.1 (by omega)
              have f61 : ¬ ((h 90 8) = 0 ∧ (h 92 ((h 90 7))) = 1 ∧ (h 94 ((h 90 7))) = (h 95 ((17 : Int)))) := f45.2.2.2.2.2.2.2.2.2.2.2.2.2.2.2.2.2 (by omega)
              clear f45
              refine ov_blk (ls2 := [(0, ov_r 90), (1, ov_i dep), (2, ov_i j4), (5, ov_i j5)]) (st2 := [ov_i 40, ov_r 90]) (pc2 := 148) b_230_145_2 rfl rfl ?_
              have cf62 : h29 92 (n) = h 92 (n) := congrFun E31 (n)
              refine ov_cV (as := [ov_i 40]) (st := []) (d2 := d - 1) d_230_148 lk_Mo_263 rfl (Nat.le_of_ble_eq_true rfl) (c := 1) (zb_90 I30) (zs_90 I30) ⟨by decide, rfl⟩ (by omega) (c_Mo_hasSign_90 n (d - 1) (by omega) U I30 40 (by omega) (by show 0 ≤ n ∧ n ≤ 1000 ∧ (h29 92 (n)) = 0 ∧ (h29 90 7) ≤ n; omega)) ?_
              rintro _ z79 h80 ⟨v64, rfl, I81, f63, e65, e66, e67, e68, e69, e70, e71, e72, e73, e74, e75, e76, e77, e78⟩
              have E82 : h80 92 = h 92 := Eq.trans e65 E31
              have E83 : h80 93 = h 93 := Eq.trans e66 E32
              have E84 : h80 94 = h 94 := Eq.trans e67 E33
              have E85 : h80 95 = h 95 := Eq.trans e68 E34
              have E86 : h80 96 = h 96 := Eq.trans e69 E35
              have E87 : h80 97 = h 97 := Eq.trans e70 E36
              have E88 : h80 98 = h 98 := Eq.trans e71 E37
              have E89 : h80 99 = h 99 := Eq.trans e72 E38
              have E90 : h80 100 = h 100 := Eq.trans e73 E39
              have E91 : h80 103 = h 103 := Eq.trans e74 E40
              have E92 : h80 105 = h 105 := Eq.trans e75 E41
              have E93 : h80 106 = h 106 := Eq.trans e76 E42
              have E94 : h80 109 = h 109 := Eq.trans e77 E43
              have E95 : h80 114 = h 114 := Eq.trans e78 E44
              show ov_R u d ov_m230 151 [(0, ov_r 90), (1, ov_i dep), (2, ov_i j4), (5, ov_i j5)] [ov_i v64] z79 h80 (P_Mo_takePart_90 F z h n dep)
              rw [show h29 92 = h 92 from E31] at f63
              rw [show h29 94 = h 94 from E33] at f63
              have f96 : (h80 90 2) = (h29 90 2) ∧ (h80 90 8) = (h29 90 8) ∧ (h80 90 13) = (h29 90 13) ∧ (h80 90 20) = (h29 90 20) ∧ (h80 90 22) = (h29 90 22) ∧ (h80 90 25) = (h29 90 25) ∧ (h80 90 26) = (h29 90 26) ∧ (h80 90 28) = (h29 90 28) ∧ (h80 90 29) = (h29 90 29) ∧ (h80 90 30) = (h29 90 30) ∧ (h80 90 34) = (h29 90 34) ∧ (v64 = 0 ∨ v64 = 1) ∧ (h29 90 7) ≤ (h80 90 7) ∧ (h80 90 7) ≤ n ∧ (v64 = 1 → (h80 90 7) = (h29 90 7) + 1 ∧ (h29 90 8) = 0) ∧ (v64 = 0 → (h80 90 7) = (h29 90 7)) ∧ (v64 = 1 → (h29 90 8) = 0 ∧ (h 92 ((h29 90 7))) = 3 ∧ (h 94 ((h29 90 7))) = (40 : Int)) ∧ (v64 = 0 → ¬ ((h29 90 8) = 0 ∧ (h 92 ((h29 90 7))) = 3 ∧ (h 94 ((h29 90 7))) = (40 : Int))) := f63
              clear f63
              refine ov_ifeq (tgt := 170) d_230_151 (by decide) (by omega) (fun c97 => ?_) (fun c97 => ?_)
              · skip
                have f96_ : v64 = 0 := by omega
                have f98 : (h80 90 2) = (h29 90 2) := f96.1
                have f99 : (h80 90 8) = (h29 90 8) := f96.2.1
                have f100 : (h80 90 13) = (h29 90 13) := f96.2.2.1
                have f101 : (h80 90 20) = (h29 90 20) := f96.2.2.2.1
                have f102 : (h80 90 22) = (h29 90 22) := f96.2.2.2.2.1
                have f103 : (h80 90 25) = (h29 90 25) := f96.2.2.2.2.2.1
                have f104 : (h80 90 26) = (h29 90 26) := f96.2.2.2.2.2.2.1
                have f105 : (h80 90 28) = (h29 90 28) := f96.2.2.2.2.2.2.2.1
                have f106 : (h80 90 29) = (h29 90 29) := f96.2.2.2.2.2.2.2.2.1
                have f107 : (h80 90 30) = (h29 90 30) := f96.2.2.2.2.2.2.2.2.2.1
                have f108 : (h80 90 34) = (h29 90 34) := f96.2.2.2.2.2.2.2.2.2.2.1
                have f109 : (h29 90 7) ≤ (h80 90 7) := f96.2.2.2.2.2.2.2.2.2.2.2.2.1
                have f110 : (h80 90 7) ≤ n := f96.2.2.2.2.2.2.2.2.2.2.2.2.2.1
                have f111 : (h80 90 7) = (h29 90 7) := f96.2.2.2.2.2.2.2.2.2.2.2.2.2.2.2.1 (by omega)
                have f112 : ¬ ((h29 90 8) = 0 ∧ (h 92 ((h29 90 7))) = 3 ∧ (h 94 ((h29 90 7))) = (40 : Int)) := f96.2.2.2.2.2.2.2.2.2.2.2.2.2.2.2.2.2 (by omega)
                clear f96
                refine ov_blk (ls2 := [(0, ov_r 90), (1, ov_i dep), (2, ov_i j4), (5, ov_i j5)]) (st2 := [ov_i j4, ov_r 90]) (pc2 := 172) b_230_170_2 rfl rfl ?_
                refine ov_ifeq (tgt := 179) d_230_172 (by decide) (by omega) (fun c113 => ?_) (fun c113 => ?_)
                · skip
                  refine ov_blk (ls2 := [(0, ov_r 90), (1, ov_i dep), (2, ov_i j4), (5, ov_i j5)]) (st2 := [ov_i j4, ov_i 2, ov_r 90]) (pc2 := 181) b_230_179_2 rfl rfl ?_
                  refine ov_ifeq (tgt := 197) d_230_181 (by decide) (by omega) (fun c114 => ?_) (fun c114 => ?_)
                  · skip
                    refine ov_blk (ls2 := [(0, ov_r 90), (1, ov_i dep), (2, ov_i j4), (5, ov_i j5)]) (st2 := [ov_i j5, ov_i 2, ov_r 90]) (pc2 := 199) b_230_197_1 rfl rfl ?_
                    refine ov_cV (as := [ov_i 2, ov_i j5]) (st := []) (d2 := d - 1) d_230_199 lk_Mo_246 rfl (Nat.le_of_ble_eq_true rfl) (c := 1) (zb_90 I81) (zs_90 I81) ⟨by decide, rfl⟩ (by omega) (c_Mo_emit_90 (d - 1) (by omega) U I81 2 j5 (by omega) (by omega) (by omega) (by show (h80 90 13) ≤ 999; omega)) ?_
                    rintro _ z130 h131 ⟨rfl, I132, f115, e116, e117, e118, e119, e120, e121, e122, e123, e124, e125, e126, e127, y128, y129⟩
                    have E133 : h131 92 = h 92 := Eq.trans e116 E82
                    have E134 : h131 93 = h 93 := Eq.trans e117 E83
                    have E135 : h131 94 = h 94 := Eq.trans e118 E84
                    have E136 : h131 95 = h 95 := Eq.trans e119 E85
                    have E137 : h131 96 = h 96 := Eq.trans e120 E86
                    have E138 : h131 99 = h 99 := Eq.trans e121 E89
                    have E139 : h131 100 = h 100 := Eq.trans e122 E90
                    have E140 : h131 103 = h 103 := Eq.trans e123 E91
                    have E141 : h131 105 = h 105 := Eq.trans e124 E92
                    have E142 : h131 106 = h 106 := Eq.trans e125 E93
                    have E143 : h131 109 = h 109 := Eq.trans e126 E94
                    have E144 : h131 114 = h 114 := Eq.trans e127 E95
                    show ov_R u d ov_m230 202 [(0, ov_r 90), (1, ov_i dep), (2, ov_i j4), (5, ov_i j5)] [] z130 h131 (P_Mo_takePart_90 F z h n dep)
                    have f145 : (h131 90 2) = (h80 90 2) ∧ (h131 90 7) = (h80 90 7) ∧ (h131 90 8) = (h80 90 8) ∧ (h131 90 20) = (h80 90 20) ∧ (h131 90 22) = (h80 90 22) ∧ (h131 90 25) = (h80 90 25) ∧ (h131 90 26) = (h80 90 26) ∧ (h131 90 28) = (h80 90 28) ∧ (h131 90 29) = (h80 90 29) ∧ (h131 90 30) = (h80 90 30) ∧ (h131 90 34) = (h80 90 34) ∧ (h131 90 13) = (h80 90 13) + 1 := f115
                    clear f115
                    rw [show h80 97 = h 97 from E87] at y128
                    have y128_ : (h131 97) = ov_rs (h 97) (1100 + (h80 90 13)) (2 : Int) := y128
                    rw [show h80 98 = h 98 from E88] at y129
                    have y129_ : (h131 98) = ov_rs (h 98) (1100 + (h80 90 13)) j5 := y129
                    have K146 : ∀ j : Int, j < 1100 + (h 90 13) → h131 97 j = h 97 j ∧ h131 98 j = h 98 j := ov_kpe (fun j _ => ⟨rfl, rfl⟩) y128_ y129_ (by omega)
                    have K147 : h131 90 8 = 0 → ov_sg (h131 97) (h131 98) (h 90 13) (h131 90 13) := fun e => by have q3 := ov_sg_one y128_ y129_ (by omega); rw [show h131 90 13 = (h80 90 13) + 1 by omega, show h 90 13 = (h80 90 13) by omega]; exact q3
                    refine ov_blk (ls2 := [(0, ov_r 90), (1, ov_i dep), (2, ov_i j4), (5, ov_i j5)]) (st2 := [ov_r 90, ov_r 90]) (pc2 := 204) b_230_202_2 rfl rfl ?_
                    refine ov_getf (v := ov_i (h131 90 7)) d_230_204 fl_Mo_177 (zb_90 I132) (zs_90 I132) rfl ?_
                    have g148 := rg_90_7 I132
                    refine ov_blk (ls2 := [(0, ov_r 90), (1, ov_i dep), (2, ov_i j4), (5, ov_i j5)]) (st2 := [ov_i ((h131 90 7) + 1), ov_r 90]) (pc2 := 209) b_230_207_2 rfl rfl ?_
                    refine ov_putf (x := ((h131 90 7) + 1)) d_230_209 fl_Mo_177 (zb_90 I132) (zs_90 I132) rfl nk_0 rfl ?_
                    have I149 := up_90_7 (x := ((h131 90 7) + 1)) I132 (by omega)
                    exact ov_retv (st := []) d_230_212 rfl ⟨rfl, I149, (by show (h131 90 2) = (h 90 2) ∧ (h131 90 20) = (h 90 20) ∧ (h131 90 22) = (h 90 22) ∧ (h131 90 25) = (h 90 25) ∧ (h131 90 26) = (h 90 26) ∧ (h131 90 28) = (h 90 28) ∧ (h131 90 29) = (h 90 29) ∧ (h131 90 30) = (h 90 30) ∧ (h131 90 34) = (h 90 34) ∧ (h 90 7) ≤ ((h131 90 7) + 1) ∧ ((h131 90 7) + 1) ≤ n ∧ (h 90 8) ≤ (h131 90 8) ∧ (h 90 13) ≤ (h131 90 13) ∧ (h131 90 13) - (h 90 13) ≤ ((h131 90 7) + 1) - (h 90 7); omega), E133, E134, E135, E136, E137, E138, E139, E140, E141, E142, E143, E144, K146, (fun e => by have e0 : (h131 90 8) = 0 := e; show ov_sg ((ov_up h131 90 7 ((h131 90 7) + 1)) 97) ((ov_up h131 90 7 ((h131 90 7) + 1)) 98) _ (h131 90 13); rw [show (h131 90 13) = (h131 90 13) by omega]; exact K147 (by omega))⟩
                  · omega
                · skip
                  refine ov_blk (ls2 := [(0, ov_r 90), (1, ov_i dep), (2, ov_i j4), (5, ov_i j5)]) (st2 := [ov_i 1, ov_r 90]) (pc2 := 176) b_230_175_1 rfl rfl ?_
                  refine ov_goto (tgt := 180) d_230_176 (by decide) ?_
                  refine ov_blk (ls2 := [(0, ov_r 90), (1, ov_i dep), (2, ov_i j4), (5, ov_i j5)]) (st2 := [ov_i j4, ov_i 1, ov_r 90]) (pc2 := 181) b_230_180_1 rfl rfl ?_
                  refine ov_ifeq (tgt := 197) d_230_181 (by decide) (by omega) (fun c150 => ?_) (fun c150 => ?_)
                  · omega
                  · skip
                    refine ov_blk (ls2 := [(0, ov_r 90), (1, ov_i dep), (2, ov_i j4), (5, ov_i j5)]) (st2 := [ov_r 90, ov_i 1, ov_r 90]) (pc2 := 185) b_230_184_1 rfl rfl ?_
                    refine ov_getf (v := ov_r 94) d_230_185 fl_Mo_30 (zb_90 I81) (zs_90 I81) (congrArg ov_r (rg_90_6 I81)) ?_
                    refine ov_blk (ls2 := [(0, ov_r 90), (1, ov_i dep), (2, ov_i j4), (5, ov_i j5)]) (st2 := [ov_r 90, ov_r 94, ov_i 1, ov_r 90]) (pc2 := 189) b_230_188_1 rfl rfl ?_
                    refine ov_getf (v := ov_i (h80 90 7)) d_230_189 fl_Mo_177 (zb_90 I81) (zs_90 I81) rfl ?_
                    have g151 := rg_90_7 I81
                    refine ov_lald d_230_192 (zb_94 I81) (zs_94 I81) (by omega) ?_
                    rw [show h80 94 = h 94 from E84]
                    have g152 := ra_94 I (h80 90 7)
                    refine ov_blk (ls2 := [(0, ov_r 90), (1, ov_i dep), (2, ov_i j4), (5, ov_i j5)]) (st2 := [ov_i (h 94 (h80 90 7)), ov_i 1, ov_r 90]) (pc2 := 194) b_230_193_1 rfl rfl ?_
                    refine ov_havw (fun w153 gw153 qw153 => ?_)
                    refine ov_goto (tgt := 199) d_230_194 (by decide) ?_
                    refine ov_cV (as := [ov_i 1, ov_i w153]) (st := []) (d2 := d - 1) d_230_199 lk_Mo_246 rfl (Nat.le_of_ble_eq_true rfl) (c := 1) (zb_90 I81) (zs_90 I81) ⟨by decide, rfl⟩ (by omega) (c_Mo_emit_90 (d - 1) (by omega) U I81 1 w153 (by omega) (by omega) (by omega) (by show (h80 90 13) ≤ 999; omega)) ?_
                    rintro _ z169 h170 ⟨rfl, I171, f154, e155, e156, e157, e158, e159, e160, e161, e162, e163, e164, e165, e166, y167, y168⟩
                    have E172 : h170 92 = h 92 := Eq.trans e155 E82
                    have E173 : h170 93 = h 93 := Eq.trans e156 E83
                    have E174 : h170 94 = h 94 := Eq.trans e157 E84
                    have E175 : h170 95 = h 95 := Eq.trans e158 E85
                    have E176 : h170 96 = h 96 := Eq.trans e159 E86
                    have E177 : h170 99 = h 99 := Eq.trans e160 E89
                    have E178 : h170 100 = h 100 := Eq.trans e161 E90
                    have E179 : h170 103 = h 103 := Eq.trans e162 E91
                    have E180 : h170 105 = h 105 := Eq.trans e163 E92
                    have E181 : h170 106 = h 106 := Eq.trans e164 E93
                    have E182 : h170 109 = h 109 := Eq.trans e165 E94
                    have E183 : h170 114 = h 114 := Eq.trans e166 E95
                    show ov_R u d ov_m230 202 [(0, ov_r 90), (1, ov_i dep), (2, ov_i j4), (5, ov_i j5)] [] z169 h170 (P_Mo_takePart_90 F z h n dep)
                    have f184 : (h170 90 2) = (h80 90 2) ∧ (h170 90 7) = (h80 90 7) ∧ (h170 90 8) = (h80 90 8) ∧ (h170 90 20) = (h80 90 20) ∧ (h170 90 22) = (h80 90 22) ∧ (h170 90 25) = (h80 90 25) ∧ (h170 90 26) = (h80 90 26) ∧ (h170 90 28) = (h80 90 28) ∧ (h170 90 29) = (h80 90 29) ∧ (h170 90 30) = (h80 90 30) ∧ (h170 90 34) = (h80 90 34) ∧ (h170 90 13) = (h80 90 13) + 1 := f154
                    clear f154
                    rw [show h80 97 = h 97 from E87] at y167
                    have y167_ : (h170 97) = ov_rs (h 97) (1100 + (h80 90 13)) (1 : Int) := y167
                    rw [show h80 98 = h 98 from E88] at y168
                    have y168_ : (h170 98) = ov_rs (h 98) (1100 + (h80 90 13)) w153 := y168
                    have K185 : ∀ j : Int, j < 1100 + (h 90 13) → h170 97 j = h 97 j ∧ h170 98 j = h 98 j := ov_kpe (fun j _ => ⟨rfl, rfl⟩) y167_ y168_ (by omega)
                    have K186 : h170 90 8 = 0 → ov_sg (h170 97) (h170 98) (h 90 13) (h170 90 13) := fun e => by have q3 := ov_sg_one y167_ y168_ (by omega); rw [show h170 90 13 = (h80 90 13) + 1 by omega, show h 90 13 = (h80 90 13) by omega]; exact q3
                    refine ov_blk (ls2 := [(0, ov_r 90), (1, ov_i dep), (2, ov_i j4), (5, ov_i j5)]) (st2 := [ov_r 90, ov_r 90]) (pc2 := 204) b_230_202_2 rfl rfl ?_
                    refine ov_getf (v := ov_i (h170 90 7)) d_230_204 fl_Mo_177 (zb_90 I171) (zs_90 I171) rfl ?_
                    have g187 := rg_90_7 I171
                    refine ov_blk (ls2 := [(0, ov_r 90), (1, ov_i dep), (2, ov_i j4), (5, ov_i j5)]) (st2 := [ov_i ((h170 90 7) + 1), ov_r 90]) (pc2 := 209) b_230_207_2 rfl rfl ?_
                    refine ov_putf (x := ((h170 90 7) + 1)) d_230_209 fl_Mo_177 (zb_90 I171) (zs_90 I171) rfl nk_0 rfl ?_
                    have I188 := up_90_7 (x := ((h170 90 7) + 1)) I171 (by omega)
                    exact ov_retv (st := []) d_230_212 rfl ⟨rfl, I188, (by show (h170 90 2) = (h 90 2) ∧ (h170 90 20) = (h 90 20) ∧ (h170 90 22) = (h 90 22) ∧ (h170 90 25) = (h 90 25) ∧ (h170 90 26) = (h 90 26) ∧ (h170 90 28) = (h 90 28) ∧ (h170 90 29) = (h 90 29) ∧ (h170 90 30) = (h 90 30) ∧ (h170 90 34) = (h 90 34) ∧ (h 90 7) ≤ ((h170 90 7) + 1) ∧ ((h170 90 7) + 1) ≤ n ∧ (h 90 8) ≤ (h170 90 8) ∧ (h 90 13) ≤ (h170 90 13) ∧ (h170 90 13) - (h 90 13) ≤ ((h170 90 7) + 1) - (h 90 7); omega), E172, E173, E174, E175, E176, E177, E178, E179, E180, E181, E182, E183, K185, (fun e => by have e0 : (h170 90 8) = 0 := e; show ov_sg ((ov_up h170 90 7 ((h170 90 7) + 1)) 97) ((ov_up h170 90 7 ((h170 90 7) + 1)) 98) _ (h170 90 13); rw [show (h170 90 13) = (h170 90 13) by omega]; exact K186 (by omega))⟩
              · skip
                have f96_ : v64 = 1 := by omega
                have f189 : (h80 90 2) = (h29 90 2) := f96.1
                have f190 : (h80 90 8) = (h29 90 8) := f96.2.1
                have f191 : (h80 90 13) = (h29 90 13) := f96.2.2.1
                have f192 : (h80 90 20) = (h29 90 20) := f96.2.2.2.1
                have f193 : (h80 90 22) = (h29 90 22) := f96.2.2.2.2.1
                have f194 : (h80 90 25) = (h29 90 25) := f96.2.2.2.2.2.1
                have f195 : (h80 90 26) = (h29 90 26) := f96.2.2.2.2.2.2.1
                have f196 : (h80 90 28) = (h29 90 28) := f96.2.2.2.2.2.2.2.1
                have f197 : (h80 90 29) = (h29 90 29) := f96.2.2.2.2.2.2.2.2.1
                have f198 : (h80 90 30) = (h29 90 30) := f96.2.2.2.2.2.2.2.2.2.1
                have f199 : (h80 90 34) = (h29 90 34) := f96.2.2.2.2.2.2.2.2.2.2.1
                have f200 : (h29 90 7) ≤ (h80 90 7) := f96.2.2.2.2.2.2.2.2.2.2.2.2.1
                have f201 : (h80 90 7) ≤ n := f96.2.2.2.2.2.2.2.2.2.2.2.2.2.1
                have f202 : (h80 90 7) = (h29 90 7) + 1 ∧ (h29 90 8) = 0 := f96.2.2.2.2.2.2.2.2.2.2.2.2.2.2.1 (by omega)
                have f203 : (h29 90 8) = 0 ∧ (h 92 ((h29 90 7))) = 3 ∧ (h 94 ((h29 90 7))) = (40 : Int) := f96.2.2.2.2.2.2.2.2.2.2.2.2.2.2.2.2.1 (by omega)
                clear f96
                refine ov_blk (ls2 := [(0, ov_r 90), (1, ov_i dep), (2, ov_i j4), (5, ov_i j5)]) (st2 := [ov_i (dep + 1), ov_r 90]) (pc2 := 158) b_230_154_4 rfl rfl ?_
                have cf204 : h80 92 (n) = h 92 (n) := congrFun E82 (n)
                refine ov_cV (as := [ov_i (dep + 1)]) (st := []) (d2 := d - 1) d_230_158 lk_Mo_243 rfl (Nat.le_of_ble_eq_true rfl) (c := 1) (zb_90 I81) (zs_90 I81) ⟨by decide, rfl⟩ (by omega) (HE (k - 1) (by omega) (d - 1) (by omega) U I81 (dep + 1) (by omega) (by show 0 ≤ n ∧ n ≤ 1000 ∧ (h80 92 (n)) = 0 ∧ (h80 90 7) ≤ n; omega) (by omega) (by show (h80 90 13) ≤ (h80 90 7); omega)) ?_
                rintro _ z220 h221 ⟨rfl, I222, f205, e206, e207, e208, e209, e210, e211, e212, e213, e214, e215, e216, e217, y218, y219⟩
                have E223 : h221 92 = h 92 := Eq.trans e206 E82
                have E224 : h221 93 = h 93 := Eq.trans e207 E83
                have E225 : h221 94 = h 94 := Eq.trans e208 E84
                have E226 : h221 95 = h 95 := Eq.trans e209 E85
                have E227 : h221 96 = h 96 := Eq.trans e210 E86
                have E228 : h221 99 = h 99 := Eq.trans e211 E89
                have E229 : h221 100 = h 100 := Eq.trans e212 E90
                have E230 : h221 103 = h 103 := Eq.trans e213 E91
                have E231 : h221 105 = h 105 := Eq.trans e214 E92
                have E232 : h221 106 = h 106 := Eq.trans e215 E93
                have E233 : h221 109 = h 109 := Eq.trans e216 E94
                have E234 : h221 114 = h 114 := Eq.trans e217 E95
                show ov_R u d ov_m230 161 [(0, ov_r 90), (1, ov_i dep), (2, ov_i j4), (5, ov_i j5)] [] z220 h221 (P_Mo_takePart_90 F z h n dep)
                have f235 : (h221 90 2) = (h80 90 2) ∧ (h221 90 20) = (h80 90 20) ∧ (h221 90 22) = (h80 90 22) ∧ (h221 90 25) = (h80 90 25) ∧ (h221 90 26) = (h80 90 26) ∧ (h221 90 28) = (h80 90 28) ∧ (h221 90 29) = (h80 90 29) ∧ (h221 90 30) = (h80 90 30) ∧ (h221 90 34) = (h80 90 34) ∧ (h80 90 7) ≤ (h221 90 7) ∧ (h221 90 7) ≤ n ∧ (h80 90 8) ≤ (h221 90 8) ∧ (h80 90 13) ≤ (h221 90 13) ∧ (h221 90 13) - (h80 90 13) ≤ (h221 90 7) - (h80 90 7) := f205
                clear f205
                rw [show h80 97 = h 97 from E87] at y218
                rw [show h80 98 = h 98 from E88] at y218
                have y218_ : ∀ j : Int, j < 1100 + (h80 90 13) → (h221 97) j = (h 97) j ∧ (h221 98) j = (h 98) j := y218
                have y219_ : (h221 90 8) = 0 → ov_sg (h221 97) (h221 98) (h80 90 13) (h221 90 13) := y219
                have K236 : ∀ j : Int, j < 1100 + (h 90 13) → h221 97 j = h 97 j ∧ h221 98 j = h 98 j := fun j hj => y218_ j (by omega)
                have K237 : h221 90 8 = 0 → ov_sg (h221 97) (h221 98) (h 90 13) (h221 90 13) := fun e => by have q := y219_ e; rw [show (h80 90 13) = h 90 13 by omega] at q; exact q
                refine ov_blk (ls2 := [(0, ov_r 90), (1, ov_i dep), (2, ov_i j4), (5, ov_i j5)]) (st2 := [ov_i 41, ov_r 90]) (pc2 := 164) b_230_161_2 rfl rfl ?_
                have cf238 : h221 92 (n) = h 92 (n) := congrFun E223 (n)
                refine ov_cV (as := [ov_i 41]) (st := []) (d2 := d - 1) d_230_164 lk_Mo_214 rfl (Nat.le_of_ble_eq_true rfl) (c := 1) (zb_90 I222) (zs_90 I222) ⟨by decide, rfl⟩ (by omega) (c_Mo_takeSign_90 n (d - 1) (by omega) U I222 41 (by omega) (by show 0 ≤ n ∧ n ≤ 1000 ∧ (h221 92 (n)) = 0 ∧ (h221 90 7) ≤ n; omega)) ?_
                rintro _ z254 h255 ⟨rfl, I256, f239, e240, e241, e242, e243, e244, e245, e246, e247, e248, e249, e250, e251, e252, e253⟩
                have E257 : h255 92 = h 92 := Eq.trans e240 E223
                have E258 : h255 93 = h 93 := Eq.trans e241 E224
                have E259 : h255 94 = h 94 := Eq.trans e242 E225
                have E260 : h255 95 = h 95 := Eq.trans e243 E226
                have E261 : h255 96 = h 96 := Eq.trans e244 E227
                have E262 : h255 97 = h221 97 := e245
                have E263 : h255 98 = h221 98 := e246
                have E264 : h255 99 = h 99 := Eq.trans e247 E228
                have E265 : h255 100 = h 100 := Eq.trans e248 E229
                have E266 : h255 103 = h 103 := Eq.trans e249 E230
                have E267 : h255 105 = h 105 := Eq.trans e250 E231
                have E268 : h255 106 = h 106 := Eq.trans e251 E232
                have E269 : h255 109 = h 109 := Eq.trans e252 E233
                have E270 : h255 114 = h 114 := Eq.trans e253 E234
                show ov_R u d ov_m230 167 [(0, ov_r 90), (1, ov_i dep), (2, ov_i j4), (5, ov_i j5)] [] z254 h255 (P_Mo_takePart_90 F z h n dep)
                have f271 : (h255 90 2) = (h221 90 2) ∧ (h255 90 13) = (h221 90 13) ∧ (h255 90 20) = (h221 90 20) ∧ (h255 90 22) = (h221 90 22) ∧ (h255 90 25) = (h221 90 25) ∧ (h255 90 26) = (h221 90 26) ∧ (h255 90 28) = (h221 90 28) ∧ (h255 90 29) = (h221 90 29) ∧ (h255 90 30) = (h221 90 30) ∧ (h255 90 34) = (h221 90 34) ∧ (h221 90 7) ≤ (h255 90 7) ∧ (h255 90 7) ≤ n ∧ (h221 90 8) ≤ (h255 90 8) ∧ (h221 90 7) < (h255 90 7) + (h255 90 8) := f239
                clear f239
                refine ov_goto (tgt := 212) d_230_167 (by decide) ?_
                exact ov_retv (st := []) d_230_212 rfl ⟨rfl, I256, (by show (h255 90 2) = (h 90 2) ∧ (h255 90 20) = (h 90 20) ∧ (h255 90 22) = (h 90 22) ∧ (h255 90 25) = (h 90 25) ∧ (h255 90 26) = (h 90 26) ∧ (h255 90 28) = (h 90 28) ∧ (h255 90 29) = (h 90 29) ∧ (h255 90 30) = (h 90 30) ∧ (h255 90 34) = (h 90 34) ∧ (h 90 7) ≤ (h255 90 7) ∧ (h255 90 7) ≤ n ∧ (h 90 8) ≤ (h255 90 8) ∧ (h 90 13) ≤ (h255 90 13) ∧ (h255 90 13) - (h 90 13) ≤ (h255 90 7) - (h 90 7); omega), E257, E258, E259, E260, E261, E264, E265, E266, E267, E268, E269, E270, (by rw [show h255 97 = h221 97 from E262, show h255 98 = h221 98 from E263]; exact K236), (fun e => by have e0 : (h255 90 8) = 0 := e; show ov_sg (h255 97) (h255 98) _ (h255 90 13); rw [show h255 97 = h221 97 from E262, show h255 98 = h221 98 from E263, show (h255 90 13) = (h221 90 13) by omega]; exact K237 (by omega))⟩
            · skip
              have f45_ : v13 = 1 := by omega
              have f272 : (h29 90 2) = (h 90 2) := f45.1
              have f273 : (h29 90 8) = (h 90 8) := f45.2.1
              have f274 : (h29 90 13) = (h 90 13) := f45.2.2.1
              have f275 : (h29 90 20) = (h 90 20) := f45.2.2.2.1
              have f276 : (h29 90 22) = (h 90 22) := f45.2.2.2.2.1
              have f277 : (h29 90 25) = (h 90 25) := f45.2.2.2.2.2.1
              have f278 : (h29 90 26) = (h 90 26) := f45.2.2.2.2.2.2.1
              have f279 : (h29 90 28) = (h 90 28) := f45.2.2.2.2.2.2.2.1
              have f280 : (h29 90 29) = (h 90 29) := f45.2.2.2.2.2.2.2.2.1
              have f281 : (h29 90 30) = (h 90 30) := f45.2.2.2.2.2.2.2.2.2.1
              have f282 : (h29 90 34) = (h 90 34) := f45.2.2.2.2.2.2.2.2.2.2.1
              have f283 : (h 90 7) ≤ (h29 90 7) := f45.2.2.2.2.2.2.2.2.2.2.2.2.1
              have f284 : (h29 90 7) ≤ n := f45.2.2.2.2.2.2.2.2.2.2.2.2.2.1
              have f285 : (h29 90 7) = (h 90 7) + 1 ∧ (h 90 8) = 0 := f45.2.2.2.2.2.2.2.2.2.2.2.2.2.2.1 (by omega)
              have f286 : (h 90 8) = 0 ∧ (h 92 ((h 90 7))) = 1 ∧ (h 94 ((h 90 7))) = (h 95 ((17 : Int))) := f45.2.2.2.2.2.2.2.2.2.2.2.2.2.2.2.2.1 (by omega)
              clear f45
              refine ov_blk (ls2 := [(0, ov_r 90), (1, ov_i dep), (2, ov_i j4), (5, ov_i j5)]) (st2 := [ov_i (dep + 1), ov_r 90]) (pc2 := 133) b_230_129_4 rfl rfl ?_
              have cf287 : h29 92 (n) = h 92 (n) := congrFun E31 (n)
              refine ov_cV (as := [ov_i (dep + 1)]) (st := []) (d2 := d - 1) d_230_133 lk_Mo_269 rfl (Nat.le_of_ble_eq_true rfl) (c := 1) (zb_90 I30) (zs_90 I30) ⟨by decide, rfl⟩ (by omega) (HP (k - 1) (by omega) (d - 1) (by omega) U I30 (dep + 1) (by omega) (by show 0 ≤ n ∧ n ≤ 1000 ∧ (h29 92 (n)) = 0 ∧ (h29 90 7) ≤ n; omega) (by omega) (by show (h29 90 13) ≤ (h29 90 7); omega)) ?_
              rintro _ z303 h304 ⟨rfl, I305, f288, e289, e290, e291, e292, e293, e294, e295, e296, e297, e298, e299, e300, y301, y302⟩
              have E306 : h304 92 = h 92 := Eq.trans e289 E31
              have E307 : h304 93 = h 93 := Eq.trans e290 E32
              have E308 : h304 94 = h 94 := Eq.trans e291 E33
              have E309 : h304 95 = h 95 := Eq.trans e292 E34
              have E310 : h304 96 = h 96 := Eq.trans e293 E35
              have E311 : h304 99 = h 99 := Eq.trans e294 E38
              have E312 : h304 100 = h 100 := Eq.trans e295 E39
              have E313 : h304 103 = h 103 := Eq.trans e296 E40
              have E314 : h304 105 = h 105 := Eq.trans e297 E41
              have E315 : h304 106 = h 106 := Eq.trans e298 E42
              have E316 : h304 109 = h 109 := Eq.trans e299 E43
              have E317 : h304 114 = h 114 := Eq.trans e300 E44
              show ov_R u d ov_m230 136 [(0, ov_r 90), (1, ov_i dep), (2, ov_i j4), (5, ov_i j5)] [] z303 h304 (P_Mo_takePart_90 F z h n dep)
              have f318 : (h304 90 2) = (h29 90 2) ∧ (h304 90 20) = (h29 90 20) ∧ (h304 90 22) = (h29 90 22) ∧ (h304 90 25) = (h29 90 25) ∧ (h304 90 26) = (h29 90 26) ∧ (h304 90 28) = (h29 90 28) ∧ (h304 90 29) = (h29 90 29) ∧ (h304 90 30) = (h29 90 30) ∧ (h304 90 34) = (h29 90 34) ∧ (h29 90 7) ≤ (h304 90 7) ∧ (h304 90 7) ≤ n ∧ (h29 90 8) ≤ (h304 90 8) ∧ (h29 90 13) ≤ (h304 90 13) ∧ (h304 90 13) - (h29 90 13) ≤ (h304 90 7) - (h29 90 7) := f288
              clear f288
              rw [show h29 97 = h 97 from E36] at y301
              rw [show h29 98 = h 98 from E37] at y301
              have y301_ : ∀ j : Int, j < 1100 + (h29 90 13) → (h304 97) j = (h 97) j ∧ (h304 98) j = (h 98) j := y301
              have y302_ : (h304 90 8) = 0 → ov_sg (h304 97) (h304 98) (h29 90 13) (h304 90 13) := y302
              have K319 : ∀ j : Int, j < 1100 + (h 90 13) → h304 97 j = h 97 j ∧ h304 98 j = h 98 j := fun j hj => y301_ j (by omega)
              have K320 : h304 90 8 = 0 → ov_sg (h304 97) (h304 98) (h 90 13) (h304 90 13) := fun e => by have q := y302_ e; rw [show (h29 90 13) = h 90 13 by omega] at q; exact q
              refine ov_blk (ls2 := [(0, ov_r 90), (1, ov_i dep), (2, ov_i j4), (5, ov_i j5)]) (st2 := [ov_i 0, ov_i 3, ov_r 90]) (pc2 := 139) b_230_136_3 rfl rfl ?_
              refine ov_cV (as := [ov_i 3, ov_i 0]) (st := []) (d2 := d - 1) d_230_139 lk_Mo_246 rfl (Nat.le_of_ble_eq_true rfl) (c := 1) (zb_90 I305) (zs_90 I305) ⟨by decide, rfl⟩ (by omega) (c_Mo_emit_90 (d - 1) (by omega) U I305 3 0 (by omega) (by omega) (by omega) (by show (h304 90 13) ≤ 999; omega)) ?_
              rintro _ z336 h337 ⟨rfl, I338, f321, e322, e323, e324, e325, e326, e327, e328, e329, e330, e331, e332, e333, y334, y335⟩
              have E339 : h337 92 = h 92 := Eq.trans e322 E306
              have E340 : h337 93 = h 93 := Eq.trans e323 E307
              have E341 : h337 94 = h 94 := Eq.trans e324 E308
              have E342 : h337 95 = h 95 := Eq.trans e325 E309
              have E343 : h337 96 = h 96 := Eq.trans e326 E310
              have E344 : h337 99 = h 99 := Eq.trans e327 E311
              have E345 : h337 100 = h 100 := Eq.trans e328 E312
              have E346 : h337 103 = h 103 := Eq.trans e329 E313
              have E347 : h337 105 = h 105 := Eq.trans e330 E314
              have E348 : h337 106 = h 106 := Eq.trans e331 E315
              have E349 : h337 109 = h 109 := Eq.trans e332 E316
              have E350 : h337 114 = h 114 := Eq.trans e333 E317
              show ov_R u d ov_m230 142 [(0, ov_r 90), (1, ov_i dep), (2, ov_i j4), (5, ov_i j5)] [] z336 h337 (P_Mo_takePart_90 F z h n dep)
              have f351 : (h337 90 2) = (h304 90 2) ∧ (h337 90 7) = (h304 90 7) ∧ (h337 90 8) = (h304 90 8) ∧ (h337 90 20) = (h304 90 20) ∧ (h337 90 22) = (h304 90 22) ∧ (h337 90 25) = (h304 90 25) ∧ (h337 90 26) = (h304 90 26) ∧ (h337 90 28) = (h304 90 28) ∧ (h337 90 29) = (h304 90 29) ∧ (h337 90 30) = (h304 90 30) ∧ (h337 90 34) = (h304 90 34) ∧ (h337 90 13) = (h304 90 13) + 1 := f321
              clear f321
              have y334_ : (h337 97) = ov_rs (h304 97) (1100 + (h304 90 13)) (3 : Int) := y334
              have y335_ : (h337 98) = ov_rs (h304 98) (1100 + (h304 90 13)) (0 : Int) := y335
              have K352 : ∀ j : Int, j < 1100 + (h 90 13) → h337 97 j = h 97 j ∧ h337 98 j = h 98 j := ov_kpe K319 y334_ y335_ (by omega)
              have K353 : h337 90 8 = 0 → ov_sg (h337 97) (h337 98) (h 90 13) (h337 90 13) := fun e => by have q1 := K320 (by omega); have q3 := ov_sg_un q1 y334_ y335_; rw [show h337 90 13 = (h304 90 13) + 1 by omega]; exact q3
              refine ov_goto (tgt := 212) d_230_142 (by decide) ?_
              exact ov_retv (st := []) d_230_212 rfl ⟨rfl, I338, (by show (h337 90 2) = (h 90 2) ∧ (h337 90 20) = (h 90 20) ∧ (h337 90 22) = (h 90 22) ∧ (h337 90 25) = (h 90 25) ∧ (h337 90 26) = (h 90 26) ∧ (h337 90 28) = (h 90 28) ∧ (h337 90 29) = (h 90 29) ∧ (h337 90 30) = (h 90 30) ∧ (h337 90 34) = (h 90 34) ∧ (h 90 7) ≤ (h337 90 7) ∧ (h337 90 7) ≤ n ∧ (h 90 8) ≤ (h337 90 8) ∧ (h 90 13) ≤ (h337 90 13) ∧ (h337 90 13) - (h 90 13) ≤ (h337 90 7) - (h 90 7); omega), E339, E340, E341, E342, E343, E344, E345, E346, E347, E348, E349, E350, K352, (fun e => by have e0 : (h337 90 8) = 0 := e; show ov_sg (h337 97) (h337 98) _ (h337 90 13); rw [show (h337 90 13) = (h337 90 13) by omega]; exact K353 (by omega))⟩
          · omega
        · skip
          refine ov_blk (ls2 := [(0, ov_r 90), (1, ov_i dep), (2, ov_i j4), (5, ov_i j5)]) (st2 := [ov_i 5, ov_r 90]) (pc2 := 109) b_230_107_2 rfl rfl ?_
          refine ov_cV (as := [ov_i 5]) (st := []) (d2 := d - 1) d_230_109 lk_Mo_186 rfl (Nat.le_of_ble_eq_true rfl) (c := 1) (zb_90 I) (zs_90 I) ⟨by decide, rfl⟩ (by omega) (c_Mo_wrong_90 (d - 1) (by omega) U I 5 (by omega) (by omega)) ?_
          rintro _ z369 h370 ⟨rfl, I371, f354, e355, e356, e357, e358, e359, e360, e361, e362, e363, e364, e365, e366, e367, e368⟩
          have E372 : h370 92 = h 92 := e355
          have E373 : h370 93 = h 93 := e356
          have E374 : h370 94 = h 94 := e357
          have E375 : h370 95 = h 95 := e358
          have E376 : h370 96 = h 96 := e359
          have E377 : h370 97 = h 97 := e360
          have E378 : h370 98 = h 98 := e361
          have E379 : h370 99 = h 99 := e362
          have E380 : h370 100 = h 100 := e363
          have E381 : h370 103 = h 103 := e364
          have E382 : h370 105 = h 105 := e365
          have E383 : h370 106 = h 106 := e366
          have E384 : h370 109 = h 109 := e367
          have E385 : h370 114 = h 114 := e368
          show ov_R u d ov_m230 112 [(0, ov_r 90), (1, ov_i dep), (2, ov_i j4), (5, ov_i j5)] [] z369 h370 (P_Mo_takePart_90 F z h n dep)
          have f386 : (h370 90 2) = (h 90 2) ∧ (h370 90 7) = (h 90 7) ∧ (h370 90 13) = (h 90 13) ∧ (h370 90 20) = (h 90 20) ∧ (h370 90 22) = (h 90 22) ∧ (h370 90 25) = (h 90 25) ∧ (h370 90 26) = (h 90 26) ∧ (h370 90 28) = (h 90 28) ∧ (h370 90 29) = (h 90 29) ∧ (h370 90 30) = (h 90 30) ∧ (h370 90 34) = (h 90 34) ∧ 0 < (h370 90 8) ∧ (h 90 8) ≤ (h370 90 8) := f354
          clear f354
          refine ov_blk (ls2 := [(0, ov_r 90), (1, ov_i dep), (2, ov_i j4), (5, ov_i j5)]) (st2 := [ov_r 90]) (pc2 := 113) b_230_112_1 rfl rfl ?_
          refine ov_getf (v := ov_i (h370 90 8)) d_230_113 fl_Mo_180 (zb_90 I371) (zs_90 I371) rfl ?_
          have g387 := rg_90_8 I371
          refine ov_ifle (tgt := 120) d_230_116 (by decide) (by omega) (fun c388 => ?_) (fun c388 => ?_)
          · omega
          · skip
            exact ov_retv (st := []) d_230_119 rfl ⟨rfl, I371, (by show (h370 90 2) = (h 90 2) ∧ (h370 90 20) = (h 90 20) ∧ (h370 90 22) = (h 90 22) ∧ (h370 90 25) = (h 90 25) ∧ (h370 90 26) = (h 90 26) ∧ (h370 90 28) = (h 90 28) ∧ (h370 90 29) = (h 90 29) ∧ (h370 90 30) = (h 90 30) ∧ (h370 90 34) = (h 90 34) ∧ (h 90 7) ≤ (h370 90 7) ∧ (h370 90 7) ≤ n ∧ (h 90 8) ≤ (h370 90 8) ∧ (h 90 13) ≤ (h370 90 13) ∧ (h370 90 13) - (h 90 13) ≤ (h370 90 7) - (h 90 7); omega), E372, E373, E374, E375, E376, E379, E380, E381, E382, E383, E384, E385, (fun j _ => by rw [show h370 97 = h 97 from E377, show h370 98 = h 98 from E378]; exact ⟨rfl, rfl⟩), (fun e => absurd e (by show ¬ (h370 90 8) = 0; omega))⟩
      refine ov_blk (ls2 := [(0, ov_r 90), (1, ov_i dep), (2, ov_i j4), (5, ov_i j5)]) (st2 := [ov_i j5]) (pc2 := 69) b_230_67_1 rfl rfl ?_
      refine ov_ifge (tgt := 102) d_230_69 (by decide) (by omega) (fun c389 => ?_) (fun c389 => ?_)
      · skip
        exact J7  (by show (0 ≤ j5 ∨ j4 = 1 ∨ ((h 90 8) = 0 ∧ (h 92 ((h 90 7))) = 3 ∧ (h 94 ((h 90 7))) = 40) ∨ ((h 90 8) = 0 ∧ (h 92 ((h 90 7))) = 1 ∧ (h 94 ((h 90 7))) = (h 95 (17)))); omega)
      · skip
        refine ov_blk (ls2 := [(0, ov_r 90), (1, ov_i dep), (2, ov_i j4), (5, ov_i j5)]) (st2 := [ov_i j4]) (pc2 := 73) b_230_72_1 rfl rfl ?_
        refine ov_ifne (tgt := 102) d_230_73 (by decide) (by omega) (fun c390 => ?_) (fun c390 => ?_)
        · skip
          exact J7  (by show (0 ≤ j5 ∨ j4 = 1 ∨ ((h 90 8) = 0 ∧ (h 92 ((h 90 7))) = 3 ∧ (h 94 ((h 90 7))) = 40) ∨ ((h 90 8) = 0 ∧ (h 92 ((h 90 7))) = 1 ∧ (h 94 ((h 90 7))) = (h 95 (17)))); omega)
        · skip
          refine ov_blk (ls2 := [(0, ov_r 90), (1, ov_i dep), (2, ov_i j4), (5, ov_i j5)]) (st2 := [ov_i 40, ov_r 90]) (pc2 := 79) b_230_76_2 rfl rfl ?_
          refine ov_cV (as := [ov_i 40]) (st := []) (d2 := d - 1) d_230_79 lk_Mo_183 rfl (Nat.le_of_ble_eq_true rfl) (c := 1) (zb_90 I) (zs_90 I) ⟨by decide, rfl⟩ (by omega) (c_Mo_isSign_90 n (d - 1) (by omega) U I 40 (by omega) (by show 0 ≤ n ∧ n ≤ 1000 ∧ (h 92 (n)) = 0 ∧ (h 90 7) ≤ n; omega)) ?_
          rintro _ _ _ ⟨v392, rfl, rfl, rfl, f391⟩
          show ov_R u d ov_m230 82 [(0, ov_r 90), (1, ov_i dep), (2, ov_i j4), (5, ov_i j5)] [ov_i v392] z h (P_Mo_takePart_90 F z h n dep)
          have f393 : (v392 = 0 ∨ v392 = 1) ∧ (v392 = 1 → (h 90 7) < n) ∧ (v392 = 1 → (h 90 8) = 0 ∧ (h 92 ((h 90 7))) = 3 ∧ (h 94 ((h 90 7))) = (40 : Int)) ∧ (v392 = 0 → ¬ ((h 90 8) = 0 ∧ (h 92 ((h 90 7))) = 3 ∧ (h 94 ((h 90 7))) = (40 : Int))) := f391
          clear f391
          refine ov_ifne (tgt := 102) d_230_82 (by decide) (by omega) (fun c394 => ?_) (fun c394 => ?_)
          · skip
            have f393_ : v392 = 1 := by omega
            have f395 : (h 90 7) < n := f393.2.1 (by omega)
            have f396 : (h 90 8) = 0 ∧ (h 92 ((h 90 7))) = 3 ∧ (h 94 ((h 90 7))) = (40 : Int) := f393.2.2.1 (by omega)
            clear f393
            exact J7  (by show (0 ≤ j5 ∨ j4 = 1 ∨ ((h 90 8) = 0 ∧ (h 92 ((h 90 7))) = 3 ∧ (h 94 ((h 90 7))) = 40) ∨ ((h 90 8) = 0 ∧ (h 92 ((h 90 7))) = 1 ∧ (h 94 ((h 90 7))) = (h 95 (17)))); omega)
          · skip
            have f393_ : v392 = 0 := by omega
            have f397 : ¬ ((h 90 8) = 0 ∧ (h 92 ((h 90 7))) = 3 ∧ (h 94 ((h 90 7))) = (40 : Int)) := f393.2.2.2 (by omega)
            clear f393
            refine ov_blk (ls2 := [(0, ov_r 90), (1, ov_i dep), (2, ov_i j4), (5, ov_i j5)]) (st2 := [ov_i 17, ov_r 90]) (pc2 := 88) b_230_85_2 rfl rfl ?_
            refine ov_cV (as := [ov_i 17]) (st := []) (d2 := d - 1) d_230_88 lk_Mo_189 rfl (Nat.le_of_ble_eq_true rfl) (c := 1) (zb_90 I) (zs_90 I) ⟨by decide, rfl⟩ (by omega) (c_Mo_isWord_90 n (d - 1) (by omega) U I 17 (by omega) (by show 0 ≤ n ∧ n ≤ 1000 ∧ (h 92 (n)) = 0 ∧ (h 90 7) ≤ n; omega) (by omega)) ?_
            rintro _ _ _ ⟨v399, rfl, rfl, rfl, f398⟩
            show ov_R u d ov_m230 91 [(0, ov_r 90), (1, ov_i dep), (2, ov_i j4), (5, ov_i j5)] [ov_i v399] z h (P_Mo_takePart_90 F z h n dep)
            have f400 : (v399 = 0 ∨ v399 = 1) ∧ (v399 = 1 → (h 90 7) < n) ∧ (v399 = 1 → (h 90 8) = 0 ∧ (h 92 ((h 90 7))) = 1 ∧ (h 94 ((h 90 7))) = (h 95 ((17 : Int)))) ∧ (v399 = 0 → ¬ ((h 90 8) = 0 ∧ (h 92 ((h 90 7))) = 1 ∧ (h 94 ((h 90 7))) = (h 95 ((17 : Int))))) := f398
            clear f398
            refine ov_ifne (tgt := 102) d_230_91 (by decide) (by omega) (fun c401 => ?_) (fun c401 => ?_)
            · skip
              have f400_ : v399 = 1 := by omega
              have f402 : (h 90 7) < n := f400.2.1 (by omega)
              have f403 : (h 90 8) = 0 ∧ (h 92 ((h 90 7))) = 1 ∧ (h 94 ((h 90 7))) = (h 95 ((17 : Int))) := f400.2.2.1 (by omega)
              clear f400
              exact J7  (by show (0 ≤ j5 ∨ j4 = 1 ∨ ((h 90 8) = 0 ∧ (h 92 ((h 90 7))) = 3 ∧ (h 94 ((h 90 7))) = 40) ∨ ((h 90 8) = 0 ∧ (h 92 ((h 90 7))) = 1 ∧ (h 94 ((h 90 7))) = (h 95 (17)))); omega)
            · skip
              have f400_ : v399 = 0 := by omega
              have f404 : ¬ ((h 90 8) = 0 ∧ (h 92 ((h 90 7))) = 1 ∧ (h 94 ((h 90 7))) = (h 95 ((17 : Int)))) := f400.2.2.2 (by omega)
              clear f400
              refine ov_blk (ls2 := [(0, ov_r 90), (1, ov_i dep), (2, ov_i j4), (5, ov_i j5)]) (st2 := [ov_i 1, ov_r 90]) (pc2 := 96) b_230_94_2 rfl rfl ?_
              refine ov_cV (as := [ov_i 1]) (st := []) (d2 := d - 1) d_230_96 lk_Mo_186 rfl (Nat.le_of_ble_eq_true rfl) (c := 1) (zb_90 I) (zs_90 I) ⟨by decide, rfl⟩ (by omega) (c_Mo_wrong_90 (d - 1) (by omega) U I 1 (by omega) (by omega)) ?_
              rintro _ z420 h421 ⟨rfl, I422, f405, e406, e407, e408, e409, e410, e411, e412, e413, e414, e415, e416, e417, e418, e419⟩
              have E423 : h421 92 = h 92 := e406
              have E424 : h421 93 = h 93 := e407
              have E425 : h421 94 = h 94 := e408
              have E426 : h421 95 = h 95 := e409
              have E427 : h421 96 = h 96 := e410
              have E428 : h421 97 = h 97 := e411
              have E429 : h421 98 = h 98 := e412
              have E430 : h421 99 = h 99 := e413
              have E431 : h421 100 = h 100 := e414
              have E432 : h421 103 = h 103 := e415
              have E433 : h421 105 = h 105 := e416
              have E434 : h421 106 = h 106 := e417
              have E435 : h421 109 = h 109 := e418
              have E436 : h421 114 = h 114 := e419
              show ov_R u d ov_m230 99 [(0, ov_r 90), (1, ov_i dep), (2, ov_i j4), (5, ov_i j5)] [] z420 h421 (P_Mo_takePart_90 F z h n dep)
              have f437 : (h421 90 2) = (h 90 2) ∧ (h421 90 7) = (h 90 7) ∧ (h421 90 13) = (h 90 13) ∧ (h421 90 20) = (h 90 20) ∧ (h421 90 22) = (h 90 22) ∧ (h421 90 25) = (h 90 25) ∧ (h421 90 26) = (h 90 26) ∧ (h421 90 28) = (h 90 28) ∧ (h421 90 29) = (h 90 29) ∧ (h421 90 30) = (h 90 30) ∧ (h421 90 34) = (h 90 34) ∧ 0 < (h421 90 8) ∧ (h 90 8) ≤ (h421 90 8) := f405
              clear f405
              refine ov_goto (tgt := 112) d_230_99 (by decide) ?_
              refine ov_blk (ls2 := [(0, ov_r 90), (1, ov_i dep), (2, ov_i j4), (5, ov_i j5)]) (st2 := [ov_r 90]) (pc2 := 113) b_230_112_1 rfl rfl ?_
              refine ov_getf (v := ov_i (h421 90 8)) d_230_113 fl_Mo_180 (zb_90 I422) (zs_90 I422) rfl ?_
              have g438 := rg_90_8 I422
              refine ov_ifle (tgt := 120) d_230_116 (by decide) (by omega) (fun c439 => ?_) (fun c439 => ?_)
              · omega
              · skip
                exact ov_retv (st := []) d_230_119 rfl ⟨rfl, I422, (by show (h421 90 2) = (h 90 2) ∧ (h421 90 20) = (h 90 20) ∧ (h421 90 22) = (h 90 22) ∧ (h421 90 25) = (h 90 25) ∧ (h421 90 26) = (h 90 26) ∧ (h421 90 28) = (h 90 28) ∧ (h421 90 29) = (h 90 29) ∧ (h421 90 30) = (h 90 30) ∧ (h421 90 34) = (h 90 34) ∧ (h 90 7) ≤ (h421 90 7) ∧ (h421 90 7) ≤ n ∧ (h 90 8) ≤ (h421 90 8) ∧ (h 90 13) ≤ (h421 90 13) ∧ (h421 90 13) - (h 90 13) ≤ (h421 90 7) - (h 90 7); omega), E423, E424, E425, E426, E427, E430, E431, E432, E433, E434, E435, E436, (fun j _ => by rw [show h421 97 = h 97 from E428, show h421 98 = h 98 from E429]; exact ⟨rfl, rfl⟩), (fun e => absurd e (by show ¬ (h421 90 8) = 0; omega))⟩
    refine ov_blk (ls2 := [(0, ov_r 90), (1, ov_i dep)]) (st2 := [ov_r 90]) (pc2 := 9) b_230_8_1 rfl rfl ?_
    refine ov_getf (v := ov_r 92) d_230_9 fl_Mo_24 (zb_90 I) (zs_90 I) (congrArg ov_r (rg_90_4 I)) ?_
    refine ov_blk (ls2 := [(0, ov_r 90), (1, ov_i dep)]) (st2 := [ov_r 90, ov_r 92]) (pc2 := 13) b_230_12_1 rfl rfl ?_
    refine ov_getf (v := ov_i (h 90 7)) d_230_13 fl_Mo_177 (zb_90 I) (zs_90 I) rfl ?_
    have g440 := rg_90_7 I
    refine ov_iald d_230_16 (zb_92 I) (zs_92 I) (by omega) ?_
    have g441 := ra_92 I (h 90 7)
    refine ov_blk (ls2 := [(0, ov_r 90), (1, ov_i dep)]) (st2 := [ov_i 2, ov_i (h 92 (h 90 7))]) (pc2 := 18) b_230_17_1 rfl rfl ?_
    refine ov_icne (tgt := 25) d_230_18 (by decide) (by omega) (by omega) (fun c442 => ?_) (fun c442 => ?_)
    · skip
      refine ov_blk (ls2 := [(0, ov_r 90), (1, ov_i dep), (2, ov_i 0)]) (st2 := [ov_i 2, ov_i 10, ov_r 90]) (pc2 := 31) b_230_25_5 rfl rfl ?_
      refine ov_cV (as := [ov_i 10, ov_i 2]) (st := []) (d2 := d - 1) d_230_31 lk_Mo_202 rfl (Nat.le_of_ble_eq_true rfl) (c := 1) (zb_90 I) (zs_90 I) ⟨by decide, rfl⟩ (by omega) (c_Mo_wordHere_90 n (d - 1) (by omega) U I 10 2 (by omega) (by omega) (by show 0 ≤ n ∧ n ≤ 1000 ∧ (h 92 (n)) = 0 ∧ (h 90 7) ≤ n; omega) (by omega)) ?_
      rintro _ _ _ ⟨v444, rfl, rfl, rfl, f443⟩
      show ov_R u d ov_m230 34 [(0, ov_r 90), (1, ov_i dep), (2, ov_i 0)] [ov_i v444] z h (P_Mo_takePart_90 F z h n dep)
      have f445 : -1 ≤ v444 ∧ v444 < (2 : Int) ∧ (0 ≤ v444 → (h 90 7) < n ∧ (h 90 8) = 0) := f443
      clear f443
      refine ov_blk (ls2 := [(0, ov_r 90), (1, ov_i dep), (2, ov_i 0), (3, ov_i v444)]) (st2 := [ov_i 2, ov_i 20, ov_r 90]) (pc2 := 39) b_230_34_4 rfl rfl ?_
      refine ov_cV (as := [ov_i 20, ov_i 2]) (st := []) (d2 := d - 1) d_230_39 lk_Mo_202 rfl (Nat.le_of_ble_eq_true rfl) (c := 1) (zb_90 I) (zs_90 I) ⟨by decide, rfl⟩ (by omega) (c_Mo_wordHere_90 n (d - 1) (by omega) U I 20 2 (by omega) (by omega) (by show 0 ≤ n ∧ n ≤ 1000 ∧ (h 92 (n)) = 0 ∧ (h 90 7) ≤ n; omega) (by omega)) ?_
      rintro _ _ _ ⟨v447, rfl, rfl, rfl, f446⟩
      show ov_R u d ov_m230 42 [(0, ov_r 90), (1, ov_i dep), (2, ov_i 0), (3, ov_i v444)] [ov_i v447] z h (P_Mo_takePart_90 F z h n dep)
      have f448 : -1 ≤ v447 ∧ v447 < (2 : Int) ∧ (0 ≤ v447 → (h 90 7) < n ∧ (h 90 8) = 0) := f446
      clear f446
      refine ov_blk (ls2 := [(0, ov_r 90), (1, ov_i dep), (2, ov_i 0), (3, ov_i v444), (4, ov_i v447)]) (st2 := [ov_i v444]) (pc2 := 45) b_230_42_2 rfl rfl ?_
      refine ov_iflt (tgt := 52) d_230_45 (by decide) (by omega) (fun c449 => ?_) (fun c449 => ?_)
      · skip
        refine ov_blk (ls2 := [(0, ov_r 90), (1, ov_i dep), (2, ov_i 0), (3, ov_i v444), (4, ov_i v447)]) (st2 := [ov_i v447]) (pc2 := 54) b_230_52_1 rfl rfl ?_
        refine ov_iflt (tgt := 64) d_230_54 (by decide) (by omega) (fun c450 => ?_) (fun c450 => ?_)
        · skip
          refine ov_blk (ls2 := [(0, ov_r 90), (1, ov_i dep), (2, ov_i 0), (3, ov_i v444), (4, ov_i v447), (5, ov_i (-1))]) (st2 := []) (pc2 := 67) b_230_64_2 rfl rfl ?_
          refine ov_sub (ls2 := [(0, ov_r 90), (1, ov_i dep), (2, ov_i 0), (5, ov_i (-1))]) (List.Sublist.subset (by repeat (first | exact List.Sublist.refl _ | apply List.Sublist.cons_cons | apply List.Sublist.cons))) ?_
          exact J3 0 (-1) (by show (0 = 0 ∨ 0 = 1) ∧ (0 = 1 → (h 92 ((h 90 7))) = 2) ∧ -1 ≤ (-1) ∧ (-1) ≤ 3 ∧ (0 ≤ (-1) → (h 90 7) < n); omega)
        · skip
          refine ov_blk (ls2 := [(0, ov_r 90), (1, ov_i dep), (2, ov_i 0), (3, ov_i v444), (4, ov_i v447)]) (st2 := [ov_i (2 + v447)]) (pc2 := 61) b_230_57_3 rfl rfl ?_
          refine ov_goto (tgt := 65) d_230_61 (by decide) ?_
          refine ov_blk (ls2 := [(0, ov_r 90), (1, ov_i dep), (2, ov_i 0), (3, ov_i v444), (4, ov_i v447), (5, ov_i (2 + v447))]) (st2 := []) (pc2 := 67) b_230_65_1 rfl rfl ?_
          refine ov_sub (ls2 := [(0, ov_r 90), (1, ov_i dep), (2, ov_i 0), (5, ov_i (2 + v447))]) (List.Sublist.subset (by repeat (first | exact List.Sublist.refl _ | apply List.Sublist.cons_cons | apply List.Sublist.cons))) ?_
          exact J3 0 (2 + v447) (by show (0 = 0 ∨ 0 = 1) ∧ (0 = 1 → (h 92 ((h 90 7))) = 2) ∧ -1 ≤ (2 + v447) ∧ (2 + v447) ≤ 3 ∧ (0 ≤ (2 + v447) → (h 90 7) < n); omega)
      · skip
        refine ov_blk (ls2 := [(0, ov_r 90), (1, ov_i dep), (2, ov_i 0), (3, ov_i v444), (4, ov_i v447)]) (st2 := [ov_i v444]) (pc2 := 49) b_230_48_1 rfl rfl ?_
        refine ov_goto (tgt := 65) d_230_49 (by decide) ?_
        refine ov_blk (ls2 := [(0, ov_r 90), (1, ov_i dep), (2, ov_i 0), (3, ov_i v444), (4, ov_i v447), (5, ov_i v444)]) (st2 := []) (pc2 := 67) b_230_65_1 rfl rfl ?_
        refine ov_sub (ls2 := [(0, ov_r 90), (1, ov_i dep), (2, ov_i 0), (5, ov_i v444)]) (List.Sublist.subset (by repeat (first | exact List.Sublist.refl _ | apply List.Sublist.cons_cons | apply List.Sublist.cons))) ?_
        exact J3 0 v444 (by show (0 = 0 ∨ 0 = 1) ∧ (0 = 1 → (h 92 ((h 90 7))) = 2) ∧ -1 ≤ v444 ∧ v444 ≤ 3 ∧ (0 ≤ v444 → (h 90 7) < n); omega)
    · skip
      refine ov_blk (ls2 := [(0, ov_r 90), (1, ov_i dep)]) (st2 := [ov_i 1]) (pc2 := 22) b_230_21_1 rfl rfl ?_
      refine ov_goto (tgt := 26) d_230_22 (by decide) ?_
      refine ov_blk (ls2 := [(0, ov_r 90), (1, ov_i dep), (2, ov_i 1)]) (st2 := [ov_i 2, ov_i 10, ov_r 90]) (pc2 := 31) b_230_26_4 rfl rfl ?_
      refine ov_cV (as := [ov_i 10, ov_i 2]) (st := []) (d2 := d - 1) d_230_31 lk_Mo_202 rfl (Nat.le_of_ble_eq_true rfl) (c := 1) (zb_90 I) (zs_90 I) ⟨by decide, rfl⟩ (by omega) (c_Mo_wordHere_90 n (d - 1) (by omega) U I 10 2 (by omega) (by omega) (by show 0 ≤ n ∧ n ≤ 1000 ∧ (h 92 (n)) = 0 ∧ (h 90 7) ≤ n; omega) (by omega)) ?_
      rintro _ _ _ ⟨v452, rfl, rfl, rfl, f451⟩
      show ov_R u d ov_m230 34 [(0, ov_r 90), (1, ov_i dep), (2, ov_i 1)] [ov_i v452] z h (P_Mo_takePart_90 F z h n dep)
      have f453 : -1 ≤ v452 ∧ v452 < (2 : Int) ∧ (0 ≤ v452 → (h 90 7) < n ∧ (h 90 8) = 0) := f451
      clear f451
      refine ov_blk (ls2 := [(0, ov_r 90), (1, ov_i dep), (2, ov_i 1), (3, ov_i v452)]) (st2 := [ov_i 2, ov_i 20, ov_r 90]) (pc2 := 39) b_230_34_4 rfl rfl ?_
      refine ov_cV (as := [ov_i 20, ov_i 2]) (st := []) (d2 := d - 1) d_230_39 lk_Mo_202 rfl (Nat.le_of_ble_eq_true rfl) (c := 1) (zb_90 I) (zs_90 I) ⟨by decide, rfl⟩ (by omega) (c_Mo_wordHere_90 n (d - 1) (by omega) U I 20 2 (by omega) (by omega) (by show 0 ≤ n ∧ n ≤ 1000 ∧ (h 92 (n)) = 0 ∧ (h 90 7) ≤ n; omega) (by omega)) ?_
      rintro _ _ _ ⟨v455, rfl, rfl, rfl, f454⟩
      show ov_R u d ov_m230 42 [(0, ov_r 90), (1, ov_i dep), (2, ov_i 1), (3, ov_i v452)] [ov_i v455] z h (P_Mo_takePart_90 F z h n dep)
      have f456 : -1 ≤ v455 ∧ v455 < (2 : Int) ∧ (0 ≤ v455 → (h 90 7) < n ∧ (h 90 8) = 0) := f454
      clear f454
      refine ov_blk (ls2 := [(0, ov_r 90), (1, ov_i dep), (2, ov_i 1), (3, ov_i v452), (4, ov_i v455)]) (st2 := [ov_i v452]) (pc2 := 45) b_230_42_2 rfl rfl ?_
      refine ov_iflt (tgt := 52) d_230_45 (by decide) (by omega) (fun c457 => ?_) (fun c457 => ?_)
      · skip
        refine ov_blk (ls2 := [(0, ov_r 90), (1, ov_i dep), (2, ov_i 1), (3, ov_i v452), (4, ov_i v455)]) (st2 := [ov_i v455]) (pc2 := 54) b_230_52_1 rfl rfl ?_
        refine ov_iflt (tgt := 64) d_230_54 (by decide) (by omega) (fun c458 => ?_) (fun c458 => ?_)
        · skip
          refine ov_blk (ls2 := [(0, ov_r 90), (1, ov_i dep), (2, ov_i 1), (3, ov_i v452), (4, ov_i v455), (5, ov_i (-1))]) (st2 := []) (pc2 := 67) b_230_64_2 rfl rfl ?_
          refine ov_sub (ls2 := [(0, ov_r 90), (1, ov_i dep), (2, ov_i 1), (5, ov_i (-1))]) (List.Sublist.subset (by repeat (first | exact List.Sublist.refl _ | apply List.Sublist.cons_cons | apply List.Sublist.cons))) ?_
          exact J3 1 (-1) (by show (1 = 0 ∨ 1 = 1) ∧ (1 = 1 → (h 92 ((h 90 7))) = 2) ∧ -1 ≤ (-1) ∧ (-1) ≤ 3 ∧ (0 ≤ (-1) → (h 90 7) < n); omega)
        · skip
          refine ov_blk (ls2 := [(0, ov_r 90), (1, ov_i dep), (2, ov_i 1), (3, ov_i v452), (4, ov_i v455)]) (st2 := [ov_i (2 + v455)]) (pc2 := 61) b_230_57_3 rfl rfl ?_
          refine ov_goto (tgt := 65) d_230_61 (by decide) ?_
          refine ov_blk (ls2 := [(0, ov_r 90), (1, ov_i dep), (2, ov_i 1), (3, ov_i v452), (4, ov_i v455), (5, ov_i (2 + v455))]) (st2 := []) (pc2 := 67) b_230_65_1 rfl rfl ?_
          refine ov_sub (ls2 := [(0, ov_r 90), (1, ov_i dep), (2, ov_i 1), (5, ov_i (2 + v455))]) (List.Sublist.subset (by repeat (first | exact List.Sublist.refl _ | apply List.Sublist.cons_cons | apply List.Sublist.cons))) ?_
          exact J3 1 (2 + v455) (by show (1 = 0 ∨ 1 = 1) ∧ (1 = 1 → (h 92 ((h 90 7))) = 2) ∧ -1 ≤ (2 + v455) ∧ (2 + v455) ≤ 3 ∧ (0 ≤ (2 + v455) → (h 90 7) < n); omega)
      · skip
        refine ov_blk (ls2 := [(0, ov_r 90), (1, ov_i dep), (2, ov_i 1), (3, ov_i v452), (4, ov_i v455)]) (st2 := [ov_i v452]) (pc2 := 49) b_230_48_1 rfl rfl ?_
        refine ov_goto (tgt := 65) d_230_49 (by decide) ?_
        refine ov_blk (ls2 := [(0, ov_r 90), (1, ov_i dep), (2, ov_i 1), (3, ov_i v452), (4, ov_i v455), (5, ov_i v452)]) (st2 := []) (pc2 := 67) b_230_65_1 rfl rfl ?_
        refine ov_sub (ls2 := [(0, ov_r 90), (1, ov_i dep), (2, ov_i 1), (5, ov_i v452)]) (List.Sublist.subset (by repeat (first | exact List.Sublist.refl _ | apply List.Sublist.cons_cons | apply List.Sublist.cons))) ?_
        exact J3 1 v452 (by show (1 = 0 ∨ 1 = 1) ∧ (1 = 1 → (h 92 ((h 90 7))) = 2) ∧ -1 ≤ v452 ∧ v452 ≤ 3 ∧ (0 ≤ v452 → (h 90 7) < n); omega)
  · skip
    exact ov_retv (st := []) d_230_7 rfl ⟨rfl, I, ⟨rfl, rfl, rfl, rfl, rfl, rfl, rfl, rfl, rfl, (by show (h 90 7) ≤ (h 90 7) ∧ (h 90 7) ≤ n ∧ (h 90 8) ≤ (h 90 8) ∧ (h 90 13) ≤ (h 90 13) ∧ (h 90 13) - (h 90 13) ≤ (h 90 7) - (h 90 7); omega)⟩, rfl, rfl, rfl, rfl, rfl, rfl, rfl, rfl, rfl, rfl, rfl, rfl, (fun j _ => ⟨rfl, rfl⟩), (fun e => absurd e (by show ¬ (h 90 8) = 0; omega))⟩
set_option maxHeartbeats 4000000 in
theorem c_Mo_products_90 {u : ov_U} {F : ov_H × ov_Z} (n : Int) (k : Nat) (HE : ∀ k' : Nat, k' + 1 = k → ∀ {z : ov_Z} {h : ov_H} (d : Nat) (hd : (10 + 5 * k' + 4) ≤ d) (U : ov_cap u) (I : ov_N F z h) (dep : Int) (g_dep : ov_g dep) (p0 : 0 ≤ n ∧ n ≤ 1000 ∧ (h 92 (n)) = 0 ∧ (h 90 7) ≤ n) (p1 : 0 ≤ dep ∧ dep + (k' : Int) = 5) (p2 : (h 90 13) ≤ (h 90 7)), ov_T u d ov_m226 [ov_r 90, ov_i dep] z h (P_Mo_all_90 F z h n dep)) (HP : ∀ k' : Nat, k' + 1 = k → ∀ {z : ov_Z} {h : ov_H} (d : Nat) (hd : (10 + 5 * k' + 0) ≤ d) (U : ov_cap u) (I : ov_N F z h) (dep : Int) (g_dep : ov_g dep) (p0 : 0 ≤ n ∧ n ≤ 1000 ∧ (h 92 (n)) = 0 ∧ (h 90 7) ≤ n) (p1 : 0 ≤ dep ∧ dep + (k' : Int) = 5) (p2 : (h 90 13) ≤ (h 90 7)), ov_T u d ov_m230 [ov_r 90, ov_i dep] z h (P_Mo_takePart_90 F z h n dep)) {z : ov_Z} {h : ov_H} (d : Nat) (hd : (10 + 5 * k + 1) ≤ d) (U : ov_cap u) (I : ov_N F z h) (dep : Int) (g_dep : ov_g dep) (p0 : 0 ≤ n ∧ n ≤ 1000 ∧ (h 92 (n)) = 0 ∧ (h 90 7) ≤ n) (p1 : 0 ≤ dep ∧ dep + (k : Int) = 5) (p2 : (h 90 13) ≤ (h 90 7)) : ov_T u d ov_m229 [ov_r 90, ov_i dep] z h (P_Mo_products_90 F z h n dep) := by
  refine ov_en rfl (Nat.le_of_ble_eq_true rfl) ?_
  show ov_R u d ov_m229 0 [(0, ov_r 90), (1, ov_i dep)] [] z h (P_Mo_products_90 F z h n dep)
  have gq7 := rg_90_7 I
  refine ov_blk (ls2 := [(0, ov_r 90), (1, ov_i dep)]) (st2 := [ov_i dep, ov_r 90]) (pc2 := 2) b_229_0_2 rfl rfl ?_
  refine ov_cV (as := [ov_i dep]) (st := []) (d2 := d - 1) d_229_2 lk_Mo_269 rfl (Nat.le_of_ble_eq_true rfl) (c := 1) (zb_90 I) (zs_90 I) ⟨by decide, rfl⟩ (by omega) (c_Mo_takePart_90 n k HE HP (d - 1) (by omega) U I dep (by omega) (by show 0 ≤ n ∧ n ≤ 1000 ∧ (h 92 (n)) = 0 ∧ (h 90 7) ≤ n; omega) (by omega) (by show (h 90 13) ≤ (h 90 7); omega)) ?_
  rintro _ z16 h17 ⟨rfl, I18, f1, e2, e3, e4, e5, e6, e7, e8, e9, e10, e11, e12, e13, y14, y15⟩
  have E19 : h17 92 = h 92 := e2
  have E20 : h17 93 = h 93 := e3
  have E21 : h17 94 = h 94 := e4
  have E22 : h17 95 = h 95 := e5
  have E23 : h17 96 = h 96 := e6
  have E24 : h17 99 = h 99 := e7
  have E25 : h17 100 = h 100 := e8
  have E26 : h17 103 = h 103 := e9
  have E27 : h17 105 = h 105 := e10
  have E28 : h17 106 = h 106 := e11
  have E29 : h17 109 = h 109 := e12
  have E30 : h17 114 = h 114 := e13
  show ov_R u d ov_m229 5 [(0, ov_r 90), (1, ov_i dep)] [] z16 h17 (P_Mo_products_90 F z h n dep)
  have f31 : (h17 90 2) = (h 90 2) ∧ (h17 90 20) = (h 90 20) ∧ (h17 90 22) = (h 90 22) ∧ (h17 90 25) = (h 90 25) ∧ (h17 90 26) = (h 90 26) ∧ (h17 90 28) = (h 90 28) ∧ (h17 90 29) = (h 90 29) ∧ (h17 90 30) = (h 90 30) ∧ (h17 90 34) = (h 90 34) ∧ (h 90 7) ≤ (h17 90 7) ∧ (h17 90 7) ≤ n ∧ (h 90 8) ≤ (h17 90 8) ∧ (h 90 13) ≤ (h17 90 13) ∧ (h17 90 13) - (h 90 13) ≤ (h17 90 7) - (h 90 7) := f1
  clear f1
  have y14_ : ∀ j : Int, j < 1100 + (h 90 13) → (h17 97) j = (h 97) j ∧ (h17 98) j = (h 98) j := y14
  have y15_ : (h17 90 8) = 0 → ov_sg (h17 97) (h17 98) (h 90 13) (h17 90 13) := y15
  have K32 : ∀ j : Int, j < 1100 + (h 90 13) → h17 97 j = h 97 j ∧ h17 98 j = h 98 j := fun j hj => y14_ j (by omega)
  have K33 : h17 90 8 = 0 → ov_sg (h17 97) (h17 98) (h 90 13) (h17 90 13) := fun e => by have q := y15_ e; rw [show (h 90 13) = h 90 13 by omega] at q; exact q
  have L37 : ∀ (n34 : Nat) (z38 : ov_Z) (h39 : ov_H) (I40 : ov_N F z38 h39) (E41 : h39 92 = h 92) (E42 : h39 93 = h 93) (E43 : h39 94 = h 94) (E44 : h39 95 = h 95) (E45 : h39 96 = h 96) (E46 : h39 99 = h 99) (E47 : h39 100 = h 100) (E48 : h39 103 = h 103) (E49 : h39 105 = h 105) (E50 : h39 106 = h 106) (E51 : h39 109 = h 109) (E52 : h39 114 = h 114) (xa : ∀ j : Int, j < 1100 + (h 90 13) → (h39 97) j = (h 97) j ∧ (h39 98) j = (h 98) j) (xb : (h39 90 8) = 0 → ov_sg (h39 97) (h39 98) (h 90 13) (h39 90 13)) (q36 : (h 90 7) ≤ (h39 90 7) ∧ (h39 90 7) ≤ n ∧ (h 90 8) ≤ (h39 90 8) ∧ (h 90 13) ≤ (h39 90 13) ∧ (h39 90 13) - (h 90 13) ≤ (h39 90 7) - (h 90 7) ∧ (h39 90 2) = (h17 90 2) ∧ (h39 90 20) = (h17 90 20) ∧ (h39 90 22) = (h17 90 22) ∧ (h39 90 25) = (h17 90 25) ∧ (h39 90 26) = (h17 90 26) ∧ (h39 90 28) = (h17 90 28) ∧ (h39 90 29) = (h17 90 29) ∧ (h39 90 30) = (h17 90 30) ∧ (h39 90 34) = (h17 90 34)), 1000 - (h39 90 7) < (n34 : Int) → ov_R u d ov_m229 5 [(0, ov_r 90), (1, ov_i dep)] [] z38 h39 (P_Mo_products_90 F z h n dep) := by
    intro n34
    induction n34 with
    | zero =>
      intro  z38 h39 I40 E41 E42 E43 E44 E45 E46 E47 E48 E49 E50 E51 E52 xa xb q36 hn53
      exact absurd hn53 (by omega)
    | succ n34 ih35 =>
      intro  z38 h39 I40 E41 E42 E43 E44 E45 E46 E47 E48 E49 E50 E51 E52 xa xb q36 hn53
      refine ov_blk (ls2 := [(0, ov_r 90), (1, ov_i dep)]) (st2 := [ov_r 90]) (pc2 := 6) b_229_5_1 rfl rfl ?_
      refine ov_blk (ls2 := [(0, ov_r 90), (1, ov_i dep)]) (st2 := [ov_i 42, ov_r 90]) (pc2 := 8) b_229_6_1 rfl rfl ?_
      have cf54 : h39 92 (n) = h 92 (n) := congrFun E41 (n)
      refine ov_cV (as := [ov_i 42]) (st := []) (d2 := d - 1) d_229_8 lk_Mo_263 rfl (Nat.le_of_ble_eq_true rfl) (c := 1) (zb_90 I40) (zs_90 I40) ⟨by decide, rfl⟩ (by omega) (c_Mo_hasSign_90 n (d - 1) (by omega) U I40 42 (by omega) (by show 0 ≤ n ∧ n ≤ 1000 ∧ (h39 92 (n)) = 0 ∧ (h39 90 7) ≤ n; omega)) ?_
      rintro _ z71 h72 ⟨v56, rfl, I73, f55, e57, e58, e59, e60, e61, e62, e63, e64, e65, e66, e67, e68, e69, e70⟩
      have E74 : h72 92 = h 92 := Eq.trans e57 E41
      have E75 : h72 93 = h 93 := Eq.trans e58 E42
      have E76 : h72 94 = h 94 := Eq.trans e59 E43
      have E77 : h72 95 = h 95 := Eq.trans e60 E44
      have E78 : h72 96 = h 96 := Eq.trans e61 E45
      have E79 : h72 97 = h39 97 := e62
      have E80 : h72 98 = h39 98 := e63
      have E81 : h72 99 = h 99 := Eq.trans e64 E46
      have E82 : h72 100 = h 100 := Eq.trans e65 E47
      have E83 : h72 103 = h 103 := Eq.trans e66 E48
      have E84 : h72 105 = h 105 := Eq.trans e67 E49
      have E85 : h72 106 = h 106 := Eq.trans e68 E50
      have E86 : h72 109 = h 109 := Eq.trans e69 E51
      have E87 : h72 114 = h 114 := Eq.trans e70 E52
      show ov_R u d ov_m229 11 [(0, ov_r 90), (1, ov_i dep)] [ov_i v56] z71 h72 (P_Mo_products_90 F z h n dep)
      rw [show h39 92 = h 92 from E41] at f55
      rw [show h39 94 = h 94 from E43] at f55
      have f88 : (h72 90 2) = (h39 90 2) ∧ (h72 90 8) = (h39 90 8) ∧ (h72 90 13) = (h39 90 13) ∧ (h72 90 20) = (h39 90 20) ∧ (h72 90 22) = (h39 90 22) ∧ (h72 90 25) = (h39 90 25) ∧ (h72 90 26) = (h39 90 26) ∧ (h72 90 28) = (h39 90 28) ∧ (h72 90 29) = (h39 90 29) ∧ (h72 90 30) = (h39 90 30) ∧ (h72 90 34) = (h39 90 34) ∧ (v56 = 0 ∨ v56 = 1) ∧ (h39 90 7) ≤ (h72 90 7) ∧ (h72 90 7) ≤ n ∧ (v56 = 1 → (h72 90 7) = (h39 90 7) + 1 ∧ (h39 90 8) = 0) ∧ (v56 = 0 → (h72 90 7) = (h39 90 7)) ∧ (v56 = 1 → (h39 90 8) = 0 ∧ (h 92 ((h39 90 7))) = 3 ∧ (h 94 ((h39 90 7))) = (42 : Int)) ∧ (v56 = 0 → ¬ ((h39 90 8) = 0 ∧ (h 92 ((h39 90 7))) = 3 ∧ (h 94 ((h39 90 7))) = (42 : Int))) := f55
      clear f55
      refine ov_ifeq (tgt := 29) d_229_11 (by decide) (by omega) (fun c89 => ?_) (fun c89 => ?_)
      · skip
        have f88_ : v56 = 0 := by omega
        have f90 : (h72 90 2) = (h39 90 2) := f88.1
        have f91 : (h72 90 8) = (h39 90 8) := f88.2.1
        have f92 : (h72 90 13) = (h39 90 13) := f88.2.2.1
        have f93 : (h72 90 20) = (h39 90 20) := f88.2.2.2.1
        have f94 : (h72 90 22) = (h39 90 22) := f88.2.2.2.2.1
        have f95 : (h72 90 25) = (h39 90 25) := f88.2.2.2.2.2.1
        have f96 : (h72 90 26) = (h39 90 26) := f88.2.2.2.2.2.2.1
        have f97 : (h72 90 28) = (h39 90 28) := f88.2.2.2.2.2.2.2.1
        have f98 : (h72 90 29) = (h39 90 29) := f88.2.2.2.2.2.2.2.2.1
        have f99 : (h72 90 30) = (h39 90 30) := f88.2.2.2.2.2.2.2.2.2.1
        have f100 : (h72 90 34) = (h39 90 34) := f88.2.2.2.2.2.2.2.2.2.2.1
        have f101 : (h39 90 7) ≤ (h72 90 7) := f88.2.2.2.2.2.2.2.2.2.2.2.2.1
        have f102 : (h72 90 7) ≤ n := f88.2.2.2.2.2.2.2.2.2.2.2.2.2.1
        have f103 : (h72 90 7) = (h39 90 7) := f88.2.2.2.2.2.2.2.2.2.2.2.2.2.2.2.1 (by omega)
        have f104 : ¬ ((h39 90 8) = 0 ∧ (h 92 ((h39 90 7))) = 3 ∧ (h 94 ((h39 90 7))) = (42 : Int)) := f88.2.2.2.2.2.2.2.2.2.2.2.2.2.2.2.2.2 (by omega)
        clear f88
        exact ov_retv (st := []) d_229_29 rfl ⟨rfl, I73, (by show (h72 90 2) = (h 90 2) ∧ (h72 90 20) = (h 90 20) ∧ (h72 90 22) = (h 90 22) ∧ (h72 90 25) = (h 90 25) ∧ (h72 90 26) = (h 90 26) ∧ (h72 90 28) = (h 90 28) ∧ (h72 90 29) = (h 90 29) ∧ (h72 90 30) = (h 90 30) ∧ (h72 90 34) = (h 90 34) ∧ (h 90 7) ≤ (h72 90 7) ∧ (h72 90 7) ≤ n ∧ (h 90 8) ≤ (h72 90 8) ∧ (h 90 13) ≤ (h72 90 13) ∧ (h72 90 13) - (h 90 13) ≤ (h72 90 7) - (h 90 7); omega), E74, E75, E76, E77, E78, E81, E82, E83, E84, E85, E86, E87, (by rw [show h72 97 = h39 97 from E79, show h72 98 = h39 98 from E80]; exact xa), (fun e => by have e0 : (h72 90 8) = 0 := e; show ov_sg (h72 97) (h72 98) _ (h72 90 13); rw [show h72 97 = h39 97 from E79, show h72 98 = h39 98 from E80, show (h72 90 13) = (h39 90 13) by omega]; exact xb (by omega))⟩
      · skip
        have f88_ : v56 = 1 := by omega
        have f105 : (h72 90 2) = (h39 90 2) := f88.1
        have f106 : (h72 90 8) = (h39 90 8) := f88.2.1
        have f107 : (h72 90 13) = (h39 90 13) := f88.2.2.1
        have f108 : (h72 90 20) = (h39 90 20) := f88.2.2.2.1
        have f109 : (h72 90 22) = (h39 90 22) := f88.2.2.2.2.1
        have f110 : (h72 90 25) = (h39 90 25) := f88.2.2.2.2.2.1
        have f111 : (h72 90 26) = (h39 90 26) := f88.2.2.2.2.2.2.1
        have f112 : (h72 90 28) = (h39 90 28) := f88.2.2.2.2.2.2.2.1
        have f113 : (h72 90 29) = (h39 90 29) := f88.2.2.2.2.2.2.2.2.1
        have f114 : (h72 90 30) = (h39 90 30) := f88.2.2.2.2.2.2.2.2.2.1
        have f115 : (h72 90 34) = (h39 90 34) := f88.2.2.2.2.2.2.2.2.2.2.1
        have f116 : (h39 90 7) ≤ (h72 90 7) := f88.2.2.2.2.2.2.2.2.2.2.2.2.1
        have f117 : (h72 90 7) ≤ n := f88.2.2.2.2.2.2.2.2.2.2.2.2.2.1
        have f118 : (h72 90 7) = (h39 90 7) + 1 ∧ (h39 90 8) = 0 := f88.2.2.2.2.2.2.2.2.2.2.2.2.2.2.1 (by omega)
        have f119 : (h39 90 8) = 0 ∧ (h 92 ((h39 90 7))) = 3 ∧ (h 94 ((h39 90 7))) = (42 : Int) := f88.2.2.2.2.2.2.2.2.2.2.2.2.2.2.2.2.1 (by omega)
        clear f88
        refine ov_blk (ls2 := [(0, ov_r 90), (1, ov_i dep)]) (st2 := [ov_i dep, ov_r 90]) (pc2 := 16) b_229_14_2 rfl rfl ?_
        have cf120 : h72 92 (n) = h 92 (n) := congrFun E74 (n)
        refine ov_cV (as := [ov_i dep]) (st := []) (d2 := d - 1) d_229_16 lk_Mo_269 rfl (Nat.le_of_ble_eq_true rfl) (c := 1) (zb_90 I73) (zs_90 I73) ⟨by decide, rfl⟩ (by omega) (c_Mo_takePart_90 n k HE HP (d - 1) (by omega) U I73 dep (by omega) (by show 0 ≤ n ∧ n ≤ 1000 ∧ (h72 92 (n)) = 0 ∧ (h72 90 7) ≤ n; omega) (by omega) (by show (h72 90 13) ≤ (h72 90 7); omega)) ?_
        rintro _ z136 h137 ⟨rfl, I138, f121, e122, e123, e124, e125, e126, e127, e128, e129, e130, e131, e132, e133, y134, y135⟩
        have E139 : h137 92 = h 92 := Eq.trans e122 E74
        have E140 : h137 93 = h 93 := Eq.trans e123 E75
        have E141 : h137 94 = h 94 := Eq.trans e124 E76
        have E142 : h137 95 = h 95 := Eq.trans e125 E77
        have E143 : h137 96 = h 96 := Eq.trans e126 E78
        have E144 : h137 99 = h 99 := Eq.trans e127 E81
        have E145 : h137 100 = h 100 := Eq.trans e128 E82
        have E146 : h137 103 = h 103 := Eq.trans e129 E83
        have E147 : h137 105 = h 105 := Eq.trans e130 E84
        have E148 : h137 106 = h 106 := Eq.trans e131 E85
        have E149 : h137 109 = h 109 := Eq.trans e132 E86
        have E150 : h137 114 = h 114 := Eq.trans e133 E87
        show ov_R u d ov_m229 19 [(0, ov_r 90), (1, ov_i dep)] [] z136 h137 (P_Mo_products_90 F z h n dep)
        have f151 : (h137 90 2) = (h72 90 2) ∧ (h137 90 20) = (h72 90 20) ∧ (h137 90 22) = (h72 90 22) ∧ (h137 90 25) = (h72 90 25) ∧ (h137 90 26) = (h72 90 26) ∧ (h137 90 28) = (h72 90 28) ∧ (h137 90 29) = (h72 90 29) ∧ (h137 90 30) = (h72 90 30) ∧ (h137 90 34) = (h72 90 34) ∧ (h72 90 7) ≤ (h137 90 7) ∧ (h137 90 7) ≤ n ∧ (h72 90 8) ≤ (h137 90 8) ∧ (h72 90 13) ≤ (h137 90 13) ∧ (h137 90 13) - (h72 90 13) ≤ (h137 90 7) - (h72 90 7) := f121
        clear f121
        rw [show h72 97 = h39 97 from E79] at y134
        rw [show h72 98 = h39 98 from E80] at y134
        have y134_ : ∀ j : Int, j < 1100 + (h72 90 13) → (h137 97) j = (h39 97) j ∧ (h137 98) j = (h39 98) j := y134
        have y135_ : (h137 90 8) = 0 → ov_sg (h137 97) (h137 98) (h72 90 13) (h137 90 13) := y135
        refine ov_blk (ls2 := [(0, ov_r 90), (1, ov_i dep)]) (st2 := [ov_i 0, ov_i 6, ov_r 90]) (pc2 := 23) b_229_19_3 rfl rfl ?_
        refine ov_cV (as := [ov_i 6, ov_i 0]) (st := []) (d2 := d - 1) d_229_23 lk_Mo_246 rfl (Nat.le_of_ble_eq_true rfl) (c := 1) (zb_90 I138) (zs_90 I138) ⟨by decide, rfl⟩ (by omega) (c_Mo_emit_90 (d - 1) (by omega) U I138 6 0 (by omega) (by omega) (by omega) (by show (h137 90 13) ≤ 999; omega)) ?_
        rintro _ z167 h168 ⟨rfl, I169, f152, e153, e154, e155, e156, e157, e158, e159, e160, e161, e162, e163, e164, y165, y166⟩
        have E170 : h168 92 = h 92 := Eq.trans e153 E139
        have E171 : h168 93 = h 93 := Eq.trans e154 E140
        have E172 : h168 94 = h 94 := Eq.trans e155 E141
        have E173 : h168 95 = h 95 := Eq.trans e156 E142
        have E174 : h168 96 = h 96 := Eq.trans e157 E143
        have E175 : h168 99 = h 99 := Eq.trans e158 E144
        have E176 : h168 100 = h 100 := Eq.trans e159 E145
        have E177 : h168 103 = h 103 := Eq.trans e160 E146
        have E178 : h168 105 = h 105 := Eq.trans e161 E147
        have E179 : h168 106 = h 106 := Eq.trans e162 E148
        have E180 : h168 109 = h 109 := Eq.trans e163 E149
        have E181 : h168 114 = h 114 := Eq.trans e164 E150
        show ov_R u d ov_m229 26 [(0, ov_r 90), (1, ov_i dep)] [] z167 h168 (P_Mo_products_90 F z h n dep)
        have f182 : (h168 90 2) = (h137 90 2) ∧ (h168 90 7) = (h137 90 7) ∧ (h168 90 8) = (h137 90 8) ∧ (h168 90 20) = (h137 90 20) ∧ (h168 90 22) = (h137 90 22) ∧ (h168 90 25) = (h137 90 25) ∧ (h168 90 26) = (h137 90 26) ∧ (h168 90 28) = (h137 90 28) ∧ (h168 90 29) = (h137 90 29) ∧ (h168 90 30) = (h137 90 30) ∧ (h168 90 34) = (h137 90 34) ∧ (h168 90 13) = (h137 90 13) + 1 := f152
        clear f152
        have y165_ : (h168 97) = ov_rs (h137 97) (1100 + (h137 90 13)) (6 : Int) := y165
        have y166_ : (h168 98) = ov_rs (h137 98) (1100 + (h137 90 13)) (0 : Int) := y166
        have K183 : ∀ j : Int, j < 1100 + (h 90 13) → h168 97 j = h 97 j ∧ h168 98 j = h 98 j := ov_kpe (ov_kp xa y134_ (by omega)) y165_ y166_ (by omega)
        have K184 : h168 90 8 = 0 → ov_sg (h168 97) (h168 98) (h 90 13) (h168 90 13) := fun e => by have q1 := xb (by omega); have q2 := y135_ (by omega); rw [show (h72 90 13) = (h39 90 13) by omega] at q2; have q3 := ov_sg_bin q1 (fun j hj => y134_ j (by omega)) q2 y165_ y166_ (by omega); rw [show h168 90 13 = (h137 90 13) + 1 by omega]; exact q3
        refine ov_goto (tgt := 5) d_229_26 (by decide) ?_
        exact ih35  _ _ I169 E170 E171 E172 E173 E174 E175 E176 E177 E178 E179 E180 E181 K183 K184 (by show (h 90 7) ≤ (h168 90 7) ∧ (h168 90 7) ≤ n ∧ (h 90 8) ≤ (h168 90 8) ∧ (h 90 13) ≤ (h168 90 13) ∧ (h168 90 13) - (h 90 13) ≤ (h168 90 7) - (h 90 7) ∧ (h168 90 2) = (h17 90 2) ∧ (h168 90 20) = (h17 90 20) ∧ (h168 90 22) = (h17 90 22) ∧ (h168 90 25) = (h17 90 25) ∧ (h168 90 26) = (h17 90 26) ∧ (h168 90 28) = (h17 90 28) ∧ (h168 90 29) = (h17 90 29) ∧ (h168 90 30) = (h17 90 30) ∧ (h168 90 34) = (h17 90 34); omega) (by omega)
  exact L37 1001  _ _ I18 E19 E20 E21 E22 E23 E24 E25 E26 E27 E28 E29 E30 K32 K33 (by show (h 90 7) ≤ (h17 90 7) ∧ (h17 90 7) ≤ n ∧ (h 90 8) ≤ (h17 90 8) ∧ (h 90 13) ≤ (h17 90 13) ∧ (h17 90 13) - (h 90 13) ≤ (h17 90 7) - (h 90 7) ∧ (h17 90 2) = (h17 90 2) ∧ (h17 90 20) = (h17 90 20) ∧ (h17 90 22) = (h17 90 22) ∧ (h17 90 25) = (h17 90 25) ∧ (h17 90 26) = (h17 90 26) ∧ (h17 90 28) = (h17 90 28) ∧ (h17 90 29) = (h17 90 29) ∧ (h17 90 30) = (h17 90 30) ∧ (h17 90 34) = (h17 90 34); omega) (by omega)
set_option maxHeartbeats 4000000 in
theorem c_Mo_sums_90 {u : ov_U} {F : ov_H × ov_Z} (n : Int) (k : Nat) (HE : ∀ k' : Nat, k' + 1 = k → ∀ {z : ov_Z} {h : ov_H} (d : Nat) (hd : (10 + 5 * k' + 4) ≤ d) (U : ov_cap u) (I : ov_N F z h) (dep : Int) (g_dep : ov_g dep) (p0 : 0 ≤ n ∧ n ≤ 1000 ∧ (h 92 (n)) = 0 ∧ (h 90 7) ≤ n) (p1 : 0 ≤ dep ∧ dep + (k' : Int) = 5) (p2 : (h 90 13) ≤ (h 90 7)), ov_T u d ov_m226 [ov_r 90, ov_i dep] z h (P_Mo_all_90 F z h n dep)) (HP : ∀ k' : Nat, k' + 1 = k → ∀ {z : ov_Z} {h : ov_H} (d : Nat) (hd : (10 + 5 * k' + 0) ≤ d) (U : ov_cap u) (I : ov_N F z h) (dep : Int) (g_dep : ov_g dep) (p0 : 0 ≤ n ∧ n ≤ 1000 ∧ (h 92 (n)) = 0 ∧ (h 90 7) ≤ n) (p1 : 0 ≤ dep ∧ dep + (k' : Int) = 5) (p2 : (h 90 13) ≤ (h 90 7)), ov_T u d ov_m230 [ov_r 90, ov_i dep] z h (P_Mo_takePart_90 F z h n dep)) {z : ov_Z} {h : ov_H} (d : Nat) (hd : (10 + 5 * k + 2) ≤ d) (U : ov_cap u) (I : ov_N F z h) (dep : Int) (g_dep : ov_g dep) (p0 : 0 ≤ n ∧ n ≤ 1000 ∧ (h 92 (n)) = 0 ∧ (h 90 7) ≤ n) (p1 : 0 ≤ dep ∧ dep + (k : Int) = 5) (p2 : (h 90 13) ≤ (h 90 7)) : ov_T u d ov_m228 [ov_r 90, ov_i dep] z h (P_Mo_sums_90 F z h n dep) := by
  refine ov_en rfl (Nat.le_of_ble_eq_true rfl) ?_
  show ov_R u d ov_m228 0 [(0, ov_r 90), (1, ov_i dep)] [] z h (P_Mo_sums_90 F z h n dep)
  have gq7 := rg_90_7 I
  refine ov_blk (ls2 := [(0, ov_r 90), (1, ov_i dep)]) (st2 := [ov_i dep, ov_r 90]) (pc2 := 2) b_228_0_2 rfl rfl ?_
  refine ov_cV (as := [ov_i dep]) (st := []) (d2 := d - 1) d_228_2 lk_Mo_266 rfl (Nat.le_of_ble_eq_true rfl) (c := 1) (zb_90 I) (zs_90 I) ⟨by decide, rfl⟩ (by omega) (c_Mo_products_90 n k HE HP (d - 1) (by omega) U I dep (by omega) (by show 0 ≤ n ∧ n ≤ 1000 ∧ (h 92 (n)) = 0 ∧ (h 90 7) ≤ n; omega) (by omega) (by show (h 90 13) ≤ (h 90 7); omega)) ?_
  rintro _ z16 h17 ⟨rfl, I18, f1, e2, e3, e4, e5, e6, e7, e8, e9, e10, e11, e12, e13, y14, y15⟩
  have E19 : h17 92 = h 92 := e2
  have E20 : h17 93 = h 93 := e3
  have E21 : h17 94 = h 94 := e4
  have E22 : h17 95 = h 95 := e5
  have E23 : h17 96 = h 96 := e6
  have E24 : h17 99 = h 99 := e7
  have E25 : h17 100 = h 100 := e8
  have E26 : h17 103 = h 103 := e9
  have E27 : h17 105 = h 105 := e10
  have E28 : h17 106 = h 106 := e11
  have E29 : h17 109 = h 109 := e12
  have E30 : h17 114 = h 114 := e13
  show ov_R u d ov_m228 5 [(0, ov_r 90), (1, ov_i dep)] [] z16 h17 (P_Mo_sums_90 F z h n dep)
  have f31 : (h17 90 2) = (h 90 2) ∧ (h17 90 20) = (h 90 20) ∧ (h17 90 22) = (h 90 22) ∧ (h17 90 25) = (h 90 25) ∧ (h17 90 26) = (h 90 26) ∧ (h17 90 28) = (h 90 28) ∧ (h17 90 29) = (h 90 29) ∧ (h17 90 30) = (h 90 30) ∧ (h17 90 34) = (h 90 34) ∧ (h 90 7) ≤ (h17 90 7) ∧ (h17 90 7) ≤ n ∧ (h 90 8) ≤ (h17 90 8) ∧ (h 90 13) ≤ (h17 90 13) ∧ (h17 90 13) - (h 90 13) ≤ (h17 90 7) - (h 90 7) := f1
  clear f1
  have y14_ : ∀ j : Int, j < 1100 + (h 90 13) → (h17 97) j = (h 97) j ∧ (h17 98) j = (h 98) j := y14
  have y15_ : (h17 90 8) = 0 → ov_sg (h17 97) (h17 98) (h 90 13) (h17 90 13) := y15
  have K32 : ∀ j : Int, j < 1100 + (h 90 13) → h17 97 j = h 97 j ∧ h17 98 j = h 98 j := fun j hj => y14_ j (by omega)
  have K33 : h17 90 8 = 0 → ov_sg (h17 97) (h17 98) (h 90 13) (h17 90 13) := fun e => by have q := y15_ e; rw [show (h 90 13) = h 90 13 by omega] at q; exact q
  have L37 : ∀ (n34 : Nat) (z38 : ov_Z) (h39 : ov_H) (I40 : ov_N F z38 h39) (E41 : h39 92 = h 92) (E42 : h39 93 = h 93) (E43 : h39 94 = h 94) (E44 : h39 95 = h 95) (E45 : h39 96 = h 96) (E46 : h39 99 = h 99) (E47 : h39 100 = h 100) (E48 : h39 103 = h 103) (E49 : h39 105 = h 105) (E50 : h39 106 = h 106) (E51 : h39 109 = h 109) (E52 : h39 114 = h 114) (xa : ∀ j : Int, j < 1100 + (h 90 13) → (h39 97) j = (h 97) j ∧ (h39 98) j = (h 98) j) (xb : (h39 90 8) = 0 → ov_sg (h39 97) (h39 98) (h 90 13) (h39 90 13)) (q36 : (h 90 7) ≤ (h39 90 7) ∧ (h39 90 7) ≤ n ∧ (h 90 8) ≤ (h39 90 8) ∧ (h 90 13) ≤ (h39 90 13) ∧ (h39 90 13) - (h 90 13) ≤ (h39 90 7) - (h 90 7) ∧ (h39 90 2) = (h17 90 2) ∧ (h39 90 20) = (h17 90 20) ∧ (h39 90 22) = (h17 90 22) ∧ (h39 90 25) = (h17 90 25) ∧ (h39 90 26) = (h17 90 26) ∧ (h39 90 28) = (h17 90 28) ∧ (h39 90 29) = (h17 90 29) ∧ (h39 90 30) = (h17 90 30) ∧ (h39 90 34) = (h17 90 34)), 1000 - (h39 90 7) < (n34 : Int) → ov_R u d ov_m228 5 [(0, ov_r 90), (1, ov_i dep)] [] z38 h39 (P_Mo_sums_90 F z h n dep) := by
    intro n34
    induction n34 with
    | zero =>
      intro  z38 h39 I40 E41 E42 E43 E44 E45 E46 E47 E48 E49 E50 E51 E52 xa xb q36 hn53
      exact absurd hn53 (by omega)
    | succ n34 ih35 =>
      intro  z38 h39 I40 E41 E42 E43 E44 E45 E46 E47 E48 E49 E50 E51 E52 xa xb q36 hn53
      refine ov_blk (ls2 := [(0, ov_r 90), (1, ov_i dep)]) (st2 := [ov_r 90]) (pc2 := 6) b_228_5_1 rfl rfl ?_
      refine ov_blk (ls2 := [(0, ov_r 90), (1, ov_i dep)]) (st2 := [ov_i 43, ov_r 90]) (pc2 := 8) b_228_6_1 rfl rfl ?_
      have cf54 : h39 92 (n) = h 92 (n) := congrFun E41 (n)
      refine ov_cV (as := [ov_i 43]) (st := []) (d2 := d - 1) d_228_8 lk_Mo_183 rfl (Nat.le_of_ble_eq_true rfl) (c := 1) (zb_90 I40) (zs_90 I40) ⟨by decide, rfl⟩ (by omega) (c_Mo_isSign_90 n (d - 1) (by omega) U I40 43 (by omega) (by show 0 ≤ n ∧ n ≤ 1000 ∧ (h39 92 (n)) = 0 ∧ (h39 90 7) ≤ n; omega)) ?_
      rintro _ _ _ ⟨v56, rfl, rfl, rfl, f55⟩
      show ov_R u d ov_m228 11 [(0, ov_r 90), (1, ov_i dep)] [ov_i v56] z38 h39 (P_Mo_sums_90 F z h n dep)
      rw [show h39 92 = h 92 from E41] at f55
      rw [show h39 94 = h 94 from E43] at f55
      have f57 : (v56 = 0 ∨ v56 = 1) ∧ (v56 = 1 → (h39 90 7) < n) ∧ (v56 = 1 → (h39 90 8) = 0 ∧ (h 92 ((h39 90 7))) = 3 ∧ (h 94 ((h39 90 7))) = (43 : Int)) ∧ (v56 = 0 → ¬ ((h39 90 8) = 0 ∧ (h 92 ((h39 90 7))) = 3 ∧ (h 94 ((h39 90 7))) = (43 : Int))) := f55
      clear f55
      refine ov_ifne (tgt := 23) d_228_11 (by decide) (by omega) (fun c58 => ?_) (fun c58 => ?_)
      · skip
        have f57_ : v56 = 1 := by omega
        have f59 : (h39 90 7) < n := f57.2.1 (by omega)
        have f60 : (h39 90 8) = 0 ∧ (h 92 ((h39 90 7))) = 3 ∧ (h 94 ((h39 90 7))) = (43 : Int) := f57.2.2.1 (by omega)
        clear f57
        refine ov_blk (ls2 := [(0, ov_r 90), (1, ov_i dep)]) (st2 := [ov_i 43, ov_r 90]) (pc2 := 26) b_228_23_2 rfl rfl ?_
        have cf61 : h39 92 (n) = h 92 (n) := congrFun E41 (n)
        refine ov_cV (as := [ov_i 43]) (st := []) (d2 := d - 1) d_228_26 lk_Mo_183 rfl (Nat.le_of_ble_eq_true rfl) (c := 1) (zb_90 I40) (zs_90 I40) ⟨by decide, rfl⟩ (by omega) (c_Mo_isSign_90 n (d - 1) (by omega) U I40 43 (by omega) (by show 0 ≤ n ∧ n ≤ 1000 ∧ (h39 92 (n)) = 0 ∧ (h39 90 7) ≤ n; omega)) ?_
        rintro _ _ _ ⟨v63, rfl, rfl, rfl, f62⟩
        show ov_R u d ov_m228 29 [(0, ov_r 90), (1, ov_i dep)] [ov_i v63] z38 h39 (P_Mo_sums_90 F z h n dep)
        rw [show h39 92 = h 92 from E41] at f62
        rw [show h39 94 = h 94 from E43] at f62
        have f64 : (v63 = 0 ∨ v63 = 1) ∧ (v63 = 1 → (h39 90 7) < n) ∧ (v63 = 1 → (h39 90 8) = 0 ∧ (h 92 ((h39 90 7))) = 3 ∧ (h 94 ((h39 90 7))) = (43 : Int)) ∧ (v63 = 0 → ¬ ((h39 90 8) = 0 ∧ (h 92 ((h39 90 7))) = 3 ∧ (h 94 ((h39 90 7))) = (43 : Int))) := f62
        clear f62
        refine ov_blk (ls2 := [(0, ov_r 90), (1, ov_i dep), (2, ov_i v63)]) (st2 := [ov_r 90, ov_r 90]) (pc2 := 32) b_228_29_3 rfl rfl ?_
        refine ov_getf (v := ov_i (h39 90 7)) d_228_32 fl_Mo_177 (zb_90 I40) (zs_90 I40) rfl ?_
        have g65 := rg_90_7 I40
        refine ov_blk (ls2 := [(0, ov_r 90), (1, ov_i dep), (2, ov_i v63)]) (st2 := [ov_i ((h39 90 7) + 1), ov_r 90]) (pc2 := 37) b_228_35_2 rfl rfl ?_
        refine ov_putf (x := ((h39 90 7) + 1)) d_228_37 fl_Mo_177 (zb_90 I40) (zs_90 I40) rfl nk_0 rfl ?_
        have I66 := up_90_7 (x := ((h39 90 7) + 1)) I40 (by omega)
        refine ov_blk (ls2 := [(0, ov_r 90), (1, ov_i dep), (2, ov_i v63)]) (st2 := [ov_i dep, ov_r 90]) (pc2 := 42) b_228_40_2 rfl rfl ?_
        have cf67 : h39 92 (n) = h 92 (n) := congrFun E41 (n)
        refine ov_cV (as := [ov_i dep]) (st := []) (d2 := d - 1) d_228_42 lk_Mo_266 rfl (Nat.le_of_ble_eq_true rfl) (c := 1) (zb_90 I66) (zs_90 I66) ⟨by decide, rfl⟩ (by omega) (c_Mo_products_90 n k HE HP (d - 1) (by omega) U I66 dep (by omega) (by show 0 ≤ n ∧ n ≤ 1000 ∧ (h39 92 (n)) = 0 ∧ ((h39 90 7) + 1) ≤ n; omega) (by omega) (by show (h39 90 13) ≤ ((h39 90 7) + 1); omega)) ?_
        rintro _ z83 h84 ⟨rfl, I85, f68, e69, e70, e71, e72, e73, e74, e75, e76, e77, e78, e79, e80, y81, y82⟩
        have E86 : h84 92 = h 92 := Eq.trans e69 E41
        have E87 : h84 93 = h 93 := Eq.trans e70 E42
        have E88 : h84 94 = h 94 := Eq.trans e71 E43
        have E89 : h84 95 = h 95 := Eq.trans e72 E44
        have E90 : h84 96 = h 96 := Eq.trans e73 E45
        have E91 : h84 99 = h 99 := Eq.trans e74 E46
        have E92 : h84 100 = h 100 := Eq.trans e75 E47
        have E93 : h84 103 = h 103 := Eq.trans e76 E48
        have E94 : h84 105 = h 105 := Eq.trans e77 E49
        have E95 : h84 106 = h 106 := Eq.trans e78 E50
        have E96 : h84 109 = h 109 := Eq.trans e79 E51
        have E97 : h84 114 = h 114 := Eq.trans e80 E52
        show ov_R u d ov_m228 45 [(0, ov_r 90), (1, ov_i dep), (2, ov_i v63)] [] z83 h84 (P_Mo_sums_90 F z h n dep)
        have f98 : (h84 90 2) = (h39 90 2) ∧ (h84 90 20) = (h39 90 20) ∧ (h84 90 22) = (h39 90 22) ∧ (h84 90 25) = (h39 90 25) ∧ (h84 90 26) = (h39 90 26) ∧ (h84 90 28) = (h39 90 28) ∧ (h84 90 29) = (h39 90 29) ∧ (h84 90 30) = (h39 90 30) ∧ (h84 90 34) = (h39 90 34) ∧ ((h39 90 7) + 1) ≤ (h84 90 7) ∧ (h84 90 7) ≤ n ∧ (h39 90 8) ≤ (h84 90 8) ∧ (h39 90 13) ≤ (h84 90 13) ∧ (h84 90 13) - (h39 90 13) ≤ (h84 90 7) - ((h39 90 7) + 1) := f68
        clear f68
        have y81_ : ∀ j : Int, j < 1100 + (h39 90 13) → (h84 97) j = (h39 97) j ∧ (h84 98) j = (h39 98) j := y81
        have y82_ : (h84 90 8) = 0 → ov_sg (h84 97) (h84 98) (h39 90 13) (h84 90 13) := y82
        refine ov_blk (ls2 := [(0, ov_r 90), (1, ov_i dep), (2, ov_i v63)]) (st2 := [ov_i v63, ov_r 90]) (pc2 := 47) b_228_45_2 rfl rfl ?_
        refine ov_ifeq (tgt := 54) d_228_47 (by decide) (by omega) (fun c99 => ?_) (fun c99 => ?_)
        · skip
          have f64_ : v63 = 0 := by omega
          have f100 : ¬ ((h39 90 8) = 0 ∧ (h 92 ((h39 90 7))) = 3 ∧ (h 94 ((h39 90 7))) = (43 : Int)) := f64.2.2.2 (by omega)
          clear f64
          refine ov_blk (ls2 := [(0, ov_r 90), (1, ov_i dep), (2, ov_i v63)]) (st2 := [ov_i 0, ov_i 5, ov_r 90]) (pc2 := 56) b_228_54_2 rfl rfl ?_
          refine ov_cV (as := [ov_i 5, ov_i 0]) (st := []) (d2 := d - 1) d_228_56 lk_Mo_246 rfl (Nat.le_of_ble_eq_true rfl) (c := 1) (zb_90 I85) (zs_90 I85) ⟨by decide, rfl⟩ (by omega) (c_Mo_emit_90 (d - 1) (by omega) U I85 5 0 (by omega) (by omega) (by omega) (by show (h84 90 13) ≤ 999; omega)) ?_
          rintro _ z116 h117 ⟨rfl, I118, f101, e102, e103, e104, e105, e106, e107, e108, e109, e110, e111, e112, e113, y114, y115⟩
          have E119 : h117 92 = h 92 := Eq.trans e102 E86
          have E120 : h117 93 = h 93 := Eq.trans e103 E87
          have E121 : h117 94 = h 94 := Eq.trans e104 E88
          have E122 : h117 95 = h 95 := Eq.trans e105 E89
          have E123 : h117 96 = h 96 := Eq.trans e106 E90
          have E124 : h117 99 = h 99 := Eq.trans e107 E91
          have E125 : h117 100 = h 100 := Eq.trans e108 E92
          have E126 : h117 103 = h 103 := Eq.trans e109 E93
          have E127 : h117 105 = h 105 := Eq.trans e110 E94
          have E128 : h117 106 = h 106 := Eq.trans e111 E95
          have E129 : h117 109 = h 109 := Eq.trans e112 E96
          have E130 : h117 114 = h 114 := Eq.trans e113 E97
          show ov_R u d ov_m228 59 [(0, ov_r 90), (1, ov_i dep), (2, ov_i v63)] [] z116 h117 (P_Mo_sums_90 F z h n dep)
          have f131 : (h117 90 2) = (h84 90 2) ∧ (h117 90 7) = (h84 90 7) ∧ (h117 90 8) = (h84 90 8) ∧ (h117 90 20) = (h84 90 20) ∧ (h117 90 22) = (h84 90 22) ∧ (h117 90 25) = (h84 90 25) ∧ (h117 90 26) = (h84 90 26) ∧ (h117 90 28) = (h84 90 28) ∧ (h117 90 29) = (h84 90 29) ∧ (h117 90 30) = (h84 90 30) ∧ (h117 90 34) = (h84 90 34) ∧ (h117 90 13) = (h84 90 13) + 1 := f101
          clear f101
          have y114_ : (h117 97) = ov_rs (h84 97) (1100 + (h84 90 13)) (5 : Int) := y114
          have y115_ : (h117 98) = ov_rs (h84 98) (1100 + (h84 90 13)) (0 : Int) := y115
          have K132 : ∀ j : Int, j < 1100 + (h 90 13) → h117 97 j = h 97 j ∧ h117 98 j = h 98 j := ov_kpe (ov_kp xa y81_ (by omega)) y114_ y115_ (by omega)
          have K133 : h117 90 8 = 0 → ov_sg (h117 97) (h117 98) (h 90 13) (h117 90 13) := fun e => by have q1 := xb (by omega); have q2 := y82_ (by omega); rw [show (h39 90 13) = (h39 90 13) by omega] at q2; have q3 := ov_sg_bin q1 (fun j hj => y81_ j (by omega)) q2 y114_ y115_ (by omega); rw [show h117 90 13 = (h84 90 13) + 1 by omega]; exact q3
          refine ov_goto (tgt := 5) d_228_59 (by decide) ?_
          refine ov_sub (ls2 := [(0, ov_r 90), (1, ov_i dep)]) (List.Sublist.subset (by repeat (first | exact List.Sublist.refl _ | apply List.Sublist.cons_cons | apply List.Sublist.cons))) ?_
          exact ih35  _ _ I118 E119 E120 E121 E122 E123 E124 E125 E126 E127 E128 E129 E130 K132 K133 (by show (h 90 7) ≤ (h117 90 7) ∧ (h117 90 7) ≤ n ∧ (h 90 8) ≤ (h117 90 8) ∧ (h 90 13) ≤ (h117 90 13) ∧ (h117 90 13) - (h 90 13) ≤ (h117 90 7) - (h 90 7) ∧ (h117 90 2) = (h17 90 2) ∧ (h117 90 20) = (h17 90 20) ∧ (h117 90 22) = (h17 90 22) ∧ (h117 90 25) = (h17 90 25) ∧ (h117 90 26) = (h17 90 26) ∧ (h117 90 28) = (h17 90 28) ∧ (h117 90 29) = (h17 90 29) ∧ (h117 90 30) = (h17 90 30) ∧ (h117 90 34) = (h17 90 34); omega) (by omega)
        · skip
          have f64_ : v63 = 1 := by omega
          have f134 : (h39 90 7) < n := f64.2.1 (by omega)
          have f135 : (h39 90 8) = 0 ∧ (h 92 ((h39 90 7))) = 3 ∧ (h 94 ((h39 90 7))) = (43 : Int) := f64.2.2.1 (by omega)
          clear f64
          refine ov_blk (ls2 := [(0, ov_r 90), (1, ov_i dep), (2, ov_i v63)]) (st2 := [ov_i 4, ov_r 90]) (pc2 := 51) b_228_50_1 rfl rfl ?_
          refine ov_goto (tgt := 55) d_228_51 (by decide) ?_
          refine ov_blk (ls2 := [(0, ov_r 90), (1, ov_i dep), (2, ov_i v63)]) (st2 := [ov_i 0, ov_i 4, ov_r 90]) (pc2 := 56) b_228_55_1 rfl rfl ?_
          refine ov_cV (as := [ov_i 4, ov_i 0]) (st := []) (d2 := d - 1) d_228_56 lk_Mo_246 rfl (Nat.le_of_ble_eq_true rfl) (c := 1) (zb_90 I85) (zs_90 I85) ⟨by decide, rfl⟩ (by omega) (c_Mo_emit_90 (d - 1) (by omega) U I85 4 0 (by omega) (by omega) (by omega) (by show (h84 90 13) ≤ 999; omega)) ?_
          rintro _ z151 h152 ⟨rfl, I153, f136, e137, e138, e139, e140, e141, e142, e143, e144, e145, e146, e147, e148, y149, y150⟩
          have E154 : h152 92 = h 92 := Eq.trans e137 E86
          have E155 : h152 93 = h 93 := Eq.trans e138 E87
          have E156 : h152 94 = h 94 := Eq.trans e139 E88
          have E157 : h152 95 = h 95 := Eq.trans e140 E89
          have E158 : h152 96 = h 96 := Eq.trans e141 E90
          have E159 : h152 99 = h 99 := Eq.trans e142 E91
          have E160 : h152 100 = h 100 := Eq.trans e143 E92
          have E161 : h152 103 = h 103 := Eq.trans e144 E93
          have E162 : h152 105 = h 105 := Eq.trans e145 E94
          have E163 : h152 106 = h 106 := Eq.trans e146 E95
          have E164 : h152 109 = h 109 := Eq.trans e147 E96
          have E165 : h152 114 = h 114 := Eq.trans e148 E97
          show ov_R u d ov_m228 59 [(0, ov_r 90), (1, ov_i dep), (2, ov_i v63)] [] z151 h152 (P_Mo_sums_90 F z h n dep)
          have f166 : (h152 90 2) = (h84 90 2) ∧ (h152 90 7) = (h84 90 7) ∧ (h152 90 8) = (h84 90 8) ∧ (h152 90 20) = (h84 90 20) ∧ (h152 90 22) = (h84 90 22) ∧ (h152 90 25) = (h84 90 25) ∧ (h152 90 26) = (h84 90 26) ∧ (h152 90 28) = (h84 90 28) ∧ (h152 90 29) = (h84 90 29) ∧ (h152 90 30) = (h84 90 30) ∧ (h152 90 34) = (h84 90 34) ∧ (h152 90 13) = (h84 90 13) + 1 := f136
          clear f136
          have y149_ : (h152 97) = ov_rs (h84 97) (1100 + (h84 90 13)) (4 : Int) := y149
          have y150_ : (h152 98) = ov_rs (h84 98) (1100 + (h84 90 13)) (0 : Int) := y150
          have K167 : ∀ j : Int, j < 1100 + (h 90 13) → h152 97 j = h 97 j ∧ h152 98 j = h 98 j := ov_kpe (ov_kp xa y81_ (by omega)) y149_ y150_ (by omega)
          have K168 : h152 90 8 = 0 → ov_sg (h152 97) (h152 98) (h 90 13) (h152 90 13) := fun e => by have q1 := xb (by omega); have q2 := y82_ (by omega); rw [show (h39 90 13) = (h39 90 13) by omega] at q2; have q3 := ov_sg_bin q1 (fun j hj => y81_ j (by omega)) q2 y149_ y150_ (by omega); rw [show h152 90 13 = (h84 90 13) + 1 by omega]; exact q3
          refine ov_goto (tgt := 5) d_228_59 (by decide) ?_
          refine ov_sub (ls2 := [(0, ov_r 90), (1, ov_i dep)]) (List.Sublist.subset (by repeat (first | exact List.Sublist.refl _ | apply List.Sublist.cons_cons | apply List.Sublist.cons))) ?_
          exact ih35  _ _ I153 E154 E155 E156 E157 E158 E159 E160 E161 E162 E163 E164 E165 K167 K168 (by show (h 90 7) ≤ (h152 90 7) ∧ (h152 90 7) ≤ n ∧ (h 90 8) ≤ (h152 90 8) ∧ (h 90 13) ≤ (h152 90 13) ∧ (h152 90 13) - (h 90 13) ≤ (h152 90 7) - (h 90 7) ∧ (h152 90 2) = (h17 90 2) ∧ (h152 90 20) = (h17 90 20) ∧ (h152 90 22) = (h17 90 22) ∧ (h152 90 25) = (h17 90 25) ∧ (h152 90 26) = (h17 90 26) ∧ (h152 90 28) = (h17 90 28) ∧ (h152 90 29) = (h17 90 29) ∧ (h152 90 30) = (h17 90 30) ∧ (h152 90 34) = (h17 90 34); omega) (by omega)
      · skip
        have f57_ : v56 = 0 := by omega
        have f169 : ¬ ((h39 90 8) = 0 ∧ (h 92 ((h39 90 7))) = 3 ∧ (h 94 ((h39 90 7))) = (43 : Int)) := f57.2.2.2 (by omega)
        clear f57
        refine ov_blk (ls2 := [(0, ov_r 90), (1, ov_i dep)]) (st2 := [ov_i 45, ov_r 90]) (pc2 := 17) b_228_14_2 rfl rfl ?_
        have cf170 : h39 92 (n) = h 92 (n) := congrFun E41 (n)
        refine ov_cV (as := [ov_i 45]) (st := []) (d2 := d - 1) d_228_17 lk_Mo_183 rfl (Nat.le_of_ble_eq_true rfl) (c := 1) (zb_90 I40) (zs_90 I40) ⟨by decide, rfl⟩ (by omega) (c_Mo_isSign_90 n (d - 1) (by omega) U I40 45 (by omega) (by show 0 ≤ n ∧ n ≤ 1000 ∧ (h39 92 (n)) = 0 ∧ (h39 90 7) ≤ n; omega)) ?_
        rintro _ _ _ ⟨v172, rfl, rfl, rfl, f171⟩
        show ov_R u d ov_m228 20 [(0, ov_r 90), (1, ov_i dep)] [ov_i v172] z38 h39 (P_Mo_sums_90 F z h n dep)
        rw [show h39 92 = h 92 from E41] at f171
        rw [show h39 94 = h 94 from E43] at f171
        have f173 : (v172 = 0 ∨ v172 = 1) ∧ (v172 = 1 → (h39 90 7) < n) ∧ (v172 = 1 → (h39 90 8) = 0 ∧ (h 92 ((h39 90 7))) = 3 ∧ (h 94 ((h39 90 7))) = (45 : Int)) ∧ (v172 = 0 → ¬ ((h39 90 8) = 0 ∧ (h 92 ((h39 90 7))) = 3 ∧ (h 94 ((h39 90 7))) = (45 : Int))) := f171
        clear f171
        refine ov_ifeq (tgt := 62) d_228_20 (by decide) (by omega) (fun c174 => ?_) (fun c174 => ?_)
        · skip
          have f173_ : v172 = 0 := by omega
          have f175 : ¬ ((h39 90 8) = 0 ∧ (h 92 ((h39 90 7))) = 3 ∧ (h 94 ((h39 90 7))) = (45 : Int)) := f173.2.2.2 (by omega)
          clear f173
          exact ov_retv (st := []) d_228_62 rfl ⟨rfl, I40, (by show (h39 90 2) = (h 90 2) ∧ (h39 90 20) = (h 90 20) ∧ (h39 90 22) = (h 90 22) ∧ (h39 90 25) = (h 90 25) ∧ (h39 90 26) = (h 90 26) ∧ (h39 90 28) = (h 90 28) ∧ (h39 90 29) = (h 90 29) ∧ (h39 90 30) = (h 90 30) ∧ (h39 90 34) = (h 90 34) ∧ (h 90 7) ≤ (h39 90 7) ∧ (h39 90 7) ≤ n ∧ (h 90 8) ≤ (h39 90 8) ∧ (h 90 13) ≤ (h39 90 13) ∧ (h39 90 13) - (h 90 13) ≤ (h39 90 7) - (h 90 7); omega), E41, E42, E43, E44, E45, E46, E47, E48, E49, E50, E51, E52, xa, (fun e => by have e0 : (h39 90 8) = 0 := e; show ov_sg (h39 97) (h39 98) _ (h39 90 13); rw [show (h39 90 13) = (h39 90 13) by omega]; exact xb (by omega))⟩
        · skip
          have f173_ : v172 = 1 := by omega
          have f176 : (h39 90 7) < n := f173.2.1 (by omega)
          have f177 : (h39 90 8) = 0 ∧ (h 92 ((h39 90 7))) = 3 ∧ (h 94 ((h39 90 7))) = (45 : Int) := f173.2.2.1 (by omega)
          clear f173
          refine ov_blk (ls2 := [(0, ov_r 90), (1, ov_i dep)]) (st2 := [ov_i 43, ov_r 90]) (pc2 := 26) b_228_23_2 rfl rfl ?_
          have cf178 : h39 92 (n) = h 92 (n) := congrFun E41 (n)
          refine ov_cV (as := [ov_i 43]) (st := []) (d2 := d - 1) d_228_26 lk_Mo_183 rfl (Nat.le_of_ble_eq_true rfl) (c := 1) (zb_90 I40) (zs_90 I40) ⟨by decide, rfl⟩ (by omega) (c_Mo_isSign_90 n (d - 1) (by omega) U I40 43 (by omega) (by show 0 ≤ n ∧ n ≤ 1000 ∧ (h39 92 (n)) = 0 ∧ (h39 90 7) ≤ n; omega)) ?_
          rintro _ _ _ ⟨v180, rfl, rfl, rfl, f179⟩
          show ov_R u d ov_m228 29 [(0, ov_r 90), (1, ov_i dep)] [ov_i v180] z38 h39 (P_Mo_sums_90 F z h n dep)
          rw [show h39 92 = h 92 from E41] at f179
          rw [show h39 94 = h 94 from E43] at f179
          have f181 : (v180 = 0 ∨ v180 = 1) ∧ (v180 = 1 → (h39 90 7) < n) ∧ (v180 = 1 → (h39 90 8) = 0 ∧ (h 92 ((h39 90 7))) = 3 ∧ (h 94 ((h39 90 7))) = (43 : Int)) ∧ (v180 = 0 → ¬ ((h39 90 8) = 0 ∧ (h 92 ((h39 90 7))) = 3 ∧ (h 94 ((h39 90 7))) = (43 : Int))) := f179
          clear f179
          refine ov_blk (ls2 := [(0, ov_r 90), (1, ov_i dep), (2, ov_i v180)]) (st2 := [ov_r 90, ov_r 90]) (pc2 := 32) b_228_29_3 rfl rfl ?_
          refine ov_getf (v := ov_i (h39 90 7)) d_228_32 fl_Mo_177 (zb_90 I40) (zs_90 I40) rfl ?_
          have g182 := rg_90_7 I40
          refine ov_blk (ls2 := [(0, ov_r 90), (1, ov_i dep), (2, ov_i v180)]) (st2 := [ov_i ((h39 90 7) + 1), ov_r 90]) (pc2 := 37) b_228_35_2 rfl rfl ?_
          refine ov_putf (x := ((h39 90 7) + 1)) d_228_37 fl_Mo_177 (zb_90 I40) (zs_90 I40) rfl nk_0 rfl ?_
          have I183 := up_90_7 (x := ((h39 90 7) + 1)) I40 (by omega)
          refine ov_blk (ls2 := [(0, ov_r 90), (1, ov_i dep), (2, ov_i v180)]) (st2 := [ov_i dep, ov_r 90]) (pc2 := 42) b_228_40_2 rfl rfl ?_
          have cf184 : h39 92 (n) = h 92 (n) := congrFun E41 (n)
          refine ov_cV (as := [ov_i dep]) (st := []) (d2 := d - 1) d_228_42 lk_Mo_266 rfl (Nat.le_of_ble_eq_true rfl) (c := 1) (zb_90 I183) (zs_90 I183) ⟨by decide, rfl⟩ (by omega) (c_Mo_products_90 n k HE HP (d - 1) (by omega) U I183 dep (by omega) (by show 0 ≤ n ∧ n ≤ 1000 ∧ (h39 92 (n)) = 0 ∧ ((h39 90 7) + 1) ≤ n; omega) (by omega) (by show (h39 90 13) ≤ ((h39 90 7) + 1); omega)) ?_
          rintro _ z200 h201 ⟨rfl, I202, f185, e186, e187, e188, e189, e190, e191, e192, e193, e194, e195, e196, e197, y198, y199⟩
          have E203 : h201 92 = h 92 := Eq.trans e186 E41
          have E204 : h201 93 = h 93 := Eq.trans e187 E42
          have E205 : h201 94 = h 94 := Eq.trans e188 E43
          have E206 : h201 95 = h 95 := Eq.trans e189 E44
          have E207 : h201 96 = h 96 := Eq.trans e190 E45
          have E208 : h201 99 = h 99 := Eq.trans e191 E46
          have E209 : h201 100 = h 100 := Eq.trans e192 E47
          have E210 : h201 103 = h 103 := Eq.trans e193 E48
          have E211 : h201 105 = h 105 := Eq.trans e194 E49
          have E212 : h201 106 = h 106 := Eq.trans e195 E50
          have E213 : h201 109 = h 109 := Eq.trans e196 E51
          have E214 : h201 114 = h 114 := Eq.trans e197 E52
          show ov_R u d ov_m228 45 [(0, ov_r 90), (1, ov_i dep), (2, ov_i v180)] [] z200 h201 (P_Mo_sums_90 F z h n dep)
          have f215 : (h201 90 2) = (h39 90 2) ∧ (h201 90 20) = (h39 90 20) ∧ (h201 90 22) = (h39 90 22) ∧ (h201 90 25) = (h39 90 25) ∧ (h201 90 26) = (h39 90 26) ∧ (h201 90 28) = (h39 90 28) ∧ (h201 90 29) = (h39 90 29) ∧ (h201 90 30) = (h39 90 30) ∧ (h201 90 34) = (h39 90 34) ∧ ((h39 90 7) + 1) ≤ (h201 90 7) ∧ (h201 90 7) ≤ n ∧ (h39 90 8) ≤ (h201 90 8) ∧ (h39 90 13) ≤ (h201 90 13) ∧ (h201 90 13) - (h39 90 13) ≤ (h201 90 7) - ((h39 90 7) + 1) := f185
          clear f185
          have y198_ : ∀ j : Int, j < 1100 + (h39 90 13) → (h201 97) j = (h39 97) j ∧ (h201 98) j = (h39 98) j := y198
          have y199_ : (h201 90 8) = 0 → ov_sg (h201 97) (h201 98) (h39 90 13) (h201 90 13) := y199
          refine ov_blk (ls2 := [(0, ov_r 90), (1, ov_i dep), (2, ov_i v180)]) (st2 := [ov_i v180, ov_r 90]) (pc2 := 47) b_228_45_2 rfl rfl ?_
          refine ov_ifeq (tgt := 54) d_228_47 (by decide) (by omega) (fun c216 => ?_) (fun c216 => ?_)
          · skip
            have f181_ : v180 = 0 := by omega
            have f217 : ¬ ((h39 90 8) = 0 ∧ (h 92 ((h39 90 7))) = 3 ∧ (h 94 ((h39 90 7))) = (43 : Int)) := f181.2.2.2 (by omega)
            clear f181
            refine ov_blk (ls2 := [(0, ov_r 90), (1, ov_i dep), (2, ov_i v180)]) (st2 := [ov_i 0, ov_i 5, ov_r 90]) (pc2 := 56) b_228_54_2 rfl rfl ?_
            refine ov_cV (as := [ov_i 5, ov_i 0]) (st := []) (d2 := d - 1) d_228_56 lk_Mo_246 rfl (Nat.le_of_ble_eq_true rfl) (c := 1) (zb_90 I202) (zs_90 I202) ⟨by decide, rfl⟩ (by omega) (c_Mo_emit_90 (d - 1) (by omega) U I202 5 0 (by omega) (by omega) (by omega) (by show (h201 90 13) ≤ 999; omega)) ?_
            rintro _ z233 h234 ⟨rfl, I235, f218, e219, e220, e221, e222, e223, e224, e225, e226, e227, e228, e229, e230, y231, y232⟩
            have E236 : h234 92 = h 92 := Eq.trans e219 E203
            have E237 : h234 93 = h 93 := Eq.trans e220 E204
            have E238 : h234 94 = h 94 := Eq.trans e221 E205
            have E239 : h234 95 = h 95 := Eq.trans e222 E206
            have E240 : h234 96 = h 96 := Eq.trans e223 E207
            have E241 : h234 99 = h 99 := Eq.trans e224 E208
            have E242 : h234 100 = h 100 := Eq.trans e225 E209
            have E243 : h234 103 = h 103 := Eq.trans e226 E210
            have E244 : h234 105 = h 105 := Eq.trans e227 E211
            have E245 : h234 106 = h 106 := Eq.trans e228 E212
            have E246 : h234 109 = h 109 := Eq.trans e229 E213
            have E247 : h234 114 = h 114 := Eq.trans e230 E214
            show ov_R u d ov_m228 59 [(0, ov_r 90), (1, ov_i dep), (2, ov_i v180)] [] z233 h234 (P_Mo_sums_90 F z h n dep)
            have f248 : (h234 90 2) = (h201 90 2) ∧ (h234 90 7) = (h201 90 7) ∧ (h234 90 8) = (h201 90 8) ∧ (h234 90 20) = (h201 90 20) ∧ (h234 90 22) = (h201 90 22) ∧ (h234 90 25) = (h201 90 25) ∧ (h234 90 26) = (h201 90 26) ∧ (h234 90 28) = (h201 90 28) ∧ (h234 90 29) = (h201 90 29) ∧ (h234 90 30) = (h201 90 30) ∧ (h234 90 34) = (h201 90 34) ∧ (h234 90 13) = (h201 90 13) + 1 := f218
            clear f218
            have y231_ : (h234 97) = ov_rs (h201 97) (1100 + (h201 90 13)) (5 : Int) := y231
            have y232_ : (h234 98) = ov_rs (h201 98) (1100 + (h201 90 13)) (0 : Int) := y232
            have K249 : ∀ j : Int, j < 1100 + (h 90 13) → h234 97 j = h 97 j ∧ h234 98 j = h 98 j := ov_kpe (ov_kp xa y198_ (by omega)) y231_ y232_ (by omega)
            have K250 : h234 90 8 = 0 → ov_sg (h234 97) (h234 98) (h 90 13) (h234 90 13) := fun e => by have q1 := xb (by omega); have q2 := y199_ (by omega); rw [show (h39 90 13) = (h39 90 13) by omega] at q2; have q3 := ov_sg_bin q1 (fun j hj => y198_ j (by omega)) q2 y231_ y232_ (by omega); rw [show h234 90 13 = (h201 90 13) + 1 by omega]; exact q3
            refine ov_goto (tgt := 5) d_228_59 (by decide) ?_
            refine ov_sub (ls2 := [(0, ov_r 90), (1, ov_i dep)]) (List.Sublist.subset (by repeat (first | exact List.Sublist.refl _ | apply List.Sublist.cons_cons | apply List.Sublist.cons))) ?_
            exact ih35  _ _ I235 E236 E237 E238 E239 E240 E241 E242 E243 E244 E245 E246 E247 K249 K250 (by show (h 90 7) ≤ (h234 90 7) ∧ (h234 90 7) ≤ n ∧ (h 90 8) ≤ (h234 90 8) ∧ (h 90 13) ≤ (h234 90 13) ∧ (h234 90 13) - (h 90 13) ≤ (h234 90 7) - (h 90 7) ∧ (h234 90 2) = (h17 90 2) ∧ (h234 90 20) = (h17 90 20) ∧ (h234 90 22) = (h17 90 22) ∧ (h234 90 25) = (h17 90 25) ∧ (h234 90 26) = (h17 90 26) ∧ (h234 90 28) = (h17 90 28) ∧ (h234 90 29) = (h17 90 29) ∧ (h234 90 30) = (h17 90 30) ∧ (h234 90 34) = (h17 90 34); omega) (by omega)
          · skip
            have f181_ : v180 = 1 := by omega
            have f251 : (h39 90 7) < n := f181.2.1 (by omega)
            have f252 : (h39 90 8) = 0 ∧ (h 92 ((h39 90 7))) = 3 ∧ (h 94 ((h39 90 7))) = (43 : Int) := f181.2.2.1 (by omega)
            clear f181
            refine ov_blk (ls2 := [(0, ov_r 90), (1, ov_i dep), (2, ov_i v180)]) (st2 := [ov_i 4, ov_r 90]) (pc2 := 51) b_228_50_1 rfl rfl ?_
            refine ov_goto (tgt := 55) d_228_51 (by decide) ?_
            refine ov_blk (ls2 := [(0, ov_r 90), (1, ov_i dep), (2, ov_i v180)]) (st2 := [ov_i 0, ov_i 4, ov_r 90]) (pc2 := 56) b_228_55_1 rfl rfl ?_
            refine ov_cV (as := [ov_i 4, ov_i 0]) (st := []) (d2 := d - 1) d_228_56 lk_Mo_246 rfl (Nat.le_of_ble_eq_true rfl) (c := 1) (zb_90 I202) (zs_90 I202) ⟨by decide, rfl⟩ (by omega) (c_Mo_emit_90 (d - 1) (by omega) U I202 4 0 (by omega) (by omega) (by omega) (by show (h201 90 13) ≤ 999; omega)) ?_
            rintro _ z268 h269 ⟨rfl, I270, f253, e254, e255, e256, e257, e258, e259, e260, e261, e262, e263, e264, e265, y266, y267⟩
            have E271 : h269 92 = h 92 := Eq.trans e254 E203
            have E272 : h269 93 = h 93 := Eq.trans e255 E204
            have E273 : h269 94 = h 94 := Eq.trans e256 E205
            have E274 : h269 95 = h 95 := Eq.trans e257 E206
            have E275 : h269 96 = h 96 := Eq.trans e258 E207
            have E276 : h269 99 = h 99 := Eq.trans e259 E208
            have E277 : h269 100 = h 100 := Eq.trans e260 E209
            have E278 : h269 103 = h 103 := Eq.trans e261 E210
            have E279 : h269 105 = h 105 := Eq.trans e262 E211
            have E280 : h269 106 = h 106 := Eq.trans e263 E212
            have E281 : h269 109 = h 109 := Eq.trans e264 E213
            have E282 : h269 114 = h 114 := Eq.trans e265 E214
            show ov_R u d ov_m228 59 [(0, ov_r 90), (1, ov_i dep), (2, ov_i v180)] [] z268 h269 (P_Mo_sums_90 F z h n dep)
            have f283 : (h269 90 2) = (h201 90 2) ∧ (h269 90 7) = (h201 90 7) ∧ (h269 90 8) = (h201 90 8) ∧ (h269 90 20) = (h201 90 20) ∧ (h269 90 22) = (h201 90 22) ∧ (h269 90 25) = (h201 90 25) ∧ (h269 90 26) = (h201 90 26) ∧ (h269 90 28) = (h201 90 28) ∧ (h269 90 29) = (h201 90 29) ∧ (h269 90 30) = (h201 90 30) ∧ (h269 90 34) = (h201 90 34) ∧ (h269 90 13) = (h201 90 13) + 1 := f253
            clear f253
            have y266_ : (h269 97) = ov_rs (h201 97) (1100 + (h201 90 13)) (4 : Int) := y266
            have y267_ : (h269 98) = ov_rs (h201 98) (1100 + (h201 90 13)) (0 : Int) := y267
            have K284 : ∀ j : Int, j < 1100 + (h 90 13) → h269 97 j = h 97 j ∧ h269 98 j = h 98 j := ov_kpe (ov_kp xa y198_ (by omega)) y266_ y267_ (by omega)
            have K285 : h269 90 8 = 0 → ov_sg (h269 97) (h269 98) (h 90 13) (h269 90 13) := fun e => by have q1 := xb (by omega); have q2 := y199_ (by omega); rw [show (h39 90 13) = (h39 90 13) by omega] at q2; have q3 := ov_sg_bin q1 (fun j hj => y198_ j (by omega)) q2 y266_ y267_ (by omega); rw [show h269 90 13 = (h201 90 13) + 1 by omega]; exact q3
            refine ov_goto (tgt := 5) d_228_59 (by decide) ?_
            refine ov_sub (ls2 := [(0, ov_r 90), (1, ov_i dep)]) (List.Sublist.subset (by repeat (first | exact List.Sublist.refl _ | apply List.Sublist.cons_cons | apply List.Sublist.cons))) ?_
            exact ih35  _ _ I270 E271 E272 E273 E274 E275 E276 E277 E278 E279 E280 E281 E282 K284 K285 (by show (h 90 7) ≤ (h269 90 7) ∧ (h269 90 7) ≤ n ∧ (h 90 8) ≤ (h269 90 8) ∧ (h 90 13) ≤ (h269 90 13) ∧ (h269 90 13) - (h 90 13) ≤ (h269 90 7) - (h 90 7) ∧ (h269 90 2) = (h17 90 2) ∧ (h269 90 20) = (h17 90 20) ∧ (h269 90 22) = (h17 90 22) ∧ (h269 90 25) = (h17 90 25) ∧ (h269 90 26) = (h17 90 26) ∧ (h269 90 28) = (h17 90 28) ∧ (h269 90 29) = (h17 90 29) ∧ (h269 90 30) = (h17 90 30) ∧ (h269 90 34) = (h17 90 34); omega) (by omega)
  exact L37 1001  _ _ I18 E19 E20 E21 E22 E23 E24 E25 E26 E27 E28 E29 E30 K32 K33 (by show (h 90 7) ≤ (h17 90 7) ∧ (h17 90 7) ≤ n ∧ (h 90 8) ≤ (h17 90 8) ∧ (h 90 13) ≤ (h17 90 13) ∧ (h17 90 13) - (h 90 13) ≤ (h17 90 7) - (h 90 7) ∧ (h17 90 2) = (h17 90 2) ∧ (h17 90 20) = (h17 90 20) ∧ (h17 90 22) = (h17 90 22) ∧ (h17 90 25) = (h17 90 25) ∧ (h17 90 26) = (h17 90 26) ∧ (h17 90 28) = (h17 90 28) ∧ (h17 90 29) = (h17 90 29) ∧ (h17 90 30) = (h17 90 30) ∧ (h17 90 34) = (h17 90 34); omega) (by omega)

abbrev P_Mo_mean_90 (F : ov_H × ov_Z) (z : ov_Z) (h : ov_H) (ge : Int) (x : Int) (y : Int) (s : Int) : Option ov_V → ov_Z → ov_H → Prop := fun r0 z' h' => ∃ r : Int, r0 = some (ov_i r) ∧ ov_N F z' h' ∧ ((h' 90 2) = (h 90 2) ∧ (h' 90 7) = (h 90 7) ∧ (h' 90 8) = (h 90 8) ∧ (h' 90 13) = (h 90 13) ∧ (h' 90 20) = (h 90 20) ∧ (h' 90 22) = (h 90 22) ∧ (h' 90 34) = (h 90 34) ∧ (h 90 25) ≤ (h' 90 25) ∧ (h' 90 25) ≤ (h 90 25) + 1 ∧ -1 ≤ r ∧ r ≤ 1200000) ∧ h' 92 = h 92 ∧ h' 93 = h 93 ∧ h' 94 = h 94 ∧ h' 95 = h 95 ∧ h' 96 = h 96 ∧ h' 97 = h 97 ∧ h' 98 = h 98 ∧ h' 99 = h 99 ∧ h' 100 = h 100 ∧ h' 103 = h 103 ∧ h' 109 = h 109 ∧ h' 114 = h 114 ∧ (ov_PM (h 96) (h 103) (h 97) (h 98) (h' 105) (h' 106) (h' 90 22) (h' 90 25) (h' 90 26) (h' 90 28) (h' 90 29) (h' 90 30))
set_option maxHeartbeats 4000000 in
theorem c_Mo_mean_90 {u : ov_U} {F : ov_H × ov_Z} {z : ov_Z} {h : ov_H} (d : Nat) (hd : 90 ≤ d) (U : ov_cap u) (I : ov_N F z h) (ge : Int) (x : Int) (y : Int) (s : Int) (g_ge : ov_g ge) (g_x : ov_g x) (g_y : ov_g y) (g_s : ov_g s) (p0 : 0 ≤ (h 90 25) ∧ (h 90 25) ≤ 1000000000) (W : ov_WT (h 96)) (CD : ov_CD (h 96) (h 97) (h 98)) (PM : ov_PM (h 96) (h 103) (h 97) (h 98) (h 105) (h 106) (h 90 22) (h 90 25) (h 90 26) (h 90 28) (h 90 29) (h 90 30)) : ov_T u d ov_m268 [ov_r 90, ov_i ge, ov_i x, ov_i y, ov_i s] z h (P_Mo_mean_90 F z h ge x y s) := by
  refine ov_en rfl (Nat.le_of_ble_eq_true rfl) ?_
  show ov_R u d ov_m268 0 [(0, ov_r 90), (1, ov_i ge), (2, ov_i x), (3, ov_i y), (4, ov_i s)] [] z h (P_Mo_mean_90 F z h ge x y s)
  have t0 := t96_0 I
  have t1 := t96_1 I
  have t8 := t96_8 I
  have t9 := t96_9 I
  refine ov_blk (ls2 := [(0, ov_r 90), (1, ov_i ge), (2, ov_i x), (3, ov_i y), (4, ov_i s)]) (st2 := [ov_i 0, ov_r 90]) (pc2 := 2) b_268_0_2 rfl rfl ?_
  refine ov_putf (x := 0) d_268_2 fl_Mo_1 (zb_90 I) (zs_90 I) rfl nk_0 rfl ?_
  have I1 := up_90_0 (x := 0) I (by omega)
  refine ov_blk (ls2 := [(0, ov_r 90), (1, ov_i ge), (2, ov_i x), (3, ov_i y), (4, ov_i s)]) (st2 := [ov_i ge, ov_r 90]) (pc2 := 7) b_268_5_2 rfl rfl ?_
  refine ov_cV (as := [ov_i ge]) (st := []) (d2 := d - 1) d_268_7 lk_Mo_383 rfl (Nat.le_of_ble_eq_true rfl) (c := 1) (zb_90 I1) (zs_90 I1) ⟨by decide, rfl⟩ (by omega) (c_Mo_isGoer_90 (d - 1) (by omega) U I1 ge (by omega)) ?_
  rintro _ _ _ ⟨v3, rfl, rfl, rfl, f2⟩
  show ov_R u d ov_m268 10 [(0, ov_r 90), (1, ov_i ge), (2, ov_i x), (3, ov_i y), (4, ov_i s)] [ov_i v3] z (ov_up h 90 0 0) (P_Mo_mean_90 F z h ge x y s)
  have f4 : (v3 = 0 ∨ v3 = 1) ∧ (v3 = 1 → 0 ≤ ge ∧ ge ≤ 3 + (h 96 8)) := f2
  clear f2
  refine ov_ifeq (tgt := 24) d_268_10 (by decide) (by omega) (fun c5 => ?_) (fun c5 => ?_)
  · skip
    have f4_ : v3 = 0 := by omega
    clear f4
    refine ov_blk (ls2 := [(0, ov_r 90), (1, ov_i ge), (2, ov_i x), (3, ov_i y), (4, ov_i s)]) (st2 := [ov_i (-1)]) (pc2 := 25) b_268_24_1 rfl rfl ?_
    exact ov_reti (st := []) d_268_25 rfl ⟨_, rfl, I1, ⟨rfl, rfl, rfl, rfl, rfl, rfl, rfl, (by show (h 90 25) ≤ (h 90 25) ∧ (h 90 25) ≤ (h 90 25) + 1 ∧ -1 ≤ (-1) ∧ (-1) ≤ 1200000; omega)⟩, rfl, rfl, rfl, rfl, rfl, rfl, rfl, rfl, rfl, rfl, rfl, rfl, PM⟩
  · skip
    have f4_ : v3 = 1 := by omega
    have f6 : 0 ≤ ge ∧ ge ≤ 3 + (h 96 8) := f4.2 (by omega)
    clear f4
    refine ov_blk (ls2 := [(0, ov_r 90), (1, ov_i ge), (2, ov_i x), (3, ov_i y), (4, ov_i s)]) (st2 := [ov_i s, ov_i y, ov_i x, ov_r 90]) (pc2 := 18) b_268_13_4 rfl rfl ?_
    refine ov_cV (as := [ov_i x, ov_i y, ov_i s]) (st := []) (d2 := d - 1) d_268_18 lk_Mo_386 rfl (Nat.le_of_ble_eq_true rfl) (c := 1) (zb_90 I1) (zs_90 I1) ⟨by decide, rfl⟩ (by omega) (c_Mo_isPlace_90 (d - 1) (by omega) U I1 x y s (by omega) (by omega) (by omega)) ?_
    rintro _ _ _ ⟨v8, rfl, rfl, rfl, f7⟩
    show ov_R u d ov_m268 21 [(0, ov_r 90), (1, ov_i ge), (2, ov_i x), (3, ov_i y), (4, ov_i s)] [ov_i v8] z (ov_up h 90 0 0) (P_Mo_mean_90 F z h ge x y s)
    have f9 : (v8 = 0 ∨ v8 = 1) ∧ (v8 = 1 → 0 ≤ x ∧ x ≤ 5 ∧ 0 ≤ y ∧ y ≤ 8 ∧ x < (h 96 0) ∧ y < (h 96 1) ∧ 0 ≤ s ∧ s ≤ 1000000) := f7
    clear f7
    refine ov_ifne (tgt := 26) d_268_21 (by decide) (by omega) (fun c10 => ?_) (fun c10 => ?_)
    · skip
      have f9_ : v8 = 1 := by omega
      have f11 : 0 ≤ x ∧ x ≤ 5 ∧ 0 ≤ y ∧ y ≤ 8 ∧ x < (h 96 0) ∧ y < (h 96 1) ∧ 0 ≤ s ∧ s ≤ 1000000 := f9.2 (by omega)
      clear f9
      refine ov_blk (ls2 := [(0, ov_r 90), (1, ov_i ge), (2, ov_i x), (3, ov_i y), (4, ov_i s)]) (st2 := [ov_i 0, ov_i (-1), ov_i 0, ov_i ge, ov_r 90]) (pc2 := 31) b_268_26_5 rfl rfl ?_
      refine ov_cV (as := [ov_i ge, ov_i 0, ov_i (-1), ov_i 0]) (st := []) (d2 := d - 1) d_268_31 lk_Mo_389 rfl (Nat.le_of_ble_eq_true rfl) (c := 1) (zb_90 I1) (zs_90 I1) ⟨by decide, rfl⟩ (by omega) (c_Mo_asks_90 (d - 1) (by omega) U I1 ge 0 (-1) 0 (by omega) (by omega) (by omega) (by omega) (by omega) (by omega) (by omega) (by show 0 ≤ (h 90 25) ∧ (h 90 25) ≤ 2000000000; omega)) ?_
      rintro _ z27 h28 ⟨rfl, I29, f12, e13, e14, e15, e16, e17, e18, e19, e20, e21, e22, e23, e24, e25, e26⟩
      have E30 : h28 92 = h 92 := e13
      have E31 : h28 93 = h 93 := e14
      have E32 : h28 94 = h 94 := e15
      have E33 : h28 95 = h 95 := e16
      have E34 : h28 96 = h 96 := e17
      have E35 : h28 97 = h 97 := e18
      have E36 : h28 98 = h 98 := e19
      have E37 : h28 99 = h 99 := e20
      have E38 : h28 100 = h 100 := e21
      have E39 : h28 103 = h 103 := e22
      have E40 : h28 105 = h 105 := e23
      have E41 : h28 106 = h 106 := e24
      have E42 : h28 109 = h 109 := e25
      have E43 : h28 114 = h 114 := e26
      show ov_R u d ov_m268 34 [(0, ov_r 90), (1, ov_i ge), (2, ov_i x), (3, ov_i y), (4, ov_i s)] [] z27 h28 (P_Mo_mean_90 F z h ge x y s)
      have f44 : (h28 90 2) = (h 90 2) ∧ (h28 90 7) = (h 90 7) ∧ (h28 90 8) = (h 90 8) ∧ (h28 90 13) = (h 90 13) ∧ (h28 90 20) = (h 90 20) ∧ (h28 90 22) = (h 90 22) ∧ (h28 90 34) = (h 90 34) ∧ (h28 90 26) = ge ∧ (h28 90 27) = (0 : Int) ∧ (h28 90 28) = (h 90 22) ∧ (h28 90 29) = ((-1) : Int) ∧ (h28 90 30) = (0 : Int) ∧ (((h28 90 25) = (h 90 25) + 1) ∨ ((h28 90 25) = (h 90 25) ∧ (h 90 26) = ge ∧ (h 90 27) = (0 : Int) ∧ (h 90 28) = (h 90 22) ∧ (h 90 29) = ((-1) : Int) ∧ (h 90 30) = (0 : Int))) := f12
      clear f12
      have mi45 : ov_MI (h 96) (h 103) (h 97) (h 98) ge (-1) 0 (h28 90 25) (h 105) (h 106) := ov_PM_ask PM (by omega)
      refine ov_blk (ls2 := [(0, ov_r 90), (1, ov_i ge), (2, ov_i x), (3, ov_i y), (4, ov_i s)]) (st2 := [ov_i s, ov_i y, ov_i x, ov_r 90]) (pc2 := 39) b_268_34_4 rfl rfl ?_
      have cf46 : h28 96 (0) = h 96 (0) := congrFun E34 (0)
      have cf47 : h28 96 (1) = h 96 (1) := congrFun E34 (1)
      have cf48 : h28 96 (8) = h 96 (8) := congrFun E34 (8)
      refine ov_cV (as := [ov_i x, ov_i y, ov_i s]) (st := []) (d2 := d - 1) d_268_39 lk_Mo_377 rfl (Nat.le_of_ble_eq_true rfl) (c := 1) (zb_90 I29) (zs_90 I29) ⟨by decide, rfl⟩ (by omega) (c_Mo_worthFrom_90_all ge ((-1)) 0 ((h28 90 25)) (Int.toNat (13 - (x) - (y))) (d - 1) (by omega) U I29 x y s (by omega) (by omega) (by omega) (by omega) (by show x < (h28 96 0) ∧ y < (h28 96 1); omega) (by omega) (by omega) (by show (h28 90 26) = ge; omega) (by show (h28 90 29) = ((-1) : Int); omega) (by show (h28 90 30) = (0 : Int); omega) (by show (h28 90 25) = (h28 90 25); omega) (by show 0 ≤ ge ∧ ge ≤ 3 + (h28 96 8); omega) (by rw [show h28 96 = h 96 from E34]; exact W) (by rw [show h28 96 = h 96 from E34, show h28 97 = h 97 from E35, show h28 98 = h 98 from E36]; exact CD) (by rw [show h28 96 = h 96 from E34, show h28 103 = h 103 from E39, show h28 97 = h 97 from E35, show h28 98 = h 98 from E36, show h28 105 = h 105 from E40, show h28 106 = h 106 from E41]; exact mi45)) ?_
      rintro _ z65 h66 ⟨v50, rfl, I67, f49, e51, e52, e53, e54, e55, e56, e57, e58, e59, e60, e61, e62, y63, y64⟩
      have E68 : h66 92 = h 92 := Eq.trans e51 E30
      have E69 : h66 93 = h 93 := Eq.trans e52 E31
      have E70 : h66 94 = h 94 := Eq.trans e53 E32
      have E71 : h66 95 = h 95 := Eq.trans e54 E33
      have E72 : h66 96 = h 96 := Eq.trans e55 E34
      have E73 : h66 97 = h 97 := Eq.trans e56 E35
      have E74 : h66 98 = h 98 := Eq.trans e57 E36
      have E75 : h66 99 = h 99 := Eq.trans e58 E37
      have E76 : h66 100 = h 100 := Eq.trans e59 E38
      have E77 : h66 103 = h 103 := Eq.trans e60 E39
      have E78 : h66 109 = h 109 := Eq.trans e61 E42
      have E79 : h66 114 = h 114 := Eq.trans e62 E43
      show ov_R u d ov_m268 42 [(0, ov_r 90), (1, ov_i ge), (2, ov_i x), (3, ov_i y), (4, ov_i s)] [ov_i v50] z65 h66 (P_Mo_mean_90 F z h ge x y s)
      have f80 : (h66 90 2) = (h28 90 2) ∧ (h66 90 7) = (h28 90 7) ∧ (h66 90 8) = (h28 90 8) ∧ (h66 90 13) = (h28 90 13) ∧ (h66 90 20) = (h28 90 20) ∧ (h66 90 22) = (h28 90 22) ∧ (h66 90 25) = (h28 90 25) ∧ (h66 90 26) = (h28 90 26) ∧ (h66 90 28) = (h28 90 28) ∧ (h66 90 29) = (h28 90 29) ∧ (h66 90 30) = (h28 90 30) ∧ (h66 90 34) = (h28 90 34) ∧ -1 ≤ v50 ∧ v50 ≤ 89000 * (13 - x - y) := f49
      clear f49
      rw [show h28 103 = h 103 from E39] at y63
      rw [show h28 96 = h 96 from E34] at y63
      rw [show h28 97 = h 97 from E35] at y63
      rw [show h28 98 = h 98 from E36] at y63
      have y63_ : ov_MI (h 96) (h 103) (h 97) (h 98) ge ((-1) : Int) (0 : Int) (h28 90 25) (h66 105) (h66 106) := y63
      rw [show h28 103 = h 103 from E39] at y64
      rw [show h28 96 = h 96 from E34] at y64
      rw [show h28 97 = h 97 from E35] at y64
      rw [show h28 98 = h 98 from E36] at y64
      have y64_ : (0 ≤ v50 ↔ ov_go (h 96) (h 103) (h 97) (h 98) ge ((-1) : Int) (0 : Int) x y (s % (h 96 9))) := y64
      have pm81 : ov_PM (h 96) (h 103) (h 97) (h 98) (h66 105) (h66 106) (h66 90 22) (h66 90 25) (h66 90 26) (h66 90 28) (h66 90 29) (h66 90 30) := ov_PM_mi y63_ (by omega) (by omega) (by omega) (by omega) (by omega) (by omega)
      exact ov_reti (st := []) d_268_42 rfl ⟨_, rfl, I67, (by show (h66 90 2) = (h 90 2) ∧ (h66 90 7) = (h 90 7) ∧ (h66 90 8) = (h 90 8) ∧ (h66 90 13) = (h 90 13) ∧ (h66 90 20) = (h 90 20) ∧ (h66 90 22) = (h 90 22) ∧ (h66 90 34) = (h 90 34) ∧ (h 90 25) ≤ (h66 90 25) ∧ (h66 90 25) ≤ (h 90 25) + 1 ∧ -1 ≤ v50 ∧ v50 ≤ 1200000; omega), E68, E69, E70, E71, E72, E73, E74, E75, E76, E77, E78, E79, pm81⟩
    · skip
      have f9_ : v8 = 0 := by omega
      clear f9
      refine ov_blk (ls2 := [(0, ov_r 90), (1, ov_i ge), (2, ov_i x), (3, ov_i y), (4, ov_i s)]) (st2 := [ov_i (-1)]) (pc2 := 25) b_268_24_1 rfl rfl ?_
      exact ov_reti (st := []) d_268_25 rfl ⟨_, rfl, I1, ⟨rfl, rfl, rfl, rfl, rfl, rfl, rfl, (by show (h 90 25) ≤ (h 90 25) ∧ (h 90 25) ≤ (h 90 25) + 1 ∧ -1 ≤ (-1) ∧ (-1) ≤ 1200000; omega)⟩, rfl, rfl, rfl, rfl, rfl, rfl, rfl, rfl, rfl, rfl, rfl, rfl, PM⟩
abbrev P_Mo_worst_90 (F : ov_H × ov_Z) (z : ov_Z) (h : ov_H) (ge : Int) (x : Int) (y : Int) (s : Int) : Option ov_V → ov_Z → ov_H → Prop := fun r0 z' h' => ∃ r : Int, r0 = some (ov_i r) ∧ ov_N F z' h' ∧ ((h' 90 2) = (h 90 2) ∧ (h' 90 7) = (h 90 7) ∧ (h' 90 8) = (h 90 8) ∧ (h' 90 13) = (h 90 13) ∧ (h' 90 20) = (h 90 20) ∧ (h' 90 22) = (h 90 22) ∧ (h' 90 34) = (h 90 34) ∧ (h 90 25) ≤ (h' 90 25) ∧ (h' 90 25) ≤ (h 90 25) + 1 ∧ -1 ≤ r ∧ r ≤ 1200000) ∧ h' 92 = h 92 ∧ h' 93 = h 93 ∧ h' 94 = h 94 ∧ h' 95 = h 95 ∧ h' 96 = h 96 ∧ h' 97 = h 97 ∧ h' 98 = h 98 ∧ h' 99 = h 99 ∧ h' 100 = h 100 ∧ h' 103 = h 103 ∧ h' 109 = h 109 ∧ h' 114 = h 114 ∧ (ov_PM (h 96) (h 103) (h 97) (h 98) (h' 105) (h' 106) (h' 90 22) (h' 90 25) (h' 90 26) (h' 90 28) (h' 90 29) (h' 90 30))
set_option maxHeartbeats 4000000 in
theorem c_Mo_worst_90 {u : ov_U} {F : ov_H × ov_Z} {z : ov_Z} {h : ov_H} (d : Nat) (hd : 90 ≤ d) (U : ov_cap u) (I : ov_N F z h) (ge : Int) (x : Int) (y : Int) (s : Int) (g_ge : ov_g ge) (g_x : ov_g x) (g_y : ov_g y) (g_s : ov_g s) (p0 : 0 ≤ (h 90 25) ∧ (h 90 25) ≤ 1000000000) (W : ov_WT (h 96)) (CD : ov_CD (h 96) (h 97) (h 98)) (PM : ov_PM (h 96) (h 103) (h 97) (h 98) (h 105) (h 106) (h 90 22) (h 90 25) (h 90 26) (h 90 28) (h 90 29) (h 90 30)) : ov_T u d ov_m280 [ov_r 90, ov_i ge, ov_i x, ov_i y, ov_i s] z h (P_Mo_worst_90 F z h ge x y s) := by
  refine ov_en rfl (Nat.le_of_ble_eq_true rfl) ?_
  show ov_R u d ov_m280 0 [(0, ov_r 90), (1, ov_i ge), (2, ov_i x), (3, ov_i y), (4, ov_i s)] [] z h (P_Mo_worst_90 F z h ge x y s)
  have t0 := t96_0 I
  have t1 := t96_1 I
  have t8 := t96_8 I
  have t9 := t96_9 I
  refine ov_blk (ls2 := [(0, ov_r 90), (1, ov_i ge), (2, ov_i x), (3, ov_i y), (4, ov_i s)]) (st2 := [ov_i 0, ov_r 90]) (pc2 := 2) b_280_0_2 rfl rfl ?_
  refine ov_putf (x := 0) d_280_2 fl_Mo_1 (zb_90 I) (zs_90 I) rfl nk_0 rfl ?_
  have I1 := up_90_0 (x := 0) I (by omega)
  refine ov_blk (ls2 := [(0, ov_r 90), (1, ov_i ge), (2, ov_i x), (3, ov_i y), (4, ov_i s)]) (st2 := [ov_i ge, ov_r 90]) (pc2 := 7) b_280_5_2 rfl rfl ?_
  refine ov_cV (as := [ov_i ge]) (st := []) (d2 := d - 1) d_280_7 lk_Mo_383 rfl (Nat.le_of_ble_eq_true rfl) (c := 1) (zb_90 I1) (zs_90 I1) ⟨by decide, rfl⟩ (by omega) (c_Mo_isGoer_90 (d - 1) (by omega) U I1 ge (by omega)) ?_
  rintro _ _ _ ⟨v3, rfl, rfl, rfl, f2⟩
  show ov_R u d ov_m280 10 [(0, ov_r 90), (1, ov_i ge), (2, ov_i x), (3, ov_i y), (4, ov_i s)] [ov_i v3] z (ov_up h 90 0 0) (P_Mo_worst_90 F z h ge x y s)
  have f4 : (v3 = 0 ∨ v3 = 1) ∧ (v3 = 1 → 0 ≤ ge ∧ ge ≤ 3 + (h 96 8)) := f2
  clear f2
  refine ov_ifeq (tgt := 24) d_280_10 (by decide) (by omega) (fun c5 => ?_) (fun c5 => ?_)
  · skip
    have f4_ : v3 = 0 := by omega
    clear f4
    refine ov_blk (ls2 := [(0, ov_r 90), (1, ov_i ge), (2, ov_i x), (3, ov_i y), (4, ov_i s)]) (st2 := [ov_i (-1)]) (pc2 := 25) b_280_24_1 rfl rfl ?_
    exact ov_reti (st := []) d_280_25 rfl ⟨_, rfl, I1, ⟨rfl, rfl, rfl, rfl, rfl, rfl, rfl, (by show (h 90 25) ≤ (h 90 25) ∧ (h 90 25) ≤ (h 90 25) + 1 ∧ -1 ≤ (-1) ∧ (-1) ≤ 1200000; omega)⟩, rfl, rfl, rfl, rfl, rfl, rfl, rfl, rfl, rfl, rfl, rfl, rfl, PM⟩
  · skip
    have f4_ : v3 = 1 := by omega
    have f6 : 0 ≤ ge ∧ ge ≤ 3 + (h 96 8) := f4.2 (by omega)
    clear f4
    refine ov_blk (ls2 := [(0, ov_r 90), (1, ov_i ge), (2, ov_i x), (3, ov_i y), (4, ov_i s)]) (st2 := [ov_i s, ov_i y, ov_i x, ov_r 90]) (pc2 := 18) b_280_13_4 rfl rfl ?_
    refine ov_cV (as := [ov_i x, ov_i y, ov_i s]) (st := []) (d2 := d - 1) d_280_18 lk_Mo_386 rfl (Nat.le_of_ble_eq_true rfl) (c := 1) (zb_90 I1) (zs_90 I1) ⟨by decide, rfl⟩ (by omega) (c_Mo_isPlace_90 (d - 1) (by omega) U I1 x y s (by omega) (by omega) (by omega)) ?_
    rintro _ _ _ ⟨v8, rfl, rfl, rfl, f7⟩
    show ov_R u d ov_m280 21 [(0, ov_r 90), (1, ov_i ge), (2, ov_i x), (3, ov_i y), (4, ov_i s)] [ov_i v8] z (ov_up h 90 0 0) (P_Mo_worst_90 F z h ge x y s)
    have f9 : (v8 = 0 ∨ v8 = 1) ∧ (v8 = 1 → 0 ≤ x ∧ x ≤ 5 ∧ 0 ≤ y ∧ y ≤ 8 ∧ x < (h 96 0) ∧ y < (h 96 1) ∧ 0 ≤ s ∧ s ≤ 1000000) := f7
    clear f7
    refine ov_ifne (tgt := 26) d_280_21 (by decide) (by omega) (fun c10 => ?_) (fun c10 => ?_)
    · skip
      have f9_ : v8 = 1 := by omega
      have f11 : 0 ≤ x ∧ x ≤ 5 ∧ 0 ≤ y ∧ y ≤ 8 ∧ x < (h 96 0) ∧ y < (h 96 1) ∧ 0 ≤ s ∧ s ≤ 1000000 := f9.2 (by omega)
      clear f9
      refine ov_blk (ls2 := [(0, ov_r 90), (1, ov_i ge), (2, ov_i x), (3, ov_i y), (4, ov_i s)]) (st2 := [ov_i 0, ov_i (-1), ov_i 1, ov_i ge, ov_r 90]) (pc2 := 31) b_280_26_5 rfl rfl ?_
      refine ov_cV (as := [ov_i ge, ov_i 1, ov_i (-1), ov_i 0]) (st := []) (d2 := d - 1) d_280_31 lk_Mo_389 rfl (Nat.le_of_ble_eq_true rfl) (c := 1) (zb_90 I1) (zs_90 I1) ⟨by decide, rfl⟩ (by omega) (c_Mo_asks_90 (d - 1) (by omega) U I1 ge 1 (-1) 0 (by omega) (by omega) (by omega) (by omega) (by omega) (by omega) (by omega) (by show 0 ≤ (h 90 25) ∧ (h 90 25) ≤ 2000000000; omega)) ?_
      rintro _ z27 h28 ⟨rfl, I29, f12, e13, e14, e15, e16, e17, e18, e19, e20, e21, e22, e23, e24, e25, e26⟩
      have E30 : h28 92 = h 92 := e13
      have E31 : h28 93 = h 93 := e14
      have E32 : h28 94 = h 94 := e15
      have E33 : h28 95 = h 95 := e16
      have E34 : h28 96 = h 96 := e17
      have E35 : h28 97 = h 97 := e18
      have E36 : h28 98 = h 98 := e19
      have E37 : h28 99 = h 99 := e20
      have E38 : h28 100 = h 100 := e21
      have E39 : h28 103 = h 103 := e22
      have E40 : h28 105 = h 105 := e23
      have E41 : h28 106 = h 106 := e24
      have E42 : h28 109 = h 109 := e25
      have E43 : h28 114 = h 114 := e26
      show ov_R u d ov_m280 34 [(0, ov_r 90), (1, ov_i ge), (2, ov_i x), (3, ov_i y), (4, ov_i s)] [] z27 h28 (P_Mo_worst_90 F z h ge x y s)
      have f44 : (h28 90 2) = (h 90 2) ∧ (h28 90 7) = (h 90 7) ∧ (h28 90 8) = (h 90 8) ∧ (h28 90 13) = (h 90 13) ∧ (h28 90 20) = (h 90 20) ∧ (h28 90 22) = (h 90 22) ∧ (h28 90 34) = (h 90 34) ∧ (h28 90 26) = ge ∧ (h28 90 27) = (1 : Int) ∧ (h28 90 28) = (h 90 22) ∧ (h28 90 29) = ((-1) : Int) ∧ (h28 90 30) = (0 : Int) ∧ (((h28 90 25) = (h 90 25) + 1) ∨ ((h28 90 25) = (h 90 25) ∧ (h 90 26) = ge ∧ (h 90 27) = (1 : Int) ∧ (h 90 28) = (h 90 22) ∧ (h 90 29) = ((-1) : Int) ∧ (h 90 30) = (0 : Int))) := f12
      clear f12
      have mi45 : ov_MI (h 96) (h 103) (h 97) (h 98) ge (-1) 0 (h28 90 25) (h 105) (h 106) := ov_PM_ask PM (by omega)
      refine ov_blk (ls2 := [(0, ov_r 90), (1, ov_i ge), (2, ov_i x), (3, ov_i y), (4, ov_i s)]) (st2 := [ov_i s, ov_i y, ov_i x, ov_r 90]) (pc2 := 39) b_280_34_4 rfl rfl ?_
      have cf46 : h28 96 (0) = h 96 (0) := congrFun E34 (0)
      have cf47 : h28 96 (1) = h 96 (1) := congrFun E34 (1)
      have cf48 : h28 96 (8) = h 96 (8) := congrFun E34 (8)
      refine ov_cV (as := [ov_i x, ov_i y, ov_i s]) (st := []) (d2 := d - 1) d_280_39 lk_Mo_377 rfl (Nat.le_of_ble_eq_true rfl) (c := 1) (zb_90 I29) (zs_90 I29) ⟨by decide, rfl⟩ (by omega) (c_Mo_worthFrom_90_all ge ((-1)) 0 ((h28 90 25)) (Int.toNat (13 - (x) - (y))) (d - 1) (by omega) U I29 x y s (by omega) (by omega) (by omega) (by omega) (by show x < (h28 96 0) ∧ y < (h28 96 1); omega) (by omega) (by omega) (by show (h28 90 26) = ge; omega) (by show (h28 90 29) = ((-1) : Int); omega) (by show (h28 90 30) = (0 : Int); omega) (by show (h28 90 25) = (h28 90 25); omega) (by show 0 ≤ ge ∧ ge ≤ 3 + (h28 96 8); omega) (by rw [show h28 96 = h 96 from E34]; exact W) (by rw [show h28 96 = h 96 from E34, show h28 97 = h 97 from E35, show h28 98 = h 98 from E36]; exact CD) (by rw [show h28 96 = h 96 from E34, show h28 103 = h 103 from E39, show h28 97 = h 97 from E35, show h28 98 = h 98 from E36, show h28 105 = h 105 from E40, show h28 106 = h 106 from E41]; exact mi45)) ?_
      rintro _ z65 h66 ⟨v50, rfl, I67, f49, e51, e52, e53, e54, e55, e56, e57, e58, e59, e60, e61, e62, y63, y64⟩
      have E68 : h66 92 = h 92 := Eq.trans e51 E30
      have E69 : h66 93 = h 93 := Eq.trans e52 E31
      have E70 : h66 94 = h 94 := Eq.trans e53 E32
      have E71 : h66 95 = h 95 := Eq.trans e54 E33
      have E72 : h66 96 = h 96 := Eq.trans e55 E34
      have E73 : h66 97 = h 97 := Eq.trans e56 E35
      have E74 : h66 98 = h 98 := Eq.trans e57 E36
      have E75 : h66 99 = h 99 := Eq.trans e58 E37
      have E76 : h66 100 = h 100 := Eq.trans e59 E38
      have E77 : h66 103 = h 103 := Eq.trans e60 E39
      have E78 : h66 109 = h 109 := Eq.trans e61 E42
      have E79 : h66 114 = h 114 := Eq.trans e62 E43
      show ov_R u d ov_m280 42 [(0, ov_r 90), (1, ov_i ge), (2, ov_i x), (3, ov_i y), (4, ov_i s)] [ov_i v50] z65 h66 (P_Mo_worst_90 F z h ge x y s)
      have f80 : (h66 90 2) = (h28 90 2) ∧ (h66 90 7) = (h28 90 7) ∧ (h66 90 8) = (h28 90 8) ∧ (h66 90 13) = (h28 90 13) ∧ (h66 90 20) = (h28 90 20) ∧ (h66 90 22) = (h28 90 22) ∧ (h66 90 25) = (h28 90 25) ∧ (h66 90 26) = (h28 90 26) ∧ (h66 90 28) = (h28 90 28) ∧ (h66 90 29) = (h28 90 29) ∧ (h66 90 30) = (h28 90 30) ∧ (h66 90 34) = (h28 90 34) ∧ -1 ≤ v50 ∧ v50 ≤ 89000 * (13 - x - y) := f49
      clear f49
      rw [show h28 103 = h 103 from E39] at y63
      rw [show h28 96 = h 96 from E34] at y63
      rw [show h28 97 = h 97 from E35] at y63
      rw [show h28 98 = h 98 from E36] at y63
      have y63_ : ov_MI (h 96) (h 103) (h 97) (h 98) ge ((-1) : Int) (0 : Int) (h28 90 25) (h66 105) (h66 106) := y63
      rw [show h28 103 = h 103 from E39] at y64
      rw [show h28 96 = h 96 from E34] at y64
      rw [show h28 97 = h 97 from E35] at y64
      rw [show h28 98 = h 98 from E36] at y64
      have y64_ : (0 ≤ v50 ↔ ov_go (h 96) (h 103) (h 97) (h 98) ge ((-1) : Int) (0 : Int) x y (s % (h 96 9))) := y64
      have pm81 : ov_PM (h 96) (h 103) (h 97) (h 98) (h66 105) (h66 106) (h66 90 22) (h66 90 25) (h66 90 26) (h66 90 28) (h66 90 29) (h66 90 30) := ov_PM_mi y63_ (by omega) (by omega) (by omega) (by omega) (by omega) (by omega)
      exact ov_reti (st := []) d_280_42 rfl ⟨_, rfl, I67, (by show (h66 90 2) = (h 90 2) ∧ (h66 90 7) = (h 90 7) ∧ (h66 90 8) = (h 90 8) ∧ (h66 90 13) = (h 90 13) ∧ (h66 90 20) = (h 90 20) ∧ (h66 90 22) = (h 90 22) ∧ (h66 90 34) = (h 90 34) ∧ (h 90 25) ≤ (h66 90 25) ∧ (h66 90 25) ≤ (h 90 25) + 1 ∧ -1 ≤ v50 ∧ v50 ≤ 1200000; omega), E68, E69, E70, E71, E72, E73, E74, E75, E76, E77, E78, E79, pm81⟩
    · skip
      have f9_ : v8 = 0 := by omega
      clear f9
      refine ov_blk (ls2 := [(0, ov_r 90), (1, ov_i ge), (2, ov_i x), (3, ov_i y), (4, ov_i s)]) (st2 := [ov_i (-1)]) (pc2 := 25) b_280_24_1 rfl rfl ?_
      exact ov_reti (st := []) d_280_25 rfl ⟨_, rfl, I1, ⟨rfl, rfl, rfl, rfl, rfl, rfl, rfl, (by show (h 90 25) ≤ (h 90 25) ∧ (h 90 25) ≤ (h 90 25) + 1 ∧ -1 ≤ (-1) ∧ (-1) ≤ 1200000; omega)⟩, rfl, rfl, rfl, rfl, rfl, rfl, rfl, rfl, rfl, rfl, rfl, rfl, PM⟩
abbrev P_Mo_choice_90 (F : ov_H × ov_Z) (z : ov_Z) (h : ov_H) (x : Int) (y : Int) (s : Int) (e : Int) : Option ov_V → ov_Z → ov_H → Prop := fun r0 z' h' => ∃ r : Int, r0 = some (ov_i r) ∧ ov_N F z' h' ∧ ((h' 90 2) = (h 90 2) ∧ (h' 90 7) = (h 90 7) ∧ (h' 90 8) = (h 90 8) ∧ (h' 90 13) = (h 90 13) ∧ (h' 90 20) = (h 90 20) ∧ (h' 90 22) = (h 90 22) ∧ (h' 90 34) = (h 90 34) ∧ (h 90 25) ≤ (h' 90 25) ∧ (h' 90 25) ≤ (h 90 25) + 1 ∧ -1 ≤ r ∧ r ≤ 1) ∧ h' 92 = h 92 ∧ h' 93 = h 93 ∧ h' 94 = h 94 ∧ h' 95 = h 95 ∧ h' 96 = h 96 ∧ h' 97 = h 97 ∧ h' 98 = h 98 ∧ h' 99 = h 99 ∧ h' 100 = h 100 ∧ h' 103 = h 103 ∧ h' 109 = h 109 ∧ h' 114 = h 114 ∧ (ov_PM (h 96) (h 103) (h 97) (h 98) (h' 105) (h' 106) (h' 90 22) (h' 90 25) (h' 90 26) (h' 90 28) (h' 90 29) (h' 90 30))
set_option maxHeartbeats 4000000 in
theorem c_Mo_choice_90 {u : ov_U} {F : ov_H × ov_Z} {z : ov_Z} {h : ov_H} (d : Nat) (hd : 90 ≤ d) (U : ov_cap u) (I : ov_N F z h) (x : Int) (y : Int) (s : Int) (e : Int) (g_x : ov_g x) (g_y : ov_g y) (g_s : ov_g s) (g_e : ov_g e) (p0 : 0 ≤ (h 90 25) ∧ (h 90 25) ≤ 1000000000) (W : ov_WT (h 96)) (CD : ov_CD (h 96) (h 97) (h 98)) (PM : ov_PM (h 96) (h 103) (h 97) (h 98) (h 105) (h 106) (h 90 22) (h 90 25) (h 90 26) (h 90 28) (h 90 29) (h 90 30)) : ov_T u d ov_m281 [ov_r 90, ov_i x, ov_i y, ov_i s, ov_i e] z h (P_Mo_choice_90 F z h x y s e) := by
  refine ov_en rfl (Nat.le_of_ble_eq_true rfl) ?_
  show ov_R u d ov_m281 0 [(0, ov_r 90), (1, ov_i x), (2, ov_i y), (3, ov_i s), (4, ov_i e)] [] z h (P_Mo_choice_90 F z h x y s e)
  have t0 := t96_0 I
  have t1 := t96_1 I
  have t8 := t96_8 I
  have t9 := t96_9 I
  refine ov_blk (ls2 := [(0, ov_r 90), (1, ov_i x), (2, ov_i y), (3, ov_i s), (4, ov_i e)]) (st2 := [ov_i 0, ov_r 90]) (pc2 := 2) b_281_0_2 rfl rfl ?_
  refine ov_putf (x := 0) d_281_2 fl_Mo_1 (zb_90 I) (zs_90 I) rfl nk_0 rfl ?_
  have I1 := up_90_0 (x := 0) I (by omega)
  refine ov_blk (ls2 := [(0, ov_r 90), (1, ov_i x), (2, ov_i y), (3, ov_i s), (4, ov_i e)]) (st2 := [ov_i 0, ov_i (-1), ov_i 0, ov_i 3, ov_r 90]) (pc2 := 10) b_281_5_5 rfl rfl ?_
  refine ov_cV (as := [ov_i 3, ov_i 0, ov_i (-1), ov_i 0]) (st := []) (d2 := d - 1) d_281_10 lk_Mo_389 rfl (Nat.le_of_ble_eq_true rfl) (c := 1) (zb_90 I1) (zs_90 I1) ⟨by decide, rfl⟩ (by omega) (c_Mo_asks_90 (d - 1) (by omega) U I1 3 0 (-1) 0 (by omega) (by omega) (by omega) (by omega) (by omega) (by omega) (by omega) (by show 0 ≤ (h 90 25) ∧ (h 90 25) ≤ 2000000000; omega)) ?_
  rintro _ z17 h18 ⟨rfl, I19, f2, e3, e4, e5, e6, e7, e8, e9, e10, e11, e12, e13, e14, e15, e16⟩
  have E20 : h18 92 = h 92 := e3
  have E21 : h18 93 = h 93 := e4
  have E22 : h18 94 = h 94 := e5
  have E23 : h18 95 = h 95 := e6
  have E24 : h18 96 = h 96 := e7
  have E25 : h18 97 = h 97 := e8
  have E26 : h18 98 = h 98 := e9
  have E27 : h18 99 = h 99 := e10
  have E28 : h18 100 = h 100 := e11
  have E29 : h18 103 = h 103 := e12
  have E30 : h18 105 = h 105 := e13
  have E31 : h18 106 = h 106 := e14
  have E32 : h18 109 = h 109 := e15
  have E33 : h18 114 = h 114 := e16
  show ov_R u d ov_m281 13 [(0, ov_r 90), (1, ov_i x), (2, ov_i y), (3, ov_i s), (4, ov_i e)] [] z17 h18 (P_Mo_choice_90 F z h x y s e)
  have f34 : (h18 90 2) = (h 90 2) ∧ (h18 90 7) = (h 90 7) ∧ (h18 90 8) = (h 90 8) ∧ (h18 90 13) = (h 90 13) ∧ (h18 90 20) = (h 90 20) ∧ (h18 90 22) = (h 90 22) ∧ (h18 90 34) = (h 90 34) ∧ (h18 90 26) = (3 : Int) ∧ (h18 90 27) = (0 : Int) ∧ (h18 90 28) = (h 90 22) ∧ (h18 90 29) = ((-1) : Int) ∧ (h18 90 30) = (0 : Int) ∧ (((h18 90 25) = (h 90 25) + 1) ∨ ((h18 90 25) = (h 90 25) ∧ (h 90 26) = (3 : Int) ∧ (h 90 27) = (0 : Int) ∧ (h 90 28) = (h 90 22) ∧ (h 90 29) = ((-1) : Int) ∧ (h 90 30) = (0 : Int))) := f2
  clear f2
  have mi35 : ov_MI (h 96) (h 103) (h 97) (h 98) 3 (-1) 0 (h18 90 25) (h 105) (h 106) := ov_PM_ask PM (by omega)
  refine ov_blk (ls2 := [(0, ov_r 90), (1, ov_i x), (2, ov_i y), (3, ov_i s), (4, ov_i e)]) (st2 := [ov_i s, ov_i y, ov_i x, ov_r 90]) (pc2 := 17) b_281_13_4 rfl rfl ?_
  refine ov_cV (as := [ov_i x, ov_i y, ov_i s]) (st := []) (d2 := d - 1) d_281_17 lk_Mo_386 rfl (Nat.le_of_ble_eq_true rfl) (c := 1) (zb_90 I19) (zs_90 I19) ⟨by decide, rfl⟩ (by omega) (c_Mo_isPlace_90 (d - 1) (by omega) U I19 x y s (by omega) (by omega) (by omega)) ?_
  rintro _ _ _ ⟨v37, rfl, rfl, rfl, f36⟩
  show ov_R u d ov_m281 20 [(0, ov_r 90), (1, ov_i x), (2, ov_i y), (3, ov_i s), (4, ov_i e)] [ov_i v37] z17 h18 (P_Mo_choice_90 F z h x y s e)
  rw [show h18 96 = h 96 from E24] at f36
  have f38 : (v37 = 0 ∨ v37 = 1) ∧ (v37 = 1 → 0 ≤ x ∧ x ≤ 5 ∧ 0 ≤ y ∧ y ≤ 8 ∧ x < (h 96 0) ∧ y < (h 96 1) ∧ 0 ≤ s ∧ s ≤ 1000000) := f36
  clear f36
  refine ov_ifeq (tgt := 59) d_281_20 (by decide) (by omega) (fun c39 => ?_) (fun c39 => ?_)
  · skip
    have f38_ : v37 = 0 := by omega
    clear f38
    refine ov_blk (ls2 := [(0, ov_r 90), (1, ov_i x), (2, ov_i y), (3, ov_i s), (4, ov_i e)]) (st2 := [ov_i (-1)]) (pc2 := 60) b_281_59_1 rfl rfl ?_
    have pm40 : ov_PM (h 96) (h 103) (h 97) (h 98) (h 105) (h 106) (h18 90 22) (h18 90 25) (h18 90 26) (h18 90 28) (h18 90 29) (h18 90 30) := ov_PM_mi mi35 (by omega) (by omega) (by omega) (by omega) (by omega) (by omega)
    exact ov_reti (st := []) d_281_60 rfl ⟨_, rfl, I19, (by show (h18 90 2) = (h 90 2) ∧ (h18 90 7) = (h 90 7) ∧ (h18 90 8) = (h 90 8) ∧ (h18 90 13) = (h 90 13) ∧ (h18 90 20) = (h 90 20) ∧ (h18 90 22) = (h 90 22) ∧ (h18 90 34) = (h 90 34) ∧ (h 90 25) ≤ (h18 90 25) ∧ (h18 90 25) ≤ (h 90 25) + 1 ∧ -1 ≤ (-1) ∧ (-1) ≤ 1; omega), E20, E21, E22, E23, E24, E25, E26, E27, E28, E29, E32, E33, (by show ov_PM (h 96) (h 103) (h 97) (h 98) (h18 105) (h18 106) (h18 90 22) (h18 90 25) (h18 90 26) (h18 90 28) (h18 90 29) (h18 90 30); rw [show h18 105 = h 105 from E30, show h18 106 = h 106 from E31]; exact pm40)⟩
  · skip
    have f38_ : v37 = 1 := by omega
    have f41 : 0 ≤ x ∧ x ≤ 5 ∧ 0 ≤ y ∧ y ≤ 8 ∧ x < (h 96 0) ∧ y < (h 96 1) ∧ 0 ≤ s ∧ s ≤ 1000000 := f38.2 (by omega)
    clear f38
    refine ov_blk (ls2 := [(0, ov_r 90), (1, ov_i x), (2, ov_i y), (3, ov_i s), (4, ov_i e)]) (st2 := [ov_i y, ov_i x, ov_r 90]) (pc2 := 26) b_281_23_3 rfl rfl ?_
    refine ov_cV (as := [ov_i x, ov_i y]) (st := []) (d2 := d - 1) d_281_26 lk_Mo_335 rfl (Nat.le_of_ble_eq_true rfl) (c := 1) (zb_90 I19) (zs_90 I19) ⟨by decide, rfl⟩ (by omega) (c_Mo_isHome_90 (d - 1) (by omega) U I19 x y (by omega) (by omega) (by omega)) ?_
    rintro _ _ _ ⟨v43, rfl, rfl, rfl, f42⟩
    show ov_R u d ov_m281 29 [(0, ov_r 90), (1, ov_i x), (2, ov_i y), (3, ov_i s), (4, ov_i e)] [ov_i v43] z17 h18 (P_Mo_choice_90 F z h x y s e)
    rw [show h18 96 = h 96 from E24] at f42
    have f44 : (v43 = 0 ∨ v43 = 1) ∧ (v43 = 1 → x = (h 96 0) - 1 ∧ y = (h 96 1) - 1) ∧ (v43 = 0 → ¬ (x = (h 96 0) - 1 ∧ y = (h 96 1) - 1)) := f42
    clear f42
    refine ov_ifne (tgt := 59) d_281_29 (by decide) (by omega) (fun c45 => ?_) (fun c45 => ?_)
    · skip
      have f44_ : v43 = 1 := by omega
      have f46 : x = (h 96 0) - 1 ∧ y = (h 96 1) - 1 := f44.2.1 (by omega)
      clear f44
      refine ov_blk (ls2 := [(0, ov_r 90), (1, ov_i x), (2, ov_i y), (3, ov_i s), (4, ov_i e)]) (st2 := [ov_i (-1)]) (pc2 := 60) b_281_59_1 rfl rfl ?_
      have pm47 : ov_PM (h 96) (h 103) (h 97) (h 98) (h 105) (h 106) (h18 90 22) (h18 90 25) (h18 90 26) (h18 90 28) (h18 90 29) (h18 90 30) := ov_PM_mi mi35 (by omega) (by omega) (by omega) (by omega) (by omega) (by omega)
      exact ov_reti (st := []) d_281_60 rfl ⟨_, rfl, I19, (by show (h18 90 2) = (h 90 2) ∧ (h18 90 7) = (h 90 7) ∧ (h18 90 8) = (h 90 8) ∧ (h18 90 13) = (h 90 13) ∧ (h18 90 20) = (h 90 20) ∧ (h18 90 22) = (h 90 22) ∧ (h18 90 34) = (h 90 34) ∧ (h 90 25) ≤ (h18 90 25) ∧ (h18 90 25) ≤ (h 90 25) + 1 ∧ -1 ≤ (-1) ∧ (-1) ≤ 1; omega), E20, E21, E22, E23, E24, E25, E26, E27, E28, E29, E32, E33, (by show ov_PM (h 96) (h 103) (h 97) (h 98) (h18 105) (h18 106) (h18 90 22) (h18 90 25) (h18 90 26) (h18 90 28) (h18 90 29) (h18 90 30); rw [show h18 105 = h 105 from E30, show h18 106 = h 106 from E31]; exact pm47)⟩
    · skip
      have f44_ : v43 = 0 := by omega
      have f48 : ¬ (x = (h 96 0) - 1 ∧ y = (h 96 1) - 1) := f44.2.2 (by omega)
      clear f44
      refine ov_blk (ls2 := [(0, ov_r 90), (1, ov_i x), (2, ov_i y), (3, ov_i s), (4, ov_i e)]) (st2 := [ov_i y, ov_i x, ov_r 90]) (pc2 := 35) b_281_32_3 rfl rfl ?_
      refine ov_cV (as := [ov_i x, ov_i y]) (st := []) (d2 := d - 1) d_281_35 lk_Mo_362 rfl (Nat.le_of_ble_eq_true rfl) (c := 1) (zb_90 I19) (zs_90 I19) ⟨by decide, rfl⟩ (by omega) (c_Mo_isUnknown_90 (d - 1) (by omega) U I19 x y (by omega) (by omega) (by omega)) ?_
      rintro _ _ _ ⟨v50, rfl, rfl, rfl, f49⟩
      show ov_R u d ov_m281 38 [(0, ov_r 90), (1, ov_i x), (2, ov_i y), (3, ov_i s), (4, ov_i e)] [ov_i v50] z17 h18 (P_Mo_choice_90 F z h x y s e)
      rw [show h18 103 = h 103 from E29] at f49
      rw [show h18 96 = h 96 from E24] at f49
      have f51 : (v50 = 0 ∨ v50 = 1) ∧ (v50 = 1 → ((h 96 (10 + 4 * (6 * y + x))) = 2 ∧ ¬ (h 103 (4 + 6 * y + x)) = 1 ∧ ¬ 6 * y + x = (h18 90 29))) ∧ (v50 = 0 → ¬ ((h 96 (10 + 4 * (6 * y + x))) = 2 ∧ ¬ (h 103 (4 + 6 * y + x)) = 1 ∧ ¬ 6 * y + x = (h18 90 29))) := f49
      clear f49
      refine ov_ifeq (tgt := 61) d_281_38 (by decide) (by omega) (fun c52 => ?_) (fun c52 => ?_)
      · skip
        have f51_ : v50 = 0 := by omega
        have f53 : ¬ ((h 96 (10 + 4 * (6 * y + x))) = 2 ∧ ¬ (h 103 (4 + 6 * y + x)) = 1 ∧ ¬ 6 * y + x = (h18 90 29)) := f51.2.2 (by omega)
        clear f51
        refine ov_blk (ls2 := [(0, ov_r 90), (1, ov_i x), (2, ov_i y), (3, ov_i s), (4, ov_i e)]) (st2 := [ov_r 90, ov_i s]) (pc2 := 63) b_281_61_2 rfl rfl ?_
        refine ov_getf (v := ov_r 96) d_281_63 fl_Mo_81 (zb_90 I19) (zs_90 I19) (congrArg ov_r (rg_90_10 I19)) ?_
        refine ov_blk (ls2 := [(0, ov_r 90), (1, ov_i x), (2, ov_i y), (3, ov_i s), (4, ov_i e)]) (st2 := [ov_i 9, ov_r 96, ov_i s]) (pc2 := 68) b_281_66_1 rfl rfl ?_
        refine ov_iald d_281_68 (zb_96 I19) (zs_96 I19) (by omega) ?_
        rw [show h18 96 = h 96 from E24]
        have g54 := t96_9 I
        have gt1 := ov_tmv (x := s) (y := (h 96 9)) (by omega) (by omega)
        refine ov_irem d_281_69 (by omega) (by omega) (by omega) ?_
        have g55 := ov_tmg (a := s) (b := (h 96 9)) (by omega) (by omega)
        refine ov_blk (ls2 := [(0, ov_r 90), (1, ov_i x), (2, ov_i y), (3, ov_i s), (4, ov_i e), (5, ov_i (Int.tmod s (h 96 9)))]) (st2 := [ov_i s, ov_i y, ov_i x, ov_r 90]) (pc2 := 76) b_281_70_5 rfl rfl ?_
        have cf56 : h18 96 (0) = h 96 (0) := congrFun E24 (0)
        have cf57 : h18 96 (1) = h 96 (1) := congrFun E24 (1)
        have cf58 : h18 96 (8) = h 96 (8) := congrFun E24 (8)
        refine ov_cV (as := [ov_i x, ov_i y, ov_i s]) (st := []) (d2 := d - 1) d_281_76 lk_Mo_377 rfl (Nat.le_of_ble_eq_true rfl) (c := 1) (zb_90 I19) (zs_90 I19) ⟨by decide, rfl⟩ (by omega) (c_Mo_worthFrom_90_all 3 ((-1)) 0 ((h18 90 25)) (Int.toNat (13 - (x) - (y))) (d - 1) (by omega) U I19 x y s (by omega) (by omega) (by omega) (by omega) (by show x < (h18 96 0) ∧ y < (h18 96 1); omega) (by omega) (by omega) (by show (h18 90 26) = (3 : Int); omega) (by show (h18 90 29) = ((-1) : Int); omega) (by show (h18 90 30) = (0 : Int); omega) (by show (h18 90 25) = (h18 90 25); omega) (by show 0 ≤ (3 : Int) ∧ (3 : Int) ≤ 3 + (h18 96 8); omega) (by rw [show h18 96 = h 96 from E24]; exact W) (by rw [show h18 96 = h 96 from E24, show h18 97 = h 97 from E25, show h18 98 = h 98 from E26]; exact CD) (by rw [show h18 96 = h 96 from E24, show h18 103 = h 103 from E29, show h18 97 = h 97 from E25, show h18 98 = h 98 from E26, show h18 105 = h 105 from E30, show h18 106 = h 106 from E31]; exact mi35)) ?_
        rintro _ z75 h76 ⟨v60, rfl, I77, f59, e61, e62, e63, e64, e65, e66, e67, e68, e69, e70, e71, e72, y73, y74⟩
        have E78 : h76 92 = h 92 := Eq.trans e61 E20
        have E79 : h76 93 = h 93 := Eq.trans e62 E21
        have E80 : h76 94 = h 94 := Eq.trans e63 E22
        have E81 : h76 95 = h 95 := Eq.trans e64 E23
        have E82 : h76 96 = h 96 := Eq.trans e65 E24
        have E83 : h76 97 = h 97 := Eq.trans e66 E25
        have E84 : h76 98 = h 98 := Eq.trans e67 E26
        have E85 : h76 99 = h 99 := Eq.trans e68 E27
        have E86 : h76 100 = h 100 := Eq.trans e69 E28
        have E87 : h76 103 = h 103 := Eq.trans e70 E29
        have E88 : h76 109 = h 109 := Eq.trans e71 E32
        have E89 : h76 114 = h 114 := Eq.trans e72 E33
        show ov_R u d ov_m281 79 [(0, ov_r 90), (1, ov_i x), (2, ov_i y), (3, ov_i s), (4, ov_i e), (5, ov_i (Int.tmod s (h 96 9)))] [ov_i v60] z75 h76 (P_Mo_choice_90 F z h x y s e)
        have f90 : (h76 90 2) = (h18 90 2) ∧ (h76 90 7) = (h18 90 7) ∧ (h76 90 8) = (h18 90 8) ∧ (h76 90 13) = (h18 90 13) ∧ (h76 90 20) = (h18 90 20) ∧ (h76 90 22) = (h18 90 22) ∧ (h76 90 25) = (h18 90 25) ∧ (h76 90 26) = (h18 90 26) ∧ (h76 90 28) = (h18 90 28) ∧ (h76 90 29) = (h18 90 29) ∧ (h76 90 30) = (h18 90 30) ∧ (h76 90 34) = (h18 90 34) ∧ -1 ≤ v60 ∧ v60 ≤ 89000 * (13 - x - y) := f59
        clear f59
        rw [show h18 103 = h 103 from E29] at y73
        rw [show h18 96 = h 96 from E24] at y73
        rw [show h18 97 = h 97 from E25] at y73
        rw [show h18 98 = h 98 from E26] at y73
        have y73_ : ov_MI (h 96) (h 103) (h 97) (h 98) (3 : Int) ((-1) : Int) (0 : Int) (h18 90 25) (h76 105) (h76 106) := y73
        rw [show h18 103 = h 103 from E29] at y74
        rw [show h18 96 = h 96 from E24] at y74
        rw [show h18 97 = h 97 from E25] at y74
        rw [show h18 98 = h 98 from E26] at y74
        have y74_ : (0 ≤ v60 ↔ ov_go (h 96) (h 103) (h 97) (h 98) (3 : Int) ((-1) : Int) (0 : Int) x y (s % (h 96 9))) := y74
        refine ov_ifge (tgt := 86) d_281_79 (by decide) (by omega) (fun c91 => ?_) (fun c91 => ?_)
        · skip
          refine ov_blk (ls2 := [(0, ov_r 90), (1, ov_i x), (2, ov_i y), (3, ov_i s), (4, ov_i e), (5, ov_i (Int.tmod s (h 96 9)))]) (st2 := [ov_i y, ov_i x, ov_r 90, ov_i (Int.tmod s (h 96 9)), ov_i y, ov_i x, ov_r 90]) (pc2 := 94) b_281_86_7 rfl rfl ?_
          refine ov_cV (as := [ov_i x, ov_i y]) (st := [ov_i (Int.tmod s (h 96 9)), ov_i y, ov_i x, ov_r 90]) (d2 := d - 1) d_281_94 lk_Mo_362 rfl (Nat.le_of_ble_eq_true rfl) (c := 1) (zb_90 I77) (zs_90 I77) ⟨by decide, rfl⟩ (by omega) (c_Mo_isUnknown_90 (d - 1) (by omega) U I77 x y (by omega) (by omega) (by omega)) ?_
          rintro _ _ _ ⟨v93, rfl, rfl, rfl, f92⟩
          show ov_R u d ov_m281 97 [(0, ov_r 90), (1, ov_i x), (2, ov_i y), (3, ov_i s), (4, ov_i e), (5, ov_i (Int.tmod s (h 96 9)))] [ov_i v93, ov_i (Int.tmod s (h 96 9)), ov_i y, ov_i x, ov_r 90] z75 h76 (P_Mo_choice_90 F z h x y s e)
          rw [show h76 103 = h 103 from E87] at f92
          rw [show h76 96 = h 96 from E82] at f92
          have f94 : (v93 = 0 ∨ v93 = 1) ∧ (v93 = 1 → ((h 96 (10 + 4 * (6 * y + x))) = 2 ∧ ¬ (h 103 (4 + 6 * y + x)) = 1 ∧ ¬ 6 * y + x = (h76 90 29))) ∧ (v93 = 0 → ¬ ((h 96 (10 + 4 * (6 * y + x))) = 2 ∧ ¬ (h 103 (4 + 6 * y + x)) = 1 ∧ ¬ 6 * y + x = (h76 90 29))) := f92
          clear f92
          refine ov_ifeq (tgt := 105) d_281_97 (by decide) (by omega) (fun c95 => ?_) (fun c95 => ?_)
          · skip
            have f94_ : v93 = 0 := by omega
            have f96 : ¬ ((h 96 (10 + 4 * (6 * y + x))) = 2 ∧ ¬ (h 103 (4 + 6 * y + x)) = 1 ∧ ¬ 6 * y + x = (h76 90 29)) := f94.2.2 (by omega)
            clear f94
            refine ov_blk (ls2 := [(0, ov_r 90), (1, ov_i x), (2, ov_i y), (3, ov_i s), (4, ov_i e), (5, ov_i (Int.tmod s (h 96 9)))]) (st2 := [ov_i (Int.tmod s (h 96 9)), ov_i (Int.tmod s (h 96 9)), ov_i y, ov_i x, ov_r 90]) (pc2 := 107) b_281_105_1 rfl rfl ?_
            have cf97 : h76 96 (0) = h 96 (0) := congrFun E82 (0)
            have cf98 : h76 96 (1) = h 96 (1) := congrFun E82 (1)
            have cf99 : h76 96 (9) = h 96 (9) := congrFun E82 (9)
            have cf100 : h76 96 (8) = h 96 (8) := congrFun E82 (8)
            refine ov_cV (as := [ov_i x, ov_i y, ov_i (Int.tmod s (h 96 9)), ov_i (Int.tmod s (h 96 9))]) (st := []) (d2 := d - 1) d_281_107 lk_Mo_371 rfl (Nat.le_of_ble_eq_true rfl) (c := 1) (zb_90 I77) (zs_90 I77) ⟨by decide, rfl⟩ (by omega) (c_Mo_wayOf_90_all 3 ((-1)) 0 ((h18 90 25)) (Int.toNat (13 - (x) - (y))) (d - 1) (by omega) U I77 x y (Int.tmod s (h 96 9)) (Int.tmod s (h 96 9)) (by omega) (by omega) (by omega) (by omega) (by omega) (by show x < (h76 96 0) ∧ y < (h76 96 1); omega) (by omega) (by show 0 ≤ (Int.tmod s (h 96 9)) ∧ (Int.tmod s (h 96 9)) < (h76 96 9); omega) (by omega) (by show (h76 90 26) = (3 : Int); omega) (by show (h76 90 29) = ((-1) : Int); omega) (by show (h76 90 30) = (0 : Int); omega) (by show (h76 90 25) = (h18 90 25); omega) (by show 0 ≤ (3 : Int) ∧ (3 : Int) ≤ 3 + (h76 96 8); omega) (by rw [show h76 96 = h 96 from E82]; exact W) (by rw [show h76 96 = h 96 from E82, show h76 97 = h 97 from E83, show h76 98 = h 98 from E84]; exact CD) (by rw [show h76 96 = h 96 from E82, show h76 103 = h 103 from E87, show h76 97 = h 97 from E83, show h76 98 = h 98 from E84]; exact y73_)) ?_
            rintro _ z117 h118 ⟨v102, rfl, I119, f101, e103, e104, e105, e106, e107, e108, e109, e110, e111, e112, e113, e114, y115, y116⟩
            have E120 : h118 92 = h 92 := Eq.trans e103 E78
            have E121 : h118 93 = h 93 := Eq.trans e104 E79
            have E122 : h118 94 = h 94 := Eq.trans e105 E80
            have E123 : h118 95 = h 95 := Eq.trans e106 E81
            have E124 : h118 96 = h 96 := Eq.trans e107 E82
            have E125 : h118 97 = h 97 := Eq.trans e108 E83
            have E126 : h118 98 = h 98 := Eq.trans e109 E84
            have E127 : h118 99 = h 99 := Eq.trans e110 E85
            have E128 : h118 100 = h 100 := Eq.trans e111 E86
            have E129 : h118 103 = h 103 := Eq.trans e112 E87
            have E130 : h118 109 = h 109 := Eq.trans e113 E88
            have E131 : h118 114 = h 114 := Eq.trans e114 E89
            show ov_R u d ov_m281 110 [(0, ov_r 90), (1, ov_i x), (2, ov_i y), (3, ov_i s), (4, ov_i e), (5, ov_i (Int.tmod s (h 96 9)))] [ov_i v102] z117 h118 (P_Mo_choice_90 F z h x y s e)
            have f132 : (h118 90 2) = (h76 90 2) ∧ (h118 90 7) = (h76 90 7) ∧ (h118 90 8) = (h76 90 8) ∧ (h118 90 13) = (h76 90 13) ∧ (h118 90 20) = (h76 90 20) ∧ (h118 90 22) = (h76 90 22) ∧ (h118 90 25) = (h76 90 25) ∧ (h118 90 26) = (h76 90 26) ∧ (h118 90 28) = (h76 90 28) ∧ (h118 90 29) = (h76 90 29) ∧ (h118 90 30) = (h76 90 30) ∧ (h118 90 34) = (h76 90 34) ∧ -1 ≤ v102 ∧ v102 ≤ 1 := f101
            clear f101
            rw [show h76 103 = h 103 from E87] at y115
            rw [show h76 96 = h 96 from E82] at y115
            rw [show h76 97 = h 97 from E83] at y115
            rw [show h76 98 = h 98 from E84] at y115
            have y115_ : ov_MI (h 96) (h 103) (h 97) (h 98) (3 : Int) ((-1) : Int) (0 : Int) (h18 90 25) (h118 105) (h118 106) := y115
            rw [show h76 103 = h 103 from E87] at y116
            rw [show h76 96 = h 96 from E82] at y116
            rw [show h76 97 = h 97 from E83] at y116
            rw [show h76 98 = h 98 from E84] at y116
            have y116_ : ov_wf (h 96) (h 97) (h 98) (ov_go (h 96) (h 103) (h 97) (h 98) (3 : Int) ((-1) : Int) (0 : Int)) (3 : Int) x y (Int.tmod s (h 96 9)) (Int.tmod s (h 96 9)) v102 := y116
            have pm133 : ov_PM (h 96) (h 103) (h 97) (h 98) (h118 105) (h118 106) (h118 90 22) (h118 90 25) (h118 90 26) (h118 90 28) (h118 90 29) (h118 90 30) := ov_PM_mi y115_ (by omega) (by omega) (by omega) (by omega) (by omega) (by omega)
            exact ov_reti (st := []) d_281_110 rfl ⟨_, rfl, I119, (by show (h118 90 2) = (h 90 2) ∧ (h118 90 7) = (h 90 7) ∧ (h118 90 8) = (h 90 8) ∧ (h118 90 13) = (h 90 13) ∧ (h118 90 20) = (h 90 20) ∧ (h118 90 22) = (h 90 22) ∧ (h118 90 34) = (h 90 34) ∧ (h 90 25) ≤ (h118 90 25) ∧ (h118 90 25) ≤ (h 90 25) + 1 ∧ -1 ≤ v102 ∧ v102 ≤ 1; omega), E120, E121, E122, E123, E124, E125, E126, E127, E128, E129, E130, E131, pm133⟩
          · skip
            have f94_ : v93 = 1 := by omega
            have f134 : ((h 96 (10 + 4 * (6 * y + x))) = 2 ∧ ¬ (h 103 (4 + 6 * y + x)) = 1 ∧ ¬ 6 * y + x = (h76 90 29)) := f94.2.1 (by omega)
            clear f94
            refine ov_blk (ls2 := [(0, ov_r 90), (1, ov_i x), (2, ov_i y), (3, ov_i s), (4, ov_i e), (5, ov_i (Int.tmod s (h 96 9)))]) (st2 := [ov_i e, ov_i (Int.tmod s (h 96 9)), ov_i y, ov_i x, ov_r 90]) (pc2 := 102) b_281_100_1 rfl rfl ?_
            refine ov_goto (tgt := 107) d_281_102 (by decide) ?_
            have cf135 : h76 96 (0) = h 96 (0) := congrFun E82 (0)
            have cf136 : h76 96 (1) = h 96 (1) := congrFun E82 (1)
            have cf137 : h76 96 (9) = h 96 (9) := congrFun E82 (9)
            have cf138 : h76 96 (8) = h 96 (8) := congrFun E82 (8)
            refine ov_cV (as := [ov_i x, ov_i y, ov_i (Int.tmod s (h 96 9)), ov_i e]) (st := []) (d2 := d - 1) d_281_107 lk_Mo_371 rfl (Nat.le_of_ble_eq_true rfl) (c := 1) (zb_90 I77) (zs_90 I77) ⟨by decide, rfl⟩ (by omega) (c_Mo_wayOf_90_all 3 ((-1)) 0 ((h18 90 25)) (Int.toNat (13 - (x) - (y))) (d - 1) (by omega) U I77 x y (Int.tmod s (h 96 9)) e (by omega) (by omega) (by omega) (by omega) (by omega) (by show x < (h76 96 0) ∧ y < (h76 96 1); omega) (by omega) (by show 0 ≤ (Int.tmod s (h 96 9)) ∧ (Int.tmod s (h 96 9)) < (h76 96 9); omega) (by omega) (by show (h76 90 26) = (3 : Int); omega) (by show (h76 90 29) = ((-1) : Int); omega) (by show (h76 90 30) = (0 : Int); omega) (by show (h76 90 25) = (h18 90 25); omega) (by show 0 ≤ (3 : Int) ∧ (3 : Int) ≤ 3 + (h76 96 8); omega) (by rw [show h76 96 = h 96 from E82]; exact W) (by rw [show h76 96 = h 96 from E82, show h76 97 = h 97 from E83, show h76 98 = h 98 from E84]; exact CD) (by rw [show h76 96 = h 96 from E82, show h76 103 = h 103 from E87, show h76 97 = h 97 from E83, show h76 98 = h 98 from E84]; exact y73_)) ?_
            rintro _ z155 h156 ⟨v140, rfl, I157, f139, e141, e142, e143, e144, e145, e146, e147, e148, e149, e150, e151, e152, y153, y154⟩
            have E158 : h156 92 = h 92 := Eq.trans e141 E78
            have E159 : h156 93 = h 93 := Eq.trans e142 E79
            have E160 : h156 94 = h 94 := Eq.trans e143 E80
            have E161 : h156 95 = h 95 := Eq.trans e144 E81
            have E162 : h156 96 = h 96 := Eq.trans e145 E82
            have E163 : h156 97 = h 97 := Eq.trans e146 E83
            have E164 : h156 98 = h 98 := Eq.trans e147 E84
            have E165 : h156 99 = h 99 := Eq.trans e148 E85
            have E166 : h156 100 = h 100 := Eq.trans e149 E86
            have E167 : h156 103 = h 103 := Eq.trans e150 E87
            have E168 : h156 109 = h 109 := Eq.trans e151 E88
            have E169 : h156 114 = h 114 := Eq.trans e152 E89
            show ov_R u d ov_m281 110 [(0, ov_r 90), (1, ov_i x), (2, ov_i y), (3, ov_i s), (4, ov_i e), (5, ov_i (Int.tmod s (h 96 9)))] [ov_i v140] z155 h156 (P_Mo_choice_90 F z h x y s e)
            have f170 : (h156 90 2) = (h76 90 2) ∧ (h156 90 7) = (h76 90 7) ∧ (h156 90 8) = (h76 90 8) ∧ (h156 90 13) = (h76 90 13) ∧ (h156 90 20) = (h76 90 20) ∧ (h156 90 22) = (h76 90 22) ∧ (h156 90 25) = (h76 90 25) ∧ (h156 90 26) = (h76 90 26) ∧ (h156 90 28) = (h76 90 28) ∧ (h156 90 29) = (h76 90 29) ∧ (h156 90 30) = (h76 90 30) ∧ (h156 90 34) = (h76 90 34) ∧ -1 ≤ v140 ∧ v140 ≤ 1 := f139
            clear f139
            rw [show h76 103 = h 103 from E87] at y153
            rw [show h76 96 = h 96 from E82] at y153
            rw [show h76 97 = h 97 from E83] at y153
            rw [show h76 98 = h 98 from E84] at y153
            have y153_ : ov_MI (h 96) (h 103) (h 97) (h 98) (3 : Int) ((-1) : Int) (0 : Int) (h18 90 25) (h156 105) (h156 106) := y153
            rw [show h76 103 = h 103 from E87] at y154
            rw [show h76 96 = h 96 from E82] at y154
            rw [show h76 97 = h 97 from E83] at y154
            rw [show h76 98 = h 98 from E84] at y154
            have y154_ : ov_wf (h 96) (h 97) (h 98) (ov_go (h 96) (h 103) (h 97) (h 98) (3 : Int) ((-1) : Int) (0 : Int)) (3 : Int) x y (Int.tmod s (h 96 9)) e v140 := y154
            have pm171 : ov_PM (h 96) (h 103) (h 97) (h 98) (h156 105) (h156 106) (h156 90 22) (h156 90 25) (h156 90 26) (h156 90 28) (h156 90 29) (h156 90 30) := ov_PM_mi y153_ (by omega) (by omega) (by omega) (by omega) (by omega) (by omega)
            exact ov_reti (st := []) d_281_110 rfl ⟨_, rfl, I157, (by show (h156 90 2) = (h 90 2) ∧ (h156 90 7) = (h 90 7) ∧ (h156 90 8) = (h 90 8) ∧ (h156 90 13) = (h 90 13) ∧ (h156 90 20) = (h 90 20) ∧ (h156 90 22) = (h 90 22) ∧ (h156 90 34) = (h 90 34) ∧ (h 90 25) ≤ (h156 90 25) ∧ (h156 90 25) ≤ (h 90 25) + 1 ∧ -1 ≤ v140 ∧ v140 ≤ 1; omega), E158, E159, E160, E161, E162, E163, E164, E165, E166, E167, E168, E169, pm171⟩
        · skip
          refine ov_blk (ls2 := [(0, ov_r 90), (1, ov_i x), (2, ov_i y), (3, ov_i s), (4, ov_i e), (5, ov_i (Int.tmod s (h 96 9)))]) (st2 := [ov_i (-1)]) (pc2 := 83) b_281_82_1 rfl rfl ?_
          refine ov_goto (tgt := 110) d_281_83 (by decide) ?_
          have pm172 : ov_PM (h 96) (h 103) (h 97) (h 98) (h76 105) (h76 106) (h76 90 22) (h76 90 25) (h76 90 26) (h76 90 28) (h76 90 29) (h76 90 30) := ov_PM_mi y73_ (by omega) (by omega) (by omega) (by omega) (by omega) (by omega)
          exact ov_reti (st := []) d_281_110 rfl ⟨_, rfl, I77, (by show (h76 90 2) = (h 90 2) ∧ (h76 90 7) = (h 90 7) ∧ (h76 90 8) = (h 90 8) ∧ (h76 90 13) = (h 90 13) ∧ (h76 90 20) = (h 90 20) ∧ (h76 90 22) = (h 90 22) ∧ (h76 90 34) = (h 90 34) ∧ (h 90 25) ≤ (h76 90 25) ∧ (h76 90 25) ≤ (h 90 25) + 1 ∧ -1 ≤ (-1) ∧ (-1) ≤ 1; omega), E78, E79, E80, E81, E82, E83, E84, E85, E86, E87, E88, E89, pm172⟩
      · skip
        have f51_ : v50 = 1 := by omega
        have f173 : ((h 96 (10 + 4 * (6 * y + x))) = 2 ∧ ¬ (h 103 (4 + 6 * y + x)) = 1 ∧ ¬ 6 * y + x = (h18 90 29)) := f51.2.1 (by omega)
        clear f51
        refine ov_blk (ls2 := [(0, ov_r 90), (1, ov_i x), (2, ov_i y), (3, ov_i s), (4, ov_i e)]) (st2 := [ov_i 1, ov_i y, ov_i x, ov_r 90, ov_i 0, ov_i e]) (pc2 := 48) b_281_41_6 rfl rfl ?_
        refine ov_cV (as := [ov_i x, ov_i y, ov_i 1]) (st := [ov_i 0, ov_i e]) (d2 := d - 1) d_281_48 lk_Mo_289 rfl (Nat.le_of_ble_eq_true rfl) (c := 1) (zb_90 I19) (zs_90 I19) ⟨by decide, rfl⟩ (by omega) (c_Mo_lightAt_90 (d - 1) (by omega) U I19 x y 1 (by omega) (by omega) (by omega) (by omega) (by omega)) ?_
        rintro _ _ _ ⟨v175, rfl, rfl, rfl, f174⟩
        show ov_R u d ov_m281 51 [(0, ov_r 90), (1, ov_i x), (2, ov_i y), (3, ov_i s), (4, ov_i e)] [ov_i v175, ov_i 0, ov_i e] z17 h18 (P_Mo_choice_90 F z h x y s e)
        rw [show h18 96 = h 96 from E24] at f174
        have f176 : v175 = (h 96 (10 + 4 * (6 * y + x) + (1 : Int))) ∧ ((1 : Int) = 1 → 0 ≤ v175 ∧ v175 ≤ 60) ∧ ((1 : Int) = 2 → 0 ≤ v175 ∧ v175 ≤ 59) ∧ ((1 : Int) = 3 → 0 ≤ v175 ∧ v175 ≤ 60) := f174
        clear f174
        refine ov_blk (ls2 := [(0, ov_r 90), (1, ov_i x), (2, ov_i y), (3, ov_i s), (4, ov_i e)]) (st2 := [ov_i (v175 - 1), ov_i 0, ov_i e]) (pc2 := 53) b_281_51_2 rfl rfl ?_
        refine ov_cS (as := [ov_i e, ov_i 0, ov_i (v175 - 1)]) (st := []) (d2 := d - 1) d_281_53 lk_Mo_299 rfl (Nat.le_of_ble_eq_true rfl) (by omega) (c_Mo_within (d - 1) (by omega) U I19 e 0 (v175 - 1) (by omega) (by omega) (by omega)) ?_
        rintro _ _ _ ⟨v178, rfl, rfl, rfl, f177⟩
        show ov_R u d ov_m281 56 [(0, ov_r 90), (1, ov_i x), (2, ov_i y), (3, ov_i s), (4, ov_i e)] [ov_i v178] z17 h18 (P_Mo_choice_90 F z h x y s e)
        have f179 : (v178 = 0 ∨ v178 = 1) ∧ (v178 = 1 → (0 : Int) ≤ e ∧ e ≤ (v175 - 1)) ∧ (v178 = 0 → e < (0 : Int) ∨ (v175 - 1) < e) := f177
        clear f177
        refine ov_ifne (tgt := 61) d_281_56 (by decide) (by omega) (fun c180 => ?_) (fun c180 => ?_)
        · skip
          have f179_ : v178 = 1 := by omega
          have f181 : (0 : Int) ≤ e ∧ e ≤ (v175 - 1) := f179.2.1 (by omega)
          clear f179
          refine ov_blk (ls2 := [(0, ov_r 90), (1, ov_i x), (2, ov_i y), (3, ov_i s), (4, ov_i e)]) (st2 := [ov_r 90, ov_i s]) (pc2 := 63) b_281_61_2 rfl rfl ?_
          refine ov_getf (v := ov_r 96) d_281_63 fl_Mo_81 (zb_90 I19) (zs_90 I19) (congrArg ov_r (rg_90_10 I19)) ?_
          refine ov_blk (ls2 := [(0, ov_r 90), (1, ov_i x), (2, ov_i y), (3, ov_i s), (4, ov_i e)]) (st2 := [ov_i 9, ov_r 96, ov_i s]) (pc2 := 68) b_281_66_1 rfl rfl ?_
          refine ov_iald d_281_68 (zb_96 I19) (zs_96 I19) (by omega) ?_
          rw [show h18 96 = h 96 from E24]
          have g182 := t96_9 I
          have gt1 := ov_tmv (x := s) (y := (h 96 9)) (by omega) (by omega)
          refine ov_irem d_281_69 (by omega) (by omega) (by omega) ?_
          have g183 := ov_tmg (a := s) (b := (h 96 9)) (by omega) (by omega)
          refine ov_blk (ls2 := [(0, ov_r 90), (1, ov_i x), (2, ov_i y), (3, ov_i s), (4, ov_i e), (5, ov_i (Int.tmod s (h 96 9)))]) (st2 := [ov_i s, ov_i y, ov_i x, ov_r 90]) (pc2 := 76) b_281_70_5 rfl rfl ?_
          have cf184 : h18 96 (0) = h 96 (0) := congrFun E24 (0)
          have cf185 : h18 96 (1) = h 96 (1) := congrFun E24 (1)
          have cf186 : h18 96 (8) = h 96 (8) := congrFun E24 (8)
          refine ov_cV (as := [ov_i x, ov_i y, ov_i s]) (st := []) (d2 := d - 1) d_281_76 lk_Mo_377 rfl (Nat.le_of_ble_eq_true rfl) (c := 1) (zb_90 I19) (zs_90 I19) ⟨by decide, rfl⟩ (by omega) (c_Mo_worthFrom_90_all 3 ((-1)) 0 ((h18 90 25)) (Int.toNat (13 - (x) - (y))) (d - 1) (by omega) U I19 x y s (by omega) (by omega) (by omega) (by omega) (by show x < (h18 96 0) ∧ y < (h18 96 1); omega) (by omega) (by omega) (by show (h18 90 26) = (3 : Int); omega) (by show (h18 90 29) = ((-1) : Int); omega) (by show (h18 90 30) = (0 : Int); omega) (by show (h18 90 25) = (h18 90 25); omega) (by show 0 ≤ (3 : Int) ∧ (3 : Int) ≤ 3 + (h18 96 8); omega) (by rw [show h18 96 = h 96 from E24]; exact W) (by rw [show h18 96 = h 96 from E24, show h18 97 = h 97 from E25, show h18 98 = h 98 from E26]; exact CD) (by rw [show h18 96 = h 96 from E24, show h18 103 = h 103 from E29, show h18 97 = h 97 from E25, show h18 98 = h 98 from E26, show h18 105 = h 105 from E30, show h18 106 = h 106 from E31]; exact mi35)) ?_
          rintro _ z203 h204 ⟨v188, rfl, I205, f187, e189, e190, e191, e192, e193, e194, e195, e196, e197, e198, e199, e200, y201, y202⟩
          have E206 : h204 92 = h 92 := Eq.trans e189 E20
          have E207 : h204 93 = h 93 := Eq.trans e190 E21
          have E208 : h204 94 = h 94 := Eq.trans e191 E22
          have E209 : h204 95 = h 95 := Eq.trans e192 E23
          have E210 : h204 96 = h 96 := Eq.trans e193 E24
          have E211 : h204 97 = h 97 := Eq.trans e194 E25
          have E212 : h204 98 = h 98 := Eq.trans e195 E26
          have E213 : h204 99 = h 99 := Eq.trans e196 E27
          have E214 : h204 100 = h 100 := Eq.trans e197 E28
          have E215 : h204 103 = h 103 := Eq.trans e198 E29
          have E216 : h204 109 = h 109 := Eq.trans e199 E32
          have E217 : h204 114 = h 114 := Eq.trans e200 E33
          show ov_R u d ov_m281 79 [(0, ov_r 90), (1, ov_i x), (2, ov_i y), (3, ov_i s), (4, ov_i e), (5, ov_i (Int.tmod s (h 96 9)))] [ov_i v188] z203 h204 (P_Mo_choice_90 F z h x y s e)
          have f218 : (h204 90 2) = (h18 90 2) ∧ (h204 90 7) = (h18 90 7) ∧ (h204 90 8) = (h18 90 8) ∧ (h204 90 13) = (h18 90 13) ∧ (h204 90 20) = (h18 90 20) ∧ (h204 90 22) = (h18 90 22) ∧ (h204 90 25) = (h18 90 25) ∧ (h204 90 26) = (h18 90 26) ∧ (h204 90 28) = (h18 90 28) ∧ (h204 90 29) = (h18 90 29) ∧ (h204 90 30) = (h18 90 30) ∧ (h204 90 34) = (h18 90 34) ∧ -1 ≤ v188 ∧ v188 ≤ 89000 * (13 - x - y) := f187
          clear f187
          rw [show h18 103 = h 103 from E29] at y201
          rw [show h18 96 = h 96 from E24] at y201
          rw [show h18 97 = h 97 from E25] at y201
          rw [show h18 98 = h 98 from E26] at y201
          have y201_ : ov_MI (h 96) (h 103) (h 97) (h 98) (3 : Int) ((-1) : Int) (0 : Int) (h18 90 25) (h204 105) (h204 106) := y201
          rw [show h18 103 = h 103 from E29] at y202
          rw [show h18 96 = h 96 from E24] at y202
          rw [show h18 97 = h 97 from E25] at y202
          rw [show h18 98 = h 98 from E26] at y202
          have y202_ : (0 ≤ v188 ↔ ov_go (h 96) (h 103) (h 97) (h 98) (3 : Int) ((-1) : Int) (0 : Int) x y (s % (h 96 9))) := y202
          refine ov_ifge (tgt := 86) d_281_79 (by decide) (by omega) (fun c219 => ?_) (fun c219 => ?_)
          · skip
            refine ov_blk (ls2 := [(0, ov_r 90), (1, ov_i x), (2, ov_i y), (3, ov_i s), (4, ov_i e), (5, ov_i (Int.tmod s (h 96 9)))]) (st2 := [ov_i y, ov_i x, ov_r 90, ov_i (Int.tmod s (h 96 9)), ov_i y, ov_i x, ov_r 90]) (pc2 := 94) b_281_86_7 rfl rfl ?_
            refine ov_cV (as := [ov_i x, ov_i y]) (st := [ov_i (Int.tmod s (h 96 9)), ov_i y, ov_i x, ov_r 90]) (d2 := d - 1) d_281_94 lk_Mo_362 rfl (Nat.le_of_ble_eq_true rfl) (c := 1) (zb_90 I205) (zs_90 I205) ⟨by decide, rfl⟩ (by omega) (c_Mo_isUnknown_90 (d - 1) (by omega) U I205 x y (by omega) (by omega) (by omega)) ?_
            rintro _ _ _ ⟨v221, rfl, rfl, rfl, f220⟩
            show ov_R u d ov_m281 97 [(0, ov_r 90), (1, ov_i x), (2, ov_i y), (3, ov_i s), (4, ov_i e), (5, ov_i (Int.tmod s (h 96 9)))] [ov_i v221, ov_i (Int.tmod s (h 96 9)), ov_i y, ov_i x, ov_r 90] z203 h204 (P_Mo_choice_90 F z h x y s e)
            rw [show h204 103 = h 103 from E215] at f220
            rw [show h204 96 = h 96 from E210] at f220
            have f222 : (v221 = 0 ∨ v221 = 1) ∧ (v221 = 1 → ((h 96 (10 + 4 * (6 * y + x))) = 2 ∧ ¬ (h 103 (4 + 6 * y + x)) = 1 ∧ ¬ 6 * y + x = (h204 90 29))) ∧ (v221 = 0 → ¬ ((h 96 (10 + 4 * (6 * y + x))) = 2 ∧ ¬ (h 103 (4 + 6 * y + x)) = 1 ∧ ¬ 6 * y + x = (h204 90 29))) := f220
            clear f220
            refine ov_ifeq (tgt := 105) d_281_97 (by decide) (by omega) (fun c223 => ?_) (fun c223 => ?_)
            · skip
              have f222_ : v221 = 0 := by omega
              have f224 : ¬ ((h 96 (10 + 4 * (6 * y + x))) = 2 ∧ ¬ (h 103 (4 + 6 * y + x)) = 1 ∧ ¬ 6 * y + x = (h204 90 29)) := f222.2.2 (by omega)
              clear f222
              refine ov_blk (ls2 := [(0, ov_r 90), (1, ov_i x), (2, ov_i y), (3, ov_i s), (4, ov_i e), (5, ov_i (Int.tmod s (h 96 9)))]) (st2 := [ov_i (Int.tmod s (h 96 9)), ov_i (Int.tmod s (h 96 9)), ov_i y, ov_i x, ov_r 90]) (pc2 := 107) b_281_105_1 rfl rfl ?_
              have cf225 : h204 96 (0) = h 96 (0) := congrFun E210 (0)
              have cf226 : h204 96 (1) = h 96 (1) := congrFun E210 (1)
              have cf227 : h204 96 (9) = h 96 (9) := congrFun E210 (9)
              have cf228 : h204 96 (8) = h 96 (8) := congrFun E210 (8)
              refine ov_cV (as := [ov_i x, ov_i y, ov_i (Int.tmod s (h 96 9)), ov_i (Int.tmod s (h 96 9))]) (st := []) (d2 := d - 1) d_281_107 lk_Mo_371 rfl (Nat.le_of_ble_eq_true rfl) (c := 1) (zb_90 I205) (zs_90 I205) ⟨by decide, rfl⟩ (by omega) (c_Mo_wayOf_90_all 3 ((-1)) 0 ((h18 90 25)) (Int.toNat (13 - (x) - (y))) (d - 1) (by omega) U I205 x y (Int.tmod s (h 96 9)) (Int.tmod s (h 96 9)) (by omega) (by omega) (by omega) (by omega) (by omega) (by show x < (h204 96 0) ∧ y < (h204 96 1); omega) (by omega) (by show 0 ≤ (Int.tmod s (h 96 9)) ∧ (Int.tmod s (h 96 9)) < (h204 96 9); omega) (by omega) (by show (h204 90 26) = (3 : Int); omega) (by show (h204 90 29) = ((-1) : Int); omega) (by show (h204 90 30) = (0 : Int); omega) (by show (h204 90 25) = (h18 90 25); omega) (by show 0 ≤ (3 : Int) ∧ (3 : Int) ≤ 3 + (h204 96 8); omega) (by rw [show h204 96 = h 96 from E210]; exact W) (by rw [show h204 96 = h 96 from E210, show h204 97 = h 97 from E211, show h204 98 = h 98 from E212]; exact CD) (by rw [show h204 96 = h 96 from E210, show h204 103 = h 103 from E215, show h204 97 = h 97 from E211, show h204 98 = h 98 from E212]; exact y201_)) ?_
              rintro _ z245 h246 ⟨v230, rfl, I247, f229, e231, e232, e233, e234, e235, e236, e237, e238, e239, e240, e241, e242, y243, y244⟩
              have E248 : h246 92 = h 92 := Eq.trans e231 E206
              have E249 : h246 93 = h 93 := Eq.trans e232 E207
              have E250 : h246 94 = h 94 := Eq.trans e233 E208
              have E251 : h246 95 = h 95 := Eq.trans e234 E209
              have E252 : h246 96 = h 96 := Eq.trans e235 E210
              have E253 : h246 97 = h 97 := Eq.trans e236 E211
              have E254 : h246 98 = h 98 := Eq.trans e237 E212
              have E255 : h246 99 = h 99 := Eq.trans e238 E213
              have E256 : h246 100 = h 100 := Eq.trans e239 E214
              have E257 : h246 103 = h 103 := Eq.trans e240 E215
              have E258 : h246 109 = h 109 := Eq.trans e241 E216
              have E259 : h246 114 = h 114 := Eq.trans e242 E217
              show ov_R u d ov_m281 110 [(0, ov_r 90), (1, ov_i x), (2, ov_i y), (3, ov_i s), (4, ov_i e), (5, ov_i (Int.tmod s (h 96 9)))] [ov_i v230] z245 h246 (P_Mo_choice_90 F z h x y s e)
              have f260 : (h246 90 2) = (h204 90 2) ∧ (h246 90 7) = (h204 90 7) ∧ (h246 90 8) = (h204 90 8) ∧ (h246 90 13) = (h204 90 13) ∧ (h246 90 20) = (h204 90 20) ∧ (h246 90 22) = (h204 90 22) ∧ (h246 90 25) = (h204 90 25) ∧ (h246 90 26) = (h204 90 26) ∧ (h246 90 28) = (h204 90 28) ∧ (h246 90 29) = (h204 90 29) ∧ (h246 90 30) = (h204 90 30) ∧ (h246 90 34) = (h204 90 34) ∧ -1 ≤ v230 ∧ v230 ≤ 1 := f229
              clear f229
              rw [show h204 103 = h 103 from E215] at y243
              rw [show h204 96 = h 96 from E210] at y243
              rw [show h204 97 = h 97 from E211] at y243
              rw [show h204 98 = h 98 from E212] at y243
              have y243_ : ov_MI (h 96) (h 103) (h 97) (h 98) (3 : Int) ((-1) : Int) (0 : Int) (h18 90 25) (h246 105) (h246 106) := y243
              rw [show h204 103 = h 103 from E215] at y244
              rw [show h204 96 = h 96 from E210] at y244
              rw [show h204 97 = h 97 from E211] at y244
              rw [show h204 98 = h 98 from E212] at y244
              have y244_ : ov_wf (h 96) (h 97) (h 98) (ov_go (h 96) (h 103) (h 97) (h 98) (3 : Int) ((-1) : Int) (0 : Int)) (3 : Int) x y (Int.tmod s (h 96 9)) (Int.tmod s (h 96 9)) v230 := y244
              have pm261 : ov_PM (h 96) (h 103) (h 97) (h 98) (h246 105) (h246 106) (h246 90 22) (h246 90 25) (h246 90 26) (h246 90 28) (h246 90 29) (h246 90 30) := ov_PM_mi y243_ (by omega) (by omega) (by omega) (by omega) (by omega) (by omega)
              exact ov_reti (st := []) d_281_110 rfl ⟨_, rfl, I247, (by show (h246 90 2) = (h 90 2) ∧ (h246 90 7) = (h 90 7) ∧ (h246 90 8) = (h 90 8) ∧ (h246 90 13) = (h 90 13) ∧ (h246 90 20) = (h 90 20) ∧ (h246 90 22) = (h 90 22) ∧ (h246 90 34) = (h 90 34) ∧ (h 90 25) ≤ (h246 90 25) ∧ (h246 90 25) ≤ (h 90 25) + 1 ∧ -1 ≤ v230 ∧ v230 ≤ 1; omega), E248, E249, E250, E251, E252, E253, E254, E255, E256, E257, E258, E259, pm261⟩
            · skip
              have f222_ : v221 = 1 := by omega
              have f262 : ((h 96 (10 + 4 * (6 * y + x))) = 2 ∧ ¬ (h 103 (4 + 6 * y + x)) = 1 ∧ ¬ 6 * y + x = (h204 90 29)) := f222.2.1 (by omega)
              clear f222
              refine ov_blk (ls2 := [(0, ov_r 90), (1, ov_i x), (2, ov_i y), (3, ov_i s), (4, ov_i e), (5, ov_i (Int.tmod s (h 96 9)))]) (st2 := [ov_i e, ov_i (Int.tmod s (h 96 9)), ov_i y, ov_i x, ov_r 90]) (pc2 := 102) b_281_100_1 rfl rfl ?_
              refine ov_goto (tgt := 107) d_281_102 (by decide) ?_
              have cf263 : h204 96 (0) = h 96 (0) := congrFun E210 (0)
              have cf264 : h204 96 (1) = h 96 (1) := congrFun E210 (1)
              have cf265 : h204 96 (9) = h 96 (9) := congrFun E210 (9)
              have cf266 : h204 96 (8) = h 96 (8) := congrFun E210 (8)
              refine ov_cV (as := [ov_i x, ov_i y, ov_i (Int.tmod s (h 96 9)), ov_i e]) (st := []) (d2 := d - 1) d_281_107 lk_Mo_371 rfl (Nat.le_of_ble_eq_true rfl) (c := 1) (zb_90 I205) (zs_90 I205) ⟨by decide, rfl⟩ (by omega) (c_Mo_wayOf_90_all 3 ((-1)) 0 ((h18 90 25)) (Int.toNat (13 - (x) - (y))) (d - 1) (by omega) U I205 x y (Int.tmod s (h 96 9)) e (by omega) (by omega) (by omega) (by omega) (by omega) (by show x < (h204 96 0) ∧ y < (h204 96 1); omega) (by omega) (by show 0 ≤ (Int.tmod s (h 96 9)) ∧ (Int.tmod s (h 96 9)) < (h204 96 9); omega) (by omega) (by show (h204 90 26) = (3 : Int); omega) (by show (h204 90 29) = ((-1) : Int); omega) (by show (h204 90 30) = (0 : Int); omega) (by show (h204 90 25) = (h18 90 25); omega) (by show 0 ≤ (3 : Int) ∧ (3 : Int) ≤ 3 + (h204 96 8); omega) (by rw [show h204 96 = h 96 from E210]; exact W) (by rw [show h204 96 = h 96 from E210, show h204 97 = h 97 from E211, show h204 98 = h 98 from E212]; exact CD) (by rw [show h204 96 = h 96 from E210, show h204 103 = h 103 from E215, show h204 97 = h 97 from E211, show h204 98 = h 98 from E212]; exact y201_)) ?_
              rintro _ z283 h284 ⟨v268, rfl, I285, f267, e269, e270, e271, e272, e273, e274, e275, e276, e277, e278, e279, e280, y281, y282⟩
              have E286 : h284 92 = h 92 := Eq.trans e269 E206
              have E287 : h284 93 = h 93 := Eq.trans e270 E207
              have E288 : h284 94 = h 94 := Eq.trans e271 E208
              have E289 : h284 95 = h 95 := Eq.trans e272 E209
              have E290 : h284 96 = h 96 := Eq.trans e273 E210
              have E291 : h284 97 = h 97 := Eq.trans e274 E211
              have E292 : h284 98 = h 98 := Eq.trans e275 E212
              have E293 : h284 99 = h 99 := Eq.trans e276 E213
              have E294 : h284 100 = h 100 := Eq.trans e277 E214
              have E295 : h284 103 = h 103 := Eq.trans e278 E215
              have E296 : h284 109 = h 109 := Eq.trans e279 E216
              have E297 : h284 114 = h 114 := Eq.trans e280 E217
              show ov_R u d ov_m281 110 [(0, ov_r 90), (1, ov_i x), (2, ov_i y), (3, ov_i s), (4, ov_i e), (5, ov_i (Int.tmod s (h 96 9)))] [ov_i v268] z283 h284 (P_Mo_choice_90 F z h x y s e)
              have f298 : (h284 90 2) = (h204 90 2) ∧ (h284 90 7) = (h204 90 7) ∧ (h284 90 8) = (h204 90 8) ∧ (h284 90 13) = (h204 90 13) ∧ (h284 90 20) = (h204 90 20) ∧ (h284 90 22) = (h204 90 22) ∧ (h284 90 25) = (h204 90 25) ∧ (h284 90 26) = (h204 90 26) ∧ (h284 90 28) = (h204 90 28) ∧ (h284 90 29) = (h204 90 29) ∧ (h284 90 30) = (h204 90 30) ∧ (h284 90 34) = (h204 90 34) ∧ -1 ≤ v268 ∧ v268 ≤ 1 := f267
              clear f267
              rw [show h204 103 = h 103 from E215] at y281
              rw [show h204 96 = h 96 from E210] at y281
              rw [show h204 97 = h 97 from E211] at y281
              rw [show h204 98 = h 98 from E212] at y281
              have y281_ : ov_MI (h 96) (h 103) (h 97) (h 98) (3 : Int) ((-1) : Int) (0 : Int) (h18 90 25) (h284 105) (h284 106) := y281
              rw [show h204 103 = h 103 from E215] at y282
              rw [show h204 96 = h 96 from E210] at y282
              rw [show h204 97 = h 97 from E211] at y282
              rw [show h204 98 = h 98 from E212] at y282
              have y282_ : ov_wf (h 96) (h 97) (h 98) (ov_go (h 96) (h 103) (h 97) (h 98) (3 : Int) ((-1) : Int) (0 : Int)) (3 : Int) x y (Int.tmod s (h 96 9)) e v268 := y282
              have pm299 : ov_PM (h 96) (h 103) (h 97) (h 98) (h284 105) (h284 106) (h284 90 22) (h284 90 25) (h284 90 26) (h284 90 28) (h284 90 29) (h284 90 30) := ov_PM_mi y281_ (by omega) (by omega) (by omega) (by omega) (by omega) (by omega)
              exact ov_reti (st := []) d_281_110 rfl ⟨_, rfl, I285, (by show (h284 90 2) = (h 90 2) ∧ (h284 90 7) = (h 90 7) ∧ (h284 90 8) = (h 90 8) ∧ (h284 90 13) = (h 90 13) ∧ (h284 90 20) = (h 90 20) ∧ (h284 90 22) = (h 90 22) ∧ (h284 90 34) = (h 90 34) ∧ (h 90 25) ≤ (h284 90 25) ∧ (h284 90 25) ≤ (h 90 25) + 1 ∧ -1 ≤ v268 ∧ v268 ≤ 1; omega), E286, E287, E288, E289, E290, E291, E292, E293, E294, E295, E296, E297, pm299⟩
          · skip
            refine ov_blk (ls2 := [(0, ov_r 90), (1, ov_i x), (2, ov_i y), (3, ov_i s), (4, ov_i e), (5, ov_i (Int.tmod s (h 96 9)))]) (st2 := [ov_i (-1)]) (pc2 := 83) b_281_82_1 rfl rfl ?_
            refine ov_goto (tgt := 110) d_281_83 (by decide) ?_
            have pm300 : ov_PM (h 96) (h 103) (h 97) (h 98) (h204 105) (h204 106) (h204 90 22) (h204 90 25) (h204 90 26) (h204 90 28) (h204 90 29) (h204 90 30) := ov_PM_mi y201_ (by omega) (by omega) (by omega) (by omega) (by omega) (by omega)
            exact ov_reti (st := []) d_281_110 rfl ⟨_, rfl, I205, (by show (h204 90 2) = (h 90 2) ∧ (h204 90 7) = (h 90 7) ∧ (h204 90 8) = (h 90 8) ∧ (h204 90 13) = (h 90 13) ∧ (h204 90 20) = (h 90 20) ∧ (h204 90 22) = (h 90 22) ∧ (h204 90 34) = (h 90 34) ∧ (h 90 25) ≤ (h204 90 25) ∧ (h204 90 25) ≤ (h 90 25) + 1 ∧ -1 ≤ (-1) ∧ (-1) ≤ 1; omega), E206, E207, E208, E209, E210, E211, E212, E213, E214, E215, E216, E217, pm300⟩
        · skip
          have f179_ : v178 = 0 := by omega
          have f301 : e < (0 : Int) ∨ (v175 - 1) < e := f179.2.2 (by omega)
          clear f179
          refine ov_blk (ls2 := [(0, ov_r 90), (1, ov_i x), (2, ov_i y), (3, ov_i s), (4, ov_i e)]) (st2 := [ov_i (-1)]) (pc2 := 60) b_281_59_1 rfl rfl ?_
          have pm302 : ov_PM (h 96) (h 103) (h 97) (h 98) (h 105) (h 106) (h18 90 22) (h18 90 25) (h18 90 26) (h18 90 28) (h18 90 29) (h18 90 30) := ov_PM_mi mi35 (by omega) (by omega) (by omega) (by omega) (by omega) (by omega)
          exact ov_reti (st := []) d_281_60 rfl ⟨_, rfl, I19, (by show (h18 90 2) = (h 90 2) ∧ (h18 90 7) = (h 90 7) ∧ (h18 90 8) = (h 90 8) ∧ (h18 90 13) = (h 90 13) ∧ (h18 90 20) = (h 90 20) ∧ (h18 90 22) = (h 90 22) ∧ (h18 90 34) = (h 90 34) ∧ (h 90 25) ≤ (h18 90 25) ∧ (h18 90 25) ≤ (h 90 25) + 1 ∧ -1 ≤ (-1) ∧ (-1) ≤ 1; omega), E20, E21, E22, E23, E24, E25, E26, E27, E28, E29, E32, E33, (by show ov_PM (h 96) (h 103) (h 97) (h 98) (h18 105) (h18 106) (h18 90 22) (h18 90 25) (h18 90 26) (h18 90 28) (h18 90 29) (h18 90 30); rw [show h18 105 = h 105 from E30, show h18 106 = h 106 from E31]; exact pm302)⟩
abbrev P_Mo_gap_90 (F : ov_H × ov_Z) (z : ov_Z) (h : ov_H) (x : Int) (y : Int) (s : Int) : Option ov_V → ov_Z → ov_H → Prop := fun r0 z' h' => ∃ r : Int, r0 = some (ov_i r) ∧ ov_N F z' h' ∧ ((h' 90 2) = (h 90 2) ∧ (h' 90 7) = (h 90 7) ∧ (h' 90 8) = (h 90 8) ∧ (h' 90 13) = (h 90 13) ∧ (h' 90 20) = (h 90 20) ∧ (h' 90 22) = (h 90 22) ∧ (h' 90 34) = (h 90 34) ∧ (h 90 25) ≤ (h' 90 25) ∧ (h' 90 25) ≤ (h 90 25) + 2 ∧ -1200000 ≤ r ∧ r ≤ 1200000) ∧ h' 92 = h 92 ∧ h' 93 = h 93 ∧ h' 94 = h 94 ∧ h' 95 = h 95 ∧ h' 96 = h 96 ∧ h' 97 = h 97 ∧ h' 98 = h 98 ∧ h' 99 = h 99 ∧ h' 100 = h 100 ∧ h' 103 = h 103 ∧ h' 109 = h 109 ∧ h' 114 = h 114 ∧ (ov_PM (h 96) (h 103) (h 97) (h 98) (h' 105) (h' 106) (h' 90 22) (h' 90 25) (h' 90 26) (h' 90 28) (h' 90 29) (h' 90 30))
set_option maxHeartbeats 4000000 in
theorem c_Mo_gap_90 {u : ov_U} {F : ov_H × ov_Z} {z : ov_Z} {h : ov_H} (d : Nat) (hd : 90 ≤ d) (U : ov_cap u) (I : ov_N F z h) (x : Int) (y : Int) (s : Int) (g_x : ov_g x) (g_y : ov_g y) (g_s : ov_g s) (p0 : 0 ≤ (h 90 25) ∧ (h 90 25) ≤ 1000000000) (W : ov_WT (h 96)) (CD : ov_CD (h 96) (h 97) (h 98)) (PM : ov_PM (h 96) (h 103) (h 97) (h 98) (h 105) (h 106) (h 90 22) (h 90 25) (h 90 26) (h 90 28) (h 90 29) (h 90 30)) : ov_T u d ov_m282 [ov_r 90, ov_i x, ov_i y, ov_i s] z h (P_Mo_gap_90 F z h x y s) := by
  refine ov_en rfl (Nat.le_of_ble_eq_true rfl) ?_
  show ov_R u d ov_m282 0 [(0, ov_r 90), (1, ov_i x), (2, ov_i y), (3, ov_i s)] [] z h (P_Mo_gap_90 F z h x y s)
  have t0 := t96_0 I
  have t1 := t96_1 I
  have t8 := t96_8 I
  have t9 := t96_9 I
  refine ov_blk (ls2 := [(0, ov_r 90), (1, ov_i x), (2, ov_i y), (3, ov_i s)]) (st2 := [ov_i 0, ov_r 90]) (pc2 := 2) b_282_0_2 rfl rfl ?_
  refine ov_putf (x := 0) d_282_2 fl_Mo_1 (zb_90 I) (zs_90 I) rfl nk_0 rfl ?_
  have I1 := up_90_0 (x := 0) I (by omega)
  refine ov_blk (ls2 := [(0, ov_r 90), (1, ov_i x), (2, ov_i y), (3, ov_i s)]) (st2 := [ov_i s, ov_i y, ov_i x, ov_r 90]) (pc2 := 9) b_282_5_4 rfl rfl ?_
  refine ov_cV (as := [ov_i x, ov_i y, ov_i s]) (st := []) (d2 := d - 1) d_282_9 lk_Mo_386 rfl (Nat.le_of_ble_eq_true rfl) (c := 1) (zb_90 I1) (zs_90 I1) ⟨by decide, rfl⟩ (by omega) (c_Mo_isPlace_90 (d - 1) (by omega) U I1 x y s (by omega) (by omega) (by omega)) ?_
  rintro _ _ _ ⟨v3, rfl, rfl, rfl, f2⟩
  show ov_R u d ov_m282 12 [(0, ov_r 90), (1, ov_i x), (2, ov_i y), (3, ov_i s)] [ov_i v3] z (ov_up h 90 0 0) (P_Mo_gap_90 F z h x y s)
  have f4 : (v3 = 0 ∨ v3 = 1) ∧ (v3 = 1 → 0 ≤ x ∧ x ≤ 5 ∧ 0 ≤ y ∧ y ≤ 8 ∧ x < (h 96 0) ∧ y < (h 96 1) ∧ 0 ≤ s ∧ s ≤ 1000000) := f2
  clear f2
  refine ov_ifne (tgt := 17) d_282_12 (by decide) (by omega) (fun c5 => ?_) (fun c5 => ?_)
  · skip
    have f4_ : v3 = 1 := by omega
    have f6 : 0 ≤ x ∧ x ≤ 5 ∧ 0 ≤ y ∧ y ≤ 8 ∧ x < (h 96 0) ∧ y < (h 96 1) ∧ 0 ≤ s ∧ s ≤ 1000000 := f4.2 (by omega)
    clear f4
    refine ov_blk (ls2 := [(0, ov_r 90), (1, ov_i x), (2, ov_i y), (3, ov_i s)]) (st2 := [ov_i 0, ov_i (-1), ov_i 0, ov_i 2, ov_r 90]) (pc2 := 22) b_282_17_5 rfl rfl ?_
    refine ov_cV (as := [ov_i 2, ov_i 0, ov_i (-1), ov_i 0]) (st := []) (d2 := d - 1) d_282_22 lk_Mo_389 rfl (Nat.le_of_ble_eq_true rfl) (c := 1) (zb_90 I1) (zs_90 I1) ⟨by decide, rfl⟩ (by omega) (c_Mo_asks_90 (d - 1) (by omega) U I1 2 0 (-1) 0 (by omega) (by omega) (by omega) (by omega) (by omega) (by omega) (by omega) (by show 0 ≤ (h 90 25) ∧ (h 90 25) ≤ 2000000000; omega)) ?_
    rintro _ z22 h23 ⟨rfl, I24, f7, e8, e9, e10, e11, e12, e13, e14, e15, e16, e17, e18, e19, e20, e21⟩
    have E25 : h23 92 = h 92 := e8
    have E26 : h23 93 = h 93 := e9
    have E27 : h23 94 = h 94 := e10
    have E28 : h23 95 = h 95 := e11
    have E29 : h23 96 = h 96 := e12
    have E30 : h23 97 = h 97 := e13
    have E31 : h23 98 = h 98 := e14
    have E32 : h23 99 = h 99 := e15
    have E33 : h23 100 = h 100 := e16
    have E34 : h23 103 = h 103 := e17
    have E35 : h23 105 = h 105 := e18
    have E36 : h23 106 = h 106 := e19
    have E37 : h23 109 = h 109 := e20
    have E38 : h23 114 = h 114 := e21
    show ov_R u d ov_m282 25 [(0, ov_r 90), (1, ov_i x), (2, ov_i y), (3, ov_i s)] [] z22 h23 (P_Mo_gap_90 F z h x y s)
    have f39 : (h23 90 2) = (h 90 2) ∧ (h23 90 7) = (h 90 7) ∧ (h23 90 8) = (h 90 8) ∧ (h23 90 13) = (h 90 13) ∧ (h23 90 20) = (h 90 20) ∧ (h23 90 22) = (h 90 22) ∧ (h23 90 34) = (h 90 34) ∧ (h23 90 26) = (2 : Int) ∧ (h23 90 27) = (0 : Int) ∧ (h23 90 28) = (h 90 22) ∧ (h23 90 29) = ((-1) : Int) ∧ (h23 90 30) = (0 : Int) ∧ (((h23 90 25) = (h 90 25) + 1) ∨ ((h23 90 25) = (h 90 25) ∧ (h 90 26) = (2 : Int) ∧ (h 90 27) = (0 : Int) ∧ (h 90 28) = (h 90 22) ∧ (h 90 29) = ((-1) : Int) ∧ (h 90 30) = (0 : Int))) := f7
    clear f7
    have mi40 : ov_MI (h 96) (h 103) (h 97) (h 98) 2 (-1) 0 (h23 90 25) (h 105) (h 106) := ov_PM_ask PM (by omega)
    refine ov_blk (ls2 := [(0, ov_r 90), (1, ov_i x), (2, ov_i y), (3, ov_i s)]) (st2 := [ov_i s, ov_i y, ov_i x, ov_r 90]) (pc2 := 29) b_282_25_4 rfl rfl ?_
    have cf41 : h23 96 (0) = h 96 (0) := congrFun E29 (0)
    have cf42 : h23 96 (1) = h 96 (1) := congrFun E29 (1)
    have cf43 : h23 96 (8) = h 96 (8) := congrFun E29 (8)
    refine ov_cV (as := [ov_i x, ov_i y, ov_i s]) (st := []) (d2 := d - 1) d_282_29 lk_Mo_377 rfl (Nat.le_of_ble_eq_true rfl) (c := 1) (zb_90 I24) (zs_90 I24) ⟨by decide, rfl⟩ (by omega) (c_Mo_worthFrom_90_all 2 ((-1)) 0 ((h23 90 25)) (Int.toNat (13 - (x) - (y))) (d - 1) (by omega) U I24 x y s (by omega) (by omega) (by omega) (by omega) (by show x < (h23 96 0) ∧ y < (h23 96 1); omega) (by omega) (by omega) (by show (h23 90 26) = (2 : Int); omega) (by show (h23 90 29) = ((-1) : Int); omega) (by show (h23 90 30) = (0 : Int); omega) (by show (h23 90 25) = (h23 90 25); omega) (by show 0 ≤ (2 : Int) ∧ (2 : Int) ≤ 3 + (h23 96 8); omega) (by rw [show h23 96 = h 96 from E29]; exact W) (by rw [show h23 96 = h 96 from E29, show h23 97 = h 97 from E30, show h23 98 = h 98 from E31]; exact CD) (by rw [show h23 96 = h 96 from E29, show h23 103 = h 103 from E34, show h23 97 = h 97 from E30, show h23 98 = h 98 from E31, show h23 105 = h 105 from E35, show h23 106 = h 106 from E36]; exact mi40)) ?_
    rintro _ z60 h61 ⟨v45, rfl, I62, f44, e46, e47, e48, e49, e50, e51, e52, e53, e54, e55, e56, e57, y58, y59⟩
    have E63 : h61 92 = h 92 := Eq.trans e46 E25
    have E64 : h61 93 = h 93 := Eq.trans e47 E26
    have E65 : h61 94 = h 94 := Eq.trans e48 E27
    have E66 : h61 95 = h 95 := Eq.trans e49 E28
    have E67 : h61 96 = h 96 := Eq.trans e50 E29
    have E68 : h61 97 = h 97 := Eq.trans e51 E30
    have E69 : h61 98 = h 98 := Eq.trans e52 E31
    have E70 : h61 99 = h 99 := Eq.trans e53 E32
    have E71 : h61 100 = h 100 := Eq.trans e54 E33
    have E72 : h61 103 = h 103 := Eq.trans e55 E34
    have E73 : h61 109 = h 109 := Eq.trans e56 E37
    have E74 : h61 114 = h 114 := Eq.trans e57 E38
    show ov_R u d ov_m282 32 [(0, ov_r 90), (1, ov_i x), (2, ov_i y), (3, ov_i s)] [ov_i v45] z60 h61 (P_Mo_gap_90 F z h x y s)
    have f75 : (h61 90 2) = (h23 90 2) ∧ (h61 90 7) = (h23 90 7) ∧ (h61 90 8) = (h23 90 8) ∧ (h61 90 13) = (h23 90 13) ∧ (h61 90 20) = (h23 90 20) ∧ (h61 90 22) = (h23 90 22) ∧ (h61 90 25) = (h23 90 25) ∧ (h61 90 26) = (h23 90 26) ∧ (h61 90 28) = (h23 90 28) ∧ (h61 90 29) = (h23 90 29) ∧ (h61 90 30) = (h23 90 30) ∧ (h61 90 34) = (h23 90 34) ∧ -1 ≤ v45 ∧ v45 ≤ 89000 * (13 - x - y) := f44
    clear f44
    rw [show h23 103 = h 103 from E34] at y58
    rw [show h23 96 = h 96 from E29] at y58
    rw [show h23 97 = h 97 from E30] at y58
    rw [show h23 98 = h 98 from E31] at y58
    have y58_ : ov_MI (h 96) (h 103) (h 97) (h 98) (2 : Int) ((-1) : Int) (0 : Int) (h23 90 25) (h61 105) (h61 106) := y58
    rw [show h23 103 = h 103 from E34] at y59
    rw [show h23 96 = h 96 from E29] at y59
    rw [show h23 97 = h 97 from E30] at y59
    rw [show h23 98 = h 98 from E31] at y59
    have y59_ : (0 ≤ v45 ↔ ov_go (h 96) (h 103) (h 97) (h 98) (2 : Int) ((-1) : Int) (0 : Int) x y (s % (h 96 9))) := y59
    refine ov_blk (ls2 := [(0, ov_r 90), (1, ov_i x), (2, ov_i y), (3, ov_i s), (4, ov_i v45)]) (st2 := []) (pc2 := 34) b_282_32_1 rfl rfl ?_
    have pm76 : ov_PM (h 96) (h 103) (h 97) (h 98) (h61 105) (h61 106) (h61 90 22) (h61 90 25) (h61 90 26) (h61 90 28) (h61 90 29) (h61 90 30) := ov_PM_mi y58_ (by omega) (by omega) (by omega) (by omega) (by omega) (by omega)
    refine ov_blk (ls2 := [(0, ov_r 90), (1, ov_i x), (2, ov_i y), (3, ov_i s), (4, ov_i v45)]) (st2 := [ov_i 0, ov_i (-1), ov_i 0, ov_i 3, ov_r 90]) (pc2 := 39) b_282_34_5 rfl rfl ?_
    refine ov_cV (as := [ov_i 3, ov_i 0, ov_i (-1), ov_i 0]) (st := []) (d2 := d - 1) d_282_39 lk_Mo_389 rfl (Nat.le_of_ble_eq_true rfl) (c := 1) (zb_90 I62) (zs_90 I62) ⟨by decide, rfl⟩ (by omega) (c_Mo_asks_90 (d - 1) (by omega) U I62 3 0 (-1) 0 (by omega) (by omega) (by omega) (by omega) (by omega) (by omega) (by omega) (by show 0 ≤ (h61 90 25) ∧ (h61 90 25) ≤ 2000000000; omega)) ?_
    rintro _ z92 h93 ⟨rfl, I94, f77, e78, e79, e80, e81, e82, e83, e84, e85, e86, e87, e88, e89, e90, e91⟩
    have E95 : h93 92 = h 92 := Eq.trans e78 E63
    have E96 : h93 93 = h 93 := Eq.trans e79 E64
    have E97 : h93 94 = h 94 := Eq.trans e80 E65
    have E98 : h93 95 = h 95 := Eq.trans e81 E66
    have E99 : h93 96 = h 96 := Eq.trans e82 E67
    have E100 : h93 97 = h 97 := Eq.trans e83 E68
    have E101 : h93 98 = h 98 := Eq.trans e84 E69
    have E102 : h93 99 = h 99 := Eq.trans e85 E70
    have E103 : h93 100 = h 100 := Eq.trans e86 E71
    have E104 : h93 103 = h 103 := Eq.trans e87 E72
    have E105 : h93 105 = h61 105 := e88
    have E106 : h93 106 = h61 106 := e89
    have E107 : h93 109 = h 109 := Eq.trans e90 E73
    have E108 : h93 114 = h 114 := Eq.trans e91 E74
    show ov_R u d ov_m282 42 [(0, ov_r 90), (1, ov_i x), (2, ov_i y), (3, ov_i s), (4, ov_i v45)] [] z92 h93 (P_Mo_gap_90 F z h x y s)
    have f109 : (h93 90 2) = (h61 90 2) ∧ (h93 90 7) = (h61 90 7) ∧ (h93 90 8) = (h61 90 8) ∧ (h93 90 13) = (h61 90 13) ∧ (h93 90 20) = (h61 90 20) ∧ (h93 90 22) = (h61 90 22) ∧ (h93 90 34) = (h61 90 34) ∧ (h93 90 26) = (3 : Int) ∧ (h93 90 27) = (0 : Int) ∧ (h93 90 28) = (h61 90 22) ∧ (h93 90 29) = ((-1) : Int) ∧ (h93 90 30) = (0 : Int) ∧ (((h93 90 25) = (h61 90 25) + 1) ∨ ((h93 90 25) = (h61 90 25) ∧ (h61 90 26) = (3 : Int) ∧ (h61 90 27) = (0 : Int) ∧ (h61 90 28) = (h61 90 22) ∧ (h61 90 29) = ((-1) : Int) ∧ (h61 90 30) = (0 : Int))) := f77
    clear f77
    have mi110 : ov_MI (h 96) (h 103) (h 97) (h 98) 3 (-1) 0 (h93 90 25) (h61 105) (h61 106) := ov_PM_ask pm76 (by omega)
    refine ov_blk (ls2 := [(0, ov_r 90), (1, ov_i x), (2, ov_i y), (3, ov_i s), (4, ov_i v45)]) (st2 := [ov_i s, ov_i y, ov_i x, ov_r 90]) (pc2 := 46) b_282_42_4 rfl rfl ?_
    have cf111 : h93 96 (0) = h 96 (0) := congrFun E99 (0)
    have cf112 : h93 96 (1) = h 96 (1) := congrFun E99 (1)
    have cf113 : h93 96 (8) = h 96 (8) := congrFun E99 (8)
    refine ov_cV (as := [ov_i x, ov_i y, ov_i s]) (st := []) (d2 := d - 1) d_282_46 lk_Mo_377 rfl (Nat.le_of_ble_eq_true rfl) (c := 1) (zb_90 I94) (zs_90 I94) ⟨by decide, rfl⟩ (by omega) (c_Mo_worthFrom_90_all 3 ((-1)) 0 ((h93 90 25)) (Int.toNat (13 - (x) - (y))) (d - 1) (by omega) U I94 x y s (by omega) (by omega) (by omega) (by omega) (by show x < (h93 96 0) ∧ y < (h93 96 1); omega) (by omega) (by omega) (by show (h93 90 26) = (3 : Int); omega) (by show (h93 90 29) = ((-1) : Int); omega) (by show (h93 90 30) = (0 : Int); omega) (by show (h93 90 25) = (h93 90 25); omega) (by show 0 ≤ (3 : Int) ∧ (3 : Int) ≤ 3 + (h93 96 8); omega) (by rw [show h93 96 = h 96 from E99]; exact W) (by rw [show h93 96 = h 96 from E99, show h93 97 = h 97 from E100, show h93 98 = h 98 from E101]; exact CD) (by rw [show h93 96 = h 96 from E99, show h93 103 = h 103 from E104, show h93 97 = h 97 from E100, show h93 98 = h 98 from E101, show h93 105 = h61 105 from E105, show h93 106 = h61 106 from E106]; exact mi110)) ?_
    rintro _ z130 h131 ⟨v115, rfl, I132, f114, e116, e117, e118, e119, e120, e121, e122, e123, e124, e125, e126, e127, y128, y129⟩
    have E133 : h131 92 = h 92 := Eq.trans e116 E95
    have E134 : h131 93 = h 93 := Eq.trans e117 E96
    have E135 : h131 94 = h 94 := Eq.trans e118 E97
    have E136 : h131 95 = h 95 := Eq.trans e119 E98
    have E137 : h131 96 = h 96 := Eq.trans e120 E99
    have E138 : h131 97 = h 97 := Eq.trans e121 E100
    have E139 : h131 98 = h 98 := Eq.trans e122 E101
    have E140 : h131 99 = h 99 := Eq.trans e123 E102
    have E141 : h131 100 = h 100 := Eq.trans e124 E103
    have E142 : h131 103 = h 103 := Eq.trans e125 E104
    have E143 : h131 109 = h 109 := Eq.trans e126 E107
    have E144 : h131 114 = h 114 := Eq.trans e127 E108
    show ov_R u d ov_m282 49 [(0, ov_r 90), (1, ov_i x), (2, ov_i y), (3, ov_i s), (4, ov_i v45)] [ov_i v115] z130 h131 (P_Mo_gap_90 F z h x y s)
    have f145 : (h131 90 2) = (h93 90 2) ∧ (h131 90 7) = (h93 90 7) ∧ (h131 90 8) = (h93 90 8) ∧ (h131 90 13) = (h93 90 13) ∧ (h131 90 20) = (h93 90 20) ∧ (h131 90 22) = (h93 90 22) ∧ (h131 90 25) = (h93 90 25) ∧ (h131 90 26) = (h93 90 26) ∧ (h131 90 28) = (h93 90 28) ∧ (h131 90 29) = (h93 90 29) ∧ (h131 90 30) = (h93 90 30) ∧ (h131 90 34) = (h93 90 34) ∧ -1 ≤ v115 ∧ v115 ≤ 89000 * (13 - x - y) := f114
    clear f114
    rw [show h93 103 = h 103 from E104] at y128
    rw [show h93 96 = h 96 from E99] at y128
    rw [show h93 97 = h 97 from E100] at y128
    rw [show h93 98 = h 98 from E101] at y128
    have y128_ : ov_MI (h 96) (h 103) (h 97) (h 98) (3 : Int) ((-1) : Int) (0 : Int) (h93 90 25) (h131 105) (h131 106) := y128
    rw [show h93 103 = h 103 from E104] at y129
    rw [show h93 96 = h 96 from E99] at y129
    rw [show h93 97 = h 97 from E100] at y129
    rw [show h93 98 = h 98 from E101] at y129
    have y129_ : (0 ≤ v115 ↔ ov_go (h 96) (h 103) (h 97) (h 98) (3 : Int) ((-1) : Int) (0 : Int) x y (s % (h 96 9))) := y129
    refine ov_blk (ls2 := [(0, ov_r 90), (1, ov_i x), (2, ov_i y), (3, ov_i s), (4, ov_i v45), (5, ov_i v115)]) (st2 := [ov_i v45]) (pc2 := 53) b_282_49_2 rfl rfl ?_
    refine ov_iflt (tgt := 61) d_282_53 (by decide) (by omega) (fun c146 => ?_) (fun c146 => ?_)
    · skip
      refine ov_blk (ls2 := [(0, ov_r 90), (1, ov_i x), (2, ov_i y), (3, ov_i s), (4, ov_i v45), (5, ov_i v115)]) (st2 := [ov_i (-1)]) (pc2 := 62) b_282_61_1 rfl rfl ?_
      refine ov_goto (tgt := 70) d_282_62 (by decide) ?_
      have pm147 : ov_PM (h 96) (h 103) (h 97) (h 98) (h131 105) (h131 106) (h131 90 22) (h131 90 25) (h131 90 26) (h131 90 28) (h131 90 29) (h131 90 30) := ov_PM_mi y128_ (by omega) (by omega) (by omega) (by omega) (by omega) (by omega)
      exact ov_reti (st := []) d_282_70 rfl ⟨_, rfl, I132, (by show (h131 90 2) = (h 90 2) ∧ (h131 90 7) = (h 90 7) ∧ (h131 90 8) = (h 90 8) ∧ (h131 90 13) = (h 90 13) ∧ (h131 90 20) = (h 90 20) ∧ (h131 90 22) = (h 90 22) ∧ (h131 90 34) = (h 90 34) ∧ (h 90 25) ≤ (h131 90 25) ∧ (h131 90 25) ≤ (h 90 25) + 2 ∧ -1200000 ≤ (-1) ∧ (-1) ≤ 1200000; omega), E133, E134, E135, E136, E137, E138, E139, E140, E141, E142, E143, E144, pm147⟩
    · skip
      refine ov_blk (ls2 := [(0, ov_r 90), (1, ov_i x), (2, ov_i y), (3, ov_i s), (4, ov_i v45), (5, ov_i v115)]) (st2 := [ov_i v115]) (pc2 := 58) b_282_56_1 rfl rfl ?_
      refine ov_ifge (tgt := 65) d_282_58 (by decide) (by omega) (fun c148 => ?_) (fun c148 => ?_)
      · skip
        refine ov_blk (ls2 := [(0, ov_r 90), (1, ov_i x), (2, ov_i y), (3, ov_i s), (4, ov_i v45), (5, ov_i v115)]) (st2 := [ov_i (v45 - v115)]) (pc2 := 70) b_282_65_3 rfl rfl ?_
        have pm149 : ov_PM (h 96) (h 103) (h 97) (h 98) (h131 105) (h131 106) (h131 90 22) (h131 90 25) (h131 90 26) (h131 90 28) (h131 90 29) (h131 90 30) := ov_PM_mi y128_ (by omega) (by omega) (by omega) (by omega) (by omega) (by omega)
        exact ov_reti (st := []) d_282_70 rfl ⟨_, rfl, I132, (by show (h131 90 2) = (h 90 2) ∧ (h131 90 7) = (h 90 7) ∧ (h131 90 8) = (h 90 8) ∧ (h131 90 13) = (h 90 13) ∧ (h131 90 20) = (h 90 20) ∧ (h131 90 22) = (h 90 22) ∧ (h131 90 34) = (h 90 34) ∧ (h 90 25) ≤ (h131 90 25) ∧ (h131 90 25) ≤ (h 90 25) + 2 ∧ -1200000 ≤ (v45 - v115) ∧ (v45 - v115) ≤ 1200000; omega), E133, E134, E135, E136, E137, E138, E139, E140, E141, E142, E143, E144, pm149⟩
      · skip
        refine ov_blk (ls2 := [(0, ov_r 90), (1, ov_i x), (2, ov_i y), (3, ov_i s), (4, ov_i v45), (5, ov_i v115)]) (st2 := [ov_i (-1)]) (pc2 := 62) b_282_61_1 rfl rfl ?_
        refine ov_goto (tgt := 70) d_282_62 (by decide) ?_
        have pm150 : ov_PM (h 96) (h 103) (h 97) (h 98) (h131 105) (h131 106) (h131 90 22) (h131 90 25) (h131 90 26) (h131 90 28) (h131 90 29) (h131 90 30) := ov_PM_mi y128_ (by omega) (by omega) (by omega) (by omega) (by omega) (by omega)
        exact ov_reti (st := []) d_282_70 rfl ⟨_, rfl, I132, (by show (h131 90 2) = (h 90 2) ∧ (h131 90 7) = (h 90 7) ∧ (h131 90 8) = (h 90 8) ∧ (h131 90 13) = (h 90 13) ∧ (h131 90 20) = (h 90 20) ∧ (h131 90 22) = (h 90 22) ∧ (h131 90 34) = (h 90 34) ∧ (h 90 25) ≤ (h131 90 25) ∧ (h131 90 25) ≤ (h 90 25) + 2 ∧ -1200000 ≤ (-1) ∧ (-1) ≤ 1200000; omega), E133, E134, E135, E136, E137, E138, E139, E140, E141, E142, E143, E144, pm150⟩
  · skip
    have f4_ : v3 = 0 := by omega
    clear f4
    refine ov_blk (ls2 := [(0, ov_r 90), (1, ov_i x), (2, ov_i y), (3, ov_i s)]) (st2 := [ov_i (-1)]) (pc2 := 16) b_282_15_1 rfl rfl ?_
    exact ov_reti (st := []) d_282_16 rfl ⟨_, rfl, I1, ⟨rfl, rfl, rfl, rfl, rfl, rfl, rfl, (by show (h 90 25) ≤ (h 90 25) ∧ (h 90 25) ≤ (h 90 25) + 2 ∧ -1200000 ≤ (-1) ∧ (-1) ≤ 1200000; omega)⟩, rfl, rfl, rfl, rfl, rfl, rfl, rfl, rfl, rfl, rfl, rfl, rfl, PM⟩
abbrev P_Mo_watch_90 (F : ov_H × ov_Z) (z : ov_Z) (h : ov_H) (x : Int) (y : Int) (s : Int) : Option ov_V → ov_Z → ov_H → Prop := fun r0 z' h' => ∃ r : Int, r0 = some (ov_i r) ∧ ov_N F z' h' ∧ ((h' 90 2) = (h 90 2) ∧ (h' 90 7) = (h 90 7) ∧ (h' 90 8) = (h 90 8) ∧ (h' 90 13) = (h 90 13) ∧ (h' 90 20) = (h 90 20) ∧ (h' 90 22) = (h 90 22) ∧ (h' 90 34) = (h 90 34) ∧ (h 90 25) ≤ (h' 90 25) ∧ (h' 90 25) ≤ (h 90 25) + 61 ∧ -2147483648 ≤ r ∧ r ≤ 2147483647) ∧ h' 92 = h 92 ∧ h' 93 = h 93 ∧ h' 94 = h 94 ∧ h' 95 = h 95 ∧ h' 96 = h 96 ∧ h' 97 = h 97 ∧ h' 98 = h 98 ∧ h' 99 = h 99 ∧ h' 100 = h 100 ∧ h' 103 = h 103 ∧ h' 109 = h 109 ∧ h' 114 = h 114 ∧ (ov_PM (h 96) (h 103) (h 97) (h 98) (h' 105) (h' 106) (h' 90 22) (h' 90 25) (h' 90 26) (h' 90 28) (h' 90 29) (h' 90 30))
set_option maxHeartbeats 4000000 in
theorem c_Mo_watch_90 {u : ov_U} {F : ov_H × ov_Z} {z : ov_Z} {h : ov_H} (d : Nat) (hd : 92 ≤ d) (U : ov_cap u) (I : ov_N F z h) (x : Int) (y : Int) (s : Int) (g_x : ov_g x) (g_y : ov_g y) (g_s : ov_g s) (p0 : 0 ≤ (h 90 25) ∧ (h 90 25) ≤ 1500000000) (W : ov_WT (h 96)) (CD : ov_CD (h 96) (h 97) (h 98)) (PM : ov_PM (h 96) (h 103) (h 97) (h 98) (h 105) (h 106) (h 90 22) (h 90 25) (h 90 26) (h 90 28) (h 90 29) (h 90 30)) : ov_T u d ov_m283 [ov_r 90, ov_i x, ov_i y, ov_i s] z h (P_Mo_watch_90 F z h x y s) := by
  refine ov_en rfl (Nat.le_of_ble_eq_true rfl) ?_
  show ov_R u d ov_m283 0 [(0, ov_r 90), (1, ov_i x), (2, ov_i y), (3, ov_i s)] [] z h (P_Mo_watch_90 F z h x y s)
  have t0 := t96_0 I
  have t1 := t96_1 I
  have t8 := t96_8 I
  have t9 := t96_9 I
  refine ov_blk (ls2 := [(0, ov_r 90), (1, ov_i x), (2, ov_i y), (3, ov_i s)]) (st2 := [ov_i 0, ov_r 90]) (pc2 := 2) b_283_0_2 rfl rfl ?_
  refine ov_putf (x := 0) d_283_2 fl_Mo_1 (zb_90 I) (zs_90 I) rfl nk_0 rfl ?_
  have I1 := up_90_0 (x := 0) I (by omega)
  refine ov_blk (ls2 := [(0, ov_r 90), (1, ov_i x), (2, ov_i y), (3, ov_i s)]) (st2 := [ov_i s, ov_i y, ov_i x, ov_r 90]) (pc2 := 9) b_283_5_4 rfl rfl ?_
  refine ov_cV (as := [ov_i x, ov_i y, ov_i s]) (st := []) (d2 := d - 1) d_283_9 lk_Mo_386 rfl (Nat.le_of_ble_eq_true rfl) (c := 1) (zb_90 I1) (zs_90 I1) ⟨by decide, rfl⟩ (by omega) (c_Mo_isPlace_90 (d - 1) (by omega) U I1 x y s (by omega) (by omega) (by omega)) ?_
  rintro _ _ _ ⟨v3, rfl, rfl, rfl, f2⟩
  show ov_R u d ov_m283 12 [(0, ov_r 90), (1, ov_i x), (2, ov_i y), (3, ov_i s)] [ov_i v3] z (ov_up h 90 0 0) (P_Mo_watch_90 F z h x y s)
  have f4 : (v3 = 0 ∨ v3 = 1) ∧ (v3 = 1 → 0 ≤ x ∧ x ≤ 5 ∧ 0 ≤ y ∧ y ≤ 8 ∧ x < (h 96 0) ∧ y < (h 96 1) ∧ 0 ≤ s ∧ s ≤ 1000000) := f2
  clear f2
  refine ov_ifeq (tgt := 34) d_283_12 (by decide) (by omega) (fun c5 => ?_) (fun c5 => ?_)
  · skip
    have f4_ : v3 = 0 := by omega
    clear f4
    refine ov_blk (ls2 := [(0, ov_r 90), (1, ov_i x), (2, ov_i y), (3, ov_i s)]) (st2 := [ov_i (-1)]) (pc2 := 35) b_283_34_1 rfl rfl ?_
    exact ov_reti (st := []) d_283_35 rfl ⟨_, rfl, I1, ⟨rfl, rfl, rfl, rfl, rfl, rfl, rfl, (by show (h 90 25) ≤ (h 90 25) ∧ (h 90 25) ≤ (h 90 25) + 61 ∧ -2147483648 ≤ (-1) ∧ (-1) ≤ 2147483647; omega)⟩, rfl, rfl, rfl, rfl, rfl, rfl, rfl, rfl, rfl, rfl, rfl, rfl, PM⟩
  · skip
    have f4_ : v3 = 1 := by omega
    have f6 : 0 ≤ x ∧ x ≤ 5 ∧ 0 ≤ y ∧ y ≤ 8 ∧ x < (h 96 0) ∧ y < (h 96 1) ∧ 0 ≤ s ∧ s ≤ 1000000 := f4.2 (by omega)
    clear f4
    refine ov_blk (ls2 := [(0, ov_r 90), (1, ov_i x), (2, ov_i y), (3, ov_i s)]) (st2 := [ov_i y, ov_i x, ov_r 90]) (pc2 := 18) b_283_15_3 rfl rfl ?_
    refine ov_cV (as := [ov_i x, ov_i y]) (st := []) (d2 := d - 1) d_283_18 lk_Mo_282 rfl (Nat.le_of_ble_eq_true rfl) (c := 1) (zb_90 I1) (zs_90 I1) ⟨by decide, rfl⟩ (by omega) (c_Mo_kindAt_90 (d - 1) (by omega) U I1 x y (by omega) (by omega) (by omega)) ?_
    rintro _ _ _ ⟨v8, rfl, rfl, rfl, f7⟩
    show ov_R u d ov_m283 21 [(0, ov_r 90), (1, ov_i x), (2, ov_i y), (3, ov_i s)] [ov_i v8] z (ov_up h 90 0 0) (P_Mo_watch_90 F z h x y s)
    have f9 : v8 = (h 96 (10 + 4 * (6 * y + x))) - 1 ∧ -1 ≤ v8 ∧ v8 ≤ 3 := f7
    clear f7
    refine ov_blk (ls2 := [(0, ov_r 90), (1, ov_i x), (2, ov_i y), (3, ov_i s)]) (st2 := [ov_i 1, ov_i v8]) (pc2 := 22) b_283_21_1 rfl rfl ?_
    refine ov_icne (tgt := 34) d_283_22 (by decide) (by omega) (by omega) (fun c10 => ?_) (fun c10 => ?_)
    · skip
      refine ov_blk (ls2 := [(0, ov_r 90), (1, ov_i x), (2, ov_i y), (3, ov_i s)]) (st2 := [ov_i (-1)]) (pc2 := 35) b_283_34_1 rfl rfl ?_
      exact ov_reti (st := []) d_283_35 rfl ⟨_, rfl, I1, ⟨rfl, rfl, rfl, rfl, rfl, rfl, rfl, (by show (h 90 25) ≤ (h 90 25) ∧ (h 90 25) ≤ (h 90 25) + 61 ∧ -2147483648 ≤ (-1) ∧ (-1) ≤ 2147483647; omega)⟩, rfl, rfl, rfl, rfl, rfl, rfl, rfl, rfl, rfl, rfl, rfl, rfl, PM⟩
    · skip
      refine ov_blk (ls2 := [(0, ov_r 90), (1, ov_i x), (2, ov_i y), (3, ov_i s)]) (st2 := [ov_i y, ov_i x, ov_r 90]) (pc2 := 28) b_283_25_3 rfl rfl ?_
      refine ov_cV (as := [ov_i x, ov_i y]) (st := []) (d2 := d - 1) d_283_28 lk_Mo_302 rfl (Nat.le_of_ble_eq_true rfl) (c := 1) (zb_90 I1) (zs_90 I1) ⟨by decide, rfl⟩ (by omega) (c_Mo_isKnown_90 (d - 1) (by omega) U I1 x y (by omega) (by omega) (by omega)) ?_
      rintro _ _ _ ⟨v12, rfl, rfl, rfl, f11⟩
      show ov_R u d ov_m283 31 [(0, ov_r 90), (1, ov_i x), (2, ov_i y), (3, ov_i s)] [ov_i v12] z (ov_up h 90 0 0) (P_Mo_watch_90 F z h x y s)
      have f13 : (v12 = 0 ∨ v12 = 1) ∧ (v12 = 1 → ((h 96 (10 + 4 * (6 * y + x))) = 2 ∧ (h 103 (4 + 6 * y + x)) = 1)) ∧ (v12 = 0 → ¬ ((h 96 (10 + 4 * (6 * y + x))) = 2 ∧ (h 103 (4 + 6 * y + x)) = 1)) := f11
      clear f11
      refine ov_ifeq (tgt := 36) d_283_31 (by decide) (by omega) (fun c14 => ?_) (fun c14 => ?_)
      · skip
        have f13_ : v12 = 0 := by omega
        have f15 : ¬ ((h 96 (10 + 4 * (6 * y + x))) = 2 ∧ (h 103 (4 + 6 * y + x)) = 1) := f13.2.2 (by omega)
        clear f13
        have w1 := ov_WT_at W (c := 6 * y + x) (by omega)
        refine ov_blk (ls2 := [(0, ov_r 90), (1, ov_i x), (2, ov_i y), (3, ov_i s)]) (st2 := [ov_i 0, ov_i (-1), ov_i 0, ov_i 3, ov_r 90]) (pc2 := 41) b_283_36_5 rfl rfl ?_
        refine ov_cV (as := [ov_i 3, ov_i 0, ov_i (-1), ov_i 0]) (st := []) (d2 := d - 1) d_283_41 lk_Mo_389 rfl (Nat.le_of_ble_eq_true rfl) (c := 1) (zb_90 I1) (zs_90 I1) ⟨by decide, rfl⟩ (by omega) (c_Mo_asks_90 (d - 1) (by omega) U I1 3 0 (-1) 0 (by omega) (by omega) (by omega) (by omega) (by omega) (by omega) (by omega) (by show 0 ≤ (h 90 25) ∧ (h 90 25) ≤ 2000000000; omega)) ?_
        rintro _ z31 h32 ⟨rfl, I33, f16, e17, e18, e19, e20, e21, e22, e23, e24, e25, e26, e27, e28, e29, e30⟩
        have E34 : h32 92 = h 92 := e17
        have E35 : h32 93 = h 93 := e18
        have E36 : h32 94 = h 94 := e19
        have E37 : h32 95 = h 95 := e20
        have E38 : h32 96 = h 96 := e21
        have E39 : h32 97 = h 97 := e22
        have E40 : h32 98 = h 98 := e23
        have E41 : h32 99 = h 99 := e24
        have E42 : h32 100 = h 100 := e25
        have E43 : h32 103 = h 103 := e26
        have E44 : h32 105 = h 105 := e27
        have E45 : h32 106 = h 106 := e28
        have E46 : h32 109 = h 109 := e29
        have E47 : h32 114 = h 114 := e30
        show ov_R u d ov_m283 44 [(0, ov_r 90), (1, ov_i x), (2, ov_i y), (3, ov_i s)] [] z31 h32 (P_Mo_watch_90 F z h x y s)
        have f48 : (h32 90 2) = (h 90 2) ∧ (h32 90 7) = (h 90 7) ∧ (h32 90 8) = (h 90 8) ∧ (h32 90 13) = (h 90 13) ∧ (h32 90 20) = (h 90 20) ∧ (h32 90 22) = (h 90 22) ∧ (h32 90 34) = (h 90 34) ∧ (h32 90 26) = (3 : Int) ∧ (h32 90 27) = (0 : Int) ∧ (h32 90 28) = (h 90 22) ∧ (h32 90 29) = ((-1) : Int) ∧ (h32 90 30) = (0 : Int) ∧ (((h32 90 25) = (h 90 25) + 1) ∨ ((h32 90 25) = (h 90 25) ∧ (h 90 26) = (3 : Int) ∧ (h 90 27) = (0 : Int) ∧ (h 90 28) = (h 90 22) ∧ (h 90 29) = ((-1) : Int) ∧ (h 90 30) = (0 : Int))) := f16
        clear f16
        have mi49 : ov_MI (h 96) (h 103) (h 97) (h 98) 3 (-1) 0 (h32 90 25) (h 105) (h 106) := ov_PM_ask PM (by omega)
        refine ov_blk (ls2 := [(0, ov_r 90), (1, ov_i x), (2, ov_i y), (3, ov_i s)]) (st2 := [ov_i s, ov_i 0, ov_i 0, ov_r 90]) (pc2 := 48) b_283_44_4 rfl rfl ?_
        have cf50 : h32 96 (0) = h 96 (0) := congrFun E38 (0)
        have cf51 : h32 96 (1) = h 96 (1) := congrFun E38 (1)
        have cf52 : h32 96 (8) = h 96 (8) := congrFun E38 (8)
        refine ov_cV (as := [ov_i 0, ov_i 0, ov_i s]) (st := []) (d2 := d - 1) d_283_48 lk_Mo_377 rfl (Nat.le_of_ble_eq_true rfl) (c := 1) (zb_90 I33) (zs_90 I33) ⟨by decide, rfl⟩ (by omega) (c_Mo_worthFrom_90_all 3 ((-1)) 0 ((h32 90 25)) (Int.toNat (13 - (0) - (0))) (d - 1) (by omega) U I33 0 0 s (by omega) (by omega) (by omega) (by omega) (by show (0 : Int) < (h32 96 0) ∧ (0 : Int) < (h32 96 1); omega) (by omega) (by omega) (by show (h32 90 26) = (3 : Int); omega) (by show (h32 90 29) = ((-1) : Int); omega) (by show (h32 90 30) = (0 : Int); omega) (by show (h32 90 25) = (h32 90 25); omega) (by show 0 ≤ (3 : Int) ∧ (3 : Int) ≤ 3 + (h32 96 8); omega) (by rw [show h32 96 = h 96 from E38]; exact W) (by rw [show h32 96 = h 96 from E38, show h32 97 = h 97 from E39, show h32 98 = h 98 from E40]; exact CD) (by rw [show h32 96 = h 96 from E38, show h32 103 = h 103 from E43, show h32 97 = h 97 from E39, show h32 98 = h 98 from E40, show h32 105 = h 105 from E44, show h32 106 = h 106 from E45]; exact mi49)) ?_
        rintro _ z69 h70 ⟨v54, rfl, I71, f53, e55, e56, e57, e58, e59, e60, e61, e62, e63, e64, e65, e66, y67, y68⟩
        have E72 : h70 92 = h 92 := Eq.trans e55 E34
        have E73 : h70 93 = h 93 := Eq.trans e56 E35
        have E74 : h70 94 = h 94 := Eq.trans e57 E36
        have E75 : h70 95 = h 95 := Eq.trans e58 E37
        have E76 : h70 96 = h 96 := Eq.trans e59 E38
        have E77 : h70 97 = h 97 := Eq.trans e60 E39
        have E78 : h70 98 = h 98 := Eq.trans e61 E40
        have E79 : h70 99 = h 99 := Eq.trans e62 E41
        have E80 : h70 100 = h 100 := Eq.trans e63 E42
        have E81 : h70 103 = h 103 := Eq.trans e64 E43
        have E82 : h70 109 = h 109 := Eq.trans e65 E46
        have E83 : h70 114 = h 114 := Eq.trans e66 E47
        show ov_R u d ov_m283 51 [(0, ov_r 90), (1, ov_i x), (2, ov_i y), (3, ov_i s)] [ov_i v54] z69 h70 (P_Mo_watch_90 F z h x y s)
        have f84 : (h70 90 2) = (h32 90 2) ∧ (h70 90 7) = (h32 90 7) ∧ (h70 90 8) = (h32 90 8) ∧ (h70 90 13) = (h32 90 13) ∧ (h70 90 20) = (h32 90 20) ∧ (h70 90 22) = (h32 90 22) ∧ (h70 90 25) = (h32 90 25) ∧ (h70 90 26) = (h32 90 26) ∧ (h70 90 28) = (h32 90 28) ∧ (h70 90 29) = (h32 90 29) ∧ (h70 90 30) = (h32 90 30) ∧ (h70 90 34) = (h32 90 34) ∧ -1 ≤ v54 ∧ v54 ≤ 89000 * (13 - (0 : Int) - (0 : Int)) := f53
        clear f53
        rw [show h32 103 = h 103 from E43] at y67
        rw [show h32 96 = h 96 from E38] at y67
        rw [show h32 97 = h 97 from E39] at y67
        rw [show h32 98 = h 98 from E40] at y67
        have y67_ : ov_MI (h 96) (h 103) (h 97) (h 98) (3 : Int) ((-1) : Int) (0 : Int) (h32 90 25) (h70 105) (h70 106) := y67
        rw [show h32 103 = h 103 from E43] at y68
        rw [show h32 96 = h 96 from E38] at y68
        rw [show h32 97 = h 97 from E39] at y68
        rw [show h32 98 = h 98 from E40] at y68
        have y68_ : (0 ≤ v54 ↔ ov_go (h 96) (h 103) (h 97) (h 98) (3 : Int) ((-1) : Int) (0 : Int) (0 : Int) (0 : Int) (s % (h 96 9))) := y68
        refine ov_blk (ls2 := [(0, ov_r 90), (1, ov_i x), (2, ov_i y), (3, ov_i s), (4, ov_i v54)]) (st2 := []) (pc2 := 53) b_283_51_1 rfl rfl ?_
        have pm85 : ov_PM (h 96) (h 103) (h 97) (h 98) (h70 105) (h70 106) (h70 90 22) (h70 90 25) (h70 90 26) (h70 90 28) (h70 90 29) (h70 90 30) := ov_PM_mi y67_ (by omega) (by omega) (by omega) (by omega) (by omega) (by omega)
        refine ov_blk (ls2 := [(0, ov_r 90), (1, ov_i x), (2, ov_i y), (3, ov_i s), (4, ov_i v54), (5, ov_l 0), (7, ov_i 0)]) (st2 := []) (pc2 := 59) b_283_53_4 rfl rfl ?_
        have L89 : ∀ (n86 : Nat) (x5 : Int) (x7 : Int) (z90 : ov_Z) (h91 : ov_H) (I92 : ov_N F z90 h91) (E93 : h91 92 = h 92) (E94 : h91 93 = h 93) (E95 : h91 94 = h 94) (E96 : h91 95 = h 95) (E97 : h91 96 = h 96) (E98 : h91 97 = h 97) (E99 : h91 98 = h 98) (E100 : h91 99 = h 99) (E101 : h91 100 = h 100) (E102 : h91 103 = h 103) (E103 : h91 109 = h 109) (E104 : h91 114 = h 114) (xp : ov_PM (h 96) (h 103) (h 97) (h 98) (h91 105) (h91 106) (h91 90 22) (h91 90 25) (h91 90 26) (h91 90 28) (h91 90 29) (h91 90 30)) (q88 : 0 ≤ x7 ∧ x7 ≤ 60 ∧ -60 ≤ x5 ∧ x5 ≤ 1200000 * x7 ∧ -x7 ≤ x5 ∧ -1 ≤ v54 ∧ v54 ≤ 1200000 ∧ (h 90 25) ≤ (h91 90 25) ∧ (h91 90 25) ≤ (h 90 25) + 1 + x7 ∧ (h91 90 22) = (h 90 22) ∧ (h91 90 2) = (h70 90 2) ∧ (h91 90 7) = (h70 90 7) ∧ (h91 90 8) = (h70 90 8) ∧ (h91 90 13) = (h70 90 13) ∧ (h91 90 20) = (h70 90 20) ∧ (h91 90 22) = (h70 90 22) ∧ (h91 90 34) = (h70 90 34)), 60 - x7 < (n86 : Int) → ov_R u d ov_m283 59 [(0, ov_r 90), (1, ov_i x), (2, ov_i y), (3, ov_i s), (4, ov_i v54), (5, ov_l x5), (7, ov_i x7)] [] z90 h91 (P_Mo_watch_90 F z h x y s) := by
          intro n86
          induction n86 with
          | zero =>
            intro x5 x7 z90 h91 I92 E93 E94 E95 E96 E97 E98 E99 E100 E101 E102 E103 E104 xp q88 hn105
            exact absurd hn105 (by omega)
          | succ n86 ih87 =>
            intro x5 x7 z90 h91 I92 E93 E94 E95 E96 E97 E98 E99 E100 E101 E102 E103 E104 xp q88 hn105
            refine ov_blk (ls2 := [(0, ov_r 90), (1, ov_i x), (2, ov_i y), (3, ov_i s), (4, ov_i v54), (5, ov_l x5), (7, ov_i x7)]) (st2 := [ov_i 1, ov_i y, ov_i x, ov_r 90, ov_i x7]) (pc2 := 65) b_283_59_5 rfl rfl ?_
            refine ov_cV (as := [ov_i x, ov_i y, ov_i 1]) (st := [ov_i x7]) (d2 := d - 1) d_283_65 lk_Mo_289 rfl (Nat.le_of_ble_eq_true rfl) (c := 1) (zb_90 I92) (zs_90 I92) ⟨by decide, rfl⟩ (by omega) (c_Mo_lightAt_90 (d - 1) (by omega) U I92 x y 1 (by omega) (by omega) (by omega) (by omega) (by omega)) ?_
            rintro _ _ _ ⟨v107, rfl, rfl, rfl, f106⟩
            show ov_R u d ov_m283 68 [(0, ov_r 90), (1, ov_i x), (2, ov_i y), (3, ov_i s), (4, ov_i v54), (5, ov_l x5), (7, ov_i x7)] [ov_i v107, ov_i x7] z90 h91 (P_Mo_watch_90 F z h x y s)
            rw [show h91 96 = h 96 from E97] at f106
            have f108 : v107 = (h 96 (10 + 4 * (6 * y + x) + (1 : Int))) ∧ ((1 : Int) = 1 → 0 ≤ v107 ∧ v107 ≤ 60) ∧ ((1 : Int) = 2 → 0 ≤ v107 ∧ v107 ≤ 59) ∧ ((1 : Int) = 3 → 0 ≤ v107 ∧ v107 ≤ 60) := f106
            clear f106
            refine ov_icge (tgt := 109) d_283_68 (by decide) (by omega) (by omega) (fun c109 => ?_) (fun c109 => ?_)
            · skip
              refine ov_blk (ls2 := [(0, ov_r 90), (1, ov_i x), (2, ov_i y), (3, ov_i s), (4, ov_i v54), (5, ov_l x5), (7, ov_i x7)]) (st2 := [ov_i v54]) (pc2 := 111) b_283_109_1 rfl rfl ?_
              refine ov_ifge (tgt := 118) d_283_111 (by decide) (by omega) (fun c110 => ?_) (fun c110 => ?_)
              · skip
                refine ov_blk (ls2 := [(0, ov_r 90), (1, ov_i x), (2, ov_i y), (3, ov_i s), (4, ov_i v54), (5, ov_l x5), (7, ov_i x7)]) (st2 := [ov_i 1, ov_i y, ov_i x, ov_r 90, ov_l x5, ov_i v54]) (pc2 := 126) b_283_118_6 rfl rfl ?_
                refine ov_cV (as := [ov_i x, ov_i y, ov_i 1]) (st := [ov_l x5, ov_i v54]) (d2 := d - 1) d_283_126 lk_Mo_289 rfl (Nat.le_of_ble_eq_true rfl) (c := 1) (zb_90 I92) (zs_90 I92) ⟨by decide, rfl⟩ (by omega) (c_Mo_lightAt_90 (d - 1) (by omega) U I92 x y 1 (by omega) (by omega) (by omega) (by omega) (by omega)) ?_
                rintro _ _ _ ⟨v112, rfl, rfl, rfl, f111⟩
                show ov_R u d ov_m283 129 [(0, ov_r 90), (1, ov_i x), (2, ov_i y), (3, ov_i s), (4, ov_i v54), (5, ov_l x5), (7, ov_i x7)] [ov_i v112, ov_l x5, ov_i v54] z90 h91 (P_Mo_watch_90 F z h x y s)
                rw [show h91 96 = h 96 from E97] at f111
                have f113 : v112 = (h 96 (10 + 4 * (6 * y + x) + (1 : Int))) ∧ ((1 : Int) = 1 → 0 ≤ v112 ∧ v112 ≤ 60) ∧ ((1 : Int) = 2 → 0 ≤ v112 ∧ v112 ≤ 59) ∧ ((1 : Int) = 3 → 0 ≤ v112 ∧ v112 ≤ 60) := f111
                clear f111
                refine ov_blk (ls2 := [(0, ov_r 90), (1, ov_i x), (2, ov_i y), (3, ov_i s), (4, ov_i v54), (5, ov_l x5), (7, ov_i x7)]) (st2 := [ov_l (ov_w v112), ov_l x5, ov_i v54]) (pc2 := 130) b_283_129_1 rfl rfl ?_
                have g114 := ov_wg v112
                have g115 := ov_wq v112
                have xd := ov_tds (a := x5) (b := (ov_w v112)) (by omega)
                refine ov_ldiv d_283_130 (by omega) (by omega) (by omega) ?_
                refine ov_blk (ls2 := [(0, ov_r 90), (1, ov_i x), (2, ov_i y), (3, ov_i s), (4, ov_i v54), (5, ov_l x5), (7, ov_i x7)]) (st2 := [ov_i (Int.tdiv x5 (ov_w v112)), ov_i v54]) (pc2 := 132) b_283_131_1 rfl rfl ?_
                refine ov_blk (ls2 := [(0, ov_r 90), (1, ov_i x), (2, ov_i y), (3, ov_i s), (4, ov_i v54), (5, ov_l x5), (7, ov_i x7)]) (st2 := [ov_i (v54 - (Int.tdiv x5 (ov_w v112)))]) (pc2 := 133) b_283_132_1 rfl rfl ?_
                exact ov_reti (st := []) d_283_133 rfl ⟨_, rfl, I92, (by show (h91 90 2) = (h 90 2) ∧ (h91 90 7) = (h 90 7) ∧ (h91 90 8) = (h 90 8) ∧ (h91 90 13) = (h 90 13) ∧ (h91 90 20) = (h 90 20) ∧ (h91 90 22) = (h 90 22) ∧ (h91 90 34) = (h 90 34) ∧ (h 90 25) ≤ (h91 90 25) ∧ (h91 90 25) ≤ (h 90 25) + 61 ∧ -2147483648 ≤ (v54 - (Int.tdiv x5 (ov_w v112))) ∧ (v54 - (Int.tdiv x5 (ov_w v112))) ≤ 2147483647; omega), E93, E94, E95, E96, E97, E98, E99, E100, E101, E102, E103, E104, xp⟩
              · skip
                refine ov_blk (ls2 := [(0, ov_r 90), (1, ov_i x), (2, ov_i y), (3, ov_i s), (4, ov_i v54), (5, ov_l x5), (7, ov_i x7)]) (st2 := [ov_i (-1)]) (pc2 := 115) b_283_114_1 rfl rfl ?_
                refine ov_goto (tgt := 133) d_283_115 (by decide) ?_
                exact ov_reti (st := []) d_283_133 rfl ⟨_, rfl, I92, (by show (h91 90 2) = (h 90 2) ∧ (h91 90 7) = (h 90 7) ∧ (h91 90 8) = (h 90 8) ∧ (h91 90 13) = (h 90 13) ∧ (h91 90 20) = (h 90 20) ∧ (h91 90 22) = (h 90 22) ∧ (h91 90 34) = (h 90 34) ∧ (h 90 25) ≤ (h91 90 25) ∧ (h91 90 25) ≤ (h 90 25) + 61 ∧ -2147483648 ≤ (-1) ∧ (-1) ≤ 2147483647; omega), E93, E94, E95, E96, E97, E98, E99, E100, E101, E102, E103, E104, xp⟩
            · skip
              refine ov_blk (ls2 := [(0, ov_r 90), (1, ov_i x), (2, ov_i y), (3, ov_i s), (4, ov_i v54), (5, ov_l x5), (7, ov_i x7)]) (st2 := [ov_i v54]) (pc2 := 73) b_283_71_1 rfl rfl ?_
              refine ov_iflt (tgt := 109) d_283_73 (by decide) (by omega) (fun c116 => ?_) (fun c116 => ?_)
              · skip
                refine ov_blk (ls2 := [(0, ov_r 90), (1, ov_i x), (2, ov_i y), (3, ov_i s), (4, ov_i v54), (5, ov_l x5), (7, ov_i x7)]) (st2 := [ov_i v54]) (pc2 := 111) b_283_109_1 rfl rfl ?_
                refine ov_ifge (tgt := 118) d_283_111 (by decide) (by omega) (fun c117 => ?_) (fun c117 => ?_)
                · omega
                · skip
                  refine ov_blk (ls2 := [(0, ov_r 90), (1, ov_i x), (2, ov_i y), (3, ov_i s), (4, ov_i v54), (5, ov_l x5), (7, ov_i x7)]) (st2 := [ov_i (-1)]) (pc2 := 115) b_283_114_1 rfl rfl ?_
                  refine ov_goto (tgt := 133) d_283_115 (by decide) ?_
                  exact ov_reti (st := []) d_283_133 rfl ⟨_, rfl, I92, (by show (h91 90 2) = (h 90 2) ∧ (h91 90 7) = (h 90 7) ∧ (h91 90 8) = (h 90 8) ∧ (h91 90 13) = (h 90 13) ∧ (h91 90 20) = (h 90 20) ∧ (h91 90 22) = (h 90 22) ∧ (h91 90 34) = (h 90 34) ∧ (h 90 25) ≤ (h91 90 25) ∧ (h91 90 25) ≤ (h 90 25) + 61 ∧ -2147483648 ≤ (-1) ∧ (-1) ≤ 2147483647; omega), E93, E94, E95, E96, E97, E98, E99, E100, E101, E102, E103, E104, xp⟩
              · skip
                refine ov_blk (ls2 := [(0, ov_r 90), (1, ov_i x), (2, ov_i y), (3, ov_i s), (4, ov_i v54), (5, ov_l x5), (7, ov_i x7)]) (st2 := [ov_i x7, ov_i ((6 * y) + x), ov_i 0, ov_i 3, ov_r 90]) (pc2 := 87) b_283_76_9 rfl rfl ?_
                refine ov_cV (as := [ov_i 3, ov_i 0, ov_i ((6 * y) + x), ov_i x7]) (st := []) (d2 := d - 1) d_283_87 lk_Mo_389 rfl (Nat.le_of_ble_eq_true rfl) (c := 1) (zb_90 I92) (zs_90 I92) ⟨by decide, rfl⟩ (by omega) (c_Mo_asks_90 (d - 1) (by omega) U I92 3 0 ((6 * y) + x) x7 (by omega) (by omega) (by omega) (by omega) (by omega) (by omega) (by omega) (by show 0 ≤ (h91 90 25) ∧ (h91 90 25) ≤ 2000000000; omega)) ?_
                rintro _ z133 h134 ⟨rfl, I135, f118, e119, e120, e121, e122, e123, e124, e125, e126, e127, e128, e129, e130, e131, e132⟩
                have E136 : h134 92 = h 92 := Eq.trans e119 E93
                have E137 : h134 93 = h 93 := Eq.trans e120 E94
                have E138 : h134 94 = h 94 := Eq.trans e121 E95
                have E139 : h134 95 = h 95 := Eq.trans e122 E96
                have E140 : h134 96 = h 96 := Eq.trans e123 E97
                have E141 : h134 97 = h 97 := Eq.trans e124 E98
                have E142 : h134 98 = h 98 := Eq.trans e125 E99
                have E143 : h134 99 = h 99 := Eq.trans e126 E100
                have E144 : h134 100 = h 100 := Eq.trans e127 E101
                have E145 : h134 103 = h 103 := Eq.trans e128 E102
                have E146 : h134 105 = h91 105 := e129
                have E147 : h134 106 = h91 106 := e130
                have E148 : h134 109 = h 109 := Eq.trans e131 E103
                have E149 : h134 114 = h 114 := Eq.trans e132 E104
                show ov_R u d ov_m283 90 [(0, ov_r 90), (1, ov_i x), (2, ov_i y), (3, ov_i s), (4, ov_i v54), (5, ov_l x5), (7, ov_i x7)] [] z133 h134 (P_Mo_watch_90 F z h x y s)
                have f150 : (h134 90 2) = (h91 90 2) ∧ (h134 90 7) = (h91 90 7) ∧ (h134 90 8) = (h91 90 8) ∧ (h134 90 13) = (h91 90 13) ∧ (h134 90 20) = (h91 90 20) ∧ (h134 90 22) = (h91 90 22) ∧ (h134 90 34) = (h91 90 34) ∧ (h134 90 26) = (3 : Int) ∧ (h134 90 27) = (0 : Int) ∧ (h134 90 28) = (h91 90 22) ∧ (h134 90 29) = ((6 * y) + x) ∧ (h134 90 30) = x7 ∧ (((h134 90 25) = (h91 90 25) + 1) ∨ ((h134 90 25) = (h91 90 25) ∧ (h91 90 26) = (3 : Int) ∧ (h91 90 27) = (0 : Int) ∧ (h91 90 28) = (h91 90 22) ∧ (h91 90 29) = ((6 * y) + x) ∧ (h91 90 30) = x7)) := f118
                clear f118
                have mi151 : ov_MI (h 96) (h 103) (h 97) (h 98) 3 ((6 * y) + x) x7 (h134 90 25) (h91 105) (h91 106) := ov_PM_ask xp (by omega)
                refine ov_blk (ls2 := [(0, ov_r 90), (1, ov_i x), (2, ov_i y), (3, ov_i s), (4, ov_i v54), (5, ov_l x5), (7, ov_i x7)]) (st2 := [ov_i s, ov_i 0, ov_i 0, ov_r 90, ov_l x5]) (pc2 := 96) b_283_90_5 rfl rfl ?_
                have cf152 : h134 96 (0) = h 96 (0) := congrFun E140 (0)
                have cf153 : h134 96 (1) = h 96 (1) := congrFun E140 (1)
                have cf154 : h134 96 (8) = h 96 (8) := congrFun E140 (8)
                refine ov_cV (as := [ov_i 0, ov_i 0, ov_i s]) (st := [ov_l x5]) (d2 := d - 1) d_283_96 lk_Mo_377 rfl (Nat.le_of_ble_eq_true rfl) (c := 1) (zb_90 I135) (zs_90 I135) ⟨by decide, rfl⟩ (by omega) (c_Mo_worthFrom_90_all 3 ((6 * y + x)) x7 ((h134 90 25)) (Int.toNat (13 - (0) - (0))) (d - 1) (by omega) U I135 0 0 s (by omega) (by omega) (by omega) (by omega) (by show (0 : Int) < (h134 96 0) ∧ (0 : Int) < (h134 96 1); omega) (by omega) (by omega) (by show (h134 90 26) = (3 : Int); omega) (by show (h134 90 29) = (6 * y + x); omega) (by show (h134 90 30) = x7; omega) (by show (h134 90 25) = (h134 90 25); omega) (by show 0 ≤ (3 : Int) ∧ (3 : Int) ≤ 3 + (h134 96 8); omega) (by rw [show h134 96 = h 96 from E140]; exact W) (by rw [show h134 96 = h 96 from E140, show h134 97 = h 97 from E141, show h134 98 = h 98 from E142]; exact CD) (by rw [show h134 96 = h 96 from E140, show h134 103 = h 103 from E145, show h134 97 = h 97 from E141, show h134 98 = h 98 from E142, show h134 105 = h91 105 from E146, show h134 106 = h91 106 from E147]; exact mi151)) ?_
                rintro _ z171 h172 ⟨v156, rfl, I173, f155, e157, e158, e159, e160, e161, e162, e163, e164, e165, e166, e167, e168, y169, y170⟩
                have E174 : h172 92 = h 92 := Eq.trans e157 E136
                have E175 : h172 93 = h 93 := Eq.trans e158 E137
                have E176 : h172 94 = h 94 := Eq.trans e159 E138
                have E177 : h172 95 = h 95 := Eq.trans e160 E139
                have E178 : h172 96 = h 96 := Eq.trans e161 E140
                have E179 : h172 97 = h 97 := Eq.trans e162 E141
                have E180 : h172 98 = h 98 := Eq.trans e163 E142
                have E181 : h172 99 = h 99 := Eq.trans e164 E143
                have E182 : h172 100 = h 100 := Eq.trans e165 E144
                have E183 : h172 103 = h 103 := Eq.trans e166 E145
                have E184 : h172 109 = h 109 := Eq.trans e167 E148
                have E185 : h172 114 = h 114 := Eq.trans e168 E149
                show ov_R u d ov_m283 99 [(0, ov_r 90), (1, ov_i x), (2, ov_i y), (3, ov_i s), (4, ov_i v54), (5, ov_l x5), (7, ov_i x7)] [ov_i v156, ov_l x5] z171 h172 (P_Mo_watch_90 F z h x y s)
                have f186 : (h172 90 2) = (h134 90 2) ∧ (h172 90 7) = (h134 90 7) ∧ (h172 90 8) = (h134 90 8) ∧ (h172 90 13) = (h134 90 13) ∧ (h172 90 20) = (h134 90 20) ∧ (h172 90 22) = (h134 90 22) ∧ (h172 90 25) = (h134 90 25) ∧ (h172 90 26) = (h134 90 26) ∧ (h172 90 28) = (h134 90 28) ∧ (h172 90 29) = (h134 90 29) ∧ (h172 90 30) = (h134 90 30) ∧ (h172 90 34) = (h134 90 34) ∧ -1 ≤ v156 ∧ v156 ≤ 89000 * (13 - (0 : Int) - (0 : Int)) := f155
                clear f155
                rw [show h134 103 = h 103 from E145] at y169
                rw [show h134 96 = h 96 from E140] at y169
                rw [show h134 97 = h 97 from E141] at y169
                rw [show h134 98 = h 98 from E142] at y169
                have y169_ : ov_MI (h 96) (h 103) (h 97) (h 98) (3 : Int) (6 * y + x) x7 (h134 90 25) (h172 105) (h172 106) := y169
                rw [show h134 103 = h 103 from E145] at y170
                rw [show h134 96 = h 96 from E140] at y170
                rw [show h134 97 = h 97 from E141] at y170
                rw [show h134 98 = h 98 from E142] at y170
                have y170_ : (0 ≤ v156 ↔ ov_go (h 96) (h 103) (h 97) (h 98) (3 : Int) (6 * y + x) x7 (0 : Int) (0 : Int) (s % (h 96 9))) := y170
                refine ov_blk (ls2 := [(0, ov_r 90), (1, ov_i x), (2, ov_i y), (3, ov_i s), (4, ov_i v54), (5, ov_l (x5 + (ov_w v156))), (7, ov_i x7)]) (st2 := []) (pc2 := 103) b_283_99_3 rfl rfl ?_
                have g187 := ov_wg v156
                have g188 := ov_wq v156
                have pm189 : ov_PM (h 96) (h 103) (h 97) (h 98) (h172 105) (h172 106) (h172 90 22) (h172 90 25) (h172 90 26) (h172 90 28) (h172 90 29) (h172 90 30) := ov_PM_mi y169_ (by omega) (by omega) (by omega) (by omega) (by omega) (by omega)
                refine ov_blk (ls2 := [(0, ov_r 90), (1, ov_i x), (2, ov_i y), (3, ov_i s), (4, ov_i v54), (5, ov_l (x5 + (ov_w v156))), (7, ov_i (x7 + 1))]) (st2 := []) (pc2 := 106) b_283_103_1 rfl rfl ?_
                refine ov_goto (tgt := 59) d_283_106 (by decide) ?_
                exact ih87 (x5 + (ov_w v156)) (x7 + 1) _ _ I173 E174 E175 E176 E177 E178 E179 E180 E181 E182 E183 E184 E185 pm189 (by show 0 ≤ (x7 + 1) ∧ (x7 + 1) ≤ 60 ∧ -60 ≤ (x5 + (ov_w v156)) ∧ (x5 + (ov_w v156)) ≤ 1200000 * (x7 + 1) ∧ -(x7 + 1) ≤ (x5 + (ov_w v156)) ∧ -1 ≤ v54 ∧ v54 ≤ 1200000 ∧ (h 90 25) ≤ (h172 90 25) ∧ (h172 90 25) ≤ (h 90 25) + 1 + (x7 + 1) ∧ (h172 90 22) = (h 90 22) ∧ (h172 90 2) = (h70 90 2) ∧ (h172 90 7) = (h70 90 7) ∧ (h172 90 8) = (h70 90 8) ∧ (h172 90 13) = (h70 90 13) ∧ (h172 90 20) = (h70 90 20) ∧ (h172 90 22) = (h70 90 22) ∧ (h172 90 34) = (h70 90 34); omega) (by omega)
        exact L89 61 0 0 _ _ I71 E72 E73 E74 E75 E76 E77 E78 E79 E80 E81 E82 E83 pm85 (by show 0 ≤ 0 ∧ 0 ≤ 60 ∧ -60 ≤ 0 ∧ 0 ≤ 1200000 * 0 ∧ -0 ≤ 0 ∧ -1 ≤ v54 ∧ v54 ≤ 1200000 ∧ (h 90 25) ≤ (h70 90 25) ∧ (h70 90 25) ≤ (h 90 25) + 1 + 0 ∧ (h70 90 22) = (h 90 22) ∧ (h70 90 2) = (h70 90 2) ∧ (h70 90 7) = (h70 90 7) ∧ (h70 90 8) = (h70 90 8) ∧ (h70 90 13) = (h70 90 13) ∧ (h70 90 20) = (h70 90 20) ∧ (h70 90 22) = (h70 90 22) ∧ (h70 90 34) = (h70 90 34); omega) (by omega)
      · skip
        have f13_ : v12 = 1 := by omega
        have f190 : ((h 96 (10 + 4 * (6 * y + x))) = 2 ∧ (h 103 (4 + 6 * y + x)) = 1) := f13.2.1 (by omega)
        clear f13
        refine ov_blk (ls2 := [(0, ov_r 90), (1, ov_i x), (2, ov_i y), (3, ov_i s)]) (st2 := [ov_i (-1)]) (pc2 := 35) b_283_34_1 rfl rfl ?_
        exact ov_reti (st := []) d_283_35 rfl ⟨_, rfl, I1, ⟨rfl, rfl, rfl, rfl, rfl, rfl, rfl, (by show (h 90 25) ≤ (h 90 25) ∧ (h 90 25) ≤ (h 90 25) + 61 ∧ -2147483648 ≤ (-1) ∧ (-1) ≤ 2147483647; omega)⟩, rfl, rfl, rfl, rfl, rfl, rfl, rfl, rfl, rfl, rfl, rfl, rfl, PM⟩
abbrev P_Mo_meanFrom0_90 (F : ov_H × ov_Z) (z : ov_Z) (h : ov_H) (s : Int) : Option ov_V → ov_Z → ov_H → Prop := fun r0 z' h' => ∃ r : Int, r0 = some (ov_i r) ∧ ov_N F z' h' ∧ ((h' 90 2) = (h 90 2) ∧ (h' 90 7) = (h 90 7) ∧ (h' 90 8) = (h 90 8) ∧ (h' 90 13) = (h 90 13) ∧ (h' 90 20) = (h 90 20) ∧ (h' 90 22) = (h 90 22) ∧ (h' 90 34) = (h 90 34) ∧ (h 90 25) ≤ (h' 90 25) ∧ (h' 90 25) ≤ (h 90 25) + 1 ∧ -1 ≤ r ∧ r ≤ 1200000) ∧ h' 92 = h 92 ∧ h' 93 = h 93 ∧ h' 94 = h 94 ∧ h' 95 = h 95 ∧ h' 96 = h 96 ∧ h' 97 = h 97 ∧ h' 98 = h 98 ∧ h' 99 = h 99 ∧ h' 100 = h 100 ∧ h' 103 = h 103 ∧ h' 109 = h 109 ∧ h' 114 = h 114 ∧ (ov_PM (h 96) (h 103) (h 97) (h 98) (h' 105) (h' 106) (h' 90 22) (h' 90 25) (h' 90 26) (h' 90 28) (h' 90 29) (h' 90 30))
set_option maxHeartbeats 4000000 in
theorem c_Mo_meanFrom0_90 {u : ov_U} {F : ov_H × ov_Z} {z : ov_Z} {h : ov_H} (d : Nat) (hd : 90 ≤ d) (U : ov_cap u) (I : ov_N F z h) (s : Int) (g_s : ov_g s) (p0 : 0 ≤ s ∧ s ≤ 1000000) (p1 : 0 ≤ (h 90 25) ∧ (h 90 25) ≤ 1500000000) (W : ov_WT (h 96)) (CD : ov_CD (h 96) (h 97) (h 98)) (PM : ov_PM (h 96) (h 103) (h 97) (h 98) (h 105) (h 106) (h 90 22) (h 90 25) (h 90 26) (h 90 28) (h 90 29) (h 90 30)) : ov_T u d ov_m285 [ov_r 90, ov_i s] z h (P_Mo_meanFrom0_90 F z h s) := by
  refine ov_en rfl (Nat.le_of_ble_eq_true rfl) ?_
  show ov_R u d ov_m285 0 [(0, ov_r 90), (1, ov_i s)] [] z h (P_Mo_meanFrom0_90 F z h s)
  have t0 := t96_0 I
  have t1 := t96_1 I
  have t8 := t96_8 I
  have t9 := t96_9 I
  refine ov_blk (ls2 := [(0, ov_r 90), (1, ov_i s)]) (st2 := [ov_i 0, ov_i (-1), ov_i 0, ov_i 3, ov_r 90]) (pc2 := 5) b_285_0_5 rfl rfl ?_
  refine ov_cV (as := [ov_i 3, ov_i 0, ov_i (-1), ov_i 0]) (st := []) (d2 := d - 1) d_285_5 lk_Mo_389 rfl (Nat.le_of_ble_eq_true rfl) (c := 1) (zb_90 I) (zs_90 I) ⟨by decide, rfl⟩ (by omega) (c_Mo_asks_90 (d - 1) (by omega) U I 3 0 (-1) 0 (by omega) (by omega) (by omega) (by omega) (by omega) (by omega) (by omega) (by show 0 ≤ (h 90 25) ∧ (h 90 25) ≤ 2000000000; omega)) ?_
  rintro _ z16 h17 ⟨rfl, I18, f1, e2, e3, e4, e5, e6, e7, e8, e9, e10, e11, e12, e13, e14, e15⟩
  have E19 : h17 92 = h 92 := e2
  have E20 : h17 93 = h 93 := e3
  have E21 : h17 94 = h 94 := e4
  have E22 : h17 95 = h 95 := e5
  have E23 : h17 96 = h 96 := e6
  have E24 : h17 97 = h 97 := e7
  have E25 : h17 98 = h 98 := e8
  have E26 : h17 99 = h 99 := e9
  have E27 : h17 100 = h 100 := e10
  have E28 : h17 103 = h 103 := e11
  have E29 : h17 105 = h 105 := e12
  have E30 : h17 106 = h 106 := e13
  have E31 : h17 109 = h 109 := e14
  have E32 : h17 114 = h 114 := e15
  show ov_R u d ov_m285 8 [(0, ov_r 90), (1, ov_i s)] [] z16 h17 (P_Mo_meanFrom0_90 F z h s)
  have f33 : (h17 90 2) = (h 90 2) ∧ (h17 90 7) = (h 90 7) ∧ (h17 90 8) = (h 90 8) ∧ (h17 90 13) = (h 90 13) ∧ (h17 90 20) = (h 90 20) ∧ (h17 90 22) = (h 90 22) ∧ (h17 90 34) = (h 90 34) ∧ (h17 90 26) = (3 : Int) ∧ (h17 90 27) = (0 : Int) ∧ (h17 90 28) = (h 90 22) ∧ (h17 90 29) = ((-1) : Int) ∧ (h17 90 30) = (0 : Int) ∧ (((h17 90 25) = (h 90 25) + 1) ∨ ((h17 90 25) = (h 90 25) ∧ (h 90 26) = (3 : Int) ∧ (h 90 27) = (0 : Int) ∧ (h 90 28) = (h 90 22) ∧ (h 90 29) = ((-1) : Int) ∧ (h 90 30) = (0 : Int))) := f1
  clear f1
  have mi34 : ov_MI (h 96) (h 103) (h 97) (h 98) 3 (-1) 0 (h17 90 25) (h 105) (h 106) := ov_PM_ask PM (by omega)
  refine ov_blk (ls2 := [(0, ov_r 90), (1, ov_i s)]) (st2 := [ov_i s, ov_i 0, ov_i 0, ov_r 90]) (pc2 := 12) b_285_8_4 rfl rfl ?_
  have cf35 : h17 96 (0) = h 96 (0) := congrFun E23 (0)
  have cf36 : h17 96 (1) = h 96 (1) := congrFun E23 (1)
  have cf37 : h17 96 (8) = h 96 (8) := congrFun E23 (8)
  refine ov_cV (as := [ov_i 0, ov_i 0, ov_i s]) (st := []) (d2 := d - 1) d_285_12 lk_Mo_377 rfl (Nat.le_of_ble_eq_true rfl) (c := 1) (zb_90 I18) (zs_90 I18) ⟨by decide, rfl⟩ (by omega) (c_Mo_worthFrom_90_all 3 ((-1)) 0 ((h17 90 25)) (Int.toNat (13 - (0) - (0))) (d - 1) (by omega) U I18 0 0 s (by omega) (by omega) (by omega) (by omega) (by show (0 : Int) < (h17 96 0) ∧ (0 : Int) < (h17 96 1); omega) (by omega) (by omega) (by show (h17 90 26) = (3 : Int); omega) (by show (h17 90 29) = ((-1) : Int); omega) (by show (h17 90 30) = (0 : Int); omega) (by show (h17 90 25) = (h17 90 25); omega) (by show 0 ≤ (3 : Int) ∧ (3 : Int) ≤ 3 + (h17 96 8); omega) (by rw [show h17 96 = h 96 from E23]; exact W) (by rw [show h17 96 = h 96 from E23, show h17 97 = h 97 from E24, show h17 98 = h 98 from E25]; exact CD) (by rw [show h17 96 = h 96 from E23, show h17 103 = h 103 from E28, show h17 97 = h 97 from E24, show h17 98 = h 98 from E25, show h17 105 = h 105 from E29, show h17 106 = h 106 from E30]; exact mi34)) ?_
  rintro _ z54 h55 ⟨v39, rfl, I56, f38, e40, e41, e42, e43, e44, e45, e46, e47, e48, e49, e50, e51, y52, y53⟩
  have E57 : h55 92 = h 92 := Eq.trans e40 E19
  have E58 : h55 93 = h 93 := Eq.trans e41 E20
  have E59 : h55 94 = h 94 := Eq.trans e42 E21
  have E60 : h55 95 = h 95 := Eq.trans e43 E22
  have E61 : h55 96 = h 96 := Eq.trans e44 E23
  have E62 : h55 97 = h 97 := Eq.trans e45 E24
  have E63 : h55 98 = h 98 := Eq.trans e46 E25
  have E64 : h55 99 = h 99 := Eq.trans e47 E26
  have E65 : h55 100 = h 100 := Eq.trans e48 E27
  have E66 : h55 103 = h 103 := Eq.trans e49 E28
  have E67 : h55 109 = h 109 := Eq.trans e50 E31
  have E68 : h55 114 = h 114 := Eq.trans e51 E32
  show ov_R u d ov_m285 15 [(0, ov_r 90), (1, ov_i s)] [ov_i v39] z54 h55 (P_Mo_meanFrom0_90 F z h s)
  have f69 : (h55 90 2) = (h17 90 2) ∧ (h55 90 7) = (h17 90 7) ∧ (h55 90 8) = (h17 90 8) ∧ (h55 90 13) = (h17 90 13) ∧ (h55 90 20) = (h17 90 20) ∧ (h55 90 22) = (h17 90 22) ∧ (h55 90 25) = (h17 90 25) ∧ (h55 90 26) = (h17 90 26) ∧ (h55 90 28) = (h17 90 28) ∧ (h55 90 29) = (h17 90 29) ∧ (h55 90 30) = (h17 90 30) ∧ (h55 90 34) = (h17 90 34) ∧ -1 ≤ v39 ∧ v39 ≤ 89000 * (13 - (0 : Int) - (0 : Int)) := f38
  clear f38
  rw [show h17 103 = h 103 from E28] at y52
  rw [show h17 96 = h 96 from E23] at y52
  rw [show h17 97 = h 97 from E24] at y52
  rw [show h17 98 = h 98 from E25] at y52
  have y52_ : ov_MI (h 96) (h 103) (h 97) (h 98) (3 : Int) ((-1) : Int) (0 : Int) (h17 90 25) (h55 105) (h55 106) := y52
  rw [show h17 103 = h 103 from E28] at y53
  rw [show h17 96 = h 96 from E23] at y53
  rw [show h17 97 = h 97 from E24] at y53
  rw [show h17 98 = h 98 from E25] at y53
  have y53_ : (0 ≤ v39 ↔ ov_go (h 96) (h 103) (h 97) (h 98) (3 : Int) ((-1) : Int) (0 : Int) (0 : Int) (0 : Int) (s % (h 96 9))) := y53
  have pm70 : ov_PM (h 96) (h 103) (h 97) (h 98) (h55 105) (h55 106) (h55 90 22) (h55 90 25) (h55 90 26) (h55 90 28) (h55 90 29) (h55 90 30) := ov_PM_mi y52_ (by omega) (by omega) (by omega) (by omega) (by omega) (by omega)
  exact ov_reti (st := []) d_285_15 rfl ⟨_, rfl, I56, (by show (h55 90 2) = (h 90 2) ∧ (h55 90 7) = (h 90 7) ∧ (h55 90 8) = (h 90 8) ∧ (h55 90 13) = (h 90 13) ∧ (h55 90 20) = (h 90 20) ∧ (h55 90 22) = (h 90 22) ∧ (h55 90 34) = (h 90 34) ∧ (h 90 25) ≤ (h55 90 25) ∧ (h55 90 25) ≤ (h 90 25) + 1 ∧ -1 ≤ v39 ∧ v39 ≤ 1200000; omega), E57, E58, E59, E60, E61, E62, E63, E64, E65, E66, E67, E68, pm70⟩
abbrev P_Mo_worthiest_90 (F : ov_H × ov_Z) (z : ov_Z) (h : ov_H) (s : Int) : Option ov_V → ov_Z → ov_H → Prop := fun r0 z' h' => ∃ r : Int, r0 = some (ov_i r) ∧ ov_N F z' h' ∧ ((h' 90 2) = (h 90 2) ∧ (h' 90 7) = (h 90 7) ∧ (h' 90 8) = (h 90 8) ∧ (h' 90 13) = (h 90 13) ∧ (h' 90 20) = (h 90 20) ∧ (h' 90 22) = (h 90 22) ∧ (h' 90 34) = (h 90 34) ∧ (h 90 25) ≤ (h' 90 25) ∧ (h' 90 25) ≤ (h 90 25) + 3400 ∧ -1 ≤ r ∧ r ≤ 100) ∧ h' 92 = h 92 ∧ h' 93 = h 93 ∧ h' 94 = h 94 ∧ h' 95 = h 95 ∧ h' 96 = h 96 ∧ h' 97 = h 97 ∧ h' 98 = h 98 ∧ h' 99 = h 99 ∧ h' 100 = h 100 ∧ h' 103 = h 103 ∧ h' 109 = h 109 ∧ h' 114 = h 114 ∧ (ov_PM (h 96) (h 103) (h 97) (h 98) (h' 105) (h' 106) (h' 90 22) (h' 90 25) (h' 90 26) (h' 90 28) (h' 90 29) (h' 90 30))
set_option maxHeartbeats 4000000 in
theorem c_Mo_worthiest_90 {u : ov_U} {F : ov_H × ov_Z} {z : ov_Z} {h : ov_H} (d : Nat) (hd : 94 ≤ d) (U : ov_cap u) (I : ov_N F z h) (s : Int) (g_s : ov_g s) (p0 : 0 ≤ (h 90 25) ∧ (h 90 25) ≤ 1000000000) (W : ov_WT (h 96)) (CD : ov_CD (h 96) (h 97) (h 98)) (PM : ov_PM (h 96) (h 103) (h 97) (h 98) (h 105) (h 106) (h 90 22) (h 90 25) (h 90 26) (h 90 28) (h 90 29) (h 90 30)) : ov_T u d ov_m284 [ov_r 90, ov_i s] z h (P_Mo_worthiest_90 F z h s) := by
  refine ov_en rfl (Nat.le_of_ble_eq_true rfl) ?_
  show ov_R u d ov_m284 0 [(0, ov_r 90), (1, ov_i s)] [] z h (P_Mo_worthiest_90 F z h s)
  have t0 := t96_0 I
  have t1 := t96_1 I
  have t8 := t96_8 I
  have t9 := t96_9 I
  refine ov_blk (ls2 := [(0, ov_r 90), (1, ov_i s), (2, ov_i (-1)), (3, ov_i 0), (4, ov_i 0)]) (st2 := []) (pc2 := 7) b_284_0_6 rfl rfl ?_
  have L4 : ∀ (n1 : Nat) (x2 : Int) (x3 : Int) (x4 : Int) (z5 : ov_Z) (h6 : ov_H) (I7 : ov_N F z5 h6) (E8 : h6 92 = h 92) (E9 : h6 93 = h 93) (E10 : h6 94 = h 94) (E11 : h6 95 = h 95) (E12 : h6 96 = h 96) (E13 : h6 97 = h 97) (E14 : h6 98 = h 98) (E15 : h6 99 = h 99) (E16 : h6 100 = h 100) (E17 : h6 103 = h 103) (E18 : h6 109 = h 109) (E19 : h6 114 = h 114) (xp : ov_PM (h 96) (h 103) (h 97) (h 98) (h6 105) (h6 106) (h6 90 22) (h6 90 25) (h6 90 26) (h6 90 28) (h6 90 29) (h6 90 30)) (q3 : 0 ≤ x4 ∧ x4 ≤ 54 ∧ -1 ≤ x2 ∧ x2 ≤ 100 ∧ ov_g x3 ∧ (h 90 25) ≤ (h6 90 25) ∧ (h6 90 25) ≤ (h 90 25) + 62 * x4 ∧ (h6 90 22) = (h 90 22) ∧ (h6 90 2) = (h 90 2) ∧ (h6 90 7) = (h 90 7) ∧ (h6 90 8) = (h 90 8) ∧ (h6 90 13) = (h 90 13) ∧ (h6 90 20) = (h 90 20) ∧ (h6 90 22) = (h 90 22) ∧ (h6 90 34) = (h 90 34)), 54 - x4 < (n1 : Int) → ov_R u d ov_m284 7 [(0, ov_r 90), (1, ov_i s), (2, ov_i x2), (3, ov_i x3), (4, ov_i x4)] [] z5 h6 (P_Mo_worthiest_90 F z h s) := by
    intro n1
    induction n1 with
    | zero =>
      intro x2 x3 x4 z5 h6 I7 E8 E9 E10 E11 E12 E13 E14 E15 E16 E17 E18 E19 xp q3 hn20
      exact absurd hn20 (by omega)
    | succ n1 ih2 =>
      intro x2 x3 x4 z5 h6 I7 E8 E9 E10 E11 E12 E13 E14 E15 E16 E17 E18 E19 xp q3 hn20
      refine ov_blk (ls2 := [(0, ov_r 90), (1, ov_i s), (2, ov_i x2), (3, ov_i x3), (4, ov_i x4)]) (st2 := [ov_i 54, ov_i x4]) (pc2 := 11) b_284_7_2 rfl rfl ?_
      refine ov_icge (tgt := 131) d_284_11 (by decide) (by omega) (by omega) (fun c21 => ?_) (fun c21 => ?_)
      · skip
        refine ov_blk (ls2 := [(0, ov_r 90), (1, ov_i s), (2, ov_i x2), (3, ov_i x3), (4, ov_i x4)]) (st2 := [ov_i 0, ov_r 90]) (pc2 := 133) b_284_131_2 rfl rfl ?_
        refine ov_putf (x := 0) d_284_133 fl_Mo_1 (zb_90 I7) (zs_90 I7) rfl nk_0 rfl ?_
        have I22 := up_90_0 (x := 0) I7 (by omega)
        refine ov_blk (ls2 := [(0, ov_r 90), (1, ov_i s), (2, ov_i x2), (3, ov_i x3), (4, ov_i x4)]) (st2 := [ov_i x2]) (pc2 := 137) b_284_136_1 rfl rfl ?_
        exact ov_reti (st := []) d_284_137 rfl ⟨_, rfl, I22, (by show (h6 90 2) = (h 90 2) ∧ (h6 90 7) = (h 90 7) ∧ (h6 90 8) = (h 90 8) ∧ (h6 90 13) = (h 90 13) ∧ (h6 90 20) = (h 90 20) ∧ (h6 90 22) = (h 90 22) ∧ (h6 90 34) = (h 90 34) ∧ (h 90 25) ≤ (h6 90 25) ∧ (h6 90 25) ≤ (h 90 25) + 3400 ∧ -1 ≤ x2 ∧ x2 ≤ 100; omega), E8, E9, E10, E11, E12, E13, E14, E15, E16, E17, E18, E19, xp⟩
      · skip
        refine ov_blk (ls2 := [(0, ov_r 90), (1, ov_i s), (2, ov_i x2), (3, ov_i x3), (4, ov_i x4)]) (st2 := [ov_i 6, ov_i x4]) (pc2 := 18) b_284_14_2 rfl rfl ?_
        refine ov_irem d_284_18 (by omega) (by omega) (by omega) ?_
        have g23 := ov_tm (a := x4) (b := 6) (by omega)
        have g24 := ov_tmg (a := x4) (b := 6) (by omega) (by omega)
        refine ov_blk (ls2 := [(0, ov_r 90), (1, ov_i s), (2, ov_i x2), (3, ov_i x3), (4, ov_i x4), (5, ov_i (Int.tmod x4 6))]) (st2 := [ov_i 6, ov_i x4]) (pc2 := 25) b_284_19_3 rfl rfl ?_
        refine ov_idiv d_284_25 (by omega) (by omega) (by omega) ?_
        have g25 := ov_td (a := x4) (b := 6) (by omega)
        refine ov_blk (ls2 := [(0, ov_r 90), (1, ov_i s), (2, ov_i x2), (3, ov_i x3), (4, ov_i x4), (5, ov_i (Int.tmod x4 6)), (6, ov_i (Int.tdiv x4 6))]) (st2 := [ov_i s, ov_i (Int.tdiv x4 6), ov_i (Int.tmod x4 6), ov_r 90]) (pc2 := 34) b_284_26_5 rfl rfl ?_
        refine ov_cV (as := [ov_i (Int.tmod x4 6), ov_i (Int.tdiv x4 6), ov_i s]) (st := []) (d2 := d - 1) d_284_34 lk_Mo_386 rfl (Nat.le_of_ble_eq_true rfl) (c := 1) (zb_90 I7) (zs_90 I7) ⟨by decide, rfl⟩ (by omega) (c_Mo_isPlace_90 (d - 1) (by omega) U I7 (Int.tmod x4 6) (Int.tdiv x4 6) s (by omega) (by omega) (by omega)) ?_
        rintro _ _ _ ⟨v27, rfl, rfl, rfl, f26⟩
        show ov_R u d ov_m284 37 [(0, ov_r 90), (1, ov_i s), (2, ov_i x2), (3, ov_i x3), (4, ov_i x4), (5, ov_i (Int.tmod x4 6)), (6, ov_i (Int.tdiv x4 6))] [ov_i v27] z5 h6 (P_Mo_worthiest_90 F z h s)
        rw [show h6 96 = h 96 from E12] at f26
        have f28 : (v27 = 0 ∨ v27 = 1) ∧ (v27 = 1 → 0 ≤ (Int.tmod x4 6) ∧ (Int.tmod x4 6) ≤ 5 ∧ 0 ≤ (Int.tdiv x4 6) ∧ (Int.tdiv x4 6) ≤ 8 ∧ (Int.tmod x4 6) < (h 96 0) ∧ (Int.tdiv x4 6) < (h 96 1) ∧ 0 ≤ s ∧ s ≤ 1000000) := f26
        clear f26
        refine ov_ifeq (tgt := 75) d_284_37 (by decide) (by omega) (fun c29 => ?_) (fun c29 => ?_)
        · skip
          have f28_ : v27 = 0 := by omega
          clear f28
          refine ov_blk (ls2 := [(0, ov_r 90), (1, ov_i s), (2, ov_i x2), (3, ov_i x3), (4, ov_i x4), (5, ov_i (Int.tmod x4 6)), (6, ov_i (Int.tdiv x4 6)), (7, ov_i 0)]) (st2 := [ov_i 0]) (pc2 := 80) b_284_75_3 rfl rfl ?_
          refine ov_ifeq (tgt := 95) d_284_80 (by decide) (by omega) (fun c30 => ?_) (fun c30 => ?_)
          · skip
            refine ov_blk (ls2 := [(0, ov_r 90), (1, ov_i s), (2, ov_i x2), (3, ov_i x3), (4, ov_i x4), (5, ov_i (Int.tmod x4 6)), (6, ov_i (Int.tdiv x4 6)), (7, ov_i 0), (8, ov_i 0)]) (st2 := [ov_i 0]) (pc2 := 100) b_284_95_3 rfl rfl ?_
            refine ov_ifeq (tgt := 125) d_284_100 (by decide) (by omega) (fun c31 => ?_) (fun c31 => ?_)
            · skip
              refine ov_blk (ls2 := [(0, ov_r 90), (1, ov_i s), (2, ov_i x2), (3, ov_i x3), (4, ov_i (x4 + 1)), (5, ov_i (Int.tmod x4 6)), (6, ov_i (Int.tdiv x4 6)), (7, ov_i 0), (8, ov_i 0)]) (st2 := []) (pc2 := 128) b_284_125_1 rfl rfl ?_
              refine ov_goto (tgt := 7) d_284_128 (by decide) ?_
              refine ov_sub (ls2 := [(0, ov_r 90), (1, ov_i s), (2, ov_i x2), (3, ov_i x3), (4, ov_i (x4 + 1))]) (List.Sublist.subset (by repeat (first | exact List.Sublist.refl _ | apply List.Sublist.cons_cons | apply List.Sublist.cons))) ?_
              exact ih2 x2 x3 (x4 + 1) _ _ I7 E8 E9 E10 E11 E12 E13 E14 E15 E16 E17 E18 E19 xp (by show 0 ≤ (x4 + 1) ∧ (x4 + 1) ≤ 54 ∧ -1 ≤ x2 ∧ x2 ≤ 100 ∧ ov_g x3 ∧ (h 90 25) ≤ (h6 90 25) ∧ (h6 90 25) ≤ (h 90 25) + 62 * (x4 + 1) ∧ (h6 90 22) = (h 90 22) ∧ (h6 90 2) = (h 90 2) ∧ (h6 90 7) = (h 90 7) ∧ (h6 90 8) = (h 90 8) ∧ (h6 90 13) = (h 90 13) ∧ (h6 90 20) = (h 90 20) ∧ (h6 90 22) = (h 90 22) ∧ (h6 90 34) = (h 90 34); omega) (by omega)
            · omega
          · omega
        · skip
          have f28_ : v27 = 1 := by omega
          have f32 : 0 ≤ (Int.tmod x4 6) ∧ (Int.tmod x4 6) ≤ 5 ∧ 0 ≤ (Int.tdiv x4 6) ∧ (Int.tdiv x4 6) ≤ 8 ∧ (Int.tmod x4 6) < (h 96 0) ∧ (Int.tdiv x4 6) < (h 96 1) ∧ 0 ≤ s ∧ s ≤ 1000000 := f28.2 (by omega)
          clear f28
          refine ov_blk (ls2 := [(0, ov_r 90), (1, ov_i s), (2, ov_i x2), (3, ov_i x3), (4, ov_i x4), (5, ov_i (Int.tmod x4 6)), (6, ov_i (Int.tdiv x4 6))]) (st2 := [ov_i (Int.tdiv x4 6), ov_i (Int.tmod x4 6), ov_r 90]) (pc2 := 45) b_284_40_3 rfl rfl ?_
          refine ov_cV (as := [ov_i (Int.tmod x4 6), ov_i (Int.tdiv x4 6)]) (st := []) (d2 := d - 1) d_284_45 lk_Mo_282 rfl (Nat.le_of_ble_eq_true rfl) (c := 1) (zb_90 I7) (zs_90 I7) ⟨by decide, rfl⟩ (by omega) (c_Mo_kindAt_90 (d - 1) (by omega) U I7 (Int.tmod x4 6) (Int.tdiv x4 6) (by omega) (by omega) (by omega)) ?_
          rintro _ _ _ ⟨v34, rfl, rfl, rfl, f33⟩
          show ov_R u d ov_m284 48 [(0, ov_r 90), (1, ov_i s), (2, ov_i x2), (3, ov_i x3), (4, ov_i x4), (5, ov_i (Int.tmod x4 6)), (6, ov_i (Int.tdiv x4 6))] [ov_i v34] z5 h6 (P_Mo_worthiest_90 F z h s)
          rw [show h6 96 = h 96 from E12] at f33
          have f35 : v34 = (h 96 (10 + 4 * (6 * (Int.tdiv x4 6) + (Int.tmod x4 6)))) - 1 ∧ -1 ≤ v34 ∧ v34 ≤ 3 := f33
          clear f33
          refine ov_blk (ls2 := [(0, ov_r 90), (1, ov_i s), (2, ov_i x2), (3, ov_i x3), (4, ov_i x4), (5, ov_i (Int.tmod x4 6)), (6, ov_i (Int.tdiv x4 6))]) (st2 := [ov_i 1, ov_i v34]) (pc2 := 49) b_284_48_1 rfl rfl ?_
          refine ov_icne (tgt := 75) d_284_49 (by decide) (by omega) (by omega) (fun c36 => ?_) (fun c36 => ?_)
          · skip
            refine ov_blk (ls2 := [(0, ov_r 90), (1, ov_i s), (2, ov_i x2), (3, ov_i x3), (4, ov_i x4), (5, ov_i (Int.tmod x4 6)), (6, ov_i (Int.tdiv x4 6)), (7, ov_i 0)]) (st2 := [ov_i 0]) (pc2 := 80) b_284_75_3 rfl rfl ?_
            refine ov_ifeq (tgt := 95) d_284_80 (by decide) (by omega) (fun c37 => ?_) (fun c37 => ?_)
            · skip
              refine ov_blk (ls2 := [(0, ov_r 90), (1, ov_i s), (2, ov_i x2), (3, ov_i x3), (4, ov_i x4), (5, ov_i (Int.tmod x4 6)), (6, ov_i (Int.tdiv x4 6)), (7, ov_i 0), (8, ov_i 0)]) (st2 := [ov_i 0]) (pc2 := 100) b_284_95_3 rfl rfl ?_
              refine ov_ifeq (tgt := 125) d_284_100 (by decide) (by omega) (fun c38 => ?_) (fun c38 => ?_)
              · skip
                refine ov_blk (ls2 := [(0, ov_r 90), (1, ov_i s), (2, ov_i x2), (3, ov_i x3), (4, ov_i (x4 + 1)), (5, ov_i (Int.tmod x4 6)), (6, ov_i (Int.tdiv x4 6)), (7, ov_i 0), (8, ov_i 0)]) (st2 := []) (pc2 := 128) b_284_125_1 rfl rfl ?_
                refine ov_goto (tgt := 7) d_284_128 (by decide) ?_
                refine ov_sub (ls2 := [(0, ov_r 90), (1, ov_i s), (2, ov_i x2), (3, ov_i x3), (4, ov_i (x4 + 1))]) (List.Sublist.subset (by repeat (first | exact List.Sublist.refl _ | apply List.Sublist.cons_cons | apply List.Sublist.cons))) ?_
                exact ih2 x2 x3 (x4 + 1) _ _ I7 E8 E9 E10 E11 E12 E13 E14 E15 E16 E17 E18 E19 xp (by show 0 ≤ (x4 + 1) ∧ (x4 + 1) ≤ 54 ∧ -1 ≤ x2 ∧ x2 ≤ 100 ∧ ov_g x3 ∧ (h 90 25) ≤ (h6 90 25) ∧ (h6 90 25) ≤ (h 90 25) + 62 * (x4 + 1) ∧ (h6 90 22) = (h 90 22) ∧ (h6 90 2) = (h 90 2) ∧ (h6 90 7) = (h 90 7) ∧ (h6 90 8) = (h 90 8) ∧ (h6 90 13) = (h 90 13) ∧ (h6 90 20) = (h 90 20) ∧ (h6 90 22) = (h 90 22) ∧ (h6 90 34) = (h 90 34); omega) (by omega)
              · omega
            · omega
          · skip
            refine ov_blk (ls2 := [(0, ov_r 90), (1, ov_i s), (2, ov_i x2), (3, ov_i x3), (4, ov_i x4), (5, ov_i (Int.tmod x4 6)), (6, ov_i (Int.tdiv x4 6))]) (st2 := [ov_i (Int.tdiv x4 6), ov_i (Int.tmod x4 6), ov_r 90]) (pc2 := 57) b_284_52_3 rfl rfl ?_
            refine ov_cV (as := [ov_i (Int.tmod x4 6), ov_i (Int.tdiv x4 6)]) (st := []) (d2 := d - 1) d_284_57 lk_Mo_302 rfl (Nat.le_of_ble_eq_true rfl) (c := 1) (zb_90 I7) (zs_90 I7) ⟨by decide, rfl⟩ (by omega) (c_Mo_isKnown_90 (d - 1) (by omega) U I7 (Int.tmod x4 6) (Int.tdiv x4 6) (by omega) (by omega) (by omega)) ?_
            rintro _ _ _ ⟨v40, rfl, rfl, rfl, f39⟩
            show ov_R u d ov_m284 60 [(0, ov_r 90), (1, ov_i s), (2, ov_i x2), (3, ov_i x3), (4, ov_i x4), (5, ov_i (Int.tmod x4 6)), (6, ov_i (Int.tdiv x4 6))] [ov_i v40] z5 h6 (P_Mo_worthiest_90 F z h s)
            rw [show h6 103 = h 103 from E17] at f39
            rw [show h6 96 = h 96 from E12] at f39
            have f41 : (v40 = 0 ∨ v40 = 1) ∧ (v40 = 1 → ((h 96 (10 + 4 * (6 * (Int.tdiv x4 6) + (Int.tmod x4 6)))) = 2 ∧ (h 103 (4 + 6 * (Int.tdiv x4 6) + (Int.tmod x4 6))) = 1)) ∧ (v40 = 0 → ¬ ((h 96 (10 + 4 * (6 * (Int.tdiv x4 6) + (Int.tmod x4 6)))) = 2 ∧ (h 103 (4 + 6 * (Int.tdiv x4 6) + (Int.tmod x4 6))) = 1)) := f39
            clear f39
            refine ov_ifne (tgt := 75) d_284_60 (by decide) (by omega) (fun c42 => ?_) (fun c42 => ?_)
            · skip
              have f41_ : v40 = 1 := by omega
              have f43 : ((h 96 (10 + 4 * (6 * (Int.tdiv x4 6) + (Int.tmod x4 6)))) = 2 ∧ (h 103 (4 + 6 * (Int.tdiv x4 6) + (Int.tmod x4 6))) = 1) := f41.2.1 (by omega)
              clear f41
              refine ov_blk (ls2 := [(0, ov_r 90), (1, ov_i s), (2, ov_i x2), (3, ov_i x3), (4, ov_i x4), (5, ov_i (Int.tmod x4 6)), (6, ov_i (Int.tdiv x4 6)), (7, ov_i 0)]) (st2 := [ov_i 0]) (pc2 := 80) b_284_75_3 rfl rfl ?_
              refine ov_ifeq (tgt := 95) d_284_80 (by decide) (by omega) (fun c44 => ?_) (fun c44 => ?_)
              · skip
                refine ov_blk (ls2 := [(0, ov_r 90), (1, ov_i s), (2, ov_i x2), (3, ov_i x3), (4, ov_i x4), (5, ov_i (Int.tmod x4 6)), (6, ov_i (Int.tdiv x4 6)), (7, ov_i 0), (8, ov_i 0)]) (st2 := [ov_i 0]) (pc2 := 100) b_284_95_3 rfl rfl ?_
                refine ov_ifeq (tgt := 125) d_284_100 (by decide) (by omega) (fun c45 => ?_) (fun c45 => ?_)
                · skip
                  refine ov_blk (ls2 := [(0, ov_r 90), (1, ov_i s), (2, ov_i x2), (3, ov_i x3), (4, ov_i (x4 + 1)), (5, ov_i (Int.tmod x4 6)), (6, ov_i (Int.tdiv x4 6)), (7, ov_i 0), (8, ov_i 0)]) (st2 := []) (pc2 := 128) b_284_125_1 rfl rfl ?_
                  refine ov_goto (tgt := 7) d_284_128 (by decide) ?_
                  refine ov_sub (ls2 := [(0, ov_r 90), (1, ov_i s), (2, ov_i x2), (3, ov_i x3), (4, ov_i (x4 + 1))]) (List.Sublist.subset (by repeat (first | exact List.Sublist.refl _ | apply List.Sublist.cons_cons | apply List.Sublist.cons))) ?_
                  exact ih2 x2 x3 (x4 + 1) _ _ I7 E8 E9 E10 E11 E12 E13 E14 E15 E16 E17 E18 E19 xp (by show 0 ≤ (x4 + 1) ∧ (x4 + 1) ≤ 54 ∧ -1 ≤ x2 ∧ x2 ≤ 100 ∧ ov_g x3 ∧ (h 90 25) ≤ (h6 90 25) ∧ (h6 90 25) ≤ (h 90 25) + 62 * (x4 + 1) ∧ (h6 90 22) = (h 90 22) ∧ (h6 90 2) = (h 90 2) ∧ (h6 90 7) = (h 90 7) ∧ (h6 90 8) = (h 90 8) ∧ (h6 90 13) = (h 90 13) ∧ (h6 90 20) = (h 90 20) ∧ (h6 90 22) = (h 90 22) ∧ (h6 90 34) = (h 90 34); omega) (by omega)
                · omega
              · omega
            · skip
              have f41_ : v40 = 0 := by omega
              have f46 : ¬ ((h 96 (10 + 4 * (6 * (Int.tdiv x4 6) + (Int.tmod x4 6)))) = 2 ∧ (h 103 (4 + 6 * (Int.tdiv x4 6) + (Int.tmod x4 6))) = 1) := f41.2.2 (by omega)
              clear f41
              refine ov_blk (ls2 := [(0, ov_r 90), (1, ov_i s), (2, ov_i x2), (3, ov_i x3), (4, ov_i x4), (5, ov_i (Int.tmod x4 6)), (6, ov_i (Int.tdiv x4 6))]) (st2 := [ov_i s, ov_r 90]) (pc2 := 65) b_284_63_2 rfl rfl ?_
              refine ov_cV (as := [ov_i s]) (st := []) (d2 := d - 1) d_284_65 lk_Mo_393 rfl (Nat.le_of_ble_eq_true rfl) (c := 1) (zb_90 I7) (zs_90 I7) ⟨by decide, rfl⟩ (by omega) (c_Mo_meanFrom0_90 (d - 1) (by omega) U I7 s (by omega) (by omega) (by show 0 ≤ (h6 90 25) ∧ (h6 90 25) ≤ 1500000000; omega) (by rw [show h6 96 = h 96 from E12]; exact W) (by rw [show h6 96 = h 96 from E12, show h6 97 = h 97 from E13, show h6 98 = h 98 from E14]; exact CD) (by rw [show h6 96 = h 96 from E12, show h6 103 = h 103 from E17, show h6 97 = h 97 from E13, show h6 98 = h 98 from E14]; exact xp)) ?_
              rintro _ z62 h63 ⟨v48, rfl, I64, f47, e49, e50, e51, e52, e53, e54, e55, e56, e57, e58, e59, e60, y61⟩
              have E65 : h63 92 = h 92 := Eq.trans e49 E8
              have E66 : h63 93 = h 93 := Eq.trans e50 E9
              have E67 : h63 94 = h 94 := Eq.trans e51 E10
              have E68 : h63 95 = h 95 := Eq.trans e52 E11
              have E69 : h63 96 = h 96 := Eq.trans e53 E12
              have E70 : h63 97 = h 97 := Eq.trans e54 E13
              have E71 : h63 98 = h 98 := Eq.trans e55 E14
              have E72 : h63 99 = h 99 := Eq.trans e56 E15
              have E73 : h63 100 = h 100 := Eq.trans e57 E16
              have E74 : h63 103 = h 103 := Eq.trans e58 E17
              have E75 : h63 109 = h 109 := Eq.trans e59 E18
              have E76 : h63 114 = h 114 := Eq.trans e60 E19
              show ov_R u d ov_m284 68 [(0, ov_r 90), (1, ov_i s), (2, ov_i x2), (3, ov_i x3), (4, ov_i x4), (5, ov_i (Int.tmod x4 6)), (6, ov_i (Int.tdiv x4 6))] [ov_i v48] z62 h63 (P_Mo_worthiest_90 F z h s)
              have f77 : (h63 90 2) = (h6 90 2) ∧ (h63 90 7) = (h6 90 7) ∧ (h63 90 8) = (h6 90 8) ∧ (h63 90 13) = (h6 90 13) ∧ (h63 90 20) = (h6 90 20) ∧ (h63 90 22) = (h6 90 22) ∧ (h63 90 34) = (h6 90 34) ∧ (h6 90 25) ≤ (h63 90 25) ∧ (h63 90 25) ≤ (h6 90 25) + 1 ∧ -1 ≤ v48 ∧ v48 ≤ 1200000 := f47
              clear f47
              rw [show h6 103 = h 103 from E17] at y61
              rw [show h6 96 = h 96 from E12] at y61
              rw [show h6 97 = h 97 from E13] at y61
              rw [show h6 98 = h 98 from E14] at y61
              have y61_ : ov_PM (h 96) (h 103) (h 97) (h 98) (h63 105) (h63 106) (h63 90 22) (h63 90 25) (h63 90 26) (h63 90 28) (h63 90 29) (h63 90 30) := y61
              refine ov_iflt (tgt := 75) d_284_68 (by decide) (by omega) (fun c78 => ?_) (fun c78 => ?_)
              · skip
                refine ov_blk (ls2 := [(0, ov_r 90), (1, ov_i s), (2, ov_i x2), (3, ov_i x3), (4, ov_i x4), (5, ov_i (Int.tmod x4 6)), (6, ov_i (Int.tdiv x4 6)), (7, ov_i 0)]) (st2 := [ov_i 0]) (pc2 := 80) b_284_75_3 rfl rfl ?_
                refine ov_ifeq (tgt := 95) d_284_80 (by decide) (by omega) (fun c79 => ?_) (fun c79 => ?_)
                · skip
                  refine ov_blk (ls2 := [(0, ov_r 90), (1, ov_i s), (2, ov_i x2), (3, ov_i x3), (4, ov_i x4), (5, ov_i (Int.tmod x4 6)), (6, ov_i (Int.tdiv x4 6)), (7, ov_i 0), (8, ov_i 0)]) (st2 := [ov_i 0]) (pc2 := 100) b_284_95_3 rfl rfl ?_
                  refine ov_ifeq (tgt := 125) d_284_100 (by decide) (by omega) (fun c80 => ?_) (fun c80 => ?_)
                  · skip
                    refine ov_blk (ls2 := [(0, ov_r 90), (1, ov_i s), (2, ov_i x2), (3, ov_i x3), (4, ov_i (x4 + 1)), (5, ov_i (Int.tmod x4 6)), (6, ov_i (Int.tdiv x4 6)), (7, ov_i 0), (8, ov_i 0)]) (st2 := []) (pc2 := 128) b_284_125_1 rfl rfl ?_
                    refine ov_goto (tgt := 7) d_284_128 (by decide) ?_
                    refine ov_sub (ls2 := [(0, ov_r 90), (1, ov_i s), (2, ov_i x2), (3, ov_i x3), (4, ov_i (x4 + 1))]) (List.Sublist.subset (by repeat (first | exact List.Sublist.refl _ | apply List.Sublist.cons_cons | apply List.Sublist.cons))) ?_
                    exact ih2 x2 x3 (x4 + 1) _ _ I64 E65 E66 E67 E68 E69 E70 E71 E72 E73 E74 E75 E76 y61_ (by show 0 ≤ (x4 + 1) ∧ (x4 + 1) ≤ 54 ∧ -1 ≤ x2 ∧ x2 ≤ 100 ∧ ov_g x3 ∧ (h 90 25) ≤ (h63 90 25) ∧ (h63 90 25) ≤ (h 90 25) + 62 * (x4 + 1) ∧ (h63 90 22) = (h 90 22) ∧ (h63 90 2) = (h 90 2) ∧ (h63 90 7) = (h 90 7) ∧ (h63 90 8) = (h 90 8) ∧ (h63 90 13) = (h 90 13) ∧ (h63 90 20) = (h 90 20) ∧ (h63 90 22) = (h 90 22) ∧ (h63 90 34) = (h 90 34); omega) (by omega)
                  · omega
                · omega
              · skip
                refine ov_blk (ls2 := [(0, ov_r 90), (1, ov_i s), (2, ov_i x2), (3, ov_i x3), (4, ov_i x4), (5, ov_i (Int.tmod x4 6)), (6, ov_i (Int.tdiv x4 6))]) (st2 := [ov_i 1]) (pc2 := 72) b_284_71_1 rfl rfl ?_
                refine ov_goto (tgt := 76) d_284_72 (by decide) ?_
                refine ov_blk (ls2 := [(0, ov_r 90), (1, ov_i s), (2, ov_i x2), (3, ov_i x3), (4, ov_i x4), (5, ov_i (Int.tmod x4 6)), (6, ov_i (Int.tdiv x4 6)), (7, ov_i 1)]) (st2 := [ov_i 1]) (pc2 := 80) b_284_76_2 rfl rfl ?_
                refine ov_ifeq (tgt := 95) d_284_80 (by decide) (by omega) (fun c81 => ?_) (fun c81 => ?_)
                · omega
                · skip
                  refine ov_blk (ls2 := [(0, ov_r 90), (1, ov_i s), (2, ov_i x2), (3, ov_i x3), (4, ov_i x4), (5, ov_i (Int.tmod x4 6)), (6, ov_i (Int.tdiv x4 6)), (7, ov_i 1)]) (st2 := [ov_i s, ov_i (Int.tdiv x4 6), ov_i (Int.tmod x4 6), ov_r 90]) (pc2 := 89) b_284_83_4 rfl rfl ?_
                  refine ov_cV (as := [ov_i (Int.tmod x4 6), ov_i (Int.tdiv x4 6), ov_i s]) (st := []) (d2 := d - 1) d_284_89 lk_Mo_396 rfl (Nat.le_of_ble_eq_true rfl) (c := 1) (zb_90 I64) (zs_90 I64) ⟨by decide, rfl⟩ (by omega) (c_Mo_watch_90 (d - 1) (by omega) U I64 (Int.tmod x4 6) (Int.tdiv x4 6) s (by omega) (by omega) (by omega) (by show 0 ≤ (h63 90 25) ∧ (h63 90 25) ≤ 1500000000; omega) (by rw [show h63 96 = h 96 from E69]; exact W) (by rw [show h63 96 = h 96 from E69, show h63 97 = h 97 from E70, show h63 98 = h 98 from E71]; exact CD) (by rw [show h63 96 = h 96 from E69, show h63 103 = h 103 from E74, show h63 97 = h 97 from E70, show h63 98 = h 98 from E71]; exact y61_)) ?_
                  rintro _ z97 h98 ⟨v83, rfl, I99, f82, e84, e85, e86, e87, e88, e89, e90, e91, e92, e93, e94, e95, y96⟩
                  have E100 : h98 92 = h 92 := Eq.trans e84 E65
                  have E101 : h98 93 = h 93 := Eq.trans e85 E66
                  have E102 : h98 94 = h 94 := Eq.trans e86 E67
                  have E103 : h98 95 = h 95 := Eq.trans e87 E68
                  have E104 : h98 96 = h 96 := Eq.trans e88 E69
                  have E105 : h98 97 = h 97 := Eq.trans e89 E70
                  have E106 : h98 98 = h 98 := Eq.trans e90 E71
                  have E107 : h98 99 = h 99 := Eq.trans e91 E72
                  have E108 : h98 100 = h 100 := Eq.trans e92 E73
                  have E109 : h98 103 = h 103 := Eq.trans e93 E74
                  have E110 : h98 109 = h 109 := Eq.trans e94 E75
                  have E111 : h98 114 = h 114 := Eq.trans e95 E76
                  show ov_R u d ov_m284 92 [(0, ov_r 90), (1, ov_i s), (2, ov_i x2), (3, ov_i x3), (4, ov_i x4), (5, ov_i (Int.tmod x4 6)), (6, ov_i (Int.tdiv x4 6)), (7, ov_i 1)] [ov_i v83] z97 h98 (P_Mo_worthiest_90 F z h s)
                  have f112 : (h98 90 2) = (h63 90 2) ∧ (h98 90 7) = (h63 90 7) ∧ (h98 90 8) = (h63 90 8) ∧ (h98 90 13) = (h63 90 13) ∧ (h98 90 20) = (h63 90 20) ∧ (h98 90 22) = (h63 90 22) ∧ (h98 90 34) = (h63 90 34) ∧ (h63 90 25) ≤ (h98 90 25) ∧ (h98 90 25) ≤ (h63 90 25) + 61 ∧ -2147483648 ≤ v83 ∧ v83 ≤ 2147483647 := f82
                  clear f82
                  rw [show h63 103 = h 103 from E74] at y96
                  rw [show h63 96 = h 96 from E69] at y96
                  rw [show h63 97 = h 97 from E70] at y96
                  rw [show h63 98 = h 98 from E71] at y96
                  have y96_ : ov_PM (h 96) (h 103) (h 97) (h 98) (h98 105) (h98 106) (h98 90 22) (h98 90 25) (h98 90 26) (h98 90 28) (h98 90 29) (h98 90 30) := y96
                  refine ov_goto (tgt := 96) d_284_92 (by decide) ?_
                  refine ov_blk (ls2 := [(0, ov_r 90), (1, ov_i s), (2, ov_i x2), (3, ov_i x3), (4, ov_i x4), (5, ov_i (Int.tmod x4 6)), (6, ov_i (Int.tdiv x4 6)), (7, ov_i 1), (8, ov_i v83)]) (st2 := [ov_i 1]) (pc2 := 100) b_284_96_2 rfl rfl ?_
                  refine ov_ifeq (tgt := 125) d_284_100 (by decide) (by omega) (fun c113 => ?_) (fun c113 => ?_)
                  · omega
                  · skip
                    refine ov_blk (ls2 := [(0, ov_r 90), (1, ov_i s), (2, ov_i x2), (3, ov_i x3), (4, ov_i x4), (5, ov_i (Int.tmod x4 6)), (6, ov_i (Int.tdiv x4 6)), (7, ov_i 1), (8, ov_i v83)]) (st2 := [ov_i x2]) (pc2 := 104) b_284_103_1 rfl rfl ?_
                    refine ov_iflt (tgt := 113) d_284_104 (by decide) (by omega) (fun c114 => ?_) (fun c114 => ?_)
                    · skip
                      refine ov_blk (ls2 := [(0, ov_r 90), (1, ov_i s), (2, ov_i ((8 * (Int.tdiv x4 6)) + (Int.tmod x4 6))), (3, ov_i v83), (4, ov_i (x4 + 1)), (5, ov_i (Int.tmod x4 6)), (6, ov_i (Int.tdiv x4 6)), (7, ov_i 1), (8, ov_i v83)]) (st2 := []) (pc2 := 128) b_284_113_9 rfl rfl ?_
                      refine ov_goto (tgt := 7) d_284_128 (by decide) ?_
                      refine ov_sub (ls2 := [(0, ov_r 90), (1, ov_i s), (2, ov_i ((8 * (Int.tdiv x4 6)) + (Int.tmod x4 6))), (3, ov_i v83), (4, ov_i (x4 + 1))]) (List.Sublist.subset (by repeat (first | exact List.Sublist.refl _ | apply List.Sublist.cons_cons | apply List.Sublist.cons))) ?_
                      exact ih2 ((8 * (Int.tdiv x4 6)) + (Int.tmod x4 6)) v83 (x4 + 1) _ _ I99 E100 E101 E102 E103 E104 E105 E106 E107 E108 E109 E110 E111 y96_ (by show 0 ≤ (x4 + 1) ∧ (x4 + 1) ≤ 54 ∧ -1 ≤ ((8 * (Int.tdiv x4 6)) + (Int.tmod x4 6)) ∧ ((8 * (Int.tdiv x4 6)) + (Int.tmod x4 6)) ≤ 100 ∧ ov_g v83 ∧ (h 90 25) ≤ (h98 90 25) ∧ (h98 90 25) ≤ (h 90 25) + 62 * (x4 + 1) ∧ (h98 90 22) = (h 90 22) ∧ (h98 90 2) = (h 90 2) ∧ (h98 90 7) = (h 90 7) ∧ (h98 90 8) = (h 90 8) ∧ (h98 90 13) = (h 90 13) ∧ (h98 90 20) = (h 90 20) ∧ (h98 90 22) = (h 90 22) ∧ (h98 90 34) = (h 90 34); omega) (by omega)
                    · skip
                      refine ov_blk (ls2 := [(0, ov_r 90), (1, ov_i s), (2, ov_i x2), (3, ov_i x3), (4, ov_i x4), (5, ov_i (Int.tmod x4 6)), (6, ov_i (Int.tdiv x4 6)), (7, ov_i 1), (8, ov_i v83)]) (st2 := [ov_i x3, ov_i v83]) (pc2 := 110) b_284_107_2 rfl rfl ?_
                      refine ov_icle (tgt := 125) d_284_110 (by decide) (by omega) (by omega) (fun c115 => ?_) (fun c115 => ?_)
                      · skip
                        refine ov_blk (ls2 := [(0, ov_r 90), (1, ov_i s), (2, ov_i x2), (3, ov_i x3), (4, ov_i (x4 + 1)), (5, ov_i (Int.tmod x4 6)), (6, ov_i (Int.tdiv x4 6)), (7, ov_i 1), (8, ov_i v83)]) (st2 := []) (pc2 := 128) b_284_125_1 rfl rfl ?_
                        refine ov_goto (tgt := 7) d_284_128 (by decide) ?_
                        refine ov_sub (ls2 := [(0, ov_r 90), (1, ov_i s), (2, ov_i x2), (3, ov_i x3), (4, ov_i (x4 + 1))]) (List.Sublist.subset (by repeat (first | exact List.Sublist.refl _ | apply List.Sublist.cons_cons | apply List.Sublist.cons))) ?_
                        exact ih2 x2 x3 (x4 + 1) _ _ I99 E100 E101 E102 E103 E104 E105 E106 E107 E108 E109 E110 E111 y96_ (by show 0 ≤ (x4 + 1) ∧ (x4 + 1) ≤ 54 ∧ -1 ≤ x2 ∧ x2 ≤ 100 ∧ ov_g x3 ∧ (h 90 25) ≤ (h98 90 25) ∧ (h98 90 25) ≤ (h 90 25) + 62 * (x4 + 1) ∧ (h98 90 22) = (h 90 22) ∧ (h98 90 2) = (h 90 2) ∧ (h98 90 7) = (h 90 7) ∧ (h98 90 8) = (h 90 8) ∧ (h98 90 13) = (h 90 13) ∧ (h98 90 20) = (h 90 20) ∧ (h98 90 22) = (h 90 22) ∧ (h98 90 34) = (h 90 34); omega) (by omega)
                      · skip
                        refine ov_blk (ls2 := [(0, ov_r 90), (1, ov_i s), (2, ov_i ((8 * (Int.tdiv x4 6)) + (Int.tmod x4 6))), (3, ov_i v83), (4, ov_i (x4 + 1)), (5, ov_i (Int.tmod x4 6)), (6, ov_i (Int.tdiv x4 6)), (7, ov_i 1), (8, ov_i v83)]) (st2 := []) (pc2 := 128) b_284_113_9 rfl rfl ?_
                        refine ov_goto (tgt := 7) d_284_128 (by decide) ?_
                        refine ov_sub (ls2 := [(0, ov_r 90), (1, ov_i s), (2, ov_i ((8 * (Int.tdiv x4 6)) + (Int.tmod x4 6))), (3, ov_i v83), (4, ov_i (x4 + 1))]) (List.Sublist.subset (by repeat (first | exact List.Sublist.refl _ | apply List.Sublist.cons_cons | apply List.Sublist.cons))) ?_
                        exact ih2 ((8 * (Int.tdiv x4 6)) + (Int.tmod x4 6)) v83 (x4 + 1) _ _ I99 E100 E101 E102 E103 E104 E105 E106 E107 E108 E109 E110 E111 y96_ (by show 0 ≤ (x4 + 1) ∧ (x4 + 1) ≤ 54 ∧ -1 ≤ ((8 * (Int.tdiv x4 6)) + (Int.tmod x4 6)) ∧ ((8 * (Int.tdiv x4 6)) + (Int.tmod x4 6)) ≤ 100 ∧ ov_g v83 ∧ (h 90 25) ≤ (h98 90 25) ∧ (h98 90 25) ≤ (h 90 25) + 62 * (x4 + 1) ∧ (h98 90 22) = (h 90 22) ∧ (h98 90 2) = (h 90 2) ∧ (h98 90 7) = (h 90 7) ∧ (h98 90 8) = (h 90 8) ∧ (h98 90 13) = (h 90 13) ∧ (h98 90 20) = (h 90 20) ∧ (h98 90 22) = (h 90 22) ∧ (h98 90 34) = (h 90 34); omega) (by omega)
  exact L4 55 (-1) 0 0 _ _ I rfl rfl rfl rfl rfl rfl rfl rfl rfl rfl rfl rfl PM (by show 0 ≤ 0 ∧ 0 ≤ 54 ∧ -1 ≤ (-1) ∧ (-1) ≤ 100 ∧ ov_g 0 ∧ (h 90 25) ≤ (h 90 25) ∧ (h 90 25) ≤ (h 90 25) + 62 * 0 ∧ (h 90 22) = (h 90 22) ∧ (h 90 2) = (h 90 2) ∧ (h 90 7) = (h 90 7) ∧ (h 90 8) = (h 90 8) ∧ (h 90 13) = (h 90 13) ∧ (h 90 20) = (h 90 20) ∧ (h 90 22) = (h 90 22) ∧ (h 90 34) = (h 90 34); omega) (by omega)
abbrev P_Mo_rules_90 (F : ov_H × ov_Z) (z : ov_Z) (h : ov_H) : Option ov_V → ov_Z → ov_H → Prop := fun r0 z' h' => ∃ r : Int, r0 = some (ov_i r) ∧ ov_N F z' h' ∧ ((h' 90 2) = (h 90 2) ∧ (h' 90 7) = (h 90 7) ∧ (h' 90 8) = (h 90 8) ∧ (h' 90 13) = (h 90 13) ∧ (h' 90 20) = (h 90 20) ∧ (h' 90 22) = (h 90 22) ∧ (h' 90 34) = (h 90 34) ∧ (h 90 25) ≤ (h' 90 25) ∧ (h' 90 25) ≤ (h 90 25) + 4 ∧ -1 ≤ r ∧ r ≤ 4) ∧ h' 92 = h 92 ∧ h' 93 = h 93 ∧ h' 94 = h 94 ∧ h' 95 = h 95 ∧ h' 96 = h 96 ∧ h' 97 = h 97 ∧ h' 98 = h 98 ∧ h' 99 = h 99 ∧ h' 100 = h 100 ∧ h' 103 = h 103 ∧ h' 109 = h 109 ∧ h' 114 = h 114 ∧ (ov_PM (h 96) (h 103) (h 97) (h 98) (h' 105) (h' 106) (h' 90 22) (h' 90 25) (h' 90 26) (h' 90 28) (h' 90 29) (h' 90 30))
set_option maxHeartbeats 4000000 in
theorem c_Mo_rules_90 {u : ov_U} {F : ov_H × ov_Z} {z : ov_Z} {h : ov_H} (d : Nat) (hd : 90 ≤ d) (U : ov_cap u) (I : ov_N F z h) (p0 : 0 ≤ (h 90 25) ∧ (h 90 25) ≤ 1000000000) (W : ov_WT (h 96)) (CD : ov_CD (h 96) (h 97) (h 98)) (PM : ov_PM (h 96) (h 103) (h 97) (h 98) (h 105) (h 106) (h 90 22) (h 90 25) (h 90 26) (h 90 28) (h 90 29) (h 90 30)) : ov_T u d ov_m301 [ov_r 90] z h (P_Mo_rules_90 F z h) := by
  refine ov_en rfl (Nat.le_of_ble_eq_true rfl) ?_
  show ov_R u d ov_m301 0 [(0, ov_r 90)] [] z h (P_Mo_rules_90 F z h)
  have t0 := t96_0 I
  have t1 := t96_1 I
  have t8 := t96_8 I
  have t9 := t96_9 I
  refine ov_blk (ls2 := [(0, ov_r 90)]) (st2 := [ov_i 0, ov_r 90]) (pc2 := 2) b_301_0_2 rfl rfl ?_
  refine ov_putf (x := 0) d_301_2 fl_Mo_1 (zb_90 I) (zs_90 I) rfl nk_0 rfl ?_
  have I1 := up_90_0 (x := 0) I (by omega)
  refine ov_blk (ls2 := [(0, ov_r 90), (1, ov_i (-1)), (2, ov_i 0), (3, ov_i 0)]) (st2 := []) (pc2 := 11) b_301_5_6 rfl rfl ?_
  have L5 : ∀ (n2 : Nat) (x1 : Int) (x2 : Int) (x3 : Int) (z6 : ov_Z) (h7 : ov_H) (I8 : ov_N F z6 h7) (E9 : h7 92 = h 92) (E10 : h7 93 = h 93) (E11 : h7 94 = h 94) (E12 : h7 95 = h 95) (E13 : h7 96 = h 96) (E14 : h7 97 = h 97) (E15 : h7 98 = h 98) (E16 : h7 99 = h 99) (E17 : h7 100 = h 100) (E18 : h7 103 = h 103) (E19 : h7 109 = h 109) (E20 : h7 114 = h 114) (xp : ov_PM (h 96) (h 103) (h 97) (h 98) (h7 105) (h7 106) (h7 90 22) (h7 90 25) (h7 90 26) (h7 90 28) (h7 90 29) (h7 90 30)) (q4 : 0 ≤ x3 ∧ x3 ≤ 4 ∧ x3 ≤ (h 96 8) ∧ -1 ≤ x1 ∧ x1 ≤ 4 ∧ ov_g x2 ∧ (h 90 25) ≤ (h7 90 25) ∧ (h7 90 25) ≤ (h 90 25) + x3 ∧ (h7 90 22) = (h 90 22) ∧ (h7 90 2) = (h 90 2) ∧ (h7 90 7) = (h 90 7) ∧ (h7 90 8) = (h 90 8) ∧ (h7 90 13) = (h 90 13) ∧ (h7 90 20) = (h 90 20) ∧ (h7 90 22) = (h 90 22) ∧ (h7 90 34) = (h 90 34)), 4 - x3 < (n2 : Int) → ov_R u d ov_m301 11 [(0, ov_r 90), (1, ov_i x1), (2, ov_i x2), (3, ov_i x3)] [] z6 h7 (P_Mo_rules_90 F z h) := by
    intro n2
    induction n2 with
    | zero =>
      intro x1 x2 x3 z6 h7 I8 E9 E10 E11 E12 E13 E14 E15 E16 E17 E18 E19 E20 xp q4 hn21
      exact absurd hn21 (by omega)
    | succ n2 ih3 =>
      intro x1 x2 x3 z6 h7 I8 E9 E10 E11 E12 E13 E14 E15 E16 E17 E18 E19 E20 xp q4 hn21
      refine ov_blk (ls2 := [(0, ov_r 90), (1, ov_i x1), (2, ov_i x2), (3, ov_i x3)]) (st2 := [ov_r 90, ov_i x3]) (pc2 := 13) b_301_11_2 rfl rfl ?_
      refine ov_getf (v := ov_r 96) d_301_13 fl_Mo_81 (zb_90 I8) (zs_90 I8) (congrArg ov_r (rg_90_10 I8)) ?_
      refine ov_blk (ls2 := [(0, ov_r 90), (1, ov_i x1), (2, ov_i x2), (3, ov_i x3)]) (st2 := [ov_i 8, ov_r 96, ov_i x3]) (pc2 := 18) b_301_16_1 rfl rfl ?_
      refine ov_iald d_301_18 (zb_96 I8) (zs_96 I8) (by omega) ?_
      rw [show h7 96 = h 96 from E13]
      have g22 := t96_8 I
      refine ov_icge (tgt := 67) d_301_19 (by decide) (by omega) (by omega) (fun c23 => ?_) (fun c23 => ?_)
      · skip
        refine ov_blk (ls2 := [(0, ov_r 90), (1, ov_i x1), (2, ov_i x2), (3, ov_i x3)]) (st2 := [ov_i x1]) (pc2 := 68) b_301_67_1 rfl rfl ?_
        exact ov_reti (st := []) d_301_68 rfl ⟨_, rfl, I8, (by show (h7 90 2) = (h 90 2) ∧ (h7 90 7) = (h 90 7) ∧ (h7 90 8) = (h 90 8) ∧ (h7 90 13) = (h 90 13) ∧ (h7 90 20) = (h 90 20) ∧ (h7 90 22) = (h 90 22) ∧ (h7 90 34) = (h 90 34) ∧ (h 90 25) ≤ (h7 90 25) ∧ (h7 90 25) ≤ (h 90 25) + 4 ∧ -1 ≤ x1 ∧ x1 ≤ 4; omega), E9, E10, E11, E12, E13, E14, E15, E16, E17, E18, E19, E20, xp⟩
      · skip
        refine ov_blk (ls2 := [(0, ov_r 90), (1, ov_i x1), (2, ov_i x2), (3, ov_i x3)]) (st2 := [ov_i 0, ov_i (-1), ov_i 0, ov_i (4 + x3), ov_r 90]) (pc2 := 29) b_301_22_7 rfl rfl ?_
        refine ov_cV (as := [ov_i (4 + x3), ov_i 0, ov_i (-1), ov_i 0]) (st := []) (d2 := d - 1) d_301_29 lk_Mo_389 rfl (Nat.le_of_ble_eq_true rfl) (c := 1) (zb_90 I8) (zs_90 I8) ⟨by decide, rfl⟩ (by omega) (c_Mo_asks_90 (d - 1) (by omega) U I8 (4 + x3) 0 (-1) 0 (by omega) (by omega) (by omega) (by omega) (by omega) (by omega) (by omega) (by show 0 ≤ (h7 90 25) ∧ (h7 90 25) ≤ 2000000000; omega)) ?_
        rintro _ z39 h40 ⟨rfl, I41, f24, e25, e26, e27, e28, e29, e30, e31, e32, e33, e34, e35, e36, e37, e38⟩
        have E42 : h40 92 = h 92 := Eq.trans e25 E9
        have E43 : h40 93 = h 93 := Eq.trans e26 E10
        have E44 : h40 94 = h 94 := Eq.trans e27 E11
        have E45 : h40 95 = h 95 := Eq.trans e28 E12
        have E46 : h40 96 = h 96 := Eq.trans e29 E13
        have E47 : h40 97 = h 97 := Eq.trans e30 E14
        have E48 : h40 98 = h 98 := Eq.trans e31 E15
        have E49 : h40 99 = h 99 := Eq.trans e32 E16
        have E50 : h40 100 = h 100 := Eq.trans e33 E17
        have E51 : h40 103 = h 103 := Eq.trans e34 E18
        have E52 : h40 105 = h7 105 := e35
        have E53 : h40 106 = h7 106 := e36
        have E54 : h40 109 = h 109 := Eq.trans e37 E19
        have E55 : h40 114 = h 114 := Eq.trans e38 E20
        show ov_R u d ov_m301 32 [(0, ov_r 90), (1, ov_i x1), (2, ov_i x2), (3, ov_i x3)] [] z39 h40 (P_Mo_rules_90 F z h)
        have f56 : (h40 90 2) = (h7 90 2) ∧ (h40 90 7) = (h7 90 7) ∧ (h40 90 8) = (h7 90 8) ∧ (h40 90 13) = (h7 90 13) ∧ (h40 90 20) = (h7 90 20) ∧ (h40 90 22) = (h7 90 22) ∧ (h40 90 34) = (h7 90 34) ∧ (h40 90 26) = (4 + x3) ∧ (h40 90 27) = (0 : Int) ∧ (h40 90 28) = (h7 90 22) ∧ (h40 90 29) = ((-1) : Int) ∧ (h40 90 30) = (0 : Int) ∧ (((h40 90 25) = (h7 90 25) + 1) ∨ ((h40 90 25) = (h7 90 25) ∧ (h7 90 26) = (4 + x3) ∧ (h7 90 27) = (0 : Int) ∧ (h7 90 28) = (h7 90 22) ∧ (h7 90 29) = ((-1) : Int) ∧ (h7 90 30) = (0 : Int))) := f24
        clear f24
        have mi57 : ov_MI (h 96) (h 103) (h 97) (h 98) (4 + x3) (-1) 0 (h40 90 25) (h7 105) (h7 106) := ov_PM_ask xp (by omega)
        refine ov_blk (ls2 := [(0, ov_r 90), (1, ov_i x1), (2, ov_i x2), (3, ov_i x3)]) (st2 := [ov_i 0, ov_i 0, ov_i 0, ov_r 90]) (pc2 := 36) b_301_32_4 rfl rfl ?_
        have cf58 : h40 96 (0) = h 96 (0) := congrFun E46 (0)
        have cf59 : h40 96 (1) = h 96 (1) := congrFun E46 (1)
        have cf60 : h40 96 (8) = h 96 (8) := congrFun E46 (8)
        refine ov_cV (as := [ov_i 0, ov_i 0, ov_i 0]) (st := []) (d2 := d - 1) d_301_36 lk_Mo_377 rfl (Nat.le_of_ble_eq_true rfl) (c := 1) (zb_90 I41) (zs_90 I41) ⟨by decide, rfl⟩ (by omega) (c_Mo_worthFrom_90_all ((4 + x3)) ((-1)) 0 ((h40 90 25)) (Int.toNat (13 - (0) - (0))) (d - 1) (by omega) U I41 0 0 0 (by omega) (by omega) (by omega) (by omega) (by show (0 : Int) < (h40 96 0) ∧ (0 : Int) < (h40 96 1); omega) (by omega) (by omega) (by show (h40 90 26) = (4 + x3); omega) (by show (h40 90 29) = ((-1) : Int); omega) (by show (h40 90 30) = (0 : Int); omega) (by show (h40 90 25) = (h40 90 25); omega) (by show 0 ≤ (4 + x3) ∧ (4 + x3) ≤ 3 + (h40 96 8); omega) (by rw [show h40 96 = h 96 from E46]; exact W) (by rw [show h40 96 = h 96 from E46, show h40 97 = h 97 from E47, show h40 98 = h 98 from E48]; exact CD) (by rw [show h40 96 = h 96 from E46, show h40 103 = h 103 from E51, show h40 97 = h 97 from E47, show h40 98 = h 98 from E48, show h40 105 = h7 105 from E52, show h40 106 = h7 106 from E53]; exact mi57)) ?_
        rintro _ z77 h78 ⟨v62, rfl, I79, f61, e63, e64, e65, e66, e67, e68, e69, e70, e71, e72, e73, e74, y75, y76⟩
        have E80 : h78 92 = h 92 := Eq.trans e63 E42
        have E81 : h78 93 = h 93 := Eq.trans e64 E43
        have E82 : h78 94 = h 94 := Eq.trans e65 E44
        have E83 : h78 95 = h 95 := Eq.trans e66 E45
        have E84 : h78 96 = h 96 := Eq.trans e67 E46
        have E85 : h78 97 = h 97 := Eq.trans e68 E47
        have E86 : h78 98 = h 98 := Eq.trans e69 E48
        have E87 : h78 99 = h 99 := Eq.trans e70 E49
        have E88 : h78 100 = h 100 := Eq.trans e71 E50
        have E89 : h78 103 = h 103 := Eq.trans e72 E51
        have E90 : h78 109 = h 109 := Eq.trans e73 E54
        have E91 : h78 114 = h 114 := Eq.trans e74 E55
        show ov_R u d ov_m301 39 [(0, ov_r 90), (1, ov_i x1), (2, ov_i x2), (3, ov_i x3)] [ov_i v62] z77 h78 (P_Mo_rules_90 F z h)
        have f92 : (h78 90 2) = (h40 90 2) ∧ (h78 90 7) = (h40 90 7) ∧ (h78 90 8) = (h40 90 8) ∧ (h78 90 13) = (h40 90 13) ∧ (h78 90 20) = (h40 90 20) ∧ (h78 90 22) = (h40 90 22) ∧ (h78 90 25) = (h40 90 25) ∧ (h78 90 26) = (h40 90 26) ∧ (h78 90 28) = (h40 90 28) ∧ (h78 90 29) = (h40 90 29) ∧ (h78 90 30) = (h40 90 30) ∧ (h78 90 34) = (h40 90 34) ∧ -1 ≤ v62 ∧ v62 ≤ 89000 * (13 - (0 : Int) - (0 : Int)) := f61
        clear f61
        rw [show h40 103 = h 103 from E51] at y75
        rw [show h40 96 = h 96 from E46] at y75
        rw [show h40 97 = h 97 from E47] at y75
        rw [show h40 98 = h 98 from E48] at y75
        have y75_ : ov_MI (h 96) (h 103) (h 97) (h 98) (4 + x3) ((-1) : Int) (0 : Int) (h40 90 25) (h78 105) (h78 106) := y75
        rw [show h40 103 = h 103 from E51] at y76
        rw [show h40 96 = h 96 from E46] at y76
        rw [show h40 97 = h 97 from E47] at y76
        rw [show h40 98 = h 98 from E48] at y76
        have y76_ : (0 ≤ v62 ↔ ov_go (h 96) (h 103) (h 97) (h 98) (4 + x3) ((-1) : Int) (0 : Int) (0 : Int) (0 : Int) ((0 : Int) % (h 96 9))) := y76
        refine ov_blk (ls2 := [(0, ov_r 90), (1, ov_i x1), (2, ov_i x2), (3, ov_i x3), (4, ov_i v62)]) (st2 := [ov_i v62]) (pc2 := 43) b_301_39_2 rfl rfl ?_
        refine ov_iflt (tgt := 61) d_301_43 (by decide) (by omega) (fun c93 => ?_) (fun c93 => ?_)
        · skip
          have pm94 : ov_PM (h 96) (h 103) (h 97) (h 98) (h78 105) (h78 106) (h78 90 22) (h78 90 25) (h78 90 26) (h78 90 28) (h78 90 29) (h78 90 30) := ov_PM_mi y75_ (by omega) (by omega) (by omega) (by omega) (by omega) (by omega)
          refine ov_blk (ls2 := [(0, ov_r 90), (1, ov_i x1), (2, ov_i x2), (3, ov_i (x3 + 1)), (4, ov_i v62)]) (st2 := []) (pc2 := 64) b_301_61_1 rfl rfl ?_
          refine ov_goto (tgt := 11) d_301_64 (by decide) ?_
          refine ov_sub (ls2 := [(0, ov_r 90), (1, ov_i x1), (2, ov_i x2), (3, ov_i (x3 + 1))]) (List.Sublist.subset (by repeat (first | exact List.Sublist.refl _ | apply List.Sublist.cons_cons | apply List.Sublist.cons))) ?_
          exact ih3 x1 x2 (x3 + 1) _ _ I79 E80 E81 E82 E83 E84 E85 E86 E87 E88 E89 E90 E91 pm94 (by show 0 ≤ (x3 + 1) ∧ (x3 + 1) ≤ 4 ∧ (x3 + 1) ≤ (h 96 8) ∧ -1 ≤ x1 ∧ x1 ≤ 4 ∧ ov_g x2 ∧ (h 90 25) ≤ (h78 90 25) ∧ (h78 90 25) ≤ (h 90 25) + (x3 + 1) ∧ (h78 90 22) = (h 90 22) ∧ (h78 90 2) = (h 90 2) ∧ (h78 90 7) = (h 90 7) ∧ (h78 90 8) = (h 90 8) ∧ (h78 90 13) = (h 90 13) ∧ (h78 90 20) = (h 90 20) ∧ (h78 90 22) = (h 90 22) ∧ (h78 90 34) = (h 90 34); omega) (by omega)
        · skip
          refine ov_blk (ls2 := [(0, ov_r 90), (1, ov_i x1), (2, ov_i x2), (3, ov_i x3), (4, ov_i v62)]) (st2 := [ov_i x1]) (pc2 := 47) b_301_46_1 rfl rfl ?_
          refine ov_iflt (tgt := 56) d_301_47 (by decide) (by omega) (fun c95 => ?_) (fun c95 => ?_)
          · skip
            refine ov_blk (ls2 := [(0, ov_r 90), (1, ov_i x3), (2, ov_i v62), (3, ov_i x3), (4, ov_i v62)]) (st2 := []) (pc2 := 61) b_301_56_4 rfl rfl ?_
            have pm96 : ov_PM (h 96) (h 103) (h 97) (h 98) (h78 105) (h78 106) (h78 90 22) (h78 90 25) (h78 90 26) (h78 90 28) (h78 90 29) (h78 90 30) := ov_PM_mi y75_ (by omega) (by omega) (by omega) (by omega) (by omega) (by omega)
            refine ov_blk (ls2 := [(0, ov_r 90), (1, ov_i x3), (2, ov_i v62), (3, ov_i (x3 + 1)), (4, ov_i v62)]) (st2 := []) (pc2 := 64) b_301_61_1 rfl rfl ?_
            refine ov_goto (tgt := 11) d_301_64 (by decide) ?_
            refine ov_sub (ls2 := [(0, ov_r 90), (1, ov_i x3), (2, ov_i v62), (3, ov_i (x3 + 1))]) (List.Sublist.subset (by repeat (first | exact List.Sublist.refl _ | apply List.Sublist.cons_cons | apply List.Sublist.cons))) ?_
            exact ih3 x3 v62 (x3 + 1) _ _ I79 E80 E81 E82 E83 E84 E85 E86 E87 E88 E89 E90 E91 pm96 (by show 0 ≤ (x3 + 1) ∧ (x3 + 1) ≤ 4 ∧ (x3 + 1) ≤ (h 96 8) ∧ -1 ≤ x3 ∧ x3 ≤ 4 ∧ ov_g v62 ∧ (h 90 25) ≤ (h78 90 25) ∧ (h78 90 25) ≤ (h 90 25) + (x3 + 1) ∧ (h78 90 22) = (h 90 22) ∧ (h78 90 2) = (h 90 2) ∧ (h78 90 7) = (h 90 7) ∧ (h78 90 8) = (h 90 8) ∧ (h78 90 13) = (h 90 13) ∧ (h78 90 20) = (h 90 20) ∧ (h78 90 22) = (h 90 22) ∧ (h78 90 34) = (h 90 34); omega) (by omega)
          · skip
            refine ov_blk (ls2 := [(0, ov_r 90), (1, ov_i x1), (2, ov_i x2), (3, ov_i x3), (4, ov_i v62)]) (st2 := [ov_i x2, ov_i v62]) (pc2 := 53) b_301_50_2 rfl rfl ?_
            refine ov_icge (tgt := 61) d_301_53 (by decide) (by omega) (by omega) (fun c97 => ?_) (fun c97 => ?_)
            · skip
              have pm98 : ov_PM (h 96) (h 103) (h 97) (h 98) (h78 105) (h78 106) (h78 90 22) (h78 90 25) (h78 90 26) (h78 90 28) (h78 90 29) (h78 90 30) := ov_PM_mi y75_ (by omega) (by omega) (by omega) (by omega) (by omega) (by omega)
              refine ov_blk (ls2 := [(0, ov_r 90), (1, ov_i x1), (2, ov_i x2), (3, ov_i (x3 + 1)), (4, ov_i v62)]) (st2 := []) (pc2 := 64) b_301_61_1 rfl rfl ?_
              refine ov_goto (tgt := 11) d_301_64 (by decide) ?_
              refine ov_sub (ls2 := [(0, ov_r 90), (1, ov_i x1), (2, ov_i x2), (3, ov_i (x3 + 1))]) (List.Sublist.subset (by repeat (first | exact List.Sublist.refl _ | apply List.Sublist.cons_cons | apply List.Sublist.cons))) ?_
              exact ih3 x1 x2 (x3 + 1) _ _ I79 E80 E81 E82 E83 E84 E85 E86 E87 E88 E89 E90 E91 pm98 (by show 0 ≤ (x3 + 1) ∧ (x3 + 1) ≤ 4 ∧ (x3 + 1) ≤ (h 96 8) ∧ -1 ≤ x1 ∧ x1 ≤ 4 ∧ ov_g x2 ∧ (h 90 25) ≤ (h78 90 25) ∧ (h78 90 25) ≤ (h 90 25) + (x3 + 1) ∧ (h78 90 22) = (h 90 22) ∧ (h78 90 2) = (h 90 2) ∧ (h78 90 7) = (h 90 7) ∧ (h78 90 8) = (h 90 8) ∧ (h78 90 13) = (h 90 13) ∧ (h78 90 20) = (h 90 20) ∧ (h78 90 22) = (h 90 22) ∧ (h78 90 34) = (h 90 34); omega) (by omega)
            · skip
              refine ov_blk (ls2 := [(0, ov_r 90), (1, ov_i x3), (2, ov_i v62), (3, ov_i x3), (4, ov_i v62)]) (st2 := []) (pc2 := 61) b_301_56_4 rfl rfl ?_
              have pm99 : ov_PM (h 96) (h 103) (h 97) (h 98) (h78 105) (h78 106) (h78 90 22) (h78 90 25) (h78 90 26) (h78 90 28) (h78 90 29) (h78 90 30) := ov_PM_mi y75_ (by omega) (by omega) (by omega) (by omega) (by omega) (by omega)
              refine ov_blk (ls2 := [(0, ov_r 90), (1, ov_i x3), (2, ov_i v62), (3, ov_i (x3 + 1)), (4, ov_i v62)]) (st2 := []) (pc2 := 64) b_301_61_1 rfl rfl ?_
              refine ov_goto (tgt := 11) d_301_64 (by decide) ?_
              refine ov_sub (ls2 := [(0, ov_r 90), (1, ov_i x3), (2, ov_i v62), (3, ov_i (x3 + 1))]) (List.Sublist.subset (by repeat (first | exact List.Sublist.refl _ | apply List.Sublist.cons_cons | apply List.Sublist.cons))) ?_
              exact ih3 x3 v62 (x3 + 1) _ _ I79 E80 E81 E82 E83 E84 E85 E86 E87 E88 E89 E90 E91 pm99 (by show 0 ≤ (x3 + 1) ∧ (x3 + 1) ≤ 4 ∧ (x3 + 1) ≤ (h 96 8) ∧ -1 ≤ x3 ∧ x3 ≤ 4 ∧ ov_g v62 ∧ (h 90 25) ≤ (h78 90 25) ∧ (h78 90 25) ≤ (h 90 25) + (x3 + 1) ∧ (h78 90 22) = (h 90 22) ∧ (h78 90 2) = (h 90 2) ∧ (h78 90 7) = (h 90 7) ∧ (h78 90 8) = (h 90 8) ∧ (h78 90 13) = (h 90 13) ∧ (h78 90 20) = (h 90 20) ∧ (h78 90 22) = (h 90 22) ∧ (h78 90 34) = (h 90 34); omega) (by omega)
  exact L5 5 (-1) 0 0 _ _ I1 rfl rfl rfl rfl rfl rfl rfl rfl rfl rfl rfl rfl PM (by show 0 ≤ 0 ∧ 0 ≤ 4 ∧ 0 ≤ (h 96 8) ∧ -1 ≤ (-1) ∧ (-1) ≤ 4 ∧ ov_g 0 ∧ (h 90 25) ≤ (h 90 25) ∧ (h 90 25) ≤ (h 90 25) + 0 ∧ (h 90 22) = (h 90 22) ∧ (h 90 2) = (h 90 2) ∧ (h 90 7) = (h 90 7) ∧ (h 90 8) = (h 90 8) ∧ (h 90 13) = (h 90 13) ∧ (h 90 20) = (h 90 20) ∧ (h 90 22) = (h 90 22) ∧ (h 90 34) = (h 90 34); omega) (by omega)

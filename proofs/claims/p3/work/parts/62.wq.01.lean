abbrev P_Mo_mean_90 (F : ov_H × ov_Z) (z : ov_Z) (h : ov_H) (ge : Int) (x : Int) (y : Int) (s : Int) : Option ov_V → ov_Z → ov_H → Prop := fun r0 z' h' => ∃ r : Int, r0 = some (ov_i r) ∧ ov_N F z' h' ∧ ((h' 90 2) = (h 90 2) ∧ (h' 90 7) = (h 90 7) ∧ (h' 90 8) = (h 90 8) ∧ (h' 90 13) = (h 90 13) ∧ (h' 90 20) = (h 90 20) ∧ (h' 90 22) = (h 90 22) ∧ (h' 90 34) = (h 90 34) ∧ (h 90 25) ≤ (h' 90 25) ∧ (h' 90 25) ≤ (h 90 25) + 1 ∧ -1 ≤ r ∧ r ≤ 1200000) ∧ h' 91 = h 91 ∧ h' 92 = h 92 ∧ h' 93 = h 93 ∧ h' 94 = h 94 ∧ h' 95 = h 95 ∧ h' 96 = h 96 ∧ h' 97 = h 97 ∧ h' 98 = h 98 ∧ h' 99 = h 99 ∧ h' 100 = h 100 ∧ h' 103 = h 103 ∧ h' 109 = h 109 ∧ h' 114 = h 114 ∧ (ov_PM (h 96) (h 103) (h 97) (h 98) (h' 105) (h' 106) (h' 90 22) (h' 90 25) (h' 90 26) (h' 90 28) (h' 90 29) (h' 90 30))
set_option maxHeartbeats 4000000 in
theorem c_Mo_mean_90 {u : ov_U} {F : ov_H × ov_Z} {z : ov_Z} {h : ov_H} (d : Nat) (hd : 90 ≤ d) (U : ov_cap u) (I : ov_N F z h) (ge : Int) (x : Int) (y : Int) (s : Int) (g_ge : ov_g ge) (g_x : ov_g x) (g_y : ov_g y) (g_s : ov_g s) (p0 : 0 ≤ (h 90 25) ∧ (h 90 25) ≤ 1000000000) (W : ov_WT (h 96)) (CD : ov_CD (h 96) (h 97) (h 98)) (PM : ov_PM (h 96) (h 103) (h 97) (h 98) (h 105) (h 106) (h 90 22) (h 90 25) (h 90 26) (h 90 28) (h 90 29) (h 90 30)) : ov_T u d ov_m268 [ov_r 90, ov_i ge, ov_i x, ov_i y, ov_i s] z h (P_Mo_mean_90 F z h ge x y s) := by
  refine ov_en rfl (Nat.le_of_ble_eq_true rfl) ?_
  show ov_R u d ov_m268 0 [(0, ov_r 90), (1, ov_i ge), (2, ov_i x), (3, ov_i y), (4, ov_i s)] [] z h (P_Mo_mean_90 F z h ge x y s)
  have t0 := t96_0 I
  have t1 := t96_1 I
  have t8 := t96_8 I
  have t9 := t96_9 I
  refine ov_blk (ls2 := [(0, ov_r 90), (1, ov_i ge), (2, ov_i x), (3, ov_i y), (4, ov_i s)]) (st2 := [ov_i 0, ov_r 90]) (pc2 := 2) b_268_0_2 rfl rfl ?_
  refine ov_putf (x := 0) d_268_2 fl_Mo_1 (zb_90 I) (zs_90 I) rfl nk_0 rfl ?_
  have I1 := up_90_0 (x := 0) I (by omega)
  refine ov_blk (ls2 := [(0, ov_r 90), (1, ov_i ge), (2, ov_i x), (3, ov_i y), (4, ov_i s)]) (st2 := [ov_i ge, ov_r 90]) (pc2 := 7) b_268_5_2 rfl rfl ?_
  refine ov_cV (as := [ov_i ge]) (st := []) (d2 := d - 1) d_268_7 lk_Mo_383 rfl (Nat.le_of_ble_eq_true rfl) (c := 1) (zb_90 I1) (zs_90 I1) ⟨by decide, rfl⟩ (by omega) (c_Mo_isGoer_90 (d - 1) (by omega) U I1 ge (by omega)) ?_
  rintro _ _ _ ⟨v3, rfl, rfl, rfl, f2⟩
  show ov_R u d ov_m268 10 [(0, ov_r 90), (1, ov_i ge), (2, ov_i x), (3, ov_i y), (4, ov_i s)] [ov_i v3] z (ov_up h 90 0 0) (P_Mo_mean_90 F z h ge x y s)
  have f4 : (v3 = 0 ∨ v3 = 1) ∧ (v3 = 1 → 0 ≤ ge ∧ ge ≤ 3 + (h 96 8)) := f2
  clear f2
  refine ov_ifeq (tgt := 24) d_268_10 (by decide) (by omega) (fun c5 => ?_) (fun c5 => ?_)
  · skip
    have f4_ : v3 = 0 := by omega
    clear f4
    refine ov_blk (ls2 := [(0, ov_r 90), (1, ov_i ge), (2, ov_i x), (3, ov_i y), (4, ov_i s)]) (st2 := [ov_i (-1)]) (pc2 := 25) b_268_24_1 rfl rfl ?_
    exact ov_reti (st := []) d_268_25 rfl ⟨_, rfl, I1, ⟨rfl, rfl, rfl, rfl, rfl, rfl, rfl, (by show (h 90 25) ≤ (h 90 25) ∧ (h 90 25) ≤ (h 90 25) + 1 ∧ -1 ≤ (-1) ∧ (-1) ≤ 1200000; omega)⟩, rfl, rfl, rfl, rfl, rfl, rfl, rfl, rfl, rfl, rfl, rfl, rfl, rfl, PM⟩
  · skip
    have f4_ : v3 = 1 := by omega
    have f6 : 0 ≤ ge ∧ ge ≤ 3 + (h 96 8) := f4.2 (by omega)
    clear f4
    refine ov_blk (ls2 := [(0, ov_r 90), (1, ov_i ge), (2, ov_i x), (3, ov_i y), (4, ov_i s)]) (st2 := [ov_i s, ov_i y, ov_i x, ov_r 90]) (pc2 := 18) b_268_13_4 rfl rfl ?_
    refine ov_cV (as := [ov_i x, ov_i y, ov_i s]) (st := []) (d2 := d - 1) d_268_18 lk_Mo_386 rfl (Nat.le_of_ble_eq_true rfl) (c := 1) (zb_90 I1) (zs_90 I1) ⟨by decide, rfl⟩ (by omega) (c_Mo_isPlace_90 (d - 1) (by omega) U I1 x y s (by omega) (by omega) (by omega)) ?_
    rintro _ _ _ ⟨v8, rfl, rfl, rfl, f7⟩
    show ov_R u d ov_m268 21 [(0, ov_r 90), (1, ov_i ge), (2, ov_i x), (3, ov_i y), (4, ov_i s)] [ov_i v8] z (ov_up h 90 0 0) (P_Mo_mean_90 F z h ge x y s)
    have f9 : (v8 = 0 ∨ v8 = 1) ∧ (v8 = 1 → 0 ≤ x ∧ x ≤ 5 ∧ 0 ≤ y ∧ y ≤ 8 ∧ x < (h 96 0) ∧ y < (h 96 1) ∧ 0 ≤ s ∧ s ≤ 1000000) := f7
    clear f7
    refine ov_ifne (tgt := 26) d_268_21 (by decide) (by omega) (fun c10 => ?_) (fun c10 => ?_)
    · skip
      have f9_ : v8 = 1 := by omega
      have f11 : 0 ≤ x ∧ x ≤ 5 ∧ 0 ≤ y ∧ y ≤ 8 ∧ x < (h 96 0) ∧ y < (h 96 1) ∧ 0 ≤ s ∧ s ≤ 1000000 := f9.2 (by omega)
      clear f9
      refine ov_blk (ls2 := [(0, ov_r 90), (1, ov_i ge), (2, ov_i x), (3, ov_i y), (4, ov_i s)]) (st2 := [ov_i 0, ov_i (-1), ov_i 0, ov_i ge, ov_r 90]) (pc2 := 31) b_268_26_5 rfl rfl ?_
      refine ov_cV (as := [ov_i ge, ov_i 0, ov_i (-1), ov_i 0]) (st := []) (d2 := d - 1) d_268_31 lk_Mo_389 rfl (Nat.le_of_ble_eq_true rfl) (c := 1) (zb_90 I1) (zs_90 I1) ⟨by decide, rfl⟩ (by omega) (c_Mo_asks_90 (d - 1) (by omega) U I1 ge 0 (-1) 0 (by omega) (by omega) (by omega) (by omega) (by omega) (by omega) (by omega) (by show 0 ≤ (h 90 25) ∧ (h 90 25) ≤ 2000000000; omega)) ?_
      rintro _ z28 h29 ⟨rfl, I30, f12, e13, e14, e15, e16, e17, e18, e19, e20, e21, e22, e23, e24, e25, e26, e27⟩
      have E31 : h29 91 = h 91 := e13
      have E32 : h29 92 = h 92 := e14
      have E33 : h29 93 = h 93 := e15
      have E34 : h29 94 = h 94 := e16
      have E35 : h29 95 = h 95 := e17
      have E36 : h29 96 = h 96 := e18
      have E37 : h29 97 = h 97 := e19
      have E38 : h29 98 = h 98 := e20
      have E39 : h29 99 = h 99 := e21
      have E40 : h29 100 = h 100 := e22
      have E41 : h29 103 = h 103 := e23
      have E42 : h29 105 = h 105 := e24
      have E43 : h29 106 = h 106 := e25
      have E44 : h29 109 = h 109 := e26
      have E45 : h29 114 = h 114 := e27
      show ov_R u d ov_m268 34 [(0, ov_r 90), (1, ov_i ge), (2, ov_i x), (3, ov_i y), (4, ov_i s)] [] z28 h29 (P_Mo_mean_90 F z h ge x y s)
      have f46 : (h29 90 2) = (h 90 2) ∧ (h29 90 7) = (h 90 7) ∧ (h29 90 8) = (h 90 8) ∧ (h29 90 13) = (h 90 13) ∧ (h29 90 20) = (h 90 20) ∧ (h29 90 22) = (h 90 22) ∧ (h29 90 34) = (h 90 34) ∧ (h29 90 26) = ge ∧ (h29 90 27) = (0 : Int) ∧ (h29 90 28) = (h 90 22) ∧ (h29 90 29) = ((-1) : Int) ∧ (h29 90 30) = (0 : Int) ∧ (((h29 90 25) = (h 90 25) + 1) ∨ ((h29 90 25) = (h 90 25) ∧ (h 90 26) = ge ∧ (h 90 27) = (0 : Int) ∧ (h 90 28) = (h 90 22) ∧ (h 90 29) = ((-1) : Int) ∧ (h 90 30) = (0 : Int))) := f12
      clear f12
      have mi47 : ov_MI (h 96) (h 103) (h 97) (h 98) ge (-1) 0 (h29 90 25) (h 105) (h 106) := ov_PM_ask PM (by omega)
      refine ov_blk (ls2 := [(0, ov_r 90), (1, ov_i ge), (2, ov_i x), (3, ov_i y), (4, ov_i s)]) (st2 := [ov_i s, ov_i y, ov_i x, ov_r 90]) (pc2 := 39) b_268_34_4 rfl rfl ?_
      have cf48 : h29 96 (0) = h 96 (0) := congrFun E36 (0)
      have cf49 : h29 96 (1) = h 96 (1) := congrFun E36 (1)
      have cf50 : h29 96 (8) = h 96 (8) := congrFun E36 (8)
      refine ov_cV (as := [ov_i x, ov_i y, ov_i s]) (st := []) (d2 := d - 1) d_268_39 lk_Mo_377 rfl (Nat.le_of_ble_eq_true rfl) (c := 1) (zb_90 I30) (zs_90 I30) ⟨by decide, rfl⟩ (by omega) (c_Mo_worthFrom_90_all ge ((-1)) 0 ((h29 90 25)) (Int.toNat (13 - (x) - (y))) (d - 1) (by omega) U I30 x y s (by omega) (by omega) (by omega) (by omega) (by show x < (h29 96 0) ∧ y < (h29 96 1); omega) (by omega) (by omega) (by show (h29 90 26) = ge; omega) (by show (h29 90 29) = ((-1) : Int); omega) (by show (h29 90 30) = (0 : Int); omega) (by show (h29 90 25) = (h29 90 25); omega) (by show 0 ≤ ge ∧ ge ≤ 3 + (h29 96 8); omega) (by rw [show h29 96 = h 96 from E36]; exact W) (by rw [show h29 96 = h 96 from E36, show h29 97 = h 97 from E37, show h29 98 = h 98 from E38]; exact CD) (by rw [show h29 96 = h 96 from E36, show h29 103 = h 103 from E41, show h29 97 = h 97 from E37, show h29 98 = h 98 from E38, show h29 105 = h 105 from E42, show h29 106 = h 106 from E43]; exact mi47)) ?_
      rintro _ z68 h69 ⟨v52, rfl, I70, f51, e53, e54, e55, e56, e57, e58, e59, e60, e61, e62, e63, e64, e65, y66, y67⟩
      have E71 : h69 91 = h 91 := Eq.trans e53 E31
      have E72 : h69 92 = h 92 := Eq.trans e54 E32
      have E73 : h69 93 = h 93 := Eq.trans e55 E33
      have E74 : h69 94 = h 94 := Eq.trans e56 E34
      have E75 : h69 95 = h 95 := Eq.trans e57 E35
      have E76 : h69 96 = h 96 := Eq.trans e58 E36
      have E77 : h69 97 = h 97 := Eq.trans e59 E37
      have E78 : h69 98 = h 98 := Eq.trans e60 E38
      have E79 : h69 99 = h 99 := Eq.trans e61 E39
      have E80 : h69 100 = h 100 := Eq.trans e62 E40
      have E81 : h69 103 = h 103 := Eq.trans e63 E41
      have E82 : h69 109 = h 109 := Eq.trans e64 E44
      have E83 : h69 114 = h 114 := Eq.trans e65 E45
      show ov_R u d ov_m268 42 [(0, ov_r 90), (1, ov_i ge), (2, ov_i x), (3, ov_i y), (4, ov_i s)] [ov_i v52] z68 h69 (P_Mo_mean_90 F z h ge x y s)
      have f84 : (h69 90 2) = (h29 90 2) ∧ (h69 90 7) = (h29 90 7) ∧ (h69 90 8) = (h29 90 8) ∧ (h69 90 13) = (h29 90 13) ∧ (h69 90 20) = (h29 90 20) ∧ (h69 90 22) = (h29 90 22) ∧ (h69 90 25) = (h29 90 25) ∧ (h69 90 26) = (h29 90 26) ∧ (h69 90 28) = (h29 90 28) ∧ (h69 90 29) = (h29 90 29) ∧ (h69 90 30) = (h29 90 30) ∧ (h69 90 34) = (h29 90 34) ∧ -1 ≤ v52 ∧ v52 ≤ 89000 * (13 - x - y) := f51
      clear f51
      rw [show h29 103 = h 103 from E41] at y66
      rw [show h29 96 = h 96 from E36] at y66
      rw [show h29 97 = h 97 from E37] at y66
      rw [show h29 98 = h 98 from E38] at y66
      have y66_ : ov_MI (h 96) (h 103) (h 97) (h 98) ge ((-1) : Int) (0 : Int) (h29 90 25) (h69 105) (h69 106) := y66
      rw [show h29 103 = h 103 from E41] at y67
      rw [show h29 96 = h 96 from E36] at y67
      rw [show h29 97 = h 97 from E37] at y67
      rw [show h29 98 = h 98 from E38] at y67
      have y67_ : (0 ≤ v52 ↔ ov_go (h 96) (h 103) (h 97) (h 98) ge ((-1) : Int) (0 : Int) x y (s % (h 96 9))) := y67
      have pm85 : ov_PM (h 96) (h 103) (h 97) (h 98) (h69 105) (h69 106) (h69 90 22) (h69 90 25) (h69 90 26) (h69 90 28) (h69 90 29) (h69 90 30) := ov_PM_mi y66_ (by omega) (by omega) (by omega) (by omega) (by omega) (by omega)
      exact ov_reti (st := []) d_268_42 rfl ⟨_, rfl, I70, (by show (h69 90 2) = (h 90 2) ∧ (h69 90 7) = (h 90 7) ∧ (h69 90 8) = (h 90 8) ∧ (h69 90 13) = (h 90 13) ∧ (h69 90 20) = (h 90 20) ∧ (h69 90 22) = (h 90 22) ∧ (h69 90 34) = (h 90 34) ∧ (h 90 25) ≤ (h69 90 25) ∧ (h69 90 25) ≤ (h 90 25) + 1 ∧ -1 ≤ v52 ∧ v52 ≤ 1200000; omega), E71, E72, E73, E74, E75, E76, E77, E78, E79, E80, E81, E82, E83, pm85⟩
    · skip
      have f9_ : v8 = 0 := by omega
      clear f9
      refine ov_blk (ls2 := [(0, ov_r 90), (1, ov_i ge), (2, ov_i x), (3, ov_i y), (4, ov_i s)]) (st2 := [ov_i (-1)]) (pc2 := 25) b_268_24_1 rfl rfl ?_
      exact ov_reti (st := []) d_268_25 rfl ⟨_, rfl, I1, ⟨rfl, rfl, rfl, rfl, rfl, rfl, rfl, (by show (h 90 25) ≤ (h 90 25) ∧ (h 90 25) ≤ (h 90 25) + 1 ∧ -1 ≤ (-1) ∧ (-1) ≤ 1200000; omega)⟩, rfl, rfl, rfl, rfl, rfl, rfl, rfl, rfl, rfl, rfl, rfl, rfl, rfl, PM⟩
abbrev P_Mo_worst_90 (F : ov_H × ov_Z) (z : ov_Z) (h : ov_H) (ge : Int) (x : Int) (y : Int) (s : Int) : Option ov_V → ov_Z → ov_H → Prop := fun r0 z' h' => ∃ r : Int, r0 = some (ov_i r) ∧ ov_N F z' h' ∧ ((h' 90 2) = (h 90 2) ∧ (h' 90 7) = (h 90 7) ∧ (h' 90 8) = (h 90 8) ∧ (h' 90 13) = (h 90 13) ∧ (h' 90 20) = (h 90 20) ∧ (h' 90 22) = (h 90 22) ∧ (h' 90 34) = (h 90 34) ∧ (h 90 25) ≤ (h' 90 25) ∧ (h' 90 25) ≤ (h 90 25) + 1 ∧ -1 ≤ r ∧ r ≤ 1200000) ∧ h' 91 = h 91 ∧ h' 92 = h 92 ∧ h' 93 = h 93 ∧ h' 94 = h 94 ∧ h' 95 = h 95 ∧ h' 96 = h 96 ∧ h' 97 = h 97 ∧ h' 98 = h 98 ∧ h' 99 = h 99 ∧ h' 100 = h 100 ∧ h' 103 = h 103 ∧ h' 109 = h 109 ∧ h' 114 = h 114 ∧ (ov_PM (h 96) (h 103) (h 97) (h 98) (h' 105) (h' 106) (h' 90 22) (h' 90 25) (h' 90 26) (h' 90 28) (h' 90 29) (h' 90 30))
set_option maxHeartbeats 4000000 in
theorem c_Mo_worst_90 {u : ov_U} {F : ov_H × ov_Z} {z : ov_Z} {h : ov_H} (d : Nat) (hd : 90 ≤ d) (U : ov_cap u) (I : ov_N F z h) (ge : Int) (x : Int) (y : Int) (s : Int) (g_ge : ov_g ge) (g_x : ov_g x) (g_y : ov_g y) (g_s : ov_g s) (p0 : 0 ≤ (h 90 25) ∧ (h 90 25) ≤ 1000000000) (W : ov_WT (h 96)) (CD : ov_CD (h 96) (h 97) (h 98)) (PM : ov_PM (h 96) (h 103) (h 97) (h 98) (h 105) (h 106) (h 90 22) (h 90 25) (h 90 26) (h 90 28) (h 90 29) (h 90 30)) : ov_T u d ov_m280 [ov_r 90, ov_i ge, ov_i x, ov_i y, ov_i s] z h (P_Mo_worst_90 F z h ge x y s) := by
  refine ov_en rfl (Nat.le_of_ble_eq_true rfl) ?_
  show ov_R u d ov_m280 0 [(0, ov_r 90), (1, ov_i ge), (2, ov_i x), (3, ov_i y), (4, ov_i s)] [] z h (P_Mo_worst_90 F z h ge x y s)
  have t0 := t96_0 I
  have t1 := t96_1 I
  have t8 := t96_8 I
  have t9 := t96_9 I
  refine ov_blk (ls2 := [(0, ov_r 90), (1, ov_i ge), (2, ov_i x), (3, ov_i y), (4, ov_i s)]) (st2 := [ov_i 0, ov_r 90]) (pc2 := 2) b_280_0_2 rfl rfl ?_
  refine ov_putf (x := 0) d_280_2 fl_Mo_1 (zb_90 I) (zs_90 I) rfl nk_0 rfl ?_
  have I1 := up_90_0 (x := 0) I (by omega)
  refine ov_blk (ls2 := [(0, ov_r 90), (1, ov_i ge), (2, ov_i x), (3, ov_i y), (4, ov_i s)]) (st2 := [ov_i ge, ov_r 90]) (pc2 := 7) b_280_5_2 rfl rfl ?_
  refine ov_cV (as := [ov_i ge]) (st := []) (d2 := d - 1) d_280_7 lk_Mo_383 rfl (Nat.le_of_ble_eq_true rfl) (c := 1) (zb_90 I1) (zs_90 I1) ⟨by decide, rfl⟩ (by omega) (c_Mo_isGoer_90 (d - 1) (by omega) U I1 ge (by omega)) ?_
  rintro _ _ _ ⟨v3, rfl, rfl, rfl, f2⟩
  show ov_R u d ov_m280 10 [(0, ov_r 90), (1, ov_i ge), (2, ov_i x), (3, ov_i y), (4, ov_i s)] [ov_i v3] z (ov_up h 90 0 0) (P_Mo_worst_90 F z h ge x y s)
  have f4 : (v3 = 0 ∨ v3 = 1) ∧ (v3 = 1 → 0 ≤ ge ∧ ge ≤ 3 + (h 96 8)) := f2
  clear f2
  refine ov_ifeq (tgt := 24) d_280_10 (by decide) (by omega) (fun c5 => ?_) (fun c5 => ?_)
  · skip
    have f4_ : v3 = 0 := by omega
    clear f4
    refine ov_blk (ls2 := [(0, ov_r 90), (1, ov_i ge), (2, ov_i x), (3, ov_i y), (4, ov_i s)]) (st2 := [ov_i (-1)]) (pc2 := 25) b_280_24_1 rfl rfl ?_
    exact ov_reti (st := []) d_280_25 rfl ⟨_, rfl, I1, ⟨rfl, rfl, rfl, rfl, rfl, rfl, rfl, (by show (h 90 25) ≤ (h 90 25) ∧ (h 90 25) ≤ (h 90 25) + 1 ∧ -1 ≤ (-1) ∧ (-1) ≤ 1200000; omega)⟩, rfl, rfl, rfl, rfl, rfl, rfl, rfl, rfl, rfl, rfl, rfl, rfl, rfl, PM⟩
  · skip
    have f4_ : v3 = 1 := by omega
    have f6 : 0 ≤ ge ∧ ge ≤ 3 + (h 96 8) := f4.2 (by omega)
    clear f4
    refine ov_blk (ls2 := [(0, ov_r 90), (1, ov_i ge), (2, ov_i x), (3, ov_i y), (4, ov_i s)]) (st2 := [ov_i s, ov_i y, ov_i x, ov_r 90]) (pc2 := 18) b_280_13_4 rfl rfl ?_
    refine ov_cV (as := [ov_i x, ov_i y, ov_i s]) (st := []) (d2 := d - 1) d_280_18 lk_Mo_386 rfl (Nat.le_of_ble_eq_true rfl) (c := 1) (zb_90 I1) (zs_90 I1) ⟨by decide, rfl⟩ (by omega) (c_Mo_isPlace_90 (d - 1) (by omega) U I1 x y s (by omega) (by omega) (by omega)) ?_
    rintro _ _ _ ⟨v8, rfl, rfl, rfl, f7⟩
    show ov_R u d ov_m280 21 [(0, ov_r 90), (1, ov_i ge), (2, ov_i x), (3, ov_i y), (4, ov_i s)] [ov_i v8] z (ov_up h 90 0 0) (P_Mo_worst_90 F z h ge x y s)
    have f9 : (v8 = 0 ∨ v8 = 1) ∧ (v8 = 1 → 0 ≤ x ∧ x ≤ 5 ∧ 0 ≤ y ∧ y ≤ 8 ∧ x < (h 96 0) ∧ y < (h 96 1) ∧ 0 ≤ s ∧ s ≤ 1000000) := f7
    clear f7
    refine ov_ifne (tgt := 26) d_280_21 (by decide) (by omega) (fun c10 => ?_) (fun c10 => ?_)
    · skip
      have f9_ : v8 = 1 := by omega
      have f11 : 0 ≤ x ∧ x ≤ 5 ∧ 0 ≤ y ∧ y ≤ 8 ∧ x < (h 96 0) ∧ y < (h 96 1) ∧ 0 ≤ s ∧ s ≤ 1000000 := f9.2 (by omega)
      clear f9
      refine ov_blk (ls2 := [(0, ov_r 90), (1, ov_i ge), (2, ov_i x), (3, ov_i y), (4, ov_i s)]) (st2 := [ov_i 0, ov_i (-1), ov_i 1, ov_i ge, ov_r 90]) (pc2 := 31) b_280_26_5 rfl rfl ?_
      refine ov_cV (as := [ov_i ge, ov_i 1, ov_i (-1), ov_i 0]) (st := []) (d2 := d - 1) d_280_31 lk_Mo_389 rfl (Nat.le_of_ble_eq_true rfl) (c := 1) (zb_90 I1) (zs_90 I1) ⟨by decide, rfl⟩ (by omega) (c_Mo_asks_90 (d - 1) (by omega) U I1 ge 1 (-1) 0 (by omega) (by omega) (by omega) (by omega) (by omega) (by omega) (by omega) (by show 0 ≤ (h 90 25) ∧ (h 90 25) ≤ 2000000000; omega)) ?_
      rintro _ z28 h29 ⟨rfl, I30, f12, e13, e14, e15, e16, e17, e18, e19, e20, e21, e22, e23, e24, e25, e26, e27⟩
      have E31 : h29 91 = h 91 := e13
      have E32 : h29 92 = h 92 := e14
      have E33 : h29 93 = h 93 := e15
      have E34 : h29 94 = h 94 := e16
      have E35 : h29 95 = h 95 := e17
      have E36 : h29 96 = h 96 := e18
      have E37 : h29 97 = h 97 := e19
      have E38 : h29 98 = h 98 := e20
      have E39 : h29 99 = h 99 := e21
      have E40 : h29 100 = h 100 := e22
      have E41 : h29 103 = h 103 := e23
      have E42 : h29 105 = h 105 := e24
      have E43 : h29 106 = h 106 := e25
      have E44 : h29 109 = h 109 := e26
      have E45 : h29 114 = h 114 := e27
      show ov_R u d ov_m280 34 [(0, ov_r 90), (1, ov_i ge), (2, ov_i x), (3, ov_i y), (4, ov_i s)] [] z28 h29 (P_Mo_worst_90 F z h ge x y s)
      have f46 : (h29 90 2) = (h 90 2) ∧ (h29 90 7) = (h 90 7) ∧ (h29 90 8) = (h 90 8) ∧ (h29 90 13) = (h 90 13) ∧ (h29 90 20) = (h 90 20) ∧ (h29 90 22) = (h 90 22) ∧ (h29 90 34) = (h 90 34) ∧ (h29 90 26) = ge ∧ (h29 90 27) = (1 : Int) ∧ (h29 90 28) = (h 90 22) ∧ (h29 90 29) = ((-1) : Int) ∧ (h29 90 30) = (0 : Int) ∧ (((h29 90 25) = (h 90 25) + 1) ∨ ((h29 90 25) = (h 90 25) ∧ (h 90 26) = ge ∧ (h 90 27) = (1 : Int) ∧ (h 90 28) = (h 90 22) ∧ (h 90 29) = ((-1) : Int) ∧ (h 90 30) = (0 : Int))) := f12
      clear f12
      have mi47 : ov_MI (h 96) (h 103) (h 97) (h 98) ge (-1) 0 (h29 90 25) (h 105) (h 106) := ov_PM_ask PM (by omega)
      refine ov_blk (ls2 := [(0, ov_r 90), (1, ov_i ge), (2, ov_i x), (3, ov_i y), (4, ov_i s)]) (st2 := [ov_i s, ov_i y, ov_i x, ov_r 90]) (pc2 := 39) b_280_34_4 rfl rfl ?_
      have cf48 : h29 96 (0) = h 96 (0) := congrFun E36 (0)
      have cf49 : h29 96 (1) = h 96 (1) := congrFun E36 (1)
      have cf50 : h29 96 (8) = h 96 (8) := congrFun E36 (8)
      refine ov_cV (as := [ov_i x, ov_i y, ov_i s]) (st := []) (d2 := d - 1) d_280_39 lk_Mo_377 rfl (Nat.le_of_ble_eq_true rfl) (c := 1) (zb_90 I30) (zs_90 I30) ⟨by decide, rfl⟩ (by omega) (c_Mo_worthFrom_90_all ge ((-1)) 0 ((h29 90 25)) (Int.toNat (13 - (x) - (y))) (d - 1) (by omega) U I30 x y s (by omega) (by omega) (by omega) (by omega) (by show x < (h29 96 0) ∧ y < (h29 96 1); omega) (by omega) (by omega) (by show (h29 90 26) = ge; omega) (by show (h29 90 29) = ((-1) : Int); omega) (by show (h29 90 30) = (0 : Int); omega) (by show (h29 90 25) = (h29 90 25); omega) (by show 0 ≤ ge ∧ ge ≤ 3 + (h29 96 8); omega) (by rw [show h29 96 = h 96 from E36]; exact W) (by rw [show h29 96 = h 96 from E36, show h29 97 = h 97 from E37, show h29 98 = h 98 from E38]; exact CD) (by rw [show h29 96 = h 96 from E36, show h29 103 = h 103 from E41, show h29 97 = h 97 from E37, show h29 98 = h 98 from E38, show h29 105 = h 105 from E42, show h29 106 = h 106 from E43]; exact mi47)) ?_
      rintro _ z68 h69 ⟨v52, rfl, I70, f51, e53, e54, e55, e56, e57, e58, e59, e60, e61, e62, e63, e64, e65, y66, y67⟩
      have E71 : h69 91 = h 91 := Eq.trans e53 E31
      have E72 : h69 92 = h 92 := Eq.trans e54 E32
      have E73 : h69 93 = h 93 := Eq.trans e55 E33
      have E74 : h69 94 = h 94 := Eq.trans e56 E34
      have E75 : h69 95 = h 95 := Eq.trans e57 E35
      have E76 : h69 96 = h 96 := Eq.trans e58 E36
      have E77 : h69 97 = h 97 := Eq.trans e59 E37
      have E78 : h69 98 = h 98 := Eq.trans e60 E38
      have E79 : h69 99 = h 99 := Eq.trans e61 E39
      have E80 : h69 100 = h 100 := Eq.trans e62 E40
      have E81 : h69 103 = h 103 := Eq.trans e63 E41
      have E82 : h69 109 = h 109 := Eq.trans e64 E44
      have E83 : h69 114 = h 114 := Eq.trans e65 E45
      show ov_R u d ov_m280 42 [(0, ov_r 90), (1, ov_i ge), (2, ov_i x), (3, ov_i y), (4, ov_i s)] [ov_i v52] z68 h69 (P_Mo_worst_90 F z h ge x y s)
      have f84 : (h69 90 2) = (h29 90 2) ∧ (h69 90 7) = (h29 90 7) ∧ (h69 90 8) = (h29 90 8) ∧ (h69 90 13) = (h29 90 13) ∧ (h69 90 20) = (h29 90 20) ∧ (h69 90 22) = (h29 90 22) ∧ (h69 90 25) = (h29 90 25) ∧ (h69 90 26) = (h29 90 26) ∧ (h69 90 28) = (h29 90 28) ∧ (h69 90 29) = (h29 90 29) ∧ (h69 90 30) = (h29 90 30) ∧ (h69 90 34) = (h29 90 34) ∧ -1 ≤ v52 ∧ v52 ≤ 89000 * (13 - x - y) := f51
      clear f51
      rw [show h29 103 = h 103 from E41] at y66
      rw [show h29 96 = h 96 from E36] at y66
      rw [show h29 97 = h 97 from E37] at y66
      rw [show h29 98 = h 98 from E38] at y66
      have y66_ : ov_MI (h 96) (h 103) (h 97) (h 98) ge ((-1) : Int) (0 : Int) (h29 90 25) (h69 105) (h69 106) := y66
      rw [show h29 103 = h 103 from E41] at y67
      rw [show h29 96 = h 96 from E36] at y67
      rw [show h29 97 = h 97 from E37] at y67
      rw [show h29 98 = h 98 from E38] at y67
      have y67_ : (0 ≤ v52 ↔ ov_go (h 96) (h 103) (h 97) (h 98) ge ((-1) : Int) (0 : Int) x y (s % (h 96 9))) := y67
      have pm85 : ov_PM (h 96) (h 103) (h 97) (h 98) (h69 105) (h69 106) (h69 90 22) (h69 90 25) (h69 90 26) (h69 90 28) (h69 90 29) (h69 90 30) := ov_PM_mi y66_ (by omega) (by omega) (by omega) (by omega) (by omega) (by omega)
      exact ov_reti (st := []) d_280_42 rfl ⟨_, rfl, I70, (by show (h69 90 2) = (h 90 2) ∧ (h69 90 7) = (h 90 7) ∧ (h69 90 8) = (h 90 8) ∧ (h69 90 13) = (h 90 13) ∧ (h69 90 20) = (h 90 20) ∧ (h69 90 22) = (h 90 22) ∧ (h69 90 34) = (h 90 34) ∧ (h 90 25) ≤ (h69 90 25) ∧ (h69 90 25) ≤ (h 90 25) + 1 ∧ -1 ≤ v52 ∧ v52 ≤ 1200000; omega), E71, E72, E73, E74, E75, E76, E77, E78, E79, E80, E81, E82, E83, pm85⟩
    · skip
      have f9_ : v8 = 0 := by omega
      clear f9
      refine ov_blk (ls2 := [(0, ov_r 90), (1, ov_i ge), (2, ov_i x), (3, ov_i y), (4, ov_i s)]) (st2 := [ov_i (-1)]) (pc2 := 25) b_280_24_1 rfl rfl ?_
      exact ov_reti (st := []) d_280_25 rfl ⟨_, rfl, I1, ⟨rfl, rfl, rfl, rfl, rfl, rfl, rfl, (by show (h 90 25) ≤ (h 90 25) ∧ (h 90 25) ≤ (h 90 25) + 1 ∧ -1 ≤ (-1) ∧ (-1) ≤ 1200000; omega)⟩, rfl, rfl, rfl, rfl, rfl, rfl, rfl, rfl, rfl, rfl, rfl, rfl, rfl, PM⟩
abbrev P_Mo_choice_90 (F : ov_H × ov_Z) (z : ov_Z) (h : ov_H) (x : Int) (y : Int) (s : Int) (e : Int) : Option ov_V → ov_Z → ov_H → Prop := fun r0 z' h' => ∃ r : Int, r0 = some (ov_i r) ∧ ov_N F z' h' ∧ ((h' 90 2) = (h 90 2) ∧ (h' 90 7) = (h 90 7) ∧ (h' 90 8) = (h 90 8) ∧ (h' 90 13) = (h 90 13) ∧ (h' 90 20) = (h 90 20) ∧ (h' 90 22) = (h 90 22) ∧ (h' 90 34) = (h 90 34) ∧ (h 90 25) ≤ (h' 90 25) ∧ (h' 90 25) ≤ (h 90 25) + 1 ∧ -1 ≤ r ∧ r ≤ 1) ∧ h' 91 = h 91 ∧ h' 92 = h 92 ∧ h' 93 = h 93 ∧ h' 94 = h 94 ∧ h' 95 = h 95 ∧ h' 96 = h 96 ∧ h' 97 = h 97 ∧ h' 98 = h 98 ∧ h' 99 = h 99 ∧ h' 100 = h 100 ∧ h' 103 = h 103 ∧ h' 109 = h 109 ∧ h' 114 = h 114 ∧ (ov_PM (h 96) (h 103) (h 97) (h 98) (h' 105) (h' 106) (h' 90 22) (h' 90 25) (h' 90 26) (h' 90 28) (h' 90 29) (h' 90 30))
set_option maxHeartbeats 4000000 in
theorem c_Mo_choice_90 {u : ov_U} {F : ov_H × ov_Z} {z : ov_Z} {h : ov_H} (d : Nat) (hd : 90 ≤ d) (U : ov_cap u) (I : ov_N F z h) (x : Int) (y : Int) (s : Int) (e : Int) (g_x : ov_g x) (g_y : ov_g y) (g_s : ov_g s) (g_e : ov_g e) (p0 : 0 ≤ (h 90 25) ∧ (h 90 25) ≤ 1000000000) (W : ov_WT (h 96)) (CD : ov_CD (h 96) (h 97) (h 98)) (PM : ov_PM (h 96) (h 103) (h 97) (h 98) (h 105) (h 106) (h 90 22) (h 90 25) (h 90 26) (h 90 28) (h 90 29) (h 90 30)) : ov_T u d ov_m281 [ov_r 90, ov_i x, ov_i y, ov_i s, ov_i e] z h (P_Mo_choice_90 F z h x y s e) := by
  refine ov_en rfl (Nat.le_of_ble_eq_true rfl) ?_
  show ov_R u d ov_m281 0 [(0, ov_r 90), (1, ov_i x), (2, ov_i y), (3, ov_i s), (4, ov_i e)] [] z h (P_Mo_choice_90 F z h x y s e)
  have t0 := t96_0 I
  have t1 := t96_1 I
  have t8 := t96_8 I
  have t9 := t96_9 I
  refine ov_blk (ls2 := [(0, ov_r 90), (1, ov_i x), (2, ov_i y), (3, ov_i s), (4, ov_i e)]) (st2 := [ov_i 0, ov_r 90]) (pc2 := 2) b_281_0_2 rfl rfl ?_
  refine ov_putf (x := 0) d_281_2 fl_Mo_1 (zb_90 I) (zs_90 I) rfl nk_0 rfl ?_
  have I1 := up_90_0 (x := 0) I (by omega)
  refine ov_blk (ls2 := [(0, ov_r 90), (1, ov_i x), (2, ov_i y), (3, ov_i s), (4, ov_i e)]) (st2 := [ov_i 0, ov_i (-1), ov_i 0, ov_i 3, ov_r 90]) (pc2 := 10) b_281_5_5 rfl rfl ?_
  refine ov_cV (as := [ov_i 3, ov_i 0, ov_i (-1), ov_i 0]) (st := []) (d2 := d - 1) d_281_10 lk_Mo_389 rfl (Nat.le_of_ble_eq_true rfl) (c := 1) (zb_90 I1) (zs_90 I1) ⟨by decide, rfl⟩ (by omega) (c_Mo_asks_90 (d - 1) (by omega) U I1 3 0 (-1) 0 (by omega) (by omega) (by omega) (by omega) (by omega) (by omega) (by omega) (by show 0 ≤ (h 90 25) ∧ (h 90 25) ≤ 2000000000; omega)) ?_
  rintro _ z18 h19 ⟨rfl, I20, f2, e3, e4, e5, e6, e7, e8, e9, e10, e11, e12, e13, e14, e15, e16, e17⟩
  have E21 : h19 91 = h 91 := e3
  have E22 : h19 92 = h 92 := e4
  have E23 : h19 93 = h 93 := e5
  have E24 : h19 94 = h 94 := e6
  have E25 : h19 95 = h 95 := e7
  have E26 : h19 96 = h 96 := e8
  have E27 : h19 97 = h 97 := e9
  have E28 : h19 98 = h 98 := e10
  have E29 : h19 99 = h 99 := e11
  have E30 : h19 100 = h 100 := e12
  have E31 : h19 103 = h 103 := e13
  have E32 : h19 105 = h 105 := e14
  have E33 : h19 106 = h 106 := e15
  have E34 : h19 109 = h 109 := e16
  have E35 : h19 114 = h 114 := e17
  show ov_R u d ov_m281 13 [(0, ov_r 90), (1, ov_i x), (2, ov_i y), (3, ov_i s), (4, ov_i e)] [] z18 h19 (P_Mo_choice_90 F z h x y s e)
  have f36 : (h19 90 2) = (h 90 2) ∧ (h19 90 7) = (h 90 7) ∧ (h19 90 8) = (h 90 8) ∧ (h19 90 13) = (h 90 13) ∧ (h19 90 20) = (h 90 20) ∧ (h19 90 22) = (h 90 22) ∧ (h19 90 34) = (h 90 34) ∧ (h19 90 26) = (3 : Int) ∧ (h19 90 27) = (0 : Int) ∧ (h19 90 28) = (h 90 22) ∧ (h19 90 29) = ((-1) : Int) ∧ (h19 90 30) = (0 : Int) ∧ (((h19 90 25) = (h 90 25) + 1) ∨ ((h19 90 25) = (h 90 25) ∧ (h 90 26) = (3 : Int) ∧ (h 90 27) = (0 : Int) ∧ (h 90 28) = (h 90 22) ∧ (h 90 29) = ((-1) : Int) ∧ (h 90 30) = (0 : Int))) := f2
  clear f2
  have mi37 : ov_MI (h 96) (h 103) (h 97) (h 98) 3 (-1) 0 (h19 90 25) (h 105) (h 106) := ov_PM_ask PM (by omega)
  refine ov_blk (ls2 := [(0, ov_r 90), (1, ov_i x), (2, ov_i y), (3, ov_i s), (4, ov_i e)]) (st2 := [ov_i s, ov_i y, ov_i x, ov_r 90]) (pc2 := 17) b_281_13_4 rfl rfl ?_
  refine ov_cV (as := [ov_i x, ov_i y, ov_i s]) (st := []) (d2 := d - 1) d_281_17 lk_Mo_386 rfl (Nat.le_of_ble_eq_true rfl) (c := 1) (zb_90 I20) (zs_90 I20) ⟨by decide, rfl⟩ (by omega) (c_Mo_isPlace_90 (d - 1) (by omega) U I20 x y s (by omega) (by omega) (by omega)) ?_
  rintro _ _ _ ⟨v39, rfl, rfl, rfl, f38⟩
  show ov_R u d ov_m281 20 [(0, ov_r 90), (1, ov_i x), (2, ov_i y), (3, ov_i s), (4, ov_i e)] [ov_i v39] z18 h19 (P_Mo_choice_90 F z h x y s e)
  rw [show h19 96 = h 96 from E26] at f38
  have f40 : (v39 = 0 ∨ v39 = 1) ∧ (v39 = 1 → 0 ≤ x ∧ x ≤ 5 ∧ 0 ≤ y ∧ y ≤ 8 ∧ x < (h 96 0) ∧ y < (h 96 1) ∧ 0 ≤ s ∧ s ≤ 1000000) := f38
  clear f38
  refine ov_ifeq (tgt := 59) d_281_20 (by decide) (by omega) (fun c41 => ?_) (fun c41 => ?_)
  · skip
    have f40_ : v39 = 0 := by omega
    clear f40
    refine ov_blk (ls2 := [(0, ov_r 90), (1, ov_i x), (2, ov_i y), (3, ov_i s), (4, ov_i e)]) (st2 := [ov_i (-1)]) (pc2 := 60) b_281_59_1 rfl rfl ?_
    have pm42 : ov_PM (h 96) (h 103) (h 97) (h 98) (h 105) (h 106) (h19 90 22) (h19 90 25) (h19 90 26) (h19 90 28) (h19 90 29) (h19 90 30) := ov_PM_mi mi37 (by omega) (by omega) (by omega) (by omega) (by omega) (by omega)
    exact ov_reti (st := []) d_281_60 rfl ⟨_, rfl, I20, (by show (h19 90 2) = (h 90 2) ∧ (h19 90 7) = (h 90 7) ∧ (h19 90 8) = (h 90 8) ∧ (h19 90 13) = (h 90 13) ∧ (h19 90 20) = (h 90 20) ∧ (h19 90 22) = (h 90 22) ∧ (h19 90 34) = (h 90 34) ∧ (h 90 25) ≤ (h19 90 25) ∧ (h19 90 25) ≤ (h 90 25) + 1 ∧ -1 ≤ (-1) ∧ (-1) ≤ 1; omega), E21, E22, E23, E24, E25, E26, E27, E28, E29, E30, E31, E34, E35, (by show ov_PM (h 96) (h 103) (h 97) (h 98) (h19 105) (h19 106) (h19 90 22) (h19 90 25) (h19 90 26) (h19 90 28) (h19 90 29) (h19 90 30); rw [show h19 105 = h 105 from E32, show h19 106 = h 106 from E33]; exact pm42)⟩
  · skip
    have f40_ : v39 = 1 := by omega
    have f43 : 0 ≤ x ∧ x ≤ 5 ∧ 0 ≤ y ∧ y ≤ 8 ∧ x < (h 96 0) ∧ y < (h 96 1) ∧ 0 ≤ s ∧ s ≤ 1000000 := f40.2 (by omega)
    clear f40
    refine ov_blk (ls2 := [(0, ov_r 90), (1, ov_i x), (2, ov_i y), (3, ov_i s), (4, ov_i e)]) (st2 := [ov_i y, ov_i x, ov_r 90]) (pc2 := 26) b_281_23_3 rfl rfl ?_
    refine ov_cV (as := [ov_i x, ov_i y]) (st := []) (d2 := d - 1) d_281_26 lk_Mo_335 rfl (Nat.le_of_ble_eq_true rfl) (c := 1) (zb_90 I20) (zs_90 I20) ⟨by decide, rfl⟩ (by omega) (c_Mo_isHome_90 (d - 1) (by omega) U I20 x y (by omega) (by omega) (by omega)) ?_
    rintro _ _ _ ⟨v45, rfl, rfl, rfl, f44⟩
    show ov_R u d ov_m281 29 [(0, ov_r 90), (1, ov_i x), (2, ov_i y), (3, ov_i s), (4, ov_i e)] [ov_i v45] z18 h19 (P_Mo_choice_90 F z h x y s e)
    rw [show h19 96 = h 96 from E26] at f44
    have f46 : (v45 = 0 ∨ v45 = 1) ∧ (v45 = 1 → x = (h 96 0) - 1 ∧ y = (h 96 1) - 1) ∧ (v45 = 0 → ¬ (x = (h 96 0) - 1 ∧ y = (h 96 1) - 1)) := f44
    clear f44
    refine ov_ifne (tgt := 59) d_281_29 (by decide) (by omega) (fun c47 => ?_) (fun c47 => ?_)
    · skip
      have f46_ : v45 = 1 := by omega
      have f48 : x = (h 96 0) - 1 ∧ y = (h 96 1) - 1 := f46.2.1 (by omega)
      clear f46
      refine ov_blk (ls2 := [(0, ov_r 90), (1, ov_i x), (2, ov_i y), (3, ov_i s), (4, ov_i e)]) (st2 := [ov_i (-1)]) (pc2 := 60) b_281_59_1 rfl rfl ?_
      have pm49 : ov_PM (h 96) (h 103) (h 97) (h 98) (h 105) (h 106) (h19 90 22) (h19 90 25) (h19 90 26) (h19 90 28) (h19 90 29) (h19 90 30) := ov_PM_mi mi37 (by omega) (by omega) (by omega) (by omega) (by omega) (by omega)
      exact ov_reti (st := []) d_281_60 rfl ⟨_, rfl, I20, (by show (h19 90 2) = (h 90 2) ∧ (h19 90 7) = (h 90 7) ∧ (h19 90 8) = (h 90 8) ∧ (h19 90 13) = (h 90 13) ∧ (h19 90 20) = (h 90 20) ∧ (h19 90 22) = (h 90 22) ∧ (h19 90 34) = (h 90 34) ∧ (h 90 25) ≤ (h19 90 25) ∧ (h19 90 25) ≤ (h 90 25) + 1 ∧ -1 ≤ (-1) ∧ (-1) ≤ 1; omega), E21, E22, E23, E24, E25, E26, E27, E28, E29, E30, E31, E34, E35, (by show ov_PM (h 96) (h 103) (h 97) (h 98) (h19 105) (h19 106) (h19 90 22) (h19 90 25) (h19 90 26) (h19 90 28) (h19 90 29) (h19 90 30); rw [show h19 105 = h 105 from E32, show h19 106 = h 106 from E33]; exact pm49)⟩
    · skip
      have f46_ : v45 = 0 := by omega
      have f50 : ¬ (x = (h 96 0) - 1 ∧ y = (h 96 1) - 1) := f46.2.2 (by omega)
      clear f46
      refine ov_blk (ls2 := [(0, ov_r 90), (1, ov_i x), (2, ov_i y), (3, ov_i s), (4, ov_i e)]) (st2 := [ov_i y, ov_i x, ov_r 90]) (pc2 := 35) b_281_32_3 rfl rfl ?_
      refine ov_cV (as := [ov_i x, ov_i y]) (st := []) (d2 := d - 1) d_281_35 lk_Mo_362 rfl (Nat.le_of_ble_eq_true rfl) (c := 1) (zb_90 I20) (zs_90 I20) ⟨by decide, rfl⟩ (by omega) (c_Mo_isUnknown_90 (d - 1) (by omega) U I20 x y (by omega) (by omega) (by omega)) ?_
      rintro _ _ _ ⟨v52, rfl, rfl, rfl, f51⟩
      show ov_R u d ov_m281 38 [(0, ov_r 90), (1, ov_i x), (2, ov_i y), (3, ov_i s), (4, ov_i e)] [ov_i v52] z18 h19 (P_Mo_choice_90 F z h x y s e)
      rw [show h19 103 = h 103 from E31] at f51
      rw [show h19 96 = h 96 from E26] at f51
      have f53 : (v52 = 0 ∨ v52 = 1) ∧ (v52 = 1 → ((h 96 (10 + 4 * (6 * y + x))) = 2 ∧ ¬ (h 103 (4 + 6 * y + x)) = 1 ∧ ¬ 6 * y + x = (h19 90 29))) ∧ (v52 = 0 → ¬ ((h 96 (10 + 4 * (6 * y + x))) = 2 ∧ ¬ (h 103 (4 + 6 * y + x)) = 1 ∧ ¬ 6 * y + x = (h19 90 29))) := f51
      clear f51
      refine ov_ifeq (tgt := 61) d_281_38 (by decide) (by omega) (fun c54 => ?_) (fun c54 => ?_)
      · skip
        have f53_ : v52 = 0 := by omega
        have f55 : ¬ ((h 96 (10 + 4 * (6 * y + x))) = 2 ∧ ¬ (h 103 (4 + 6 * y + x)) = 1 ∧ ¬ 6 * y + x = (h19 90 29)) := f53.2.2 (by omega)
        clear f53
        refine ov_blk (ls2 := [(0, ov_r 90), (1, ov_i x), (2, ov_i y), (3, ov_i s), (4, ov_i e)]) (st2 := [ov_r 90, ov_i s]) (pc2 := 63) b_281_61_2 rfl rfl ?_
        refine ov_getf (v := ov_r 96) d_281_63 fl_Mo_81 (zb_90 I20) (zs_90 I20) (congrArg ov_r (rg_90_10 I20)) ?_
        refine ov_blk (ls2 := [(0, ov_r 90), (1, ov_i x), (2, ov_i y), (3, ov_i s), (4, ov_i e)]) (st2 := [ov_i 9, ov_r 96, ov_i s]) (pc2 := 68) b_281_66_1 rfl rfl ?_
        refine ov_iald d_281_68 (zb_96 I20) (zs_96 I20) (by omega) ?_
        rw [show h19 96 = h 96 from E26]
        have g56 := t96_9 I
        have gt1 := ov_tmv (x := s) (y := (h 96 9)) (by omega) (by omega)
        refine ov_irem d_281_69 (by omega) (by omega) (by omega) ?_
        have g57 := ov_tmg (a := s) (b := (h 96 9)) (by omega) (by omega)
        refine ov_blk (ls2 := [(0, ov_r 90), (1, ov_i x), (2, ov_i y), (3, ov_i s), (4, ov_i e), (5, ov_i (Int.tmod s (h 96 9)))]) (st2 := [ov_i s, ov_i y, ov_i x, ov_r 90]) (pc2 := 76) b_281_70_5 rfl rfl ?_
        have cf58 : h19 96 (0) = h 96 (0) := congrFun E26 (0)
        have cf59 : h19 96 (1) = h 96 (1) := congrFun E26 (1)
        have cf60 : h19 96 (8) = h 96 (8) := congrFun E26 (8)
        refine ov_cV (as := [ov_i x, ov_i y, ov_i s]) (st := []) (d2 := d - 1) d_281_76 lk_Mo_377 rfl (Nat.le_of_ble_eq_true rfl) (c := 1) (zb_90 I20) (zs_90 I20) ⟨by decide, rfl⟩ (by omega) (c_Mo_worthFrom_90_all 3 ((-1)) 0 ((h19 90 25)) (Int.toNat (13 - (x) - (y))) (d - 1) (by omega) U I20 x y s (by omega) (by omega) (by omega) (by omega) (by show x < (h19 96 0) ∧ y < (h19 96 1); omega) (by omega) (by omega) (by show (h19 90 26) = (3 : Int); omega) (by show (h19 90 29) = ((-1) : Int); omega) (by show (h19 90 30) = (0 : Int); omega) (by show (h19 90 25) = (h19 90 25); omega) (by show 0 ≤ (3 : Int) ∧ (3 : Int) ≤ 3 + (h19 96 8); omega) (by rw [show h19 96 = h 96 from E26]; exact W) (by rw [show h19 96 = h 96 from E26, show h19 97 = h 97 from E27, show h19 98 = h 98 from E28]; exact CD) (by rw [show h19 96 = h 96 from E26, show h19 103 = h 103 from E31, show h19 97 = h 97 from E27, show h19 98 = h 98 from E28, show h19 105 = h 105 from E32, show h19 106 = h 106 from E33]; exact mi37)) ?_
        rintro _ z78 h79 ⟨v62, rfl, I80, f61, e63, e64, e65, e66, e67, e68, e69, e70, e71, e72, e73, e74, e75, y76, y77⟩
        have E81 : h79 91 = h 91 := Eq.trans e63 E21
        have E82 : h79 92 = h 92 := Eq.trans e64 E22
        have E83 : h79 93 = h 93 := Eq.trans e65 E23
        have E84 : h79 94 = h 94 := Eq.trans e66 E24
        have E85 : h79 95 = h 95 := Eq.trans e67 E25
        have E86 : h79 96 = h 96 := Eq.trans e68 E26
        have E87 : h79 97 = h 97 := Eq.trans e69 E27
        have E88 : h79 98 = h 98 := Eq.trans e70 E28
        have E89 : h79 99 = h 99 := Eq.trans e71 E29
        have E90 : h79 100 = h 100 := Eq.trans e72 E30
        have E91 : h79 103 = h 103 := Eq.trans e73 E31
        have E92 : h79 109 = h 109 := Eq.trans e74 E34
        have E93 : h79 114 = h 114 := Eq.trans e75 E35
        show ov_R u d ov_m281 79 [(0, ov_r 90), (1, ov_i x), (2, ov_i y), (3, ov_i s), (4, ov_i e), (5, ov_i (Int.tmod s (h 96 9)))] [ov_i v62] z78 h79 (P_Mo_choice_90 F z h x y s e)
        have f94 : (h79 90 2) = (h19 90 2) ∧ (h79 90 7) = (h19 90 7) ∧ (h79 90 8) = (h19 90 8) ∧ (h79 90 13) = (h19 90 13) ∧ (h79 90 20) = (h19 90 20) ∧ (h79 90 22) = (h19 90 22) ∧ (h79 90 25) = (h19 90 25) ∧ (h79 90 26) = (h19 90 26) ∧ (h79 90 28) = (h19 90 28) ∧ (h79 90 29) = (h19 90 29) ∧ (h79 90 30) = (h19 90 30) ∧ (h79 90 34) = (h19 90 34) ∧ -1 ≤ v62 ∧ v62 ≤ 89000 * (13 - x - y) := f61
        clear f61
        rw [show h19 103 = h 103 from E31] at y76
        rw [show h19 96 = h 96 from E26] at y76
        rw [show h19 97 = h 97 from E27] at y76
        rw [show h19 98 = h 98 from E28] at y76
        have y76_ : ov_MI (h 96) (h 103) (h 97) (h 98) (3 : Int) ((-1) : Int) (0 : Int) (h19 90 25) (h79 105) (h79 106) := y76
        rw [show h19 103 = h 103 from E31] at y77
        rw [show h19 96 = h 96 from E26] at y77
        rw [show h19 97 = h 97 from E27] at y77
        rw [show h19 98 = h 98 from E28] at y77
        have y77_ : (0 ≤ v62 ↔ ov_go (h 96) (h 103) (h 97) (h 98) (3 : Int) ((-1) : Int) (0 : Int) x y (s % (h 96 9))) := y77
        refine ov_ifge (tgt := 86) d_281_79 (by decide) (by omega) (fun c95 => ?_) (fun c95 => ?_)
        · skip
          refine ov_blk (ls2 := [(0, ov_r 90), (1, ov_i x), (2, ov_i y), (3, ov_i s), (4, ov_i e), (5, ov_i (Int.tmod s (h 96 9)))]) (st2 := [ov_i y, ov_i x, ov_r 90, ov_i (Int.tmod s (h 96 9)), ov_i y, ov_i x, ov_r 90]) (pc2 := 94) b_281_86_7 rfl rfl ?_
          refine ov_cV (as := [ov_i x, ov_i y]) (st := [ov_i (Int.tmod s (h 96 9)), ov_i y, ov_i x, ov_r 90]) (d2 := d - 1) d_281_94 lk_Mo_362 rfl (Nat.le_of_ble_eq_true rfl) (c := 1) (zb_90 I80) (zs_90 I80) ⟨by decide, rfl⟩ (by omega) (c_Mo_isUnknown_90 (d - 1) (by omega) U I80 x y (by omega) (by omega) (by omega)) ?_
          rintro _ _ _ ⟨v97, rfl, rfl, rfl, f96⟩
          show ov_R u d ov_m281 97 [(0, ov_r 90), (1, ov_i x), (2, ov_i y), (3, ov_i s), (4, ov_i e), (5, ov_i (Int.tmod s (h 96 9)))] [ov_i v97, ov_i (Int.tmod s (h 96 9)), ov_i y, ov_i x, ov_r 90] z78 h79 (P_Mo_choice_90 F z h x y s e)
          rw [show h79 103 = h 103 from E91] at f96
          rw [show h79 96 = h 96 from E86] at f96
          have f98 : (v97 = 0 ∨ v97 = 1) ∧ (v97 = 1 → ((h 96 (10 + 4 * (6 * y + x))) = 2 ∧ ¬ (h 103 (4 + 6 * y + x)) = 1 ∧ ¬ 6 * y + x = (h79 90 29))) ∧ (v97 = 0 → ¬ ((h 96 (10 + 4 * (6 * y + x))) = 2 ∧ ¬ (h 103 (4 + 6 * y + x)) = 1 ∧ ¬ 6 * y + x = (h79 90 29))) := f96
          clear f96
          refine ov_ifeq (tgt := 105) d_281_97 (by decide) (by omega) (fun c99 => ?_) (fun c99 => ?_)
          · skip
            have f98_ : v97 = 0 := by omega
            have f100 : ¬ ((h 96 (10 + 4 * (6 * y + x))) = 2 ∧ ¬ (h 103 (4 + 6 * y + x)) = 1 ∧ ¬ 6 * y + x = (h79 90 29)) := f98.2.2 (by omega)
            clear f98
            refine ov_blk (ls2 := [(0, ov_r 90), (1, ov_i x), (2, ov_i y), (3, ov_i s), (4, ov_i e), (5, ov_i (Int.tmod s (h 96 9)))]) (st2 := [ov_i (Int.tmod s (h 96 9)), ov_i (Int.tmod s (h 96 9)), ov_i y, ov_i x, ov_r 90]) (pc2 := 107) b_281_105_1 rfl rfl ?_
            have cf101 : h79 96 (0) = h 96 (0) := congrFun E86 (0)
            have cf102 : h79 96 (1) = h 96 (1) := congrFun E86 (1)
            have cf103 : h79 96 (9) = h 96 (9) := congrFun E86 (9)
            have cf104 : h79 96 (8) = h 96 (8) := congrFun E86 (8)
            refine ov_cV (as := [ov_i x, ov_i y, ov_i (Int.tmod s (h 96 9)), ov_i (Int.tmod s (h 96 9))]) (st := []) (d2 := d - 1) d_281_107 lk_Mo_371 rfl (Nat.le_of_ble_eq_true rfl) (c := 1) (zb_90 I80) (zs_90 I80) ⟨by decide, rfl⟩ (by omega) (c_Mo_wayOf_90_all 3 ((-1)) 0 ((h19 90 25)) (Int.toNat (13 - (x) - (y))) (d - 1) (by omega) U I80 x y (Int.tmod s (h 96 9)) (Int.tmod s (h 96 9)) (by omega) (by omega) (by omega) (by omega) (by omega) (by show x < (h79 96 0) ∧ y < (h79 96 1); omega) (by omega) (by show 0 ≤ (Int.tmod s (h 96 9)) ∧ (Int.tmod s (h 96 9)) < (h79 96 9); omega) (by omega) (by show (h79 90 26) = (3 : Int); omega) (by show (h79 90 29) = ((-1) : Int); omega) (by show (h79 90 30) = (0 : Int); omega) (by show (h79 90 25) = (h19 90 25); omega) (by show 0 ≤ (3 : Int) ∧ (3 : Int) ≤ 3 + (h79 96 8); omega) (by rw [show h79 96 = h 96 from E86]; exact W) (by rw [show h79 96 = h 96 from E86, show h79 97 = h 97 from E87, show h79 98 = h 98 from E88]; exact CD) (by rw [show h79 96 = h 96 from E86, show h79 103 = h 103 from E91, show h79 97 = h 97 from E87, show h79 98 = h 98 from E88]; exact y76_)) ?_
            rintro _ z122 h123 ⟨v106, rfl, I124, f105, e107, e108, e109, e110, e111, e112, e113, e114, e115, e116, e117, e118, e119, y120, y121⟩
            have E125 : h123 91 = h 91 := Eq.trans e107 E81
            have E126 : h123 92 = h 92 := Eq.trans e108 E82
            have E127 : h123 93 = h 93 := Eq.trans e109 E83
            have E128 : h123 94 = h 94 := Eq.trans e110 E84
            have E129 : h123 95 = h 95 := Eq.trans e111 E85
            have E130 : h123 96 = h 96 := Eq.trans e112 E86
            have E131 : h123 97 = h 97 := Eq.trans e113 E87
            have E132 : h123 98 = h 98 := Eq.trans e114 E88
            have E133 : h123 99 = h 99 := Eq.trans e115 E89
            have E134 : h123 100 = h 100 := Eq.trans e116 E90
            have E135 : h123 103 = h 103 := Eq.trans e117 E91
            have E136 : h123 109 = h 109 := Eq.trans e118 E92
            have E137 : h123 114 = h 114 := Eq.trans e119 E93
            show ov_R u d ov_m281 110 [(0, ov_r 90), (1, ov_i x), (2, ov_i y), (3, ov_i s), (4, ov_i e), (5, ov_i (Int.tmod s (h 96 9)))] [ov_i v106] z122 h123 (P_Mo_choice_90 F z h x y s e)
            have f138 : (h123 90 2) = (h79 90 2) ∧ (h123 90 7) = (h79 90 7) ∧ (h123 90 8) = (h79 90 8) ∧ (h123 90 13) = (h79 90 13) ∧ (h123 90 20) = (h79 90 20) ∧ (h123 90 22) = (h79 90 22) ∧ (h123 90 25) = (h79 90 25) ∧ (h123 90 26) = (h79 90 26) ∧ (h123 90 28) = (h79 90 28) ∧ (h123 90 29) = (h79 90 29) ∧ (h123 90 30) = (h79 90 30) ∧ (h123 90 34) = (h79 90 34) ∧ -1 ≤ v106 ∧ v106 ≤ 1 := f105
            clear f105
            rw [show h79 103 = h 103 from E91] at y120
            rw [show h79 96 = h 96 from E86] at y120
            rw [show h79 97 = h 97 from E87] at y120
            rw [show h79 98 = h 98 from E88] at y120
            have y120_ : ov_MI (h 96) (h 103) (h 97) (h 98) (3 : Int) ((-1) : Int) (0 : Int) (h19 90 25) (h123 105) (h123 106) := y120
            rw [show h79 103 = h 103 from E91] at y121
            rw [show h79 96 = h 96 from E86] at y121
            rw [show h79 97 = h 97 from E87] at y121
            rw [show h79 98 = h 98 from E88] at y121
            have y121_ : ov_wf (h 96) (h 97) (h 98) (ov_go (h 96) (h 103) (h 97) (h 98) (3 : Int) ((-1) : Int) (0 : Int)) (3 : Int) x y (Int.tmod s (h 96 9)) (Int.tmod s (h 96 9)) v106 := y121
            have pm139 : ov_PM (h 96) (h 103) (h 97) (h 98) (h123 105) (h123 106) (h123 90 22) (h123 90 25) (h123 90 26) (h123 90 28) (h123 90 29) (h123 90 30) := ov_PM_mi y120_ (by omega) (by omega) (by omega) (by omega) (by omega) (by omega)
            exact ov_reti (st := []) d_281_110 rfl ⟨_, rfl, I124, (by show (h123 90 2) = (h 90 2) ∧ (h123 90 7) = (h 90 7) ∧ (h123 90 8) = (h 90 8) ∧ (h123 90 13) = (h 90 13) ∧ (h123 90 20) = (h 90 20) ∧ (h123 90 22) = (h 90 22) ∧ (h123 90 34) = (h 90 34) ∧ (h 90 25) ≤ (h123 90 25) ∧ (h123 90 25) ≤ (h 90 25) + 1 ∧ -1 ≤ v106 ∧ v106 ≤ 1; omega), E125, E126, E127, E128, E129, E130, E131, E132, E133, E134, E135, E136, E137, pm139⟩
          · skip
            have f98_ : v97 = 1 := by omega
            have f140 : ((h 96 (10 + 4 * (6 * y + x))) = 2 ∧ ¬ (h 103 (4 + 6 * y + x)) = 1 ∧ ¬ 6 * y + x = (h79 90 29)) := f98.2.1 (by omega)
            clear f98
            refine ov_blk (ls2 := [(0, ov_r 90), (1, ov_i x), (2, ov_i y), (3, ov_i s), (4, ov_i e), (5, ov_i (Int.tmod s (h 96 9)))]) (st2 := [ov_i e, ov_i (Int.tmod s (h 96 9)), ov_i y, ov_i x, ov_r 90]) (pc2 := 102) b_281_100_1 rfl rfl ?_
            refine ov_goto (tgt := 107) d_281_102 (by decide) ?_
            have cf141 : h79 96 (0) = h 96 (0) := congrFun E86 (0)
            have cf142 : h79 96 (1) = h 96 (1) := congrFun E86 (1)
            have cf143 : h79 96 (9) = h 96 (9) := congrFun E86 (9)
            have cf144 : h79 96 (8) = h 96 (8) := congrFun E86 (8)
            refine ov_cV (as := [ov_i x, ov_i y, ov_i (Int.tmod s (h 96 9)), ov_i e]) (st := []) (d2 := d - 1) d_281_107 lk_Mo_371 rfl (Nat.le_of_ble_eq_true rfl) (c := 1) (zb_90 I80) (zs_90 I80) ⟨by decide, rfl⟩ (by omega) (c_Mo_wayOf_90_all 3 ((-1)) 0 ((h19 90 25)) (Int.toNat (13 - (x) - (y))) (d - 1) (by omega) U I80 x y (Int.tmod s (h 96 9)) e (by omega) (by omega) (by omega) (by omega) (by omega) (by show x < (h79 96 0) ∧ y < (h79 96 1); omega) (by omega) (by show 0 ≤ (Int.tmod s (h 96 9)) ∧ (Int.tmod s (h 96 9)) < (h79 96 9); omega) (by omega) (by show (h79 90 26) = (3 : Int); omega) (by show (h79 90 29) = ((-1) : Int); omega) (by show (h79 90 30) = (0 : Int); omega) (by show (h79 90 25) = (h19 90 25); omega) (by show 0 ≤ (3 : Int) ∧ (3 : Int) ≤ 3 + (h79 96 8); omega) (by rw [show h79 96 = h 96 from E86]; exact W) (by rw [show h79 96 = h 96 from E86, show h79 97 = h 97 from E87, show h79 98 = h 98 from E88]; exact CD) (by rw [show h79 96 = h 96 from E86, show h79 103 = h 103 from E91, show h79 97 = h 97 from E87, show h79 98 = h 98 from E88]; exact y76_)) ?_
            rintro _ z162 h163 ⟨v146, rfl, I164, f145, e147, e148, e149, e150, e151, e152, e153, e154, e155, e156, e157, e158, e159, y160, y161⟩
            have E165 : h163 91 = h 91 := Eq.trans e147 E81
            have E166 : h163 92 = h 92 := Eq.trans e148 E82
            have E167 : h163 93 = h 93 := Eq.trans e149 E83
            have E168 : h163 94 = h 94 := Eq.trans e150 E84
            have E169 : h163 95 = h 95 := Eq.trans e151 E85
            have E170 : h163 96 = h 96 := Eq.trans e152 E86
            have E171 : h163 97 = h 97 := Eq.trans e153 E87
            have E172 : h163 98 = h 98 := Eq.trans e154 E88
            have E173 : h163 99 = h 99 := Eq.trans e155 E89
            have E174 : h163 100 = h 100 := Eq.trans e156 E90
            have E175 : h163 103 = h 103 := Eq.trans e157 E91
            have E176 : h163 109 = h 109 := Eq.trans e158 E92
            have E177 : h163 114 = h 114 := Eq.trans e159 E93
            show ov_R u d ov_m281 110 [(0, ov_r 90), (1, ov_i x), (2, ov_i y), (3, ov_i s), (4, ov_i e), (5, ov_i (Int.tmod s (h 96 9)))] [ov_i v146] z162 h163 (P_Mo_choice_90 F z h x y s e)
            have f178 : (h163 90 2) = (h79 90 2) ∧ (h163 90 7) = (h79 90 7) ∧ (h163 90 8) = (h79 90 8) ∧ (h163 90 13) = (h79 90 13) ∧ (h163 90 20) = (h79 90 20) ∧ (h163 90 22) = (h79 90 22) ∧ (h163 90 25) = (h79 90 25) ∧ (h163 90 26) = (h79 90 26) ∧ (h163 90 28) = (h79 90 28) ∧ (h163 90 29) = (h79 90 29) ∧ (h163 90 30) = (h79 90 30) ∧ (h163 90 34) = (h79 90 34) ∧ -1 ≤ v146 ∧ v146 ≤ 1 := f145
            clear f145
            rw [show h79 103 = h 103 from E91] at y160
            rw [show h79 96 = h 96 from E86] at y160
            rw [show h79 97 = h 97 from E87] at y160
            rw [show h79 98 = h 98 from E88] at y160
            have y160_ : ov_MI (h 96) (h 103) (h 97) (h 98) (3 : Int) ((-1) : Int) (0 : Int) (h19 90 25) (h163 105) (h163 106) := y160
            rw [show h79 103 = h 103 from E91] at y161
            rw [show h79 96 = h 96 from E86] at y161
            rw [show h79 97 = h 97 from E87] at y161
            rw [show h79 98 = h 98 from E88] at y161
            have y161_ : ov_wf (h 96) (h 97) (h 98) (ov_go (h 96) (h 103) (h 97) (h 98) (3 : Int) ((-1) : Int) (0 : Int)) (3 : Int) x y (Int.tmod s (h 96 9)) e v146 := y161
            have pm179 : ov_PM (h 96) (h 103) (h 97) (h 98) (h163 105) (h163 106) (h163 90 22) (h163 90 25) (h163 90 26) (h163 90 28) (h163 90 29) (h163 90 30) := ov_PM_mi y160_ (by omega) (by omega) (by omega) (by omega) (by omega) (by omega)
            exact ov_reti (st := []) d_281_110 rfl ⟨_, rfl, I164, (by show (h163 90 2) = (h 90 2) ∧ (h163 90 7) = (h 90 7) ∧ (h163 90 8) = (h 90 8) ∧ (h163 90 13) = (h 90 13) ∧ (h163 90 20) = (h 90 20) ∧ (h163 90 22) = (h 90 22) ∧ (h163 90 34) = (h 90 34) ∧ (h 90 25) ≤ (h163 90 25) ∧ (h163 90 25) ≤ (h 90 25) + 1 ∧ -1 ≤ v146 ∧ v146 ≤ 1; omega), E165, E166, E167, E168, E169, E170, E171, E172, E173, E174, E175, E176, E177, pm179⟩
        · skip
          refine ov_blk (ls2 := [(0, ov_r 90), (1, ov_i x), (2, ov_i y), (3, ov_i s), (4, ov_i e), (5, ov_i (Int.tmod s (h 96 9)))]) (st2 := [ov_i (-1)]) (pc2 := 83) b_281_82_1 rfl rfl ?_
          refine ov_goto (tgt := 110) d_281_83 (by decide) ?_
          have pm180 : ov_PM (h 96) (h 103) (h 97) (h 98) (h79 105) (h79 106) (h79 90 22) (h79 90 25) (h79 90 26) (h79 90 28) (h79 90 29) (h79 90 30) := ov_PM_mi y76_ (by omega) (by omega) (by omega) (by omega) (by omega) (by omega)
          exact ov_reti (st := []) d_281_110 rfl ⟨_, rfl, I80, (by show (h79 90 2) = (h 90 2) ∧ (h79 90 7) = (h 90 7) ∧ (h79 90 8) = (h 90 8) ∧ (h79 90 13) = (h 90 13) ∧ (h79 90 20) = (h 90 20) ∧ (h79 90 22) = (h 90 22) ∧ (h79 90 34) = (h 90 34) ∧ (h 90 25) ≤ (h79 90 25) ∧ (h79 90 25) ≤ (h 90 25) + 1 ∧ -1 ≤ (-1) ∧ (-1) ≤ 1; omega), E81, E82, E83, E84, E85, E86, E87, E88, E89, E90, E91, E92, E93, pm180⟩
      · skip
        have f53_ : v52 = 1 := by omega
        have f181 : ((h 96 (10 + 4 * (6 * y + x))) = 2 ∧ ¬ (h 103 (4 + 6 * y + x)) = 1 ∧ ¬ 6 * y + x = (h19 90 29)) := f53.2.1 (by omega)
        clear f53
        refine ov_blk (ls2 := [(0, ov_r 90), (1, ov_i x), (2, ov_i y), (3, ov_i s), (4, ov_i e)]) (st2 := [ov_i 1, ov_i y, ov_i x, ov_r 90, ov_i 0, ov_i e]) (pc2 := 48) b_281_41_6 rfl rfl ?_
        refine ov_cV (as := [ov_i x, ov_i y, ov_i 1]) (st := [ov_i 0, ov_i e]) (d2 := d - 1) d_281_48 lk_Mo_289 rfl (Nat.le_of_ble_eq_true rfl) (c := 1) (zb_90 I20) (zs_90 I20) ⟨by decide, rfl⟩ (by omega) (c_Mo_lightAt_90 (d - 1) (by omega) U I20 x y 1 (by omega) (by omega) (by omega) (by omega) (by omega)) ?_
        rintro _ _ _ ⟨v183, rfl, rfl, rfl, f182⟩
        show ov_R u d ov_m281 51 [(0, ov_r 90), (1, ov_i x), (2, ov_i y), (3, ov_i s), (4, ov_i e)] [ov_i v183, ov_i 0, ov_i e] z18 h19 (P_Mo_choice_90 F z h x y s e)
        rw [show h19 96 = h 96 from E26] at f182
        have f184 : v183 = (h 96 (10 + 4 * (6 * y + x) + (1 : Int))) ∧ ((1 : Int) = 1 → 0 ≤ v183 ∧ v183 ≤ 60) ∧ ((1 : Int) = 2 → 0 ≤ v183 ∧ v183 ≤ 59) ∧ ((1 : Int) = 3 → 0 ≤ v183 ∧ v183 ≤ 60) := f182
        clear f182
        refine ov_blk (ls2 := [(0, ov_r 90), (1, ov_i x), (2, ov_i y), (3, ov_i s), (4, ov_i e)]) (st2 := [ov_i (v183 - 1), ov_i 0, ov_i e]) (pc2 := 53) b_281_51_2 rfl rfl ?_
        refine ov_cS (as := [ov_i e, ov_i 0, ov_i (v183 - 1)]) (st := []) (d2 := d - 1) d_281_53 lk_Mo_299 rfl (Nat.le_of_ble_eq_true rfl) (by omega) (c_Mo_within (d - 1) (by omega) U I20 e 0 (v183 - 1) (by omega) (by omega) (by omega)) ?_
        rintro _ _ _ ⟨v186, rfl, rfl, rfl, f185⟩
        show ov_R u d ov_m281 56 [(0, ov_r 90), (1, ov_i x), (2, ov_i y), (3, ov_i s), (4, ov_i e)] [ov_i v186] z18 h19 (P_Mo_choice_90 F z h x y s e)
        have f187 : (v186 = 0 ∨ v186 = 1) ∧ (v186 = 1 → (0 : Int) ≤ e ∧ e ≤ (v183 - 1)) ∧ (v186 = 0 → e < (0 : Int) ∨ (v183 - 1) < e) := f185
        clear f185
        refine ov_ifne (tgt := 61) d_281_56 (by decide) (by omega) (fun c188 => ?_) (fun c188 => ?_)
        · skip
          have f187_ : v186 = 1 := by omega
          have f189 : (0 : Int) ≤ e ∧ e ≤ (v183 - 1) := f187.2.1 (by omega)
          clear f187
          refine ov_blk (ls2 := [(0, ov_r 90), (1, ov_i x), (2, ov_i y), (3, ov_i s), (4, ov_i e)]) (st2 := [ov_r 90, ov_i s]) (pc2 := 63) b_281_61_2 rfl rfl ?_
          refine ov_getf (v := ov_r 96) d_281_63 fl_Mo_81 (zb_90 I20) (zs_90 I20) (congrArg ov_r (rg_90_10 I20)) ?_
          refine ov_blk (ls2 := [(0, ov_r 90), (1, ov_i x), (2, ov_i y), (3, ov_i s), (4, ov_i e)]) (st2 := [ov_i 9, ov_r 96, ov_i s]) (pc2 := 68) b_281_66_1 rfl rfl ?_
          refine ov_iald d_281_68 (zb_96 I20) (zs_96 I20) (by omega) ?_
          rw [show h19 96 = h 96 from E26]
          have g190 := t96_9 I
          have gt1 := ov_tmv (x := s) (y := (h 96 9)) (by omega) (by omega)
          refine ov_irem d_281_69 (by omega) (by omega) (by omega) ?_
          have g191 := ov_tmg (a := s) (b := (h 96 9)) (by omega) (by omega)
          refine ov_blk (ls2 := [(0, ov_r 90), (1, ov_i x), (2, ov_i y), (3, ov_i s), (4, ov_i e), (5, ov_i (Int.tmod s (h 96 9)))]) (st2 := [ov_i s, ov_i y, ov_i x, ov_r 90]) (pc2 := 76) b_281_70_5 rfl rfl ?_
          have cf192 : h19 96 (0) = h 96 (0) := congrFun E26 (0)
          have cf193 : h19 96 (1) = h 96 (1) := congrFun E26 (1)
          have cf194 : h19 96 (8) = h 96 (8) := congrFun E26 (8)
          refine ov_cV (as := [ov_i x, ov_i y, ov_i s]) (st := []) (d2 := d - 1) d_281_76 lk_Mo_377 rfl (Nat.le_of_ble_eq_true rfl) (c := 1) (zb_90 I20) (zs_90 I20) ⟨by decide, rfl⟩ (by omega) (c_Mo_worthFrom_90_all 3 ((-1)) 0 ((h19 90 25)) (Int.toNat (13 - (x) - (y))) (d - 1) (by omega) U I20 x y s (by omega) (by omega) (by omega) (by omega) (by show x < (h19 96 0) ∧ y < (h19 96 1); omega) (by omega) (by omega) (by show (h19 90 26) = (3 : Int); omega) (by show (h19 90 29) = ((-1) : Int); omega) (by show (h19 90 30) = (0 : Int); omega) (by show (h19 90 25) = (h19 90 25); omega) (by show 0 ≤ (3 : Int) ∧ (3 : Int) ≤ 3 + (h19 96 8); omega) (by rw [show h19 96 = h 96 from E26]; exact W) (by rw [show h19 96 = h 96 from E26, show h19 97 = h 97 from E27, show h19 98 = h 98 from E28]; exact CD) (by rw [show h19 96 = h 96 from E26, show h19 103 = h 103 from E31, show h19 97 = h 97 from E27, show h19 98 = h 98 from E28, show h19 105 = h 105 from E32, show h19 106 = h 106 from E33]; exact mi37)) ?_
          rintro _ z212 h213 ⟨v196, rfl, I214, f195, e197, e198, e199, e200, e201, e202, e203, e204, e205, e206, e207, e208, e209, y210, y211⟩
          have E215 : h213 91 = h 91 := Eq.trans e197 E21
          have E216 : h213 92 = h 92 := Eq.trans e198 E22
          have E217 : h213 93 = h 93 := Eq.trans e199 E23
          have E218 : h213 94 = h 94 := Eq.trans e200 E24
          have E219 : h213 95 = h 95 := Eq.trans e201 E25
          have E220 : h213 96 = h 96 := Eq.trans e202 E26
          have E221 : h213 97 = h 97 := Eq.trans e203 E27
          have E222 : h213 98 = h 98 := Eq.trans e204 E28
          have E223 : h213 99 = h 99 := Eq.trans e205 E29
          have E224 : h213 100 = h 100 := Eq.trans e206 E30
          have E225 : h213 103 = h 103 := Eq.trans e207 E31
          have E226 : h213 109 = h 109 := Eq.trans e208 E34
          have E227 : h213 114 = h 114 := Eq.trans e209 E35
          show ov_R u d ov_m281 79 [(0, ov_r 90), (1, ov_i x), (2, ov_i y), (3, ov_i s), (4, ov_i e), (5, ov_i (Int.tmod s (h 96 9)))] [ov_i v196] z212 h213 (P_Mo_choice_90 F z h x y s e)
          have f228 : (h213 90 2) = (h19 90 2) ∧ (h213 90 7) = (h19 90 7) ∧ (h213 90 8) = (h19 90 8) ∧ (h213 90 13) = (h19 90 13) ∧ (h213 90 20) = (h19 90 20) ∧ (h213 90 22) = (h19 90 22) ∧ (h213 90 25) = (h19 90 25) ∧ (h213 90 26) = (h19 90 26) ∧ (h213 90 28) = (h19 90 28) ∧ (h213 90 29) = (h19 90 29) ∧ (h213 90 30) = (h19 90 30) ∧ (h213 90 34) = (h19 90 34) ∧ -1 ≤ v196 ∧ v196 ≤ 89000 * (13 - x - y) := f195
          clear f195
          rw [show h19 103 = h 103 from E31] at y210
          rw [show h19 96 = h 96 from E26] at y210
          rw [show h19 97 = h 97 from E27] at y210
          rw [show h19 98 = h 98 from E28] at y210
          have y210_ : ov_MI (h 96) (h 103) (h 97) (h 98) (3 : Int) ((-1) : Int) (0 : Int) (h19 90 25) (h213 105) (h213 106) := y210
          rw [show h19 103 = h 103 from E31] at y211
          rw [show h19 96 = h 96 from E26] at y211
          rw [show h19 97 = h 97 from E27] at y211
          rw [show h19 98 = h 98 from E28] at y211
          have y211_ : (0 ≤ v196 ↔ ov_go (h 96) (h 103) (h 97) (h 98) (3 : Int) ((-1) : Int) (0 : Int) x y (s % (h 96 9))) := y211
          refine ov_ifge (tgt := 86) d_281_79 (by decide) (by omega) (fun c229 => ?_) (fun c229 => ?_)
          · skip
            refine ov_blk (ls2 := [(0, ov_r 90), (1, ov_i x), (2, ov_i y), (3, ov_i s), (4, ov_i e), (5, ov_i (Int.tmod s (h 96 9)))]) (st2 := [ov_i y, ov_i x, ov_r 90, ov_i (Int.tmod s (h 96 9)), ov_i y, ov_i x, ov_r 90]) (pc2 := 94) b_281_86_7 rfl rfl ?_
            refine ov_cV (as := [ov_i x, ov_i y]) (st := [ov_i (Int.tmod s (h 96 9)), ov_i y, ov_i x, ov_r 90]) (d2 := d - 1) d_281_94 lk_Mo_362 rfl (Nat.le_of_ble_eq_true rfl) (c := 1) (zb_90 I214) (zs_90 I214) ⟨by decide, rfl⟩ (by omega) (c_Mo_isUnknown_90 (d - 1) (by omega) U I214 x y (by omega) (by omega) (by omega)) ?_
            rintro _ _ _ ⟨v231, rfl, rfl, rfl, f230⟩
            show ov_R u d ov_m281 97 [(0, ov_r 90), (1, ov_i x), (2, ov_i y), (3, ov_i s), (4, ov_i e), (5, ov_i (Int.tmod s (h 96 9)))] [ov_i v231, ov_i (Int.tmod s (h 96 9)), ov_i y, ov_i x, ov_r 90] z212 h213 (P_Mo_choice_90 F z h x y s e)
            rw [show h213 103 = h 103 from E225] at f230
            rw [show h213 96 = h 96 from E220] at f230
            have f232 : (v231 = 0 ∨ v231 = 1) ∧ (v231 = 1 → ((h 96 (10 + 4 * (6 * y + x))) = 2 ∧ ¬ (h 103 (4 + 6 * y + x)) = 1 ∧ ¬ 6 * y + x = (h213 90 29))) ∧ (v231 = 0 → ¬ ((h 96 (10 + 4 * (6 * y + x))) = 2 ∧ ¬ (h 103 (4 + 6 * y + x)) = 1 ∧ ¬ 6 * y + x = (h213 90 29))) := f230
            clear f230
            refine ov_ifeq (tgt := 105) d_281_97 (by decide) (by omega) (fun c233 => ?_) (fun c233 => ?_)
            · skip
              have f232_ : v231 = 0 := by omega
              have f234 : ¬ ((h 96 (10 + 4 * (6 * y + x))) = 2 ∧ ¬ (h 103 (4 + 6 * y + x)) = 1 ∧ ¬ 6 * y + x = (h213 90 29)) := f232.2.2 (by omega)
              clear f232
              refine ov_blk (ls2 := [(0, ov_r 90), (1, ov_i x), (2, ov_i y), (3, ov_i s), (4, ov_i e), (5, ov_i (Int.tmod s (h 96 9)))]) (st2 := [ov_i (Int.tmod s (h 96 9)), ov_i (Int.tmod s (h 96 9)), ov_i y, ov_i x, ov_r 90]) (pc2 := 107) b_281_105_1 rfl rfl ?_
              have cf235 : h213 96 (0) = h 96 (0) := congrFun E220 (0)
              have cf236 : h213 96 (1) = h 96 (1) := congrFun E220 (1)
              have cf237 : h213 96 (9) = h 96 (9) := congrFun E220 (9)
              have cf238 : h213 96 (8) = h 96 (8) := congrFun E220 (8)
              refine ov_cV (as := [ov_i x, ov_i y, ov_i (Int.tmod s (h 96 9)), ov_i (Int.tmod s (h 96 9))]) (st := []) (d2 := d - 1) d_281_107 lk_Mo_371 rfl (Nat.le_of_ble_eq_true rfl) (c := 1) (zb_90 I214) (zs_90 I214) ⟨by decide, rfl⟩ (by omega) (c_Mo_wayOf_90_all 3 ((-1)) 0 ((h19 90 25)) (Int.toNat (13 - (x) - (y))) (d - 1) (by omega) U I214 x y (Int.tmod s (h 96 9)) (Int.tmod s (h 96 9)) (by omega) (by omega) (by omega) (by omega) (by omega) (by show x < (h213 96 0) ∧ y < (h213 96 1); omega) (by omega) (by show 0 ≤ (Int.tmod s (h 96 9)) ∧ (Int.tmod s (h 96 9)) < (h213 96 9); omega) (by omega) (by show (h213 90 26) = (3 : Int); omega) (by show (h213 90 29) = ((-1) : Int); omega) (by show (h213 90 30) = (0 : Int); omega) (by show (h213 90 25) = (h19 90 25); omega) (by show 0 ≤ (3 : Int) ∧ (3 : Int) ≤ 3 + (h213 96 8); omega) (by rw [show h213 96 = h 96 from E220]; exact W) (by rw [show h213 96 = h 96 from E220, show h213 97 = h 97 from E221, show h213 98 = h 98 from E222]; exact CD) (by rw [show h213 96 = h 96 from E220, show h213 103 = h 103 from E225, show h213 97 = h 97 from E221, show h213 98 = h 98 from E222]; exact y210_)) ?_
              rintro _ z256 h257 ⟨v240, rfl, I258, f239, e241, e242, e243, e244, e245, e246, e247, e248, e249, e250, e251, e252, e253, y254, y255⟩
              have E259 : h257 91 = h 91 := Eq.trans e241 E215
              have E260 : h257 92 = h 92 := Eq.trans e242 E216
              have E261 : h257 93 = h 93 := Eq.trans e243 E217
              have E262 : h257 94 = h 94 := Eq.trans e244 E218
              have E263 : h257 95 = h 95 := Eq.trans e245 E219
              have E264 : h257 96 = h 96 := Eq.trans e246 E220
              have E265 : h257 97 = h 97 := Eq.trans e247 E221
              have E266 : h257 98 = h 98 := Eq.trans e248 E222
              have E267 : h257 99 = h 99 := Eq.trans e249 E223
              have E268 : h257 100 = h 100 := Eq.trans e250 E224
              have E269 : h257 103 = h 103 := Eq.trans e251 E225
              have E270 : h257 109 = h 109 := Eq.trans e252 E226
              have E271 : h257 114 = h 114 := Eq.trans e253 E227
              show ov_R u d ov_m281 110 [(0, ov_r 90), (1, ov_i x), (2, ov_i y), (3, ov_i s), (4, ov_i e), (5, ov_i (Int.tmod s (h 96 9)))] [ov_i v240] z256 h257 (P_Mo_choice_90 F z h x y s e)
              have f272 : (h257 90 2) = (h213 90 2) ∧ (h257 90 7) = (h213 90 7) ∧ (h257 90 8) = (h213 90 8) ∧ (h257 90 13) = (h213 90 13) ∧ (h257 90 20) = (h213 90 20) ∧ (h257 90 22) = (h213 90 22) ∧ (h257 90 25) = (h213 90 25) ∧ (h257 90 26) = (h213 90 26) ∧ (h257 90 28) = (h213 90 28) ∧ (h257 90 29) = (h213 90 29) ∧ (h257 90 30) = (h213 90 30) ∧ (h257 90 34) = (h213 90 34) ∧ -1 ≤ v240 ∧ v240 ≤ 1 := f239
              clear f239
              rw [show h213 103 = h 103 from E225] at y254
              rw [show h213 96 = h 96 from E220] at y254
              rw [show h213 97 = h 97 from E221] at y254
              rw [show h213 98 = h 98 from E222] at y254
              have y254_ : ov_MI (h 96) (h 103) (h 97) (h 98) (3 : Int) ((-1) : Int) (0 : Int) (h19 90 25) (h257 105) (h257 106) := y254
              rw [show h213 103 = h 103 from E225] at y255
              rw [show h213 96 = h 96 from E220] at y255
              rw [show h213 97 = h 97 from E221] at y255
              rw [show h213 98 = h 98 from E222] at y255
              have y255_ : ov_wf (h 96) (h 97) (h 98) (ov_go (h 96) (h 103) (h 97) (h 98) (3 : Int) ((-1) : Int) (0 : Int)) (3 : Int) x y (Int.tmod s (h 96 9)) (Int.tmod s (h 96 9)) v240 := y255
              have pm273 : ov_PM (h 96) (h 103) (h 97) (h 98) (h257 105) (h257 106) (h257 90 22) (h257 90 25) (h257 90 26) (h257 90 28) (h257 90 29) (h257 90 30) := ov_PM_mi y254_ (by omega) (by omega) (by omega) (by omega) (by omega) (by omega)
              exact ov_reti (st := []) d_281_110 rfl ⟨_, rfl, I258, (by show (h257 90 2) = (h 90 2) ∧ (h257 90 7) = (h 90 7) ∧ (h257 90 8) = (h 90 8) ∧ (h257 90 13) = (h 90 13) ∧ (h257 90 20) = (h 90 20) ∧ (h257 90 22) = (h 90 22) ∧ (h257 90 34) = (h 90 34) ∧ (h 90 25) ≤ (h257 90 25) ∧ (h257 90 25) ≤ (h 90 25) + 1 ∧ -1 ≤ v240 ∧ v240 ≤ 1; omega), E259, E260, E261, E262, E263, E264, E265, E266, E267, E268, E269, E270, E271, pm273⟩
            · skip
              have f232_ : v231 = 1 := by omega
              have f274 : ((h 96 (10 + 4 * (6 * y + x))) = 2 ∧ ¬ (h 103 (4 + 6 * y + x)) = 1 ∧ ¬ 6 * y + x = (h213 90 29)) := f232.2.1 (by omega)
              clear f232
              refine ov_blk (ls2 := [(0, ov_r 90), (1, ov_i x), (2, ov_i y), (3, ov_i s), (4, ov_i e), (5, ov_i (Int.tmod s (h 96 9)))]) (st2 := [ov_i e, ov_i (Int.tmod s (h 96 9)), ov_i y, ov_i x, ov_r 90]) (pc2 := 102) b_281_100_1 rfl rfl ?_
              refine ov_goto (tgt := 107) d_281_102 (by decide) ?_
              have cf275 : h213 96 (0) = h 96 (0) := congrFun E220 (0)
              have cf276 : h213 96 (1) = h 96 (1) := congrFun E220 (1)
              have cf277 : h213 96 (9) = h 96 (9) := congrFun E220 (9)
              have cf278 : h213 96 (8) = h 96 (8) := congrFun E220 (8)
              refine ov_cV (as := [ov_i x, ov_i y, ov_i (Int.tmod s (h 96 9)), ov_i e]) (st := []) (d2 := d - 1) d_281_107 lk_Mo_371 rfl (Nat.le_of_ble_eq_true rfl) (c := 1) (zb_90 I214) (zs_90 I214) ⟨by decide, rfl⟩ (by omega) (c_Mo_wayOf_90_all 3 ((-1)) 0 ((h19 90 25)) (Int.toNat (13 - (x) - (y))) (d - 1) (by omega) U I214 x y (Int.tmod s (h 96 9)) e (by omega) (by omega) (by omega) (by omega) (by omega) (by show x < (h213 96 0) ∧ y < (h213 96 1); omega) (by omega) (by show 0 ≤ (Int.tmod s (h 96 9)) ∧ (Int.tmod s (h 96 9)) < (h213 96 9); omega) (by omega) (by show (h213 90 26) = (3 : Int); omega) (by show (h213 90 29) = ((-1) : Int); omega) (by show (h213 90 30) = (0 : Int); omega) (by show (h213 90 25) = (h19 90 25); omega) (by show 0 ≤ (3 : Int) ∧ (3 : Int) ≤ 3 + (h213 96 8); omega) (by rw [show h213 96 = h 96 from E220]; exact W) (by rw [show h213 96 = h 96 from E220, show h213 97 = h 97 from E221, show h213 98 = h 98 from E222]; exact CD) (by rw [show h213 96 = h 96 from E220, show h213 103 = h 103 from E225, show h213 97 = h 97 from E221, show h213 98 = h 98 from E222]; exact y210_)) ?_
              rintro _ z296 h297 ⟨v280, rfl, I298, f279, e281, e282, e283, e284, e285, e286, e287, e288, e289, e290, e291, e292, e293, y294, y295⟩
              have E299 : h297 91 = h 91 := Eq.trans e281 E215
              have E300 : h297 92 = h 92 := Eq.trans e282 E216
              have E301 : h297 93 = h 93 := Eq.trans e283 E217
              have E302 : h297 94 = h 94 := Eq.trans e284 E218
              have E303 : h297 95 = h 95 := Eq.trans e285 E219
              have E304 : h297 96 = h 96 := Eq.trans e286 E220
              have E305 : h297 97 = h 97 := Eq.trans e287 E221
              have E306 : h297 98 = h 98 := Eq.trans e288 E222
              have E307 : h297 99 = h 99 := Eq.trans e289 E223
              have E308 : h297 100 = h 100 := Eq.trans e290 E224
              have E309 : h297 103 = h 103 := Eq.trans e291 E225
              have E310 : h297 109 = h 109 := Eq.trans e292 E226
              have E311 : h297 114 = h 114 := Eq.trans e293 E227
              show ov_R u d ov_m281 110 [(0, ov_r 90), (1, ov_i x), (2, ov_i y), (3, ov_i s), (4, ov_i e), (5, ov_i (Int.tmod s (h 96 9)))] [ov_i v280] z296 h297 (P_Mo_choice_90 F z h x y s e)
              have f312 : (h297 90 2) = (h213 90 2) ∧ (h297 90 7) = (h213 90 7) ∧ (h297 90 8) = (h213 90 8) ∧ (h297 90 13) = (h213 90 13) ∧ (h297 90 20) = (h213 90 20) ∧ (h297 90 22) = (h213 90 22) ∧ (h297 90 25) = (h213 90 25) ∧ (h297 90 26) = (h213 90 26) ∧ (h297 90 28) = (h213 90 28) ∧ (h297 90 29) = (h213 90 29) ∧ (h297 90 30) = (h213 90 30) ∧ (h297 90 34) = (h213 90 34) ∧ -1 ≤ v280 ∧ v280 ≤ 1 := f279
              clear f279
              rw [show h213 103 = h 103 from E225] at y294
              rw [show h213 96 = h 96 from E220] at y294
              rw [show h213 97 = h 97 from E221] at y294
              rw [show h213 98 = h 98 from E222] at y294
              have y294_ : ov_MI (h 96) (h 103) (h 97) (h 98) (3 : Int) ((-1) : Int) (0 : Int) (h19 90 25) (h297 105) (h297 106) := y294
              rw [show h213 103 = h 103 from E225] at y295
              rw [show h213 96 = h 96 from E220] at y295
              rw [show h213 97 = h 97 from E221] at y295
              rw [show h213 98 = h 98 from E222] at y295
              have y295_ : ov_wf (h 96) (h 97) (h 98) (ov_go (h 96) (h 103) (h 97) (h 98) (3 : Int) ((-1) : Int) (0 : Int)) (3 : Int) x y (Int.tmod s (h 96 9)) e v280 := y295
              have pm313 : ov_PM (h 96) (h 103) (h 97) (h 98) (h297 105) (h297 106) (h297 90 22) (h297 90 25) (h297 90 26) (h297 90 28) (h297 90 29) (h297 90 30) := ov_PM_mi y294_ (by omega) (by omega) (by omega) (by omega) (by omega) (by omega)
              exact ov_reti (st := []) d_281_110 rfl ⟨_, rfl, I298, (by show (h297 90 2) = (h 90 2) ∧ (h297 90 7) = (h 90 7) ∧ (h297 90 8) = (h 90 8) ∧ (h297 90 13) = (h 90 13) ∧ (h297 90 20) = (h 90 20) ∧ (h297 90 22) = (h 90 22) ∧ (h297 90 34) = (h 90 34) ∧ (h 90 25) ≤ (h297 90 25) ∧ (h297 90 25) ≤ (h 90 25) + 1 ∧ -1 ≤ v280 ∧ v280 ≤ 1; omega), E299, E300, E301, E302, E303, E304, E305, E306, E307, E308, E309, E310, E311, pm313⟩
          · skip
            refine ov_blk (ls2 := [(0, ov_r 90), (1, ov_i x), (2, ov_i y), (3, ov_i s), (4, ov_i e), (5, ov_i (Int.tmod s (h 96 9)))]) (st2 := [ov_i (-1)]) (pc2 := 83) b_281_82_1 rfl rfl ?_
            refine ov_goto (tgt := 110) d_281_83 (by decide) ?_
            have pm314 : ov_PM (h 96) (h 103) (h 97) (h 98) (h213 105) (h213 106) (h213 90 22) (h213 90 25) (h213 90 26) (h213 90 28) (h213 90 29) (h213 90 30) := ov_PM_mi y210_ (by omega) (by omega) (by omega) (by omega) (by omega) (by omega)
            exact ov_reti (st := []) d_281_110 rfl ⟨_, rfl, I214, (by show (h213 90 2) = (h 90 2) ∧ (h213 90 7) = (h 90 7) ∧ (h213 90 8) = (h 90 8) ∧ (h213 90 13) = (h 90 13) ∧ (h213 90 20) = (h 90 20) ∧ (h213 90 22) = (h 90 22) ∧ (h213 90 34) = (h 90 34) ∧ (h 90 25) ≤ (h213 90 25) ∧ (h213 90 25) ≤ (h 90 25) + 1 ∧ -1 ≤ (-1) ∧ (-1) ≤ 1; omega), E215, E216, E217, E218, E219, E220, E221, E222, E223, E224, E225, E226, E227, pm314⟩
        · skip
          have f187_ : v186 = 0 := by omega
          have f315 : e < (0 : Int) ∨ (v183 - 1) < e := f187.2.2 (by omega)
          clear f187
          refine ov_blk (ls2 := [(0, ov_r 90), (1, ov_i x), (2, ov_i y), (3, ov_i s), (4, ov_i e)]) (st2 := [ov_i (-1)]) (pc2 := 60) b_281_59_1 rfl rfl ?_
          have pm316 : ov_PM (h 96) (h 103) (h 97) (h 98) (h 105) (h 106) (h19 90 22) (h19 90 25) (h19 90 26) (h19 90 28) (h19 90 29) (h19 90 30) := ov_PM_mi mi37 (by omega) (by omega) (by omega) (by omega) (by omega) (by omega)
          exact ov_reti (st := []) d_281_60 rfl ⟨_, rfl, I20, (by show (h19 90 2) = (h 90 2) ∧ (h19 90 7) = (h 90 7) ∧ (h19 90 8) = (h 90 8) ∧ (h19 90 13) = (h 90 13) ∧ (h19 90 20) = (h 90 20) ∧ (h19 90 22) = (h 90 22) ∧ (h19 90 34) = (h 90 34) ∧ (h 90 25) ≤ (h19 90 25) ∧ (h19 90 25) ≤ (h 90 25) + 1 ∧ -1 ≤ (-1) ∧ (-1) ≤ 1; omega), E21, E22, E23, E24, E25, E26, E27, E28, E29, E30, E31, E34, E35, (by show ov_PM (h 96) (h 103) (h 97) (h 98) (h19 105) (h19 106) (h19 90 22) (h19 90 25) (h19 90 26) (h19 90 28) (h19 90 29) (h19 90 30); rw [show h19 105 = h 105 from E32, show h19 106 = h 106 from E33]; exact pm316)⟩
abbrev P_Mo_gap_90 (F : ov_H × ov_Z) (z : ov_Z) (h : ov_H) (x : Int) (y : Int) (s : Int) : Option ov_V → ov_Z → ov_H → Prop := fun r0 z' h' => ∃ r : Int, r0 = some (ov_i r) ∧ ov_N F z' h' ∧ ((h' 90 2) = (h 90 2) ∧ (h' 90 7) = (h 90 7) ∧ (h' 90 8) = (h 90 8) ∧ (h' 90 13) = (h 90 13) ∧ (h' 90 20) = (h 90 20) ∧ (h' 90 22) = (h 90 22) ∧ (h' 90 34) = (h 90 34) ∧ (h 90 25) ≤ (h' 90 25) ∧ (h' 90 25) ≤ (h 90 25) + 2 ∧ -1200000 ≤ r ∧ r ≤ 1200000) ∧ h' 91 = h 91 ∧ h' 92 = h 92 ∧ h' 93 = h 93 ∧ h' 94 = h 94 ∧ h' 95 = h 95 ∧ h' 96 = h 96 ∧ h' 97 = h 97 ∧ h' 98 = h 98 ∧ h' 99 = h 99 ∧ h' 100 = h 100 ∧ h' 103 = h 103 ∧ h' 109 = h 109 ∧ h' 114 = h 114 ∧ (ov_PM (h 96) (h 103) (h 97) (h 98) (h' 105) (h' 106) (h' 90 22) (h' 90 25) (h' 90 26) (h' 90 28) (h' 90 29) (h' 90 30))
set_option maxHeartbeats 4000000 in
theorem c_Mo_gap_90 {u : ov_U} {F : ov_H × ov_Z} {z : ov_Z} {h : ov_H} (d : Nat) (hd : 90 ≤ d) (U : ov_cap u) (I : ov_N F z h) (x : Int) (y : Int) (s : Int) (g_x : ov_g x) (g_y : ov_g y) (g_s : ov_g s) (p0 : 0 ≤ (h 90 25) ∧ (h 90 25) ≤ 1000000000) (W : ov_WT (h 96)) (CD : ov_CD (h 96) (h 97) (h 98)) (PM : ov_PM (h 96) (h 103) (h 97) (h 98) (h 105) (h 106) (h 90 22) (h 90 25) (h 90 26) (h 90 28) (h 90 29) (h 90 30)) : ov_T u d ov_m282 [ov_r 90, ov_i x, ov_i y, ov_i s] z h (P_Mo_gap_90 F z h x y s) := by
  refine ov_en rfl (Nat.le_of_ble_eq_true rfl) ?_
  show ov_R u d ov_m282 0 [(0, ov_r 90), (1, ov_i x), (2, ov_i y), (3, ov_i s)] [] z h (P_Mo_gap_90 F z h x y s)
  have t0 := t96_0 I
  have t1 := t96_1 I
  have t8 := t96_8 I
  have t9 := t96_9 I
  refine ov_blk (ls2 := [(0, ov_r 90), (1, ov_i x), (2, ov_i y), (3, ov_i s)]) (st2 := [ov_i 0, ov_r 90]) (pc2 := 2) b_282_0_2 rfl rfl ?_
  refine ov_putf (x := 0) d_282_2 fl_Mo_1 (zb_90 I) (zs_90 I) rfl nk_0 rfl ?_
  have I1 := up_90_0 (x := 0) I (by omega)
  refine ov_blk (ls2 := [(0, ov_r 90), (1, ov_i x), (2, ov_i y), (3, ov_i s)]) (st2 := [ov_i s, ov_i y, ov_i x, ov_r 90]) (pc2 := 9) b_282_5_4 rfl rfl ?_
  refine ov_cV (as := [ov_i x, ov_i y, ov_i s]) (st := []) (d2 := d - 1) d_282_9 lk_Mo_386 rfl (Nat.le_of_ble_eq_true rfl) (c := 1) (zb_90 I1) (zs_90 I1) ⟨by decide, rfl⟩ (by omega) (c_Mo_isPlace_90 (d - 1) (by omega) U I1 x y s (by omega) (by omega) (by omega)) ?_
  rintro _ _ _ ⟨v3, rfl, rfl, rfl, f2⟩
  show ov_R u d ov_m282 12 [(0, ov_r 90), (1, ov_i x), (2, ov_i y), (3, ov_i s)] [ov_i v3] z (ov_up h 90 0 0) (P_Mo_gap_90 F z h x y s)
  have f4 : (v3 = 0 ∨ v3 = 1) ∧ (v3 = 1 → 0 ≤ x ∧ x ≤ 5 ∧ 0 ≤ y ∧ y ≤ 8 ∧ x < (h 96 0) ∧ y < (h 96 1) ∧ 0 ≤ s ∧ s ≤ 1000000) := f2
  clear f2
  refine ov_ifne (tgt := 17) d_282_12 (by decide) (by omega) (fun c5 => ?_) (fun c5 => ?_)
  · skip
    have f4_ : v3 = 1 := by omega
    have f6 : 0 ≤ x ∧ x ≤ 5 ∧ 0 ≤ y ∧ y ≤ 8 ∧ x < (h 96 0) ∧ y < (h 96 1) ∧ 0 ≤ s ∧ s ≤ 1000000 := f4.2 (by omega)
    clear f4
    refine ov_blk (ls2 := [(0, ov_r 90), (1, ov_i x), (2, ov_i y), (3, ov_i s)]) (st2 := [ov_i 0, ov_i (-1), ov_i 0, ov_i 2, ov_r 90]) (pc2 := 22) b_282_17_5 rfl rfl ?_
    refine ov_cV (as := [ov_i 2, ov_i 0, ov_i (-1), ov_i 0]) (st := []) (d2 := d - 1) d_282_22 lk_Mo_389 rfl (Nat.le_of_ble_eq_true rfl) (c := 1) (zb_90 I1) (zs_90 I1) ⟨by decide, rfl⟩ (by omega) (c_Mo_asks_90 (d - 1) (by omega) U I1 2 0 (-1) 0 (by omega) (by omega) (by omega) (by omega) (by omega) (by omega) (by omega) (by show 0 ≤ (h 90 25) ∧ (h 90 25) ≤ 2000000000; omega)) ?_
    rintro _ z23 h24 ⟨rfl, I25, f7, e8, e9, e10, e11, e12, e13, e14, e15, e16, e17, e18, e19, e20, e21, e22⟩
    have E26 : h24 91 = h 91 := e8
    have E27 : h24 92 = h 92 := e9
    have E28 : h24 93 = h 93 := e10
    have E29 : h24 94 = h 94 := e11
    have E30 : h24 95 = h 95 := e12
    have E31 : h24 96 = h 96 := e13
    have E32 : h24 97 = h 97 := e14
    have E33 : h24 98 = h 98 := e15
    have E34 : h24 99 = h 99 := e16
    have E35 : h24 100 = h 100 := e17
    have E36 : h24 103 = h 103 := e18
    have E37 : h24 105 = h 105 := e19
    have E38 : h24 106 = h 106 := e20
    have E39 : h24 109 = h 109 := e21
    have E40 : h24 114 = h 114 := e22
    show ov_R u d ov_m282 25 [(0, ov_r 90), (1, ov_i x), (2, ov_i y), (3, ov_i s)] [] z23 h24 (P_Mo_gap_90 F z h x y s)
    have f41 : (h24 90 2) = (h 90 2) ∧ (h24 90 7) = (h 90 7) ∧ (h24 90 8) = (h 90 8) ∧ (h24 90 13) = (h 90 13) ∧ (h24 90 20) = (h 90 20) ∧ (h24 90 22) = (h 90 22) ∧ (h24 90 34) = (h 90 34) ∧ (h24 90 26) = (2 : Int) ∧ (h24 90 27) = (0 : Int) ∧ (h24 90 28) = (h 90 22) ∧ (h24 90 29) = ((-1) : Int) ∧ (h24 90 30) = (0 : Int) ∧ (((h24 90 25) = (h 90 25) + 1) ∨ ((h24 90 25) = (h 90 25) ∧ (h 90 26) = (2 : Int) ∧ (h 90 27) = (0 : Int) ∧ (h 90 28) = (h 90 22) ∧ (h 90 29) = ((-1) : Int) ∧ (h 90 30) = (0 : Int))) := f7
    clear f7
    have mi42 : ov_MI (h 96) (h 103) (h 97) (h 98) 2 (-1) 0 (h24 90 25) (h 105) (h 106) := ov_PM_ask PM (by omega)
    refine ov_blk (ls2 := [(0, ov_r 90), (1, ov_i x), (2, ov_i y), (3, ov_i s)]) (st2 := [ov_i s, ov_i y, ov_i x, ov_r 90]) (pc2 := 29) b_282_25_4 rfl rfl ?_
    have cf43 : h24 96 (0) = h 96 (0) := congrFun E31 (0)
    have cf44 : h24 96 (1) = h 96 (1) := congrFun E31 (1)
    have cf45 : h24 96 (8) = h 96 (8) := congrFun E31 (8)
    refine ov_cV (as := [ov_i x, ov_i y, ov_i s]) (st := []) (d2 := d - 1) d_282_29 lk_Mo_377 rfl (Nat.le_of_ble_eq_true rfl) (c := 1) (zb_90 I25) (zs_90 I25) ⟨by decide, rfl⟩ (by omega) (c_Mo_worthFrom_90_all 2 ((-1)) 0 ((h24 90 25)) (Int.toNat (13 - (x) - (y))) (d - 1) (by omega) U I25 x y s (by omega) (by omega) (by omega) (by omega) (by show x < (h24 96 0) ∧ y < (h24 96 1); omega) (by omega) (by omega) (by show (h24 90 26) = (2 : Int); omega) (by show (h24 90 29) = ((-1) : Int); omega) (by show (h24 90 30) = (0 : Int); omega) (by show (h24 90 25) = (h24 90 25); omega) (by show 0 ≤ (2 : Int) ∧ (2 : Int) ≤ 3 + (h24 96 8); omega) (by rw [show h24 96 = h 96 from E31]; exact W) (by rw [show h24 96 = h 96 from E31, show h24 97 = h 97 from E32, show h24 98 = h 98 from E33]; exact CD) (by rw [show h24 96 = h 96 from E31, show h24 103 = h 103 from E36, show h24 97 = h 97 from E32, show h24 98 = h 98 from E33, show h24 105 = h 105 from E37, show h24 106 = h 106 from E38]; exact mi42)) ?_
    rintro _ z63 h64 ⟨v47, rfl, I65, f46, e48, e49, e50, e51, e52, e53, e54, e55, e56, e57, e58, e59, e60, y61, y62⟩
    have E66 : h64 91 = h 91 := Eq.trans e48 E26
    have E67 : h64 92 = h 92 := Eq.trans e49 E27
    have E68 : h64 93 = h 93 := Eq.trans e50 E28
    have E69 : h64 94 = h 94 := Eq.trans e51 E29
    have E70 : h64 95 = h 95 := Eq.trans e52 E30
    have E71 : h64 96 = h 96 := Eq.trans e53 E31
    have E72 : h64 97 = h 97 := Eq.trans e54 E32
    have E73 : h64 98 = h 98 := Eq.trans e55 E33
    have E74 : h64 99 = h 99 := Eq.trans e56 E34
    have E75 : h64 100 = h 100 := Eq.trans e57 E35
    have E76 : h64 103 = h 103 := Eq.trans e58 E36
    have E77 : h64 109 = h 109 := Eq.trans e59 E39
    have E78 : h64 114 = h 114 := Eq.trans e60 E40
    show ov_R u d ov_m282 32 [(0, ov_r 90), (1, ov_i x), (2, ov_i y), (3, ov_i s)] [ov_i v47] z63 h64 (P_Mo_gap_90 F z h x y s)
    have f79 : (h64 90 2) = (h24 90 2) ∧ (h64 90 7) = (h24 90 7) ∧ (h64 90 8) = (h24 90 8) ∧ (h64 90 13) = (h24 90 13) ∧ (h64 90 20) = (h24 90 20) ∧ (h64 90 22) = (h24 90 22) ∧ (h64 90 25) = (h24 90 25) ∧ (h64 90 26) = (h24 90 26) ∧ (h64 90 28) = (h24 90 28) ∧ (h64 90 29) = (h24 90 29) ∧ (h64 90 30) = (h24 90 30) ∧ (h64 90 34) = (h24 90 34) ∧ -1 ≤ v47 ∧ v47 ≤ 89000 * (13 - x - y) := f46
    clear f46
    rw [show h24 103 = h 103 from E36] at y61
    rw [show h24 96 = h 96 from E31] at y61
    rw [show h24 97 = h 97 from E32] at y61
    rw [show h24 98 = h 98 from E33] at y61
    have y61_ : ov_MI (h 96) (h 103) (h 97) (h 98) (2 : Int) ((-1) : Int) (0 : Int) (h24 90 25) (h64 105) (h64 106) := y61
    rw [show h24 103 = h 103 from E36] at y62
    rw [show h24 96 = h 96 from E31] at y62
    rw [show h24 97 = h 97 from E32] at y62
    rw [show h24 98 = h 98 from E33] at y62
    have y62_ : (0 ≤ v47 ↔ ov_go (h 96) (h 103) (h 97) (h 98) (2 : Int) ((-1) : Int) (0 : Int) x y (s % (h 96 9))) := y62
    refine ov_blk (ls2 := [(0, ov_r 90), (1, ov_i x), (2, ov_i y), (3, ov_i s), (4, ov_i v47)]) (st2 := []) (pc2 := 34) b_282_32_1 rfl rfl ?_
    have pm80 : ov_PM (h 96) (h 103) (h 97) (h 98) (h64 105) (h64 106) (h64 90 22) (h64 90 25) (h64 90 26) (h64 90 28) (h64 90 29) (h64 90 30) := ov_PM_mi y61_ (by omega) (by omega) (by omega) (by omega) (by omega) (by omega)
    refine ov_blk (ls2 := [(0, ov_r 90), (1, ov_i x), (2, ov_i y), (3, ov_i s), (4, ov_i v47)]) (st2 := [ov_i 0, ov_i (-1), ov_i 0, ov_i 3, ov_r 90]) (pc2 := 39) b_282_34_5 rfl rfl ?_
    refine ov_cV (as := [ov_i 3, ov_i 0, ov_i (-1), ov_i 0]) (st := []) (d2 := d - 1) d_282_39 lk_Mo_389 rfl (Nat.le_of_ble_eq_true rfl) (c := 1) (zb_90 I65) (zs_90 I65) ⟨by decide, rfl⟩ (by omega) (c_Mo_asks_90 (d - 1) (by omega) U I65 3 0 (-1) 0 (by omega) (by omega) (by omega) (by omega) (by omega) (by omega) (by omega) (by show 0 ≤ (h64 90 25) ∧ (h64 90 25) ≤ 2000000000; omega)) ?_
    rintro _ z97 h98 ⟨rfl, I99, f81, e82, e83, e84, e85, e86, e87, e88, e89, e90, e91, e92, e93, e94, e95, e96⟩
    have E100 : h98 91 = h 91 := Eq.trans e82 E66
    have E101 : h98 92 = h 92 := Eq.trans e83 E67
    have E102 : h98 93 = h 93 := Eq.trans e84 E68
    have E103 : h98 94 = h 94 := Eq.trans e85 E69
    have E104 : h98 95 = h 95 := Eq.trans e86 E70
    have E105 : h98 96 = h 96 := Eq.trans e87 E71
    have E106 : h98 97 = h 97 := Eq.trans e88 E72
    have E107 : h98 98 = h 98 := Eq.trans e89 E73
    have E108 : h98 99 = h 99 := Eq.trans e90 E74
    have E109 : h98 100 = h 100 := Eq.trans e91 E75
    have E110 : h98 103 = h 103 := Eq.trans e92 E76
    have E111 : h98 105 = h64 105 := e93
    have E112 : h98 106 = h64 106 := e94
    have E113 : h98 109 = h 109 := Eq.trans e95 E77
    have E114 : h98 114 = h 114 := Eq.trans e96 E78
    show ov_R u d ov_m282 42 [(0, ov_r 90), (1, ov_i x), (2, ov_i y), (3, ov_i s), (4, ov_i v47)] [] z97 h98 (P_Mo_gap_90 F z h x y s)
    have f115 : (h98 90 2) = (h64 90 2) ∧ (h98 90 7) = (h64 90 7) ∧ (h98 90 8) = (h64 90 8) ∧ (h98 90 13) = (h64 90 13) ∧ (h98 90 20) = (h64 90 20) ∧ (h98 90 22) = (h64 90 22) ∧ (h98 90 34) = (h64 90 34) ∧ (h98 90 26) = (3 : Int) ∧ (h98 90 27) = (0 : Int) ∧ (h98 90 28) = (h64 90 22) ∧ (h98 90 29) = ((-1) : Int) ∧ (h98 90 30) = (0 : Int) ∧ (((h98 90 25) = (h64 90 25) + 1) ∨ ((h98 90 25) = (h64 90 25) ∧ (h64 90 26) = (3 : Int) ∧ (h64 90 27) = (0 : Int) ∧ (h64 90 28) = (h64 90 22) ∧ (h64 90 29) = ((-1) : Int) ∧ (h64 90 30) = (0 : Int))) := f81
    clear f81
    have mi116 : ov_MI (h 96) (h 103) (h 97) (h 98) 3 (-1) 0 (h98 90 25) (h64 105) (h64 106) := ov_PM_ask pm80 (by omega)
    refine ov_blk (ls2 := [(0, ov_r 90), (1, ov_i x), (2, ov_i y), (3, ov_i s), (4, ov_i v47)]) (st2 := [ov_i s, ov_i y, ov_i x, ov_r 90]) (pc2 := 46) b_282_42_4 rfl rfl ?_
    have cf117 : h98 96 (0) = h 96 (0) := congrFun E105 (0)
    have cf118 : h98 96 (1) = h 96 (1) := congrFun E105 (1)
    have cf119 : h98 96 (8) = h 96 (8) := congrFun E105 (8)
    refine ov_cV (as := [ov_i x, ov_i y, ov_i s]) (st := []) (d2 := d - 1) d_282_46 lk_Mo_377 rfl (Nat.le_of_ble_eq_true rfl) (c := 1) (zb_90 I99) (zs_90 I99) ⟨by decide, rfl⟩ (by omega) (c_Mo_worthFrom_90_all 3 ((-1)) 0 ((h98 90 25)) (Int.toNat (13 - (x) - (y))) (d - 1) (by omega) U I99 x y s (by omega) (by omega) (by omega) (by omega) (by show x < (h98 96 0) ∧ y < (h98 96 1); omega) (by omega) (by omega) (by show (h98 90 26) = (3 : Int); omega) (by show (h98 90 29) = ((-1) : Int); omega) (by show (h98 90 30) = (0 : Int); omega) (by show (h98 90 25) = (h98 90 25); omega) (by show 0 ≤ (3 : Int) ∧ (3 : Int) ≤ 3 + (h98 96 8); omega) (by rw [show h98 96 = h 96 from E105]; exact W) (by rw [show h98 96 = h 96 from E105, show h98 97 = h 97 from E106, show h98 98 = h 98 from E107]; exact CD) (by rw [show h98 96 = h 96 from E105, show h98 103 = h 103 from E110, show h98 97 = h 97 from E106, show h98 98 = h 98 from E107, show h98 105 = h64 105 from E111, show h98 106 = h64 106 from E112]; exact mi116)) ?_
    rintro _ z137 h138 ⟨v121, rfl, I139, f120, e122, e123, e124, e125, e126, e127, e128, e129, e130, e131, e132, e133, e134, y135, y136⟩
    have E140 : h138 91 = h 91 := Eq.trans e122 E100
    have E141 : h138 92 = h 92 := Eq.trans e123 E101
    have E142 : h138 93 = h 93 := Eq.trans e124 E102
    have E143 : h138 94 = h 94 := Eq.trans e125 E103
    have E144 : h138 95 = h 95 := Eq.trans e126 E104
    have E145 : h138 96 = h 96 := Eq.trans e127 E105
    have E146 : h138 97 = h 97 := Eq.trans e128 E106
    have E147 : h138 98 = h 98 := Eq.trans e129 E107
    have E148 : h138 99 = h 99 := Eq.trans e130 E108
    have E149 : h138 100 = h 100 := Eq.trans e131 E109
    have E150 : h138 103 = h 103 := Eq.trans e132 E110
    have E151 : h138 109 = h 109 := Eq.trans e133 E113
    have E152 : h138 114 = h 114 := Eq.trans e134 E114
    show ov_R u d ov_m282 49 [(0, ov_r 90), (1, ov_i x), (2, ov_i y), (3, ov_i s), (4, ov_i v47)] [ov_i v121] z137 h138 (P_Mo_gap_90 F z h x y s)
    have f153 : (h138 90 2) = (h98 90 2) ∧ (h138 90 7) = (h98 90 7) ∧ (h138 90 8) = (h98 90 8) ∧ (h138 90 13) = (h98 90 13) ∧ (h138 90 20) = (h98 90 20) ∧ (h138 90 22) = (h98 90 22) ∧ (h138 90 25) = (h98 90 25) ∧ (h138 90 26) = (h98 90 26) ∧ (h138 90 28) = (h98 90 28) ∧ (h138 90 29) = (h98 90 29) ∧ (h138 90 30) = (h98 90 30) ∧ (h138 90 34) = (h98 90 34) ∧ -1 ≤ v121 ∧ v121 ≤ 89000 * (13 - x - y) := f120
    clear f120
    rw [show h98 103 = h 103 from E110] at y135
    rw [show h98 96 = h 96 from E105] at y135
    rw [show h98 97 = h 97 from E106] at y135
    rw [show h98 98 = h 98 from E107] at y135
    have y135_ : ov_MI (h 96) (h 103) (h 97) (h 98) (3 : Int) ((-1) : Int) (0 : Int) (h98 90 25) (h138 105) (h138 106) := y135
    rw [show h98 103 = h 103 from E110] at y136
    rw [show h98 96 = h 96 from E105] at y136
    rw [show h98 97 = h 97 from E106] at y136
    rw [show h98 98 = h 98 from E107] at y136
    have y136_ : (0 ≤ v121 ↔ ov_go (h 96) (h 103) (h 97) (h 98) (3 : Int) ((-1) : Int) (0 : Int) x y (s % (h 96 9))) := y136
    refine ov_blk (ls2 := [(0, ov_r 90), (1, ov_i x), (2, ov_i y), (3, ov_i s), (4, ov_i v47), (5, ov_i v121)]) (st2 := [ov_i v47]) (pc2 := 53) b_282_49_2 rfl rfl ?_
    refine ov_iflt (tgt := 61) d_282_53 (by decide) (by omega) (fun c154 => ?_) (fun c154 => ?_)
    · skip
      refine ov_blk (ls2 := [(0, ov_r 90), (1, ov_i x), (2, ov_i y), (3, ov_i s), (4, ov_i v47), (5, ov_i v121)]) (st2 := [ov_i (-1)]) (pc2 := 62) b_282_61_1 rfl rfl ?_
      refine ov_goto (tgt := 70) d_282_62 (by decide) ?_
      have pm155 : ov_PM (h 96) (h 103) (h 97) (h 98) (h138 105) (h138 106) (h138 90 22) (h138 90 25) (h138 90 26) (h138 90 28) (h138 90 29) (h138 90 30) := ov_PM_mi y135_ (by omega) (by omega) (by omega) (by omega) (by omega) (by omega)
      exact ov_reti (st := []) d_282_70 rfl ⟨_, rfl, I139, (by show (h138 90 2) = (h 90 2) ∧ (h138 90 7) = (h 90 7) ∧ (h138 90 8) = (h 90 8) ∧ (h138 90 13) = (h 90 13) ∧ (h138 90 20) = (h 90 20) ∧ (h138 90 22) = (h 90 22) ∧ (h138 90 34) = (h 90 34) ∧ (h 90 25) ≤ (h138 90 25) ∧ (h138 90 25) ≤ (h 90 25) + 2 ∧ -1200000 ≤ (-1) ∧ (-1) ≤ 1200000; omega), E140, E141, E142, E143, E144, E145, E146, E147, E148, E149, E150, E151, E152, pm155⟩
    · skip
      refine ov_blk (ls2 := [(0, ov_r 90), (1, ov_i x), (2, ov_i y), (3, ov_i s), (4, ov_i v47), (5, ov_i v121)]) (st2 := [ov_i v121]) (pc2 := 58) b_282_56_1 rfl rfl ?_
      refine ov_ifge (tgt := 65) d_282_58 (by decide) (by omega) (fun c156 => ?_) (fun c156 => ?_)
      · skip
        refine ov_blk (ls2 := [(0, ov_r 90), (1, ov_i x), (2, ov_i y), (3, ov_i s), (4, ov_i v47), (5, ov_i v121)]) (st2 := [ov_i (v47 - v121)]) (pc2 := 70) b_282_65_3 rfl rfl ?_
        have pm157 : ov_PM (h 96) (h 103) (h 97) (h 98) (h138 105) (h138 106) (h138 90 22) (h138 90 25) (h138 90 26) (h138 90 28) (h138 90 29) (h138 90 30) := ov_PM_mi y135_ (by omega) (by omega) (by omega) (by omega) (by omega) (by omega)
        exact ov_reti (st := []) d_282_70 rfl ⟨_, rfl, I139, (by show (h138 90 2) = (h 90 2) ∧ (h138 90 7) = (h 90 7) ∧ (h138 90 8) = (h 90 8) ∧ (h138 90 13) = (h 90 13) ∧ (h138 90 20) = (h 90 20) ∧ (h138 90 22) = (h 90 22) ∧ (h138 90 34) = (h 90 34) ∧ (h 90 25) ≤ (h138 90 25) ∧ (h138 90 25) ≤ (h 90 25) + 2 ∧ -1200000 ≤ (v47 - v121) ∧ (v47 - v121) ≤ 1200000; omega), E140, E141, E142, E143, E144, E145, E146, E147, E148, E149, E150, E151, E152, pm157⟩
      · skip
        refine ov_blk (ls2 := [(0, ov_r 90), (1, ov_i x), (2, ov_i y), (3, ov_i s), (4, ov_i v47), (5, ov_i v121)]) (st2 := [ov_i (-1)]) (pc2 := 62) b_282_61_1 rfl rfl ?_
        refine ov_goto (tgt := 70) d_282_62 (by decide) ?_
        have pm158 : ov_PM (h 96) (h 103) (h 97) (h 98) (h138 105) (h138 106) (h138 90 22) (h138 90 25) (h138 90 26) (h138 90 28) (h138 90 29) (h138 90 30) := ov_PM_mi y135_ (by omega) (by omega) (by omega) (by omega) (by omega) (by omega)
        exact ov_reti (st := []) d_282_70 rfl ⟨_, rfl, I139, (by show (h138 90 2) = (h 90 2) ∧ (h138 90 7) = (h 90 7) ∧ (h138 90 8) = (h 90 8) ∧ (h138 90 13) = (h 90 13) ∧ (h138 90 20) = (h 90 20) ∧ (h138 90 22) = (h 90 22) ∧ (h138 90 34) = (h 90 34) ∧ (h 90 25) ≤ (h138 90 25) ∧ (h138 90 25) ≤ (h 90 25) + 2 ∧ -1200000 ≤ (-1) ∧ (-1) ≤ 1200000; omega), E140, E141, E142, E143, E144, E145, E146, E147, E148, E149, E150, E151, E152, pm158⟩
  · skip
    have f4_ : v3 = 0 := by omega
    clear f4
    refine ov_blk (ls2 := [(0, ov_r 90), (1, ov_i x), (2, ov_i y), (3, ov_i s)]) (st2 := [ov_i (-1)]) (pc2 := 16) b_282_15_1 rfl rfl ?_
    exact ov_reti (st := []) d_282_16 rfl ⟨_, rfl, I1, ⟨rfl, rfl, rfl, rfl, rfl, rfl, rfl, (by show (h 90 25) ≤ (h 90 25) ∧ (h 90 25) ≤ (h 90 25) + 2 ∧ -1200000 ≤ (-1) ∧ (-1) ≤ 1200000; omega)⟩, rfl, rfl, rfl, rfl, rfl, rfl, rfl, rfl, rfl, rfl, rfl, rfl, rfl, PM⟩
abbrev P_Mo_watch_90 (F : ov_H × ov_Z) (z : ov_Z) (h : ov_H) (x : Int) (y : Int) (s : Int) : Option ov_V → ov_Z → ov_H → Prop := fun r0 z' h' => ∃ r : Int, r0 = some (ov_i r) ∧ ov_N F z' h' ∧ ((h' 90 2) = (h 90 2) ∧ (h' 90 7) = (h 90 7) ∧ (h' 90 8) = (h 90 8) ∧ (h' 90 13) = (h 90 13) ∧ (h' 90 20) = (h 90 20) ∧ (h' 90 22) = (h 90 22) ∧ (h' 90 34) = (h 90 34) ∧ (h 90 25) ≤ (h' 90 25) ∧ (h' 90 25) ≤ (h 90 25) + 61 ∧ -2147483648 ≤ r ∧ r ≤ 2147483647) ∧ h' 91 = h 91 ∧ h' 92 = h 92 ∧ h' 93 = h 93 ∧ h' 94 = h 94 ∧ h' 95 = h 95 ∧ h' 96 = h 96 ∧ h' 97 = h 97 ∧ h' 98 = h 98 ∧ h' 99 = h 99 ∧ h' 100 = h 100 ∧ h' 103 = h 103 ∧ h' 109 = h 109 ∧ h' 114 = h 114 ∧ (ov_PM (h 96) (h 103) (h 97) (h 98) (h' 105) (h' 106) (h' 90 22) (h' 90 25) (h' 90 26) (h' 90 28) (h' 90 29) (h' 90 30))
set_option maxHeartbeats 4000000 in
theorem c_Mo_watch_90 {u : ov_U} {F : ov_H × ov_Z} {z : ov_Z} {h : ov_H} (d : Nat) (hd : 92 ≤ d) (U : ov_cap u) (I : ov_N F z h) (x : Int) (y : Int) (s : Int) (g_x : ov_g x) (g_y : ov_g y) (g_s : ov_g s) (p0 : 0 ≤ (h 90 25) ∧ (h 90 25) ≤ 1500000000) (W : ov_WT (h 96)) (CD : ov_CD (h 96) (h 97) (h 98)) (PM : ov_PM (h 96) (h 103) (h 97) (h 98) (h 105) (h 106) (h 90 22) (h 90 25) (h 90 26) (h 90 28) (h 90 29) (h 90 30)) : ov_T u d ov_m283 [ov_r 90, ov_i x, ov_i y, ov_i s] z h (P_Mo_watch_90 F z h x y s) := by
  refine ov_en rfl (Nat.le_of_ble_eq_true rfl) ?_
  show ov_R u d ov_m283 0 [(0, ov_r 90), (1, ov_i x), (2, ov_i y), (3, ov_i s)] [] z h (P_Mo_watch_90 F z h x y s)
  have t0 := t96_0 I
  have t1 := t96_1 I
  have t8 := t96_8 I
  have t9 := t96_9 I
  refine ov_blk (ls2 := [(0, ov_r 90), (1, ov_i x), (2, ov_i y), (3, ov_i s)]) (st2 := [ov_i 0, ov_r 90]) (pc2 := 2) b_283_0_2 rfl rfl ?_
  refine ov_putf (x := 0) d_283_2 fl_Mo_1 (zb_90 I) (zs_90 I) rfl nk_0 rfl ?_
  have I1 := up_90_0 (x := 0) I (by omega)
  refine ov_blk (ls2 := [(0, ov_r 90), (1, ov_i x), (2, ov_i y), (3, ov_i s)]) (st2 := [ov_i s, ov_i y, ov_i x, ov_r 90]) (pc2 := 9) b_283_5_4 rfl rfl ?_
  refine ov_cV (as := [ov_i x, ov_i y, ov_i s]) (st := []) (d2 := d - 1) d_283_9 lk_Mo_386 rfl (Nat.le_of_ble_eq_true rfl) (c := 1) (zb_90 I1) (zs_90 I1) ⟨by decide, rfl⟩ (by omega) (c_Mo_isPlace_90 (d - 1) (by omega) U I1 x y s (by omega) (by omega) (by omega)) ?_
  rintro _ _ _ ⟨v3, rfl, rfl, rfl, f2⟩
  show ov_R u d ov_m283 12 [(0, ov_r 90), (1, ov_i x), (2, ov_i y), (3, ov_i s)] [ov_i v3] z (ov_up h 90 0 0) (P_Mo_watch_90 F z h x y s)
  have f4 : (v3 = 0 ∨ v3 = 1) ∧ (v3 = 1 → 0 ≤ x ∧ x ≤ 5 ∧ 0 ≤ y ∧ y ≤ 8 ∧ x < (h 96 0) ∧ y < (h 96 1) ∧ 0 ≤ s ∧ s ≤ 1000000) := f2
  clear f2
  refine ov_ifeq (tgt := 34) d_283_12 (by decide) (by omega) (fun c5 => ?_) (fun c5 => ?_)
  · skip
    have f4_ : v3 = 0 := by omega
    clear f4
    refine ov_blk (ls2 := [(0, ov_r 90), (1, ov_i x), (2, ov_i y), (3, ov_i s)]) (st2 := [ov_i (-1)]) (pc2 := 35) b_283_34_1 rfl rfl ?_
    exact ov_reti (st := []) d_283_35 rfl ⟨_, rfl, I1, ⟨rfl, rfl, rfl, rfl, rfl, rfl, rfl, (by show (h 90 25) ≤ (h 90 25) ∧ (h 90 25) ≤ (h 90 25) + 61 ∧ -2147483648 ≤ (-1) ∧ (-1) ≤ 2147483647; omega)⟩, rfl, rfl, rfl, rfl, rfl, rfl, rfl, rfl, rfl, rfl, rfl, rfl, rfl, PM⟩
  · skip
    have f4_ : v3 = 1 := by omega
    have f6 : 0 ≤ x ∧ x ≤ 5 ∧ 0 ≤ y ∧ y ≤ 8 ∧ x < (h 96 0) ∧ y < (h 96 1) ∧ 0 ≤ s ∧ s ≤ 1000000 := f4.2 (by omega)
    clear f4
    refine ov_blk (ls2 := [(0, ov_r 90), (1, ov_i x), (2, ov_i y), (3, ov_i s)]) (st2 := [ov_i y, ov_i x, ov_r 90]) (pc2 := 18) b_283_15_3 rfl rfl ?_
    refine ov_cV (as := [ov_i x, ov_i y]) (st := []) (d2 := d - 1) d_283_18 lk_Mo_282 rfl (Nat.le_of_ble_eq_true rfl) (c := 1) (zb_90 I1) (zs_90 I1) ⟨by decide, rfl⟩ (by omega) (c_Mo_kindAt_90 (d - 1) (by omega) U I1 x y (by omega) (by omega) (by omega)) ?_
    rintro _ _ _ ⟨v8, rfl, rfl, rfl, f7⟩
    show ov_R u d ov_m283 21 [(0, ov_r 90), (1, ov_i x), (2, ov_i y), (3, ov_i s)] [ov_i v8] z (ov_up h 90 0 0) (P_Mo_watch_90 F z h x y s)
    have f9 : v8 = (h 96 (10 + 4 * (6 * y + x))) - 1 ∧ -1 ≤ v8 ∧ v8 ≤ 3 := f7
    clear f7
    refine ov_blk (ls2 := [(0, ov_r 90), (1, ov_i x), (2, ov_i y), (3, ov_i s)]) (st2 := [ov_i 1, ov_i v8]) (pc2 := 22) b_283_21_1 rfl rfl ?_
    refine ov_icne (tgt := 34) d_283_22 (by decide) (by omega) (by omega) (fun c10 => ?_) (fun c10 => ?_)
    · skip
      refine ov_blk (ls2 := [(0, ov_r 90), (1, ov_i x), (2, ov_i y), (3, ov_i s)]) (st2 := [ov_i (-1)]) (pc2 := 35) b_283_34_1 rfl rfl ?_
      exact ov_reti (st := []) d_283_35 rfl ⟨_, rfl, I1, ⟨rfl, rfl, rfl, rfl, rfl, rfl, rfl, (by show (h 90 25) ≤ (h 90 25) ∧ (h 90 25) ≤ (h 90 25) + 61 ∧ -2147483648 ≤ (-1) ∧ (-1) ≤ 2147483647; omega)⟩, rfl, rfl, rfl, rfl, rfl, rfl, rfl, rfl, rfl, rfl, rfl, rfl, rfl, PM⟩
    · skip
      refine ov_blk (ls2 := [(0, ov_r 90), (1, ov_i x), (2, ov_i y), (3, ov_i s)]) (st2 := [ov_i y, ov_i x, ov_r 90]) (pc2 := 28) b_283_25_3 rfl rfl ?_
      refine ov_cV (as := [ov_i x, ov_i y]) (st := []) (d2 := d - 1) d_283_28 lk_Mo_302 rfl (Nat.le_of_ble_eq_true rfl) (c := 1) (zb_90 I1) (zs_90 I1) ⟨by decide, rfl⟩ (by omega) (c_Mo_isKnown_90 (d - 1) (by omega) U I1 x y (by omega) (by omega) (by omega)) ?_
      rintro _ _ _ ⟨v12, rfl, rfl, rfl, f11⟩
      show ov_R u d ov_m283 31 [(0, ov_r 90), (1, ov_i x), (2, ov_i y), (3, ov_i s)] [ov_i v12] z (ov_up h 90 0 0) (P_Mo_watch_90 F z h x y s)
      have f13 : (v12 = 0 ∨ v12 = 1) ∧ (v12 = 1 → ((h 96 (10 + 4 * (6 * y + x))) = 2 ∧ (h 103 (4 + 6 * y + x)) = 1)) ∧ (v12 = 0 → ¬ ((h 96 (10 + 4 * (6 * y + x))) = 2 ∧ (h 103 (4 + 6 * y + x)) = 1)) := f11
      clear f11
      refine ov_ifeq (tgt := 36) d_283_31 (by decide) (by omega) (fun c14 => ?_) (fun c14 => ?_)
      · skip
        have f13_ : v12 = 0 := by omega
        have f15 : ¬ ((h 96 (10 + 4 * (6 * y + x))) = 2 ∧ (h 103 (4 + 6 * y + x)) = 1) := f13.2.2 (by omega)
        clear f13
        have w1 := ov_WT_at W (c := 6 * y + x) (by omega)
        refine ov_blk (ls2 := [(0, ov_r 90), (1, ov_i x), (2, ov_i y), (3, ov_i s)]) (st2 := [ov_i 0, ov_i (-1), ov_i 0, ov_i 3, ov_r 90]) (pc2 := 41) b_283_36_5 rfl rfl ?_
        refine ov_cV (as := [ov_i 3, ov_i 0, ov_i (-1), ov_i 0]) (st := []) (d2 := d - 1) d_283_41 lk_Mo_389 rfl (Nat.le_of_ble_eq_true rfl) (c := 1) (zb_90 I1) (zs_90 I1) ⟨by decide, rfl⟩ (by omega) (c_Mo_asks_90 (d - 1) (by omega) U I1 3 0 (-1) 0 (by omega) (by omega) (by omega) (by omega) (by omega) (by omega) (by omega) (by show 0 ≤ (h 90 25) ∧ (h 90 25) ≤ 2000000000; omega)) ?_
        rintro _ z32 h33 ⟨rfl, I34, f16, e17, e18, e19, e20, e21, e22, e23, e24, e25, e26, e27, e28, e29, e30, e31⟩
        have E35 : h33 91 = h 91 := e17
        have E36 : h33 92 = h 92 := e18
        have E37 : h33 93 = h 93 := e19
        have E38 : h33 94 = h 94 := e20
        have E39 : h33 95 = h 95 := e21
        have E40 : h33 96 = h 96 := e22
        have E41 : h33 97 = h 97 := e23
        have E42 : h33 98 = h 98 := e24
        have E43 : h33 99 = h 99 := e25
        have E44 : h33 100 = h 100 := e26
        have E45 : h33 103 = h 103 := e27
        have E46 : h33 105 = h 105 := e28
        have E47 : h33 106 = h 106 := e29
        have E48 : h33 109 = h 109 := e30
        have E49 : h33 114 = h 114 := e31
        show ov_R u d ov_m283 44 [(0, ov_r 90), (1, ov_i x), (2, ov_i y), (3, ov_i s)] [] z32 h33 (P_Mo_watch_90 F z h x y s)
        have f50 : (h33 90 2) = (h 90 2) ∧ (h33 90 7) = (h 90 7) ∧ (h33 90 8) = (h 90 8) ∧ (h33 90 13) = (h 90 13) ∧ (h33 90 20) = (h 90 20) ∧ (h33 90 22) = (h 90 22) ∧ (h33 90 34) = (h 90 34) ∧ (h33 90 26) = (3 : Int) ∧ (h33 90 27) = (0 : Int) ∧ (h33 90 28) = (h 90 22) ∧ (h33 90 29) = ((-1) : Int) ∧ (h33 90 30) = (0 : Int) ∧ (((h33 90 25) = (h 90 25) + 1) ∨ ((h33 90 25) = (h 90 25) ∧ (h 90 26) = (3 : Int) ∧ (h 90 27) = (0 : Int) ∧ (h 90 28) = (h 90 22) ∧ (h 90 29) = ((-1) : Int) ∧ (h 90 30) = (0 : Int))) := f16
        clear f16
        have mi51 : ov_MI (h 96) (h 103) (h 97) (h 98) 3 (-1) 0 (h33 90 25) (h 105) (h 106) := ov_PM_ask PM (by omega)
        refine ov_blk (ls2 := [(0, ov_r 90), (1, ov_i x), (2, ov_i y), (3, ov_i s)]) (st2 := [ov_i s, ov_i 0, ov_i 0, ov_r 90]) (pc2 := 48) b_283_44_4 rfl rfl ?_
        have cf52 : h33 96 (0) = h 96 (0) := congrFun E40 (0)
        have cf53 : h33 96 (1) = h 96 (1) := congrFun E40 (1)
        have cf54 : h33 96 (8) = h 96 (8) := congrFun E40 (8)
        refine ov_cV (as := [ov_i 0, ov_i 0, ov_i s]) (st := []) (d2 := d - 1) d_283_48 lk_Mo_377 rfl (Nat.le_of_ble_eq_true rfl) (c := 1) (zb_90 I34) (zs_90 I34) ⟨by decide, rfl⟩ (by omega) (c_Mo_worthFrom_90_all 3 ((-1)) 0 ((h33 90 25)) (Int.toNat (13 - (0) - (0))) (d - 1) (by omega) U I34 0 0 s (by omega) (by omega) (by omega) (by omega) (by show (0 : Int) < (h33 96 0) ∧ (0 : Int) < (h33 96 1); omega) (by omega) (by omega) (by show (h33 90 26) = (3 : Int); omega) (by show (h33 90 29) = ((-1) : Int); omega) (by show (h33 90 30) = (0 : Int); omega) (by show (h33 90 25) = (h33 90 25); omega) (by show 0 ≤ (3 : Int) ∧ (3 : Int) ≤ 3 + (h33 96 8); omega) (by rw [show h33 96 = h 96 from E40]; exact W) (by rw [show h33 96 = h 96 from E40, show h33 97 = h 97 from E41, show h33 98 = h 98 from E42]; exact CD) (by rw [show h33 96 = h 96 from E40, show h33 103 = h 103 from E45, show h33 97 = h 97 from E41, show h33 98 = h 98 from E42, show h33 105 = h 105 from E46, show h33 106 = h 106 from E47]; exact mi51)) ?_
        rintro _ z72 h73 ⟨v56, rfl, I74, f55, e57, e58, e59, e60, e61, e62, e63, e64, e65, e66, e67, e68, e69, y70, y71⟩
        have E75 : h73 91 = h 91 := Eq.trans e57 E35
        have E76 : h73 92 = h 92 := Eq.trans e58 E36
        have E77 : h73 93 = h 93 := Eq.trans e59 E37
        have E78 : h73 94 = h 94 := Eq.trans e60 E38
        have E79 : h73 95 = h 95 := Eq.trans e61 E39
        have E80 : h73 96 = h 96 := Eq.trans e62 E40
        have E81 : h73 97 = h 97 := Eq.trans e63 E41
        have E82 : h73 98 = h 98 := Eq.trans e64 E42
        have E83 : h73 99 = h 99 := Eq.trans e65 E43
        have E84 : h73 100 = h 100 := Eq.trans e66 E44
        have E85 : h73 103 = h 103 := Eq.trans e67 E45
        have E86 : h73 109 = h 109 := Eq.trans e68 E48
        have E87 : h73 114 = h 114 := Eq.trans e69 E49
        show ov_R u d ov_m283 51 [(0, ov_r 90), (1, ov_i x), (2, ov_i y), (3, ov_i s)] [ov_i v56] z72 h73 (P_Mo_watch_90 F z h x y s)
        have f88 : (h73 90 2) = (h33 90 2) ∧ (h73 90 7) = (h33 90 7) ∧ (h73 90 8) = (h33 90 8) ∧ (h73 90 13) = (h33 90 13) ∧ (h73 90 20) = (h33 90 20) ∧ (h73 90 22) = (h33 90 22) ∧ (h73 90 25) = (h33 90 25) ∧ (h73 90 26) = (h33 90 26) ∧ (h73 90 28) = (h33 90 28) ∧ (h73 90 29) = (h33 90 29) ∧ (h73 90 30) = (h33 90 30) ∧ (h73 90 34) = (h33 90 34) ∧ -1 ≤ v56 ∧ v56 ≤ 89000 * (13 - (0 : Int) - (0 : Int)) := f55
        clear f55
        rw [show h33 103 = h 103 from E45] at y70
        rw [show h33 96 = h 96 from E40] at y70
        rw [show h33 97 = h 97 from E41] at y70
        rw [show h33 98 = h 98 from E42] at y70
        have y70_ : ov_MI (h 96) (h 103) (h 97) (h 98) (3 : Int) ((-1) : Int) (0 : Int) (h33 90 25) (h73 105) (h73 106) := y70
        rw [show h33 103 = h 103 from E45] at y71
        rw [show h33 96 = h 96 from E40] at y71
        rw [show h33 97 = h 97 from E41] at y71
        rw [show h33 98 = h 98 from E42] at y71
        have y71_ : (0 ≤ v56 ↔ ov_go (h 96) (h 103) (h 97) (h 98) (3 : Int) ((-1) : Int) (0 : Int) (0 : Int) (0 : Int) (s % (h 96 9))) := y71
        refine ov_blk (ls2 := [(0, ov_r 90), (1, ov_i x), (2, ov_i y), (3, ov_i s), (4, ov_i v56)]) (st2 := []) (pc2 := 53) b_283_51_1 rfl rfl ?_
        have pm89 : ov_PM (h 96) (h 103) (h 97) (h 98) (h73 105) (h73 106) (h73 90 22) (h73 90 25) (h73 90 26) (h73 90 28) (h73 90 29) (h73 90 30) := ov_PM_mi y70_ (by omega) (by omega) (by omega) (by omega) (by omega) (by omega)
        refine ov_blk (ls2 := [(0, ov_r 90), (1, ov_i x), (2, ov_i y), (3, ov_i s), (4, ov_i v56), (5, ov_l 0), (7, ov_i 0)]) (st2 := []) (pc2 := 59) b_283_53_4 rfl rfl ?_
        have L93 : ∀ (n90 : Nat) (x5 : Int) (x7 : Int) (z94 : ov_Z) (h95 : ov_H) (I96 : ov_N F z94 h95) (E97 : h95 91 = h 91) (E98 : h95 92 = h 92) (E99 : h95 93 = h 93) (E100 : h95 94 = h 94) (E101 : h95 95 = h 95) (E102 : h95 96 = h 96) (E103 : h95 97 = h 97) (E104 : h95 98 = h 98) (E105 : h95 99 = h 99) (E106 : h95 100 = h 100) (E107 : h95 103 = h 103) (E108 : h95 109 = h 109) (E109 : h95 114 = h 114) (xp : ov_PM (h 96) (h 103) (h 97) (h 98) (h95 105) (h95 106) (h95 90 22) (h95 90 25) (h95 90 26) (h95 90 28) (h95 90 29) (h95 90 30)) (q92 : 0 ≤ x7 ∧ x7 ≤ 60 ∧ -60 ≤ x5 ∧ x5 ≤ 1200000 * x7 ∧ -x7 ≤ x5 ∧ -1 ≤ v56 ∧ v56 ≤ 1200000 ∧ (h 90 25) ≤ (h95 90 25) ∧ (h95 90 25) ≤ (h 90 25) + 1 + x7 ∧ (h95 90 22) = (h 90 22) ∧ (h95 90 2) = (h73 90 2) ∧ (h95 90 7) = (h73 90 7) ∧ (h95 90 8) = (h73 90 8) ∧ (h95 90 13) = (h73 90 13) ∧ (h95 90 20) = (h73 90 20) ∧ (h95 90 22) = (h73 90 22) ∧ (h95 90 34) = (h73 90 34)), 60 - x7 < (n90 : Int) → ov_R u d ov_m283 59 [(0, ov_r 90), (1, ov_i x), (2, ov_i y), (3, ov_i s), (4, ov_i v56), (5, ov_l x5), (7, ov_i x7)] [] z94 h95 (P_Mo_watch_90 F z h x y s) := by
          intro n90
          induction n90 with
          | zero =>
            intro x5 x7 z94 h95 I96 E97 E98 E99 E100 E101 E102 E103 E104 E105 E106 E107 E108 E109 xp q92 hn110
            exact absurd hn110 (by omega)
          | succ n90 ih91 =>
            intro x5 x7 z94 h95 I96 E97 E98 E99 E100 E101 E102 E103 E104 E105 E106 E107 E108 E109 xp q92 hn110
            refine ov_blk (ls2 := [(0, ov_r 90), (1, ov_i x), (2, ov_i y), (3, ov_i s), (4, ov_i v56), (5, ov_l x5), (7, ov_i x7)]) (st2 := [ov_i 1, ov_i y, ov_i x, ov_r 90, ov_i x7]) (pc2 := 65) b_283_59_5 rfl rfl ?_
            refine ov_cV (as := [ov_i x, ov_i y, ov_i 1]) (st := [ov_i x7]) (d2 := d - 1) d_283_65 lk_Mo_289 rfl (Nat.le_of_ble_eq_true rfl) (c := 1) (zb_90 I96) (zs_90 I96) ⟨by decide, rfl⟩ (by omega) (c_Mo_lightAt_90 (d - 1) (by omega) U I96 x y 1 (by omega) (by omega) (by omega) (by omega) (by omega)) ?_
            rintro _ _ _ ⟨v112, rfl, rfl, rfl, f111⟩
            show ov_R u d ov_m283 68 [(0, ov_r 90), (1, ov_i x), (2, ov_i y), (3, ov_i s), (4, ov_i v56), (5, ov_l x5), (7, ov_i x7)] [ov_i v112, ov_i x7] z94 h95 (P_Mo_watch_90 F z h x y s)
            rw [show h95 96 = h 96 from E102] at f111
            have f113 : v112 = (h 96 (10 + 4 * (6 * y + x) + (1 : Int))) ∧ ((1 : Int) = 1 → 0 ≤ v112 ∧ v112 ≤ 60) ∧ ((1 : Int) = 2 → 0 ≤ v112 ∧ v112 ≤ 59) ∧ ((1 : Int) = 3 → 0 ≤ v112 ∧ v112 ≤ 60) := f111
            clear f111
            refine ov_icge (tgt := 109) d_283_68 (by decide) (by omega) (by omega) (fun c114 => ?_) (fun c114 => ?_)
            · skip
              refine ov_blk (ls2 := [(0, ov_r 90), (1, ov_i x), (2, ov_i y), (3, ov_i s), (4, ov_i v56), (5, ov_l x5), (7, ov_i x7)]) (st2 := [ov_i v56]) (pc2 := 111) b_283_109_1 rfl rfl ?_
              refine ov_ifge (tgt := 118) d_283_111 (by decide) (by omega) (fun c115 => ?_) (fun c115 => ?_)
              · skip
                refine ov_blk (ls2 := [(0, ov_r 90), (1, ov_i x), (2, ov_i y), (3, ov_i s), (4, ov_i v56), (5, ov_l x5), (7, ov_i x7)]) (st2 := [ov_i 1, ov_i y, ov_i x, ov_r 90, ov_l x5, ov_i v56]) (pc2 := 126) b_283_118_6 rfl rfl ?_
                refine ov_cV (as := [ov_i x, ov_i y, ov_i 1]) (st := [ov_l x5, ov_i v56]) (d2 := d - 1) d_283_126 lk_Mo_289 rfl (Nat.le_of_ble_eq_true rfl) (c := 1) (zb_90 I96) (zs_90 I96) ⟨by decide, rfl⟩ (by omega) (c_Mo_lightAt_90 (d - 1) (by omega) U I96 x y 1 (by omega) (by omega) (by omega) (by omega) (by omega)) ?_
                rintro _ _ _ ⟨v117, rfl, rfl, rfl, f116⟩
                show ov_R u d ov_m283 129 [(0, ov_r 90), (1, ov_i x), (2, ov_i y), (3, ov_i s), (4, ov_i v56), (5, ov_l x5), (7, ov_i x7)] [ov_i v117, ov_l x5, ov_i v56] z94 h95 (P_Mo_watch_90 F z h x y s)
                rw [show h95 96 = h 96 from E102] at f116
                have f118 : v117 = (h 96 (10 + 4 * (6 * y + x) + (1 : Int))) ∧ ((1 : Int) = 1 → 0 ≤ v117 ∧ v117 ≤ 60) ∧ ((1 : Int) = 2 → 0 ≤ v117 ∧ v117 ≤ 59) ∧ ((1 : Int) = 3 → 0 ≤ v117 ∧ v117 ≤ 60) := f116
                clear f116
                refine ov_blk (ls2 := [(0, ov_r 90), (1, ov_i x), (2, ov_i y), (3, ov_i s), (4, ov_i v56), (5, ov_l x5), (7, ov_i x7)]) (st2 := [ov_l (ov_w v117), ov_l x5, ov_i v56]) (pc2 := 130) b_283_129_1 rfl rfl ?_
                have g119 := ov_wg v117
                have g120 := ov_wq v117
                have xd := ov_tds (a := x5) (b := (ov_w v117)) (by omega)
                refine ov_ldiv d_283_130 (by omega) (by omega) (by omega) ?_
                refine ov_blk (ls2 := [(0, ov_r 90), (1, ov_i x), (2, ov_i y), (3, ov_i s), (4, ov_i v56), (5, ov_l x5), (7, ov_i x7)]) (st2 := [ov_i (Int.tdiv x5 (ov_w v117)), ov_i v56]) (pc2 := 132) b_283_131_1 rfl rfl ?_
                refine ov_blk (ls2 := [(0, ov_r 90), (1, ov_i x), (2, ov_i y), (3, ov_i s), (4, ov_i v56), (5, ov_l x5), (7, ov_i x7)]) (st2 := [ov_i (v56 - (Int.tdiv x5 (ov_w v117)))]) (pc2 := 133) b_283_132_1 rfl rfl ?_
                exact ov_reti (st := []) d_283_133 rfl ⟨_, rfl, I96, (by show (h95 90 2) = (h 90 2) ∧ (h95 90 7) = (h 90 7) ∧ (h95 90 8) = (h 90 8) ∧ (h95 90 13) = (h 90 13) ∧ (h95 90 20) = (h 90 20) ∧ (h95 90 22) = (h 90 22) ∧ (h95 90 34) = (h 90 34) ∧ (h 90 25) ≤ (h95 90 25) ∧ (h95 90 25) ≤ (h 90 25) + 61 ∧ -2147483648 ≤ (v56 - (Int.tdiv x5 (ov_w v117))) ∧ (v56 - (Int.tdiv x5 (ov_w v117))) ≤ 2147483647; omega), E97, E98, E99, E100, E101, E102, E103, E104, E105, E106, E107, E108, E109, xp⟩
              · skip
                refine ov_blk (ls2 := [(0, ov_r 90), (1, ov_i x), (2, ov_i y), (3, ov_i s), (4, ov_i v56), (5, ov_l x5), (7, ov_i x7)]) (st2 := [ov_i (-1)]) (pc2 := 115) b_283_114_1 rfl rfl ?_
                refine ov_goto (tgt := 133) d_283_115 (by decide) ?_
                exact ov_reti (st := []) d_283_133 rfl ⟨_, rfl, I96, (by show (h95 90 2) = (h 90 2) ∧ (h95 90 7) = (h 90 7) ∧ (h95 90 8) = (h 90 8) ∧ (h95 90 13) = (h 90 13) ∧ (h95 90 20) = (h 90 20) ∧ (h95 90 22) = (h 90 22) ∧ (h95 90 34) = (h 90 34) ∧ (h 90 25) ≤ (h95 90 25) ∧ (h95 90 25) ≤ (h 90 25) + 61 ∧ -2147483648 ≤ (-1) ∧ (-1) ≤ 2147483647; omega), E97, E98, E99, E100, E101, E102, E103, E104, E105, E106, E107, E108, E109, xp⟩
            · skip
              refine ov_blk (ls2 := [(0, ov_r 90), (1, ov_i x), (2, ov_i y), (3, ov_i s), (4, ov_i v56), (5, ov_l x5), (7, ov_i x7)]) (st2 := [ov_i v56]) (pc2 := 73) b_283_71_1 rfl rfl ?_
              refine ov_iflt (tgt := 109) d_283_73 (by decide) (by omega) (fun c121 => ?_) (fun c121 => ?_)
              · skip
                refine ov_blk (ls2 := [(0, ov_r 90), (1, ov_i x), (2, ov_i y), (3, ov_i s), (4, ov_i v56), (5, ov_l x5), (7, ov_i x7)]) (st2 := [ov_i v56]) (pc2 := 111) b_283_109_1 rfl rfl ?_
                refine ov_ifge (tgt := 118) d_283_111 (by decide) (by omega) (fun c122 => ?_) (fun c122 => ?_)
                · omega
                · skip
                  refine ov_blk (ls2 := [(0, ov_r 90), (1, ov_i x), (2, ov_i y), (3, ov_i s), (4, ov_i v56), (5, ov_l x5), (7, ov_i x7)]) (st2 := [ov_i (-1)]) (pc2 := 115) b_283_114_1 rfl rfl ?_
                  refine ov_goto (tgt := 133) d_283_115 (by decide) ?_
                  exact ov_reti (st := []) d_283_133 rfl ⟨_, rfl, I96, (by show (h95 90 2) = (h 90 2) ∧ (h95 90 7) = (h 90 7) ∧ (h95 90 8) = (h 90 8) ∧ (h95 90 13) = (h 90 13) ∧ (h95 90 20) = (h 90 20) ∧ (h95 90 22) = (h 90 22) ∧ (h95 90 34) = (h 90 34) ∧ (h 90 25) ≤ (h95 90 25) ∧ (h95 90 25) ≤ (h 90 25) + 61 ∧ -2147483648 ≤ (-1) ∧ (-1) ≤ 2147483647; omega), E97, E98, E99, E100, E101, E102, E103, E104, E105, E106, E107, E108, E109, xp⟩
              · skip
                refine ov_blk (ls2 := [(0, ov_r 90), (1, ov_i x), (2, ov_i y), (3, ov_i s), (4, ov_i v56), (5, ov_l x5), (7, ov_i x7)]) (st2 := [ov_i x7, ov_i ((6 * y) + x), ov_i 0, ov_i 3, ov_r 90]) (pc2 := 87) b_283_76_9 rfl rfl ?_
                refine ov_cV (as := [ov_i 3, ov_i 0, ov_i ((6 * y) + x), ov_i x7]) (st := []) (d2 := d - 1) d_283_87 lk_Mo_389 rfl (Nat.le_of_ble_eq_true rfl) (c := 1) (zb_90 I96) (zs_90 I96) ⟨by decide, rfl⟩ (by omega) (c_Mo_asks_90 (d - 1) (by omega) U I96 3 0 ((6 * y) + x) x7 (by omega) (by omega) (by omega) (by omega) (by omega) (by omega) (by omega) (by show 0 ≤ (h95 90 25) ∧ (h95 90 25) ≤ 2000000000; omega)) ?_
                rintro _ z139 h140 ⟨rfl, I141, f123, e124, e125, e126, e127, e128, e129, e130, e131, e132, e133, e134, e135, e136, e137, e138⟩
                have E142 : h140 91 = h 91 := Eq.trans e124 E97
                have E143 : h140 92 = h 92 := Eq.trans e125 E98
                have E144 : h140 93 = h 93 := Eq.trans e126 E99
                have E145 : h140 94 = h 94 := Eq.trans e127 E100
                have E146 : h140 95 = h 95 := Eq.trans e128 E101
                have E147 : h140 96 = h 96 := Eq.trans e129 E102
                have E148 : h140 97 = h 97 := Eq.trans e130 E103
                have E149 : h140 98 = h 98 := Eq.trans e131 E104
                have E150 : h140 99 = h 99 := Eq.trans e132 E105
                have E151 : h140 100 = h 100 := Eq.trans e133 E106
                have E152 : h140 103 = h 103 := Eq.trans e134 E107
                have E153 : h140 105 = h95 105 := e135
                have E154 : h140 106 = h95 106 := e136
                have E155 : h140 109 = h 109 := Eq.trans e137 E108
                have E156 : h140 114 = h 114 := Eq.trans e138 E109
                show ov_R u d ov_m283 90 [(0, ov_r 90), (1, ov_i x), (2, ov_i y), (3, ov_i s), (4, ov_i v56), (5, ov_l x5), (7, ov_i x7)] [] z139 h140 (P_Mo_watch_90 F z h x y s)
                have f157 : (h140 90 2) = (h95 90 2) ∧ (h140 90 7) = (h95 90 7) ∧ (h140 90 8) = (h95 90 8) ∧ (h140 90 13) = (h95 90 13) ∧ (h140 90 20) = (h95 90 20) ∧ (h140 90 22) = (h95 90 22) ∧ (h140 90 34) = (h95 90 34) ∧ (h140 90 26) = (3 : Int) ∧ (h140 90 27) = (0 : Int) ∧ (h140 90 28) = (h95 90 22) ∧ (h140 90 29) = ((6 * y) + x) ∧ (h140 90 30) = x7 ∧ (((h140 90 25) = (h95 90 25) + 1) ∨ ((h140 90 25) = (h95 90 25) ∧ (h95 90 26) = (3 : Int) ∧ (h95 90 27) = (0 : Int) ∧ (h95 90 28) = (h95 90 22) ∧ (h95 90 29) = ((6 * y) + x) ∧ (h95 90 30) = x7)) := f123
                clear f123
                have mi158 : ov_MI (h 96) (h 103) (h 97) (h 98) 3 ((6 * y) + x) x7 (h140 90 25) (h95 105) (h95 106) := ov_PM_ask xp (by omega)
                refine ov_blk (ls2 := [(0, ov_r 90), (1, ov_i x), (2, ov_i y), (3, ov_i s), (4, ov_i v56), (5, ov_l x5), (7, ov_i x7)]) (st2 := [ov_i s, ov_i 0, ov_i 0, ov_r 90, ov_l x5]) (pc2 := 96) b_283_90_5 rfl rfl ?_
                have cf159 : h140 96 (0) = h 96 (0) := congrFun E147 (0)
                have cf160 : h140 96 (1) = h 96 (1) := congrFun E147 (1)
                have cf161 : h140 96 (8) = h 96 (8) := congrFun E147 (8)
                refine ov_cV (as := [ov_i 0, ov_i 0, ov_i s]) (st := [ov_l x5]) (d2 := d - 1) d_283_96 lk_Mo_377 rfl (Nat.le_of_ble_eq_true rfl) (c := 1) (zb_90 I141) (zs_90 I141) ⟨by decide, rfl⟩ (by omega) (c_Mo_worthFrom_90_all 3 ((6 * y + x)) x7 ((h140 90 25)) (Int.toNat (13 - (0) - (0))) (d - 1) (by omega) U I141 0 0 s (by omega) (by omega) (by omega) (by omega) (by show (0 : Int) < (h140 96 0) ∧ (0 : Int) < (h140 96 1); omega) (by omega) (by omega) (by show (h140 90 26) = (3 : Int); omega) (by show (h140 90 29) = (6 * y + x); omega) (by show (h140 90 30) = x7; omega) (by show (h140 90 25) = (h140 90 25); omega) (by show 0 ≤ (3 : Int) ∧ (3 : Int) ≤ 3 + (h140 96 8); omega) (by rw [show h140 96 = h 96 from E147]; exact W) (by rw [show h140 96 = h 96 from E147, show h140 97 = h 97 from E148, show h140 98 = h 98 from E149]; exact CD) (by rw [show h140 96 = h 96 from E147, show h140 103 = h 103 from E152, show h140 97 = h 97 from E148, show h140 98 = h 98 from E149, show h140 105 = h95 105 from E153, show h140 106 = h95 106 from E154]; exact mi158)) ?_
                rintro _ z179 h180 ⟨v163, rfl, I181, f162, e164, e165, e166, e167, e168, e169, e170, e171, e172, e173, e174, e175, e176, y177, y178⟩
                have E182 : h180 91 = h 91 := Eq.trans e164 E142
                have E183 : h180 92 = h 92 := Eq.trans e165 E143
                have E184 : h180 93 = h 93 := Eq.trans e166 E144
                have E185 : h180 94 = h 94 := Eq.trans e167 E145
                have E186 : h180 95 = h 95 := Eq.trans e168 E146
                have E187 : h180 96 = h 96 := Eq.trans e169 E147
                have E188 : h180 97 = h 97 := Eq.trans e170 E148
                have E189 : h180 98 = h 98 := Eq.trans e171 E149
                have E190 : h180 99 = h 99 := Eq.trans e172 E150
                have E191 : h180 100 = h 100 := Eq.trans e173 E151
                have E192 : h180 103 = h 103 := Eq.trans e174 E152
                have E193 : h180 109 = h 109 := Eq.trans e175 E155
                have E194 : h180 114 = h 114 := Eq.trans e176 E156
                show ov_R u d ov_m283 99 [(0, ov_r 90), (1, ov_i x), (2, ov_i y), (3, ov_i s), (4, ov_i v56), (5, ov_l x5), (7, ov_i x7)] [ov_i v163, ov_l x5] z179 h180 (P_Mo_watch_90 F z h x y s)
                have f195 : (h180 90 2) = (h140 90 2) ∧ (h180 90 7) = (h140 90 7) ∧ (h180 90 8) = (h140 90 8) ∧ (h180 90 13) = (h140 90 13) ∧ (h180 90 20) = (h140 90 20) ∧ (h180 90 22) = (h140 90 22) ∧ (h180 90 25) = (h140 90 25) ∧ (h180 90 26) = (h140 90 26) ∧ (h180 90 28) = (h140 90 28) ∧ (h180 90 29) = (h140 90 29) ∧ (h180 90 30) = (h140 90 30) ∧ (h180 90 34) = (h140 90 34) ∧ -1 ≤ v163 ∧ v163 ≤ 89000 * (13 - (0 : Int) - (0 : Int)) := f162
                clear f162
                rw [show h140 103 = h 103 from E152] at y177
                rw [show h140 96 = h 96 from E147] at y177
                rw [show h140 97 = h 97 from E148] at y177
                rw [show h140 98 = h 98 from E149] at y177
                have y177_ : ov_MI (h 96) (h 103) (h 97) (h 98) (3 : Int) (6 * y + x) x7 (h140 90 25) (h180 105) (h180 106) := y177
                rw [show h140 103 = h 103 from E152] at y178
                rw [show h140 96 = h 96 from E147] at y178
                rw [show h140 97 = h 97 from E148] at y178
                rw [show h140 98 = h 98 from E149] at y178
                have y178_ : (0 ≤ v163 ↔ ov_go (h 96) (h 103) (h 97) (h 98) (3 : Int) (6 * y + x) x7 (0 : Int) (0 : Int) (s % (h 96 9))) := y178
                refine ov_blk (ls2 := [(0, ov_r 90), (1, ov_i x), (2, ov_i y), (3, ov_i s), (4, ov_i v56), (5, ov_l (x5 + (ov_w v163))), (7, ov_i x7)]) (st2 := []) (pc2 := 103) b_283_99_3 rfl rfl ?_
                have g196 := ov_wg v163
                have g197 := ov_wq v163
                have pm198 : ov_PM (h 96) (h 103) (h 97) (h 98) (h180 105) (h180 106) (h180 90 22) (h180 90 25) (h180 90 26) (h180 90 28) (h180 90 29) (h180 90 30) := ov_PM_mi y177_ (by omega) (by omega) (by omega) (by omega) (by omega) (by omega)
                refine ov_blk (ls2 := [(0, ov_r 90), (1, ov_i x), (2, ov_i y), (3, ov_i s), (4, ov_i v56), (5, ov_l (x5 + (ov_w v163))), (7, ov_i (x7 + 1))]) (st2 := []) (pc2 := 106) b_283_103_1 rfl rfl ?_
                refine ov_goto (tgt := 59) d_283_106 (by decide) ?_
                exact ih91 (x5 + (ov_w v163)) (x7 + 1) _ _ I181 E182 E183 E184 E185 E186 E187 E188 E189 E190 E191 E192 E193 E194 pm198 (by show 0 ≤ (x7 + 1) ∧ (x7 + 1) ≤ 60 ∧ -60 ≤ (x5 + (ov_w v163)) ∧ (x5 + (ov_w v163)) ≤ 1200000 * (x7 + 1) ∧ -(x7 + 1) ≤ (x5 + (ov_w v163)) ∧ -1 ≤ v56 ∧ v56 ≤ 1200000 ∧ (h 90 25) ≤ (h180 90 25) ∧ (h180 90 25) ≤ (h 90 25) + 1 + (x7 + 1) ∧ (h180 90 22) = (h 90 22) ∧ (h180 90 2) = (h73 90 2) ∧ (h180 90 7) = (h73 90 7) ∧ (h180 90 8) = (h73 90 8) ∧ (h180 90 13) = (h73 90 13) ∧ (h180 90 20) = (h73 90 20) ∧ (h180 90 22) = (h73 90 22) ∧ (h180 90 34) = (h73 90 34); omega) (by omega)
        exact L93 61 0 0 _ _ I74 E75 E76 E77 E78 E79 E80 E81 E82 E83 E84 E85 E86 E87 pm89 (by show 0 ≤ 0 ∧ 0 ≤ 60 ∧ -60 ≤ 0 ∧ 0 ≤ 1200000 * 0 ∧ -0 ≤ 0 ∧ -1 ≤ v56 ∧ v56 ≤ 1200000 ∧ (h 90 25) ≤ (h73 90 25) ∧ (h73 90 25) ≤ (h 90 25) + 1 + 0 ∧ (h73 90 22) = (h 90 22) ∧ (h73 90 2) = (h73 90 2) ∧ (h73 90 7) = (h73 90 7) ∧ (h73 90 8) = (h73 90 8) ∧ (h73 90 13) = (h73 90 13) ∧ (h73 90 20) = (h73 90 20) ∧ (h73 90 22) = (h73 90 22) ∧ (h73 90 34) = (h73 90 34); omega) (by omega)
      · skip
        have f13_ : v12 = 1 := by omega
        have f199 : ((h 96 (10 + 4 * (6 * y + x))) = 2 ∧ (h 103 (4 + 6 * y + x)) = 1) := f13.2.1 (by omega)
        clear f13
        refine ov_blk (ls2 := [(0, ov_r 90), (1, ov_i x), (2, ov_i y), (3, ov_i s)]) (st2 := [ov_i (-1)]) (pc2 := 35) b_283_34_1 rfl rfl ?_
        exact ov_reti (st := []) d_283_35 rfl ⟨_, rfl, I1, ⟨rfl, rfl, rfl, rfl, rfl, rfl, rfl, (by show (h 90 25) ≤ (h 90 25) ∧ (h 90 25) ≤ (h 90 25) + 61 ∧ -2147483648 ≤ (-1) ∧ (-1) ≤ 2147483647; omega)⟩, rfl, rfl, rfl, rfl, rfl, rfl, rfl, rfl, rfl, rfl, rfl, rfl, rfl, PM⟩
abbrev P_Mo_meanFrom0_90 (F : ov_H × ov_Z) (z : ov_Z) (h : ov_H) (s : Int) : Option ov_V → ov_Z → ov_H → Prop := fun r0 z' h' => ∃ r : Int, r0 = some (ov_i r) ∧ ov_N F z' h' ∧ ((h' 90 2) = (h 90 2) ∧ (h' 90 7) = (h 90 7) ∧ (h' 90 8) = (h 90 8) ∧ (h' 90 13) = (h 90 13) ∧ (h' 90 20) = (h 90 20) ∧ (h' 90 22) = (h 90 22) ∧ (h' 90 34) = (h 90 34) ∧ (h 90 25) ≤ (h' 90 25) ∧ (h' 90 25) ≤ (h 90 25) + 1 ∧ -1 ≤ r ∧ r ≤ 1200000) ∧ h' 91 = h 91 ∧ h' 92 = h 92 ∧ h' 93 = h 93 ∧ h' 94 = h 94 ∧ h' 95 = h 95 ∧ h' 96 = h 96 ∧ h' 97 = h 97 ∧ h' 98 = h 98 ∧ h' 99 = h 99 ∧ h' 100 = h 100 ∧ h' 103 = h 103 ∧ h' 109 = h 109 ∧ h' 114 = h 114 ∧ (ov_PM (h 96) (h 103) (h 97) (h 98) (h' 105) (h' 106) (h' 90 22) (h' 90 25) (h' 90 26) (h' 90 28) (h' 90 29) (h' 90 30))
set_option maxHeartbeats 4000000 in
theorem c_Mo_meanFrom0_90 {u : ov_U} {F : ov_H × ov_Z} {z : ov_Z} {h : ov_H} (d : Nat) (hd : 90 ≤ d) (U : ov_cap u) (I : ov_N F z h) (s : Int) (g_s : ov_g s) (p0 : 0 ≤ s ∧ s ≤ 1000000) (p1 : 0 ≤ (h 90 25) ∧ (h 90 25) ≤ 1500000000) (W : ov_WT (h 96)) (CD : ov_CD (h 96) (h 97) (h 98)) (PM : ov_PM (h 96) (h 103) (h 97) (h 98) (h 105) (h 106) (h 90 22) (h 90 25) (h 90 26) (h 90 28) (h 90 29) (h 90 30)) : ov_T u d ov_m285 [ov_r 90, ov_i s] z h (P_Mo_meanFrom0_90 F z h s) := by
  refine ov_en rfl (Nat.le_of_ble_eq_true rfl) ?_
  show ov_R u d ov_m285 0 [(0, ov_r 90), (1, ov_i s)] [] z h (P_Mo_meanFrom0_90 F z h s)
  have t0 := t96_0 I
  have t1 := t96_1 I
  have t8 := t96_8 I
  have t9 := t96_9 I
  refine ov_blk (ls2 := [(0, ov_r 90), (1, ov_i s)]) (st2 := [ov_i 0, ov_i (-1), ov_i 0, ov_i 3, ov_r 90]) (pc2 := 5) b_285_0_5 rfl rfl ?_
  refine ov_cV (as := [ov_i 3, ov_i 0, ov_i (-1), ov_i 0]) (st := []) (d2 := d - 1) d_285_5 lk_Mo_389 rfl (Nat.le_of_ble_eq_true rfl) (c := 1) (zb_90 I) (zs_90 I) ⟨by decide, rfl⟩ (by omega) (c_Mo_asks_90 (d - 1) (by omega) U I 3 0 (-1) 0 (by omega) (by omega) (by omega) (by omega) (by omega) (by omega) (by omega) (by show 0 ≤ (h 90 25) ∧ (h 90 25) ≤ 2000000000; omega)) ?_
  rintro _ z17 h18 ⟨rfl, I19, f1, e2, e3, e4, e5, e6, e7, e8, e9, e10, e11, e12, e13, e14, e15, e16⟩
  have E20 : h18 91 = h 91 := e2
  have E21 : h18 92 = h 92 := e3
  have E22 : h18 93 = h 93 := e4
  have E23 : h18 94 = h 94 := e5
  have E24 : h18 95 = h 95 := e6
  have E25 : h18 96 = h 96 := e7
  have E26 : h18 97 = h 97 := e8
  have E27 : h18 98 = h 98 := e9
  have E28 : h18 99 = h 99 := e10
  have E29 : h18 100 = h 100 := e11
  have E30 : h18 103 = h 103 := e12
  have E31 : h18 105 = h 105 := e13
  have E32 : h18 106 = h 106 := e14
  have E33 : h18 109 = h 109 := e15
  have E34 : h18 114 = h 114 := e16
  show ov_R u d ov_m285 8 [(0, ov_r 90), (1, ov_i s)] [] z17 h18 (P_Mo_meanFrom0_90 F z h s)
  have f35 : (h18 90 2) = (h 90 2) ∧ (h18 90 7) = (h 90 7) ∧ (h18 90 8) = (h 90 8) ∧ (h18 90 13) = (h 90 13) ∧ (h18 90 20) = (h 90 20) ∧ (h18 90 22) = (h 90 22) ∧ (h18 90 34) = (h 90 34) ∧ (h18 90 26) = (3 : Int) ∧ (h18 90 27) = (0 : Int) ∧ (h18 90 28) = (h 90 22) ∧ (h18 90 29) = ((-1) : Int) ∧ (h18 90 30) = (0 : Int) ∧ (((h18 90 25) = (h 90 25) + 1) ∨ ((h18 90 25) = (h 90 25) ∧ (h 90 26) = (3 : Int) ∧ (h 90 27) = (0 : Int) ∧ (h 90 28) = (h 90 22) ∧ (h 90 29) = ((-1) : Int) ∧ (h 90 30) = (0 : Int))) := f1
  clear f1
  have mi36 : ov_MI (h 96) (h 103) (h 97) (h 98) 3 (-1) 0 (h18 90 25) (h 105) (h 106) := ov_PM_ask PM (by omega)
  refine ov_blk (ls2 := [(0, ov_r 90), (1, ov_i s)]) (st2 := [ov_i s, ov_i 0, ov_i 0, ov_r 90]) (pc2 := 12) b_285_8_4 rfl rfl ?_
  have cf37 : h18 96 (0) = h 96 (0) := congrFun E25 (0)
  have cf38 : h18 96 (1) = h 96 (1) := congrFun E25 (1)
  have cf39 : h18 96 (8) = h 96 (8) := congrFun E25 (8)
  refine ov_cV (as := [ov_i 0, ov_i 0, ov_i s]) (st := []) (d2 := d - 1) d_285_12 lk_Mo_377 rfl (Nat.le_of_ble_eq_true rfl) (c := 1) (zb_90 I19) (zs_90 I19) ⟨by decide, rfl⟩ (by omega) (c_Mo_worthFrom_90_all 3 ((-1)) 0 ((h18 90 25)) (Int.toNat (13 - (0) - (0))) (d - 1) (by omega) U I19 0 0 s (by omega) (by omega) (by omega) (by omega) (by show (0 : Int) < (h18 96 0) ∧ (0 : Int) < (h18 96 1); omega) (by omega) (by omega) (by show (h18 90 26) = (3 : Int); omega) (by show (h18 90 29) = ((-1) : Int); omega) (by show (h18 90 30) = (0 : Int); omega) (by show (h18 90 25) = (h18 90 25); omega) (by show 0 ≤ (3 : Int) ∧ (3 : Int) ≤ 3 + (h18 96 8); omega) (by rw [show h18 96 = h 96 from E25]; exact W) (by rw [show h18 96 = h 96 from E25, show h18 97 = h 97 from E26, show h18 98 = h 98 from E27]; exact CD) (by rw [show h18 96 = h 96 from E25, show h18 103 = h 103 from E30, show h18 97 = h 97 from E26, show h18 98 = h 98 from E27, show h18 105 = h 105 from E31, show h18 106 = h 106 from E32]; exact mi36)) ?_
  rintro _ z57 h58 ⟨v41, rfl, I59, f40, e42, e43, e44, e45, e46, e47, e48, e49, e50, e51, e52, e53, e54, y55, y56⟩
  have E60 : h58 91 = h 91 := Eq.trans e42 E20
  have E61 : h58 92 = h 92 := Eq.trans e43 E21
  have E62 : h58 93 = h 93 := Eq.trans e44 E22
  have E63 : h58 94 = h 94 := Eq.trans e45 E23
  have E64 : h58 95 = h 95 := Eq.trans e46 E24
  have E65 : h58 96 = h 96 := Eq.trans e47 E25
  have E66 : h58 97 = h 97 := Eq.trans e48 E26
  have E67 : h58 98 = h 98 := Eq.trans e49 E27
  have E68 : h58 99 = h 99 := Eq.trans e50 E28
  have E69 : h58 100 = h 100 := Eq.trans e51 E29
  have E70 : h58 103 = h 103 := Eq.trans e52 E30
  have E71 : h58 109 = h 109 := Eq.trans e53 E33
  have E72 : h58 114 = h 114 := Eq.trans e54 E34
  show ov_R u d ov_m285 15 [(0, ov_r 90), (1, ov_i s)] [ov_i v41] z57 h58 (P_Mo_meanFrom0_90 F z h s)
  have f73 : (h58 90 2) = (h18 90 2) ∧ (h58 90 7) = (h18 90 7) ∧ (h58 90 8) = (h18 90 8) ∧ (h58 90 13) = (h18 90 13) ∧ (h58 90 20) = (h18 90 20) ∧ (h58 90 22) = (h18 90 22) ∧ (h58 90 25) = (h18 90 25) ∧ (h58 90 26) = (h18 90 26) ∧ (h58 90 28) = (h18 90 28) ∧ (h58 90 29) = (h18 90 29) ∧ (h58 90 30) = (h18 90 30) ∧ (h58 90 34) = (h18 90 34) ∧ -1 ≤ v41 ∧ v41 ≤ 89000 * (13 - (0 : Int) - (0 : Int)) := f40
  clear f40
  rw [show h18 103 = h 103 from E30] at y55
  rw [show h18 96 = h 96 from E25] at y55
  rw [show h18 97 = h 97 from E26] at y55
  rw [show h18 98 = h 98 from E27] at y55
  have y55_ : ov_MI (h 96) (h 103) (h 97) (h 98) (3 : Int) ((-1) : Int) (0 : Int) (h18 90 25) (h58 105) (h58 106) := y55
  rw [show h18 103 = h 103 from E30] at y56
  rw [show h18 96 = h 96 from E25] at y56
  rw [show h18 97 = h 97 from E26] at y56
  rw [show h18 98 = h 98 from E27] at y56
  have y56_ : (0 ≤ v41 ↔ ov_go (h 96) (h 103) (h 97) (h 98) (3 : Int) ((-1) : Int) (0 : Int) (0 : Int) (0 : Int) (s % (h 96 9))) := y56
  have pm74 : ov_PM (h 96) (h 103) (h 97) (h 98) (h58 105) (h58 106) (h58 90 22) (h58 90 25) (h58 90 26) (h58 90 28) (h58 90 29) (h58 90 30) := ov_PM_mi y55_ (by omega) (by omega) (by omega) (by omega) (by omega) (by omega)
  exact ov_reti (st := []) d_285_15 rfl ⟨_, rfl, I59, (by show (h58 90 2) = (h 90 2) ∧ (h58 90 7) = (h 90 7) ∧ (h58 90 8) = (h 90 8) ∧ (h58 90 13) = (h 90 13) ∧ (h58 90 20) = (h 90 20) ∧ (h58 90 22) = (h 90 22) ∧ (h58 90 34) = (h 90 34) ∧ (h 90 25) ≤ (h58 90 25) ∧ (h58 90 25) ≤ (h 90 25) + 1 ∧ -1 ≤ v41 ∧ v41 ≤ 1200000; omega), E60, E61, E62, E63, E64, E65, E66, E67, E68, E69, E70, E71, E72, pm74⟩
abbrev P_Mo_worthiest_90 (F : ov_H × ov_Z) (z : ov_Z) (h : ov_H) (s : Int) : Option ov_V → ov_Z → ov_H → Prop := fun r0 z' h' => ∃ r : Int, r0 = some (ov_i r) ∧ ov_N F z' h' ∧ ((h' 90 2) = (h 90 2) ∧ (h' 90 7) = (h 90 7) ∧ (h' 90 8) = (h 90 8) ∧ (h' 90 13) = (h 90 13) ∧ (h' 90 20) = (h 90 20) ∧ (h' 90 22) = (h 90 22) ∧ (h' 90 34) = (h 90 34) ∧ (h 90 25) ≤ (h' 90 25) ∧ (h' 90 25) ≤ (h 90 25) + 3400 ∧ -1 ≤ r ∧ r ≤ 100) ∧ h' 91 = h 91 ∧ h' 92 = h 92 ∧ h' 93 = h 93 ∧ h' 94 = h 94 ∧ h' 95 = h 95 ∧ h' 96 = h 96 ∧ h' 97 = h 97 ∧ h' 98 = h 98 ∧ h' 99 = h 99 ∧ h' 100 = h 100 ∧ h' 103 = h 103 ∧ h' 109 = h 109 ∧ h' 114 = h 114 ∧ (ov_PM (h 96) (h 103) (h 97) (h 98) (h' 105) (h' 106) (h' 90 22) (h' 90 25) (h' 90 26) (h' 90 28) (h' 90 29) (h' 90 30))
set_option maxHeartbeats 4000000 in
theorem c_Mo_worthiest_90 {u : ov_U} {F : ov_H × ov_Z} {z : ov_Z} {h : ov_H} (d : Nat) (hd : 94 ≤ d) (U : ov_cap u) (I : ov_N F z h) (s : Int) (g_s : ov_g s) (p0 : 0 ≤ (h 90 25) ∧ (h 90 25) ≤ 1000000000) (W : ov_WT (h 96)) (CD : ov_CD (h 96) (h 97) (h 98)) (PM : ov_PM (h 96) (h 103) (h 97) (h 98) (h 105) (h 106) (h 90 22) (h 90 25) (h 90 26) (h 90 28) (h 90 29) (h 90 30)) : ov_T u d ov_m284 [ov_r 90, ov_i s] z h (P_Mo_worthiest_90 F z h s) := by
  refine ov_en rfl (Nat.le_of_ble_eq_true rfl) ?_
  show ov_R u d ov_m284 0 [(0, ov_r 90), (1, ov_i s)] [] z h (P_Mo_worthiest_90 F z h s)
  have t0 := t96_0 I
  have t1 := t96_1 I
  have t8 := t96_8 I
  have t9 := t96_9 I
  refine ov_blk (ls2 := [(0, ov_r 90), (1, ov_i s), (2, ov_i (-1)), (3, ov_i 0), (4, ov_i 0)]) (st2 := []) (pc2 := 7) b_284_0_6 rfl rfl ?_
  have L4 : ∀ (n1 : Nat) (x2 : Int) (x3 : Int) (x4 : Int) (z5 : ov_Z) (h6 : ov_H) (I7 : ov_N F z5 h6) (E8 : h6 91 = h 91) (E9 : h6 92 = h 92) (E10 : h6 93 = h 93) (E11 : h6 94 = h 94) (E12 : h6 95 = h 95) (E13 : h6 96 = h 96) (E14 : h6 97 = h 97) (E15 : h6 98 = h 98) (E16 : h6 99 = h 99) (E17 : h6 100 = h 100) (E18 : h6 103 = h 103) (E19 : h6 109 = h 109) (E20 : h6 114 = h 114) (xp : ov_PM (h 96) (h 103) (h 97) (h 98) (h6 105) (h6 106) (h6 90 22) (h6 90 25) (h6 90 26) (h6 90 28) (h6 90 29) (h6 90 30)) (q3 : 0 ≤ x4 ∧ x4 ≤ 54 ∧ -1 ≤ x2 ∧ x2 ≤ 100 ∧ ov_g x3 ∧ (h 90 25) ≤ (h6 90 25) ∧ (h6 90 25) ≤ (h 90 25) + 62 * x4 ∧ (h6 90 22) = (h 90 22) ∧ (h6 90 2) = (h 90 2) ∧ (h6 90 7) = (h 90 7) ∧ (h6 90 8) = (h 90 8) ∧ (h6 90 13) = (h 90 13) ∧ (h6 90 20) = (h 90 20) ∧ (h6 90 22) = (h 90 22) ∧ (h6 90 34) = (h 90 34)), 54 - x4 < (n1 : Int) → ov_R u d ov_m284 7 [(0, ov_r 90), (1, ov_i s), (2, ov_i x2), (3, ov_i x3), (4, ov_i x4)] [] z5 h6 (P_Mo_worthiest_90 F z h s) := by
    intro n1
    induction n1 with
    | zero =>
      intro x2 x3 x4 z5 h6 I7 E8 E9 E10 E11 E12 E13 E14 E15 E16 E17 E18 E19 E20 xp q3 hn21
      exact absurd hn21 (by omega)
    | succ n1 ih2 =>
      intro x2 x3 x4 z5 h6 I7 E8 E9 E10 E11 E12 E13 E14 E15 E16 E17 E18 E19 E20 xp q3 hn21
      refine ov_blk (ls2 := [(0, ov_r 90), (1, ov_i s), (2, ov_i x2), (3, ov_i x3), (4, ov_i x4)]) (st2 := [ov_i 54, ov_i x4]) (pc2 := 11) b_284_7_2 rfl rfl ?_
      refine ov_icge (tgt := 131) d_284_11 (by decide) (by omega) (by omega) (fun c22 => ?_) (fun c22 => ?_)
      · skip
        refine ov_blk (ls2 := [(0, ov_r 90), (1, ov_i s), (2, ov_i x2), (3, ov_i x3), (4, ov_i x4)]) (st2 := [ov_i 0, ov_r 90]) (pc2 := 133) b_284_131_2 rfl rfl ?_
        refine ov_putf (x := 0) d_284_133 fl_Mo_1 (zb_90 I7) (zs_90 I7) rfl nk_0 rfl ?_
        have I23 := up_90_0 (x := 0) I7 (by omega)
        refine ov_blk (ls2 := [(0, ov_r 90), (1, ov_i s), (2, ov_i x2), (3, ov_i x3), (4, ov_i x4)]) (st2 := [ov_i x2]) (pc2 := 137) b_284_136_1 rfl rfl ?_
        exact ov_reti (st := []) d_284_137 rfl ⟨_, rfl, I23, (by show (h6 90 2) = (h 90 2) ∧ (h6 90 7) = (h 90 7) ∧ (h6 90 8) = (h 90 8) ∧ (h6 90 13) = (h 90 13) ∧ (h6 90 20) = (h 90 20) ∧ (h6 90 22) = (h 90 22) ∧ (h6 90 34) = (h 90 34) ∧ (h 90 25) ≤ (h6 90 25) ∧ (h6 90 25) ≤ (h 90 25) + 3400 ∧ -1 ≤ x2 ∧ x2 ≤ 100; omega), E8, E9, E10, E11, E12, E13, E14, E15, E16, E17, E18, E19, E20, xp⟩
      · skip
        refine ov_blk (ls2 := [(0, ov_r 90), (1, ov_i s), (2, ov_i x2), (3, ov_i x3), (4, ov_i x4)]) (st2 := [ov_i 6, ov_i x4]) (pc2 := 18) b_284_14_2 rfl rfl ?_
        refine ov_irem d_284_18 (by omega) (by omega) (by omega) ?_
        have g24 := ov_tm (a := x4) (b := 6) (by omega)
        have g25 := ov_tmg (a := x4) (b := 6) (by omega) (by omega)
        refine ov_blk (ls2 := [(0, ov_r 90), (1, ov_i s), (2, ov_i x2), (3, ov_i x3), (4, ov_i x4), (5, ov_i (Int.tmod x4 6))]) (st2 := [ov_i 6, ov_i x4]) (pc2 := 25) b_284_19_3 rfl rfl ?_
        refine ov_idiv d_284_25 (by omega) (by omega) (by omega) ?_
        have g26 := ov_td (a := x4) (b := 6) (by omega)
        refine ov_blk (ls2 := [(0, ov_r 90), (1, ov_i s), (2, ov_i x2), (3, ov_i x3), (4, ov_i x4), (5, ov_i (Int.tmod x4 6)), (6, ov_i (Int.tdiv x4 6))]) (st2 := [ov_i s, ov_i (Int.tdiv x4 6), ov_i (Int.tmod x4 6), ov_r 90]) (pc2 := 34) b_284_26_5 rfl rfl ?_
        refine ov_cV (as := [ov_i (Int.tmod x4 6), ov_i (Int.tdiv x4 6), ov_i s]) (st := []) (d2 := d - 1) d_284_34 lk_Mo_386 rfl (Nat.le_of_ble_eq_true rfl) (c := 1) (zb_90 I7) (zs_90 I7) ⟨by decide, rfl⟩ (by omega) (c_Mo_isPlace_90 (d - 1) (by omega) U I7 (Int.tmod x4 6) (Int.tdiv x4 6) s (by omega) (by omega) (by omega)) ?_
        rintro _ _ _ ⟨v28, rfl, rfl, rfl, f27⟩
        show ov_R u d ov_m284 37 [(0, ov_r 90), (1, ov_i s), (2, ov_i x2), (3, ov_i x3), (4, ov_i x4), (5, ov_i (Int.tmod x4 6)), (6, ov_i (Int.tdiv x4 6))] [ov_i v28] z5 h6 (P_Mo_worthiest_90 F z h s)
        rw [show h6 96 = h 96 from E13] at f27
        have f29 : (v28 = 0 ∨ v28 = 1) ∧ (v28 = 1 → 0 ≤ (Int.tmod x4 6) ∧ (Int.tmod x4 6) ≤ 5 ∧ 0 ≤ (Int.tdiv x4 6) ∧ (Int.tdiv x4 6) ≤ 8 ∧ (Int.tmod x4 6) < (h 96 0) ∧ (Int.tdiv x4 6) < (h 96 1) ∧ 0 ≤ s ∧ s ≤ 1000000) := f27
        clear f27
        refine ov_ifeq (tgt := 75) d_284_37 (by decide) (by omega) (fun c30 => ?_) (fun c30 => ?_)
        · skip
          have f29_ : v28 = 0 := by omega
          clear f29
          refine ov_blk (ls2 := [(0, ov_r 90), (1, ov_i s), (2, ov_i x2), (3, ov_i x3), (4, ov_i x4), (5, ov_i (Int.tmod x4 6)), (6, ov_i (Int.tdiv x4 6)), (7, ov_i 0)]) (st2 := [ov_i 0]) (pc2 := 80) b_284_75_3 rfl rfl ?_
          refine ov_ifeq (tgt := 95) d_284_80 (by decide) (by omega) (fun c31 => ?_) (fun c31 => ?_)
          · skip
            refine ov_blk (ls2 := [(0, ov_r 90), (1, ov_i s), (2, ov_i x2), (3, ov_i x3), (4, ov_i x4), (5, ov_i (Int.tmod x4 6)), (6, ov_i (Int.tdiv x4 6)), (7, ov_i 0), (8, ov_i 0)]) (st2 := [ov_i 0]) (pc2 := 100) b_284_95_3 rfl rfl ?_
            refine ov_ifeq (tgt := 125) d_284_100 (by decide) (by omega) (fun c32 => ?_) (fun c32 => ?_)
            · skip
              refine ov_blk (ls2 := [(0, ov_r 90), (1, ov_i s), (2, ov_i x2), (3, ov_i x3), (4, ov_i (x4 + 1)), (5, ov_i (Int.tmod x4 6)), (6, ov_i (Int.tdiv x4 6)), (7, ov_i 0), (8, ov_i 0)]) (st2 := []) (pc2 := 128) b_284_125_1 rfl rfl ?_
              refine ov_goto (tgt := 7) d_284_128 (by decide) ?_
              refine ov_sub (ls2 := [(0, ov_r 90), (1, ov_i s), (2, ov_i x2), (3, ov_i x3), (4, ov_i (x4 + 1))]) (List.Sublist.subset (by repeat (first | exact List.Sublist.refl _ | apply List.Sublist.cons_cons | apply List.Sublist.cons))) ?_
              exact ih2 x2 x3 (x4 + 1) _ _ I7 E8 E9 E10 E11 E12 E13 E14 E15 E16 E17 E18 E19 E20 xp (by show 0 ≤ (x4 + 1) ∧ (x4 + 1) ≤ 54 ∧ -1 ≤ x2 ∧ x2 ≤ 100 ∧ ov_g x3 ∧ (h 90 25) ≤ (h6 90 25) ∧ (h6 90 25) ≤ (h 90 25) + 62 * (x4 + 1) ∧ (h6 90 22) = (h 90 22) ∧ (h6 90 2) = (h 90 2) ∧ (h6 90 7) = (h 90 7) ∧ (h6 90 8) = (h 90 8) ∧ (h6 90 13) = (h 90 13) ∧ (h6 90 20) = (h 90 20) ∧ (h6 90 22) = (h 90 22) ∧ (h6 90 34) = (h 90 34); omega) (by omega)
            · omega
          · omega
        · skip
          have f29_ : v28 = 1 := by omega
          have f33 : 0 ≤ (Int.tmod x4 6) ∧ (Int.tmod x4 6) ≤ 5 ∧ 0 ≤ (Int.tdiv x4 6) ∧ (Int.tdiv x4 6) ≤ 8 ∧ (Int.tmod x4 6) < (h 96 0) ∧ (Int.tdiv x4 6) < (h 96 1) ∧ 0 ≤ s ∧ s ≤ 1000000 := f29.2 (by omega)
          clear f29
          refine ov_blk (ls2 := [(0, ov_r 90), (1, ov_i s), (2, ov_i x2), (3, ov_i x3), (4, ov_i x4), (5, ov_i (Int.tmod x4 6)), (6, ov_i (Int.tdiv x4 6))]) (st2 := [ov_i (Int.tdiv x4 6), ov_i (Int.tmod x4 6), ov_r 90]) (pc2 := 45) b_284_40_3 rfl rfl ?_
          refine ov_cV (as := [ov_i (Int.tmod x4 6), ov_i (Int.tdiv x4 6)]) (st := []) (d2 := d - 1) d_284_45 lk_Mo_282 rfl (Nat.le_of_ble_eq_true rfl) (c := 1) (zb_90 I7) (zs_90 I7) ⟨by decide, rfl⟩ (by omega) (c_Mo_kindAt_90 (d - 1) (by omega) U I7 (Int.tmod x4 6) (Int.tdiv x4 6) (by omega) (by omega) (by omega)) ?_
          rintro _ _ _ ⟨v35, rfl, rfl, rfl, f34⟩
          show ov_R u d ov_m284 48 [(0, ov_r 90), (1, ov_i s), (2, ov_i x2), (3, ov_i x3), (4, ov_i x4), (5, ov_i (Int.tmod x4 6)), (6, ov_i (Int.tdiv x4 6))] [ov_i v35] z5 h6 (P_Mo_worthiest_90 F z h s)
          rw [show h6 96 = h 96 from E13] at f34
          have f36 : v35 = (h 96 (10 + 4 * (6 * (Int.tdiv x4 6) + (Int.tmod x4 6)))) - 1 ∧ -1 ≤ v35 ∧ v35 ≤ 3 := f34
          clear f34
          refine ov_blk (ls2 := [(0, ov_r 90), (1, ov_i s), (2, ov_i x2), (3, ov_i x3), (4, ov_i x4), (5, ov_i (Int.tmod x4 6)), (6, ov_i (Int.tdiv x4 6))]) (st2 := [ov_i 1, ov_i v35]) (pc2 := 49) b_284_48_1 rfl rfl ?_
          refine ov_icne (tgt := 75) d_284_49 (by decide) (by omega) (by omega) (fun c37 => ?_) (fun c37 => ?_)
          · skip
            refine ov_blk (ls2 := [(0, ov_r 90), (1, ov_i s), (2, ov_i x2), (3, ov_i x3), (4, ov_i x4), (5, ov_i (Int.tmod x4 6)), (6, ov_i (Int.tdiv x4 6)), (7, ov_i 0)]) (st2 := [ov_i 0]) (pc2 := 80) b_284_75_3 rfl rfl ?_
            refine ov_ifeq (tgt := 95) d_284_80 (by decide) (by omega) (fun c38 => ?_) (fun c38 => ?_)
            · skip
              refine ov_blk (ls2 := [(0, ov_r 90), (1, ov_i s), (2, ov_i x2), (3, ov_i x3), (4, ov_i x4), (5, ov_i (Int.tmod x4 6)), (6, ov_i (Int.tdiv x4 6)), (7, ov_i 0), (8, ov_i 0)]) (st2 := [ov_i 0]) (pc2 := 100) b_284_95_3 rfl rfl ?_
              refine ov_ifeq (tgt := 125) d_284_100 (by decide) (by omega) (fun c39 => ?_) (fun c39 => ?_)
              · skip
                refine ov_blk (ls2 := [(0, ov_r 90), (1, ov_i s), (2, ov_i x2), (3, ov_i x3), (4, ov_i (x4 + 1)), (5, ov_i (Int.tmod x4 6)), (6, ov_i (Int.tdiv x4 6)), (7, ov_i 0), (8, ov_i 0)]) (st2 := []) (pc2 := 128) b_284_125_1 rfl rfl ?_
                refine ov_goto (tgt := 7) d_284_128 (by decide) ?_
                refine ov_sub (ls2 := [(0, ov_r 90), (1, ov_i s), (2, ov_i x2), (3, ov_i x3), (4, ov_i (x4 + 1))]) (List.Sublist.subset (by repeat (first | exact List.Sublist.refl _ | apply List.Sublist.cons_cons | apply List.Sublist.cons))) ?_
                exact ih2 x2 x3 (x4 + 1) _ _ I7 E8 E9 E10 E11 E12 E13 E14 E15 E16 E17 E18 E19 E20 xp (by show 0 ≤ (x4 + 1) ∧ (x4 + 1) ≤ 54 ∧ -1 ≤ x2 ∧ x2 ≤ 100 ∧ ov_g x3 ∧ (h 90 25) ≤ (h6 90 25) ∧ (h6 90 25) ≤ (h 90 25) + 62 * (x4 + 1) ∧ (h6 90 22) = (h 90 22) ∧ (h6 90 2) = (h 90 2) ∧ (h6 90 7) = (h 90 7) ∧ (h6 90 8) = (h 90 8) ∧ (h6 90 13) = (h 90 13) ∧ (h6 90 20) = (h 90 20) ∧ (h6 90 22) = (h 90 22) ∧ (h6 90 34) = (h 90 34); omega) (by omega)
              · omega
            · omega
          · skip
            refine ov_blk (ls2 := [(0, ov_r 90), (1, ov_i s), (2, ov_i x2), (3, ov_i x3), (4, ov_i x4), (5, ov_i (Int.tmod x4 6)), (6, ov_i (Int.tdiv x4 6))]) (st2 := [ov_i (Int.tdiv x4 6), ov_i (Int.tmod x4 6), ov_r 90]) (pc2 := 57) b_284_52_3 rfl rfl ?_
            refine ov_cV (as := [ov_i (Int.tmod x4 6), ov_i (Int.tdiv x4 6)]) (st := []) (d2 := d - 1) d_284_57 lk_Mo_302 rfl (Nat.le_of_ble_eq_true rfl) (c := 1) (zb_90 I7) (zs_90 I7) ⟨by decide, rfl⟩ (by omega) (c_Mo_isKnown_90 (d - 1) (by omega) U I7 (Int.tmod x4 6) (Int.tdiv x4 6) (by omega) (by omega) (by omega)) ?_
            rintro _ _ _ ⟨v41, rfl, rfl, rfl, f40⟩
            show ov_R u d ov_m284 60 [(0, ov_r 90), (1, ov_i s), (2, ov_i x2), (3, ov_i x3), (4, ov_i x4), (5, ov_i (Int.tmod x4 6)), (6, ov_i (Int.tdiv x4 6))] [ov_i v41] z5 h6 (P_Mo_worthiest_90 F z h s)
            rw [show h6 103 = h 103 from E18] at f40
            rw [show h6 96 = h 96 from E13] at f40
            have f42 : (v41 = 0 ∨ v41 = 1) ∧ (v41 = 1 → ((h 96 (10 + 4 * (6 * (Int.tdiv x4 6) + (Int.tmod x4 6)))) = 2 ∧ (h 103 (4 + 6 * (Int.tdiv x4 6) + (Int.tmod x4 6))) = 1)) ∧ (v41 = 0 → ¬ ((h 96 (10 + 4 * (6 * (Int.tdiv x4 6) + (Int.tmod x4 6)))) = 2 ∧ (h 103 (4 + 6 * (Int.tdiv x4 6) + (Int.tmod x4 6))) = 1)) := f40
            clear f40
            refine ov_ifne (tgt := 75) d_284_60 (by decide) (by omega) (fun c43 => ?_) (fun c43 => ?_)
            · skip
              have f42_ : v41 = 1 := by omega
              have f44 : ((h 96 (10 + 4 * (6 * (Int.tdiv x4 6) + (Int.tmod x4 6)))) = 2 ∧ (h 103 (4 + 6 * (Int.tdiv x4 6) + (Int.tmod x4 6))) = 1) := f42.2.1 (by omega)
              clear f42
              refine ov_blk (ls2 := [(0, ov_r 90), (1, ov_i s), (2, ov_i x2), (3, ov_i x3), (4, ov_i x4), (5, ov_i (Int.tmod x4 6)), (6, ov_i (Int.tdiv x4 6)), (7, ov_i 0)]) (st2 := [ov_i 0]) (pc2 := 80) b_284_75_3 rfl rfl ?_
              refine ov_ifeq (tgt := 95) d_284_80 (by decide) (by omega) (fun c45 => ?_) (fun c45 => ?_)
              · skip
                refine ov_blk (ls2 := [(0, ov_r 90), (1, ov_i s), (2, ov_i x2), (3, ov_i x3), (4, ov_i x4), (5, ov_i (Int.tmod x4 6)), (6, ov_i (Int.tdiv x4 6)), (7, ov_i 0), (8, ov_i 0)]) (st2 := [ov_i 0]) (pc2 := 100) b_284_95_3 rfl rfl ?_
                refine ov_ifeq (tgt := 125) d_284_100 (by decide) (by omega) (fun c46 => ?_) (fun c46 => ?_)
                · skip
                  refine ov_blk (ls2 := [(0, ov_r 90), (1, ov_i s), (2, ov_i x2), (3, ov_i x3), (4, ov_i (x4 + 1)), (5, ov_i (Int.tmod x4 6)), (6, ov_i (Int.tdiv x4 6)), (7, ov_i 0), (8, ov_i 0)]) (st2 := []) (pc2 := 128) b_284_125_1 rfl rfl ?_
                  refine ov_goto (tgt := 7) d_284_128 (by decide) ?_
                  refine ov_sub (ls2 := [(0, ov_r 90), (1, ov_i s), (2, ov_i x2), (3, ov_i x3), (4, ov_i (x4 + 1))]) (List.Sublist.subset (by repeat (first | exact List.Sublist.refl _ | apply List.Sublist.cons_cons | apply List.Sublist.cons))) ?_
                  exact ih2 x2 x3 (x4 + 1) _ _ I7 E8 E9 E10 E11 E12 E13 E14 E15 E16 E17 E18 E19 E20 xp (by show 0 ≤ (x4 + 1) ∧ (x4 + 1) ≤ 54 ∧ -1 ≤ x2 ∧ x2 ≤ 100 ∧ ov_g x3 ∧ (h 90 25) ≤ (h6 90 25) ∧ (h6 90 25) ≤ (h 90 25) + 62 * (x4 + 1) ∧ (h6 90 22) = (h 90 22) ∧ (h6 90 2) = (h 90 2) ∧ (h6 90 7) = (h 90 7) ∧ (h6 90 8) = (h 90 8) ∧ (h6 90 13) = (h 90 13) ∧ (h6 90 20) = (h 90 20) ∧ (h6 90 22) = (h 90 22) ∧ (h6 90 34) = (h 90 34); omega) (by omega)
                · omega
              · omega
            · skip
              have f42_ : v41 = 0 := by omega
              have f47 : ¬ ((h 96 (10 + 4 * (6 * (Int.tdiv x4 6) + (Int.tmod x4 6)))) = 2 ∧ (h 103 (4 + 6 * (Int.tdiv x4 6) + (Int.tmod x4 6))) = 1) := f42.2.2 (by omega)
              clear f42
              refine ov_blk (ls2 := [(0, ov_r 90), (1, ov_i s), (2, ov_i x2), (3, ov_i x3), (4, ov_i x4), (5, ov_i (Int.tmod x4 6)), (6, ov_i (Int.tdiv x4 6))]) (st2 := [ov_i s, ov_r 90]) (pc2 := 65) b_284_63_2 rfl rfl ?_
              refine ov_cV (as := [ov_i s]) (st := []) (d2 := d - 1) d_284_65 lk_Mo_393 rfl (Nat.le_of_ble_eq_true rfl) (c := 1) (zb_90 I7) (zs_90 I7) ⟨by decide, rfl⟩ (by omega) (c_Mo_meanFrom0_90 (d - 1) (by omega) U I7 s (by omega) (by omega) (by show 0 ≤ (h6 90 25) ∧ (h6 90 25) ≤ 1500000000; omega) (by rw [show h6 96 = h 96 from E13]; exact W) (by rw [show h6 96 = h 96 from E13, show h6 97 = h 97 from E14, show h6 98 = h 98 from E15]; exact CD) (by rw [show h6 96 = h 96 from E13, show h6 103 = h 103 from E18, show h6 97 = h 97 from E14, show h6 98 = h 98 from E15]; exact xp)) ?_
              rintro _ z64 h65 ⟨v49, rfl, I66, f48, e50, e51, e52, e53, e54, e55, e56, e57, e58, e59, e60, e61, e62, y63⟩
              have E67 : h65 91 = h 91 := Eq.trans e50 E8
              have E68 : h65 92 = h 92 := Eq.trans e51 E9
              have E69 : h65 93 = h 93 := Eq.trans e52 E10
              have E70 : h65 94 = h 94 := Eq.trans e53 E11
              have E71 : h65 95 = h 95 := Eq.trans e54 E12
              have E72 : h65 96 = h 96 := Eq.trans e55 E13
              have E73 : h65 97 = h 97 := Eq.trans e56 E14
              have E74 : h65 98 = h 98 := Eq.trans e57 E15
              have E75 : h65 99 = h 99 := Eq.trans e58 E16
              have E76 : h65 100 = h 100 := Eq.trans e59 E17
              have E77 : h65 103 = h 103 := Eq.trans e60 E18
              have E78 : h65 109 = h 109 := Eq.trans e61 E19
              have E79 : h65 114 = h 114 := Eq.trans e62 E20
              show ov_R u d ov_m284 68 [(0, ov_r 90), (1, ov_i s), (2, ov_i x2), (3, ov_i x3), (4, ov_i x4), (5, ov_i (Int.tmod x4 6)), (6, ov_i (Int.tdiv x4 6))] [ov_i v49] z64 h65 (P_Mo_worthiest_90 F z h s)
              have f80 : (h65 90 2) = (h6 90 2) ∧ (h65 90 7) = (h6 90 7) ∧ (h65 90 8) = (h6 90 8) ∧ (h65 90 13) = (h6 90 13) ∧ (h65 90 20) = (h6 90 20) ∧ (h65 90 22) = (h6 90 22) ∧ (h65 90 34) = (h6 90 34) ∧ (h6 90 25) ≤ (h65 90 25) ∧ (h65 90 25) ≤ (h6 90 25) + 1 ∧ -1 ≤ v49 ∧ v49 ≤ 1200000 := f48
              clear f48
              rw [show h6 103 = h 103 from E18] at y63
              rw [show h6 96 = h 96 from E13] at y63
              rw [show h6 97 = h 97 from E14] at y63
              rw [show h6 98 = h 98 from E15] at y63
              have y63_ : ov_PM (h 96) (h 103) (h 97) (h 98) (h65 105) (h65 106) (h65 90 22) (h65 90 25) (h65 90 26) (h65 90 28) (h65 90 29) (h65 90 30) := y63
              refine ov_iflt (tgt := 75) d_284_68 (by decide) (by omega) (fun c81 => ?_) (fun c81 => ?_)
              · skip
                refine ov_blk (ls2 := [(0, ov_r 90), (1, ov_i s), (2, ov_i x2), (3, ov_i x3), (4, ov_i x4), (5, ov_i (Int.tmod x4 6)), (6, ov_i (Int.tdiv x4 6)), (7, ov_i 0)]) (st2 := [ov_i 0]) (pc2 := 80) b_284_75_3 rfl rfl ?_
                refine ov_ifeq (tgt := 95) d_284_80 (by decide) (by omega) (fun c82 => ?_) (fun c82 => ?_)
                · skip
                  refine ov_blk (ls2 := [(0, ov_r 90), (1, ov_i s), (2, ov_i x2), (3, ov_i x3), (4, ov_i x4), (5, ov_i (Int.tmod x4 6)), (6, ov_i (Int.tdiv x4 6)), (7, ov_i 0), (8, ov_i 0)]) (st2 := [ov_i 0]) (pc2 := 100) b_284_95_3 rfl rfl ?_
                  refine ov_ifeq (tgt := 125) d_284_100 (by decide) (by omega) (fun c83 => ?_) (fun c83 => ?_)
                  · skip
                    refine ov_blk (ls2 := [(0, ov_r 90), (1, ov_i s), (2, ov_i x2), (3, ov_i x3), (4, ov_i (x4 + 1)), (5, ov_i (Int.tmod x4 6)), (6, ov_i (Int.tdiv x4 6)), (7, ov_i 0), (8, ov_i 0)]) (st2 := []) (pc2 := 128) b_284_125_1 rfl rfl ?_
                    refine ov_goto (tgt := 7) d_284_128 (by decide) ?_
                    refine ov_sub (ls2 := [(0, ov_r 90), (1, ov_i s), (2, ov_i x2), (3, ov_i x3), (4, ov_i (x4 + 1))]) (List.Sublist.subset (by repeat (first | exact List.Sublist.refl _ | apply List.Sublist.cons_cons | apply List.Sublist.cons))) ?_
                    exact ih2 x2 x3 (x4 + 1) _ _ I66 E67 E68 E69 E70 E71 E72 E73 E74 E75 E76 E77 E78 E79 y63_ (by show 0 ≤ (x4 + 1) ∧ (x4 + 1) ≤ 54 ∧ -1 ≤ x2 ∧ x2 ≤ 100 ∧ ov_g x3 ∧ (h 90 25) ≤ (h65 90 25) ∧ (h65 90 25) ≤ (h 90 25) + 62 * (x4 + 1) ∧ (h65 90 22) = (h 90 22) ∧ (h65 90 2) = (h 90 2) ∧ (h65 90 7) = (h 90 7) ∧ (h65 90 8) = (h 90 8) ∧ (h65 90 13) = (h 90 13) ∧ (h65 90 20) = (h 90 20) ∧ (h65 90 22) = (h 90 22) ∧ (h65 90 34) = (h 90 34); omega) (by omega)
                  · omega
                · omega
              · skip
                refine ov_blk (ls2 := [(0, ov_r 90), (1, ov_i s), (2, ov_i x2), (3, ov_i x3), (4, ov_i x4), (5, ov_i (Int.tmod x4 6)), (6, ov_i (Int.tdiv x4 6))]) (st2 := [ov_i 1]) (pc2 := 72) b_284_71_1 rfl rfl ?_
                refine ov_goto (tgt := 76) d_284_72 (by decide) ?_
                refine ov_blk (ls2 := [(0, ov_r 90), (1, ov_i s), (2, ov_i x2), (3, ov_i x3), (4, ov_i x4), (5, ov_i (Int.tmod x4 6)), (6, ov_i (Int.tdiv x4 6)), (7, ov_i 1)]) (st2 := [ov_i 1]) (pc2 := 80) b_284_76_2 rfl rfl ?_
                refine ov_ifeq (tgt := 95) d_284_80 (by decide) (by omega) (fun c84 => ?_) (fun c84 => ?_)
                · omega
                · skip
                  refine ov_blk (ls2 := [(0, ov_r 90), (1, ov_i s), (2, ov_i x2), (3, ov_i x3), (4, ov_i x4), (5, ov_i (Int.tmod x4 6)), (6, ov_i (Int.tdiv x4 6)), (7, ov_i 1)]) (st2 := [ov_i s, ov_i (Int.tdiv x4 6), ov_i (Int.tmod x4 6), ov_r 90]) (pc2 := 89) b_284_83_4 rfl rfl ?_
                  refine ov_cV (as := [ov_i (Int.tmod x4 6), ov_i (Int.tdiv x4 6), ov_i s]) (st := []) (d2 := d - 1) d_284_89 lk_Mo_396 rfl (Nat.le_of_ble_eq_true rfl) (c := 1) (zb_90 I66) (zs_90 I66) ⟨by decide, rfl⟩ (by omega) (c_Mo_watch_90 (d - 1) (by omega) U I66 (Int.tmod x4 6) (Int.tdiv x4 6) s (by omega) (by omega) (by omega) (by show 0 ≤ (h65 90 25) ∧ (h65 90 25) ≤ 1500000000; omega) (by rw [show h65 96 = h 96 from E72]; exact W) (by rw [show h65 96 = h 96 from E72, show h65 97 = h 97 from E73, show h65 98 = h 98 from E74]; exact CD) (by rw [show h65 96 = h 96 from E72, show h65 103 = h 103 from E77, show h65 97 = h 97 from E73, show h65 98 = h 98 from E74]; exact y63_)) ?_
                  rintro _ z101 h102 ⟨v86, rfl, I103, f85, e87, e88, e89, e90, e91, e92, e93, e94, e95, e96, e97, e98, e99, y100⟩
                  have E104 : h102 91 = h 91 := Eq.trans e87 E67
                  have E105 : h102 92 = h 92 := Eq.trans e88 E68
                  have E106 : h102 93 = h 93 := Eq.trans e89 E69
                  have E107 : h102 94 = h 94 := Eq.trans e90 E70
                  have E108 : h102 95 = h 95 := Eq.trans e91 E71
                  have E109 : h102 96 = h 96 := Eq.trans e92 E72
                  have E110 : h102 97 = h 97 := Eq.trans e93 E73
                  have E111 : h102 98 = h 98 := Eq.trans e94 E74
                  have E112 : h102 99 = h 99 := Eq.trans e95 E75
                  have E113 : h102 100 = h 100 := Eq.trans e96 E76
                  have E114 : h102 103 = h 103 := Eq.trans e97 E77
                  have E115 : h102 109 = h 109 := Eq.trans e98 E78
                  have E116 : h102 114 = h 114 := Eq.trans e99 E79
                  show ov_R u d ov_m284 92 [(0, ov_r 90), (1, ov_i s), (2, ov_i x2), (3, ov_i x3), (4, ov_i x4), (5, ov_i (Int.tmod x4 6)), (6, ov_i (Int.tdiv x4 6)), (7, ov_i 1)] [ov_i v86] z101 h102 (P_Mo_worthiest_90 F z h s)
                  have f117 : (h102 90 2) = (h65 90 2) ∧ (h102 90 7) = (h65 90 7) ∧ (h102 90 8) = (h65 90 8) ∧ (h102 90 13) = (h65 90 13) ∧ (h102 90 20) = (h65 90 20) ∧ (h102 90 22) = (h65 90 22) ∧ (h102 90 34) = (h65 90 34) ∧ (h65 90 25) ≤ (h102 90 25) ∧ (h102 90 25) ≤ (h65 90 25) + 61 ∧ -2147483648 ≤ v86 ∧ v86 ≤ 2147483647 := f85
                  clear f85
                  rw [show h65 103 = h 103 from E77] at y100
                  rw [show h65 96 = h 96 from E72] at y100
                  rw [show h65 97 = h 97 from E73] at y100
                  rw [show h65 98 = h 98 from E74] at y100
                  have y100_ : ov_PM (h 96) (h 103) (h 97) (h 98) (h102 105) (h102 106) (h102 90 22) (h102 90 25) (h102 90 26) (h102 90 28) (h102 90 29) (h102 90 30) := y100
                  refine ov_goto (tgt := 96) d_284_92 (by decide) ?_
                  refine ov_blk (ls2 := [(0, ov_r 90), (1, ov_i s), (2, ov_i x2), (3, ov_i x3), (4, ov_i x4), (5, ov_i (Int.tmod x4 6)), (6, ov_i (Int.tdiv x4 6)), (7, ov_i 1), (8, ov_i v86)]) (st2 := [ov_i 1]) (pc2 := 100) b_284_96_2 rfl rfl ?_
                  refine ov_ifeq (tgt := 125) d_284_100 (by decide) (by omega) (fun c118 => ?_) (fun c118 => ?_)
                  · omega
                  · skip
                    refine ov_blk (ls2 := [(0, ov_r 90), (1, ov_i s), (2, ov_i x2), (3, ov_i x3), (4, ov_i x4), (5, ov_i (Int.tmod x4 6)), (6, ov_i (Int.tdiv x4 6)), (7, ov_i 1), (8, ov_i v86)]) (st2 := [ov_i x2]) (pc2 := 104) b_284_103_1 rfl rfl ?_
                    refine ov_iflt (tgt := 113) d_284_104 (by decide) (by omega) (fun c119 => ?_) (fun c119 => ?_)
                    · skip
                      refine ov_blk (ls2 := [(0, ov_r 90), (1, ov_i s), (2, ov_i ((8 * (Int.tdiv x4 6)) + (Int.tmod x4 6))), (3, ov_i v86), (4, ov_i (x4 + 1)), (5, ov_i (Int.tmod x4 6)), (6, ov_i (Int.tdiv x4 6)), (7, ov_i 1), (8, ov_i v86)]) (st2 := []) (pc2 := 128) b_284_113_9 rfl rfl ?_
                      refine ov_goto (tgt := 7) d_284_128 (by decide) ?_
                      refine ov_sub (ls2 := [(0, ov_r 90), (1, ov_i s), (2, ov_i ((8 * (Int.tdiv x4 6)) + (Int.tmod x4 6))), (3, ov_i v86), (4, ov_i (x4 + 1))]) (List.Sublist.subset (by repeat (first | exact List.Sublist.refl _ | apply List.Sublist.cons_cons | apply List.Sublist.cons))) ?_
                      exact ih2 ((8 * (Int.tdiv x4 6)) + (Int.tmod x4 6)) v86 (x4 + 1) _ _ I103 E104 E105 E106 E107 E108 E109 E110 E111 E112 E113 E114 E115 E116 y100_ (by show 0 ≤ (x4 + 1) ∧ (x4 + 1) ≤ 54 ∧ -1 ≤ ((8 * (Int.tdiv x4 6)) + (Int.tmod x4 6)) ∧ ((8 * (Int.tdiv x4 6)) + (Int.tmod x4 6)) ≤ 100 ∧ ov_g v86 ∧ (h 90 25) ≤ (h102 90 25) ∧ (h102 90 25) ≤ (h 90 25) + 62 * (x4 + 1) ∧ (h102 90 22) = (h 90 22) ∧ (h102 90 2) = (h 90 2) ∧ (h102 90 7) = (h 90 7) ∧ (h102 90 8) = (h 90 8) ∧ (h102 90 13) = (h 90 13) ∧ (h102 90 20) = (h 90 20) ∧ (h102 90 22) = (h 90 22) ∧ (h102 90 34) = (h 90 34); omega) (by omega)
                    · skip
                      refine ov_blk (ls2 := [(0, ov_r 90), (1, ov_i s), (2, ov_i x2), (3, ov_i x3), (4, ov_i x4), (5, ov_i (Int.tmod x4 6)), (6, ov_i (Int.tdiv x4 6)), (7, ov_i 1), (8, ov_i v86)]) (st2 := [ov_i x3, ov_i v86]) (pc2 := 110) b_284_107_2 rfl rfl ?_
                      refine ov_icle (tgt := 125) d_284_110 (by decide) (by omega) (by omega) (fun c120 => ?_) (fun c120 => ?_)
                      · skip
                        refine ov_blk (ls2 := [(0, ov_r 90), (1, ov_i s), (2, ov_i x2), (3, ov_i x3), (4, ov_i (x4 + 1)), (5, ov_i (Int.tmod x4 6)), (6, ov_i (Int.tdiv x4 6)), (7, ov_i 1), (8, ov_i v86)]) (st2 := []) (pc2 := 128) b_284_125_1 rfl rfl ?_
                        refine ov_goto (tgt := 7) d_284_128 (by decide) ?_
                        refine ov_sub (ls2 := [(0, ov_r 90), (1, ov_i s), (2, ov_i x2), (3, ov_i x3), (4, ov_i (x4 + 1))]) (List.Sublist.subset (by repeat (first | exact List.Sublist.refl _ | apply List.Sublist.cons_cons | apply List.Sublist.cons))) ?_
                        exact ih2 x2 x3 (x4 + 1) _ _ I103 E104 E105 E106 E107 E108 E109 E110 E111 E112 E113 E114 E115 E116 y100_ (by show 0 ≤ (x4 + 1) ∧ (x4 + 1) ≤ 54 ∧ -1 ≤ x2 ∧ x2 ≤ 100 ∧ ov_g x3 ∧ (h 90 25) ≤ (h102 90 25) ∧ (h102 90 25) ≤ (h 90 25) + 62 * (x4 + 1) ∧ (h102 90 22) = (h 90 22) ∧ (h102 90 2) = (h 90 2) ∧ (h102 90 7) = (h 90 7) ∧ (h102 90 8) = (h 90 8) ∧ (h102 90 13) = (h 90 13) ∧ (h102 90 20) = (h 90 20) ∧ (h102 90 22) = (h 90 22) ∧ (h102 90 34) = (h 90 34); omega) (by omega)
                      · skip
                        refine ov_blk (ls2 := [(0, ov_r 90), (1, ov_i s), (2, ov_i ((8 * (Int.tdiv x4 6)) + (Int.tmod x4 6))), (3, ov_i v86), (4, ov_i (x4 + 1)), (5, ov_i (Int.tmod x4 6)), (6, ov_i (Int.tdiv x4 6)), (7, ov_i 1), (8, ov_i v86)]) (st2 := []) (pc2 := 128) b_284_113_9 rfl rfl ?_
                        refine ov_goto (tgt := 7) d_284_128 (by decide) ?_
                        refine ov_sub (ls2 := [(0, ov_r 90), (1, ov_i s), (2, ov_i ((8 * (Int.tdiv x4 6)) + (Int.tmod x4 6))), (3, ov_i v86), (4, ov_i (x4 + 1))]) (List.Sublist.subset (by repeat (first | exact List.Sublist.refl _ | apply List.Sublist.cons_cons | apply List.Sublist.cons))) ?_
                        exact ih2 ((8 * (Int.tdiv x4 6)) + (Int.tmod x4 6)) v86 (x4 + 1) _ _ I103 E104 E105 E106 E107 E108 E109 E110 E111 E112 E113 E114 E115 E116 y100_ (by show 0 ≤ (x4 + 1) ∧ (x4 + 1) ≤ 54 ∧ -1 ≤ ((8 * (Int.tdiv x4 6)) + (Int.tmod x4 6)) ∧ ((8 * (Int.tdiv x4 6)) + (Int.tmod x4 6)) ≤ 100 ∧ ov_g v86 ∧ (h 90 25) ≤ (h102 90 25) ∧ (h102 90 25) ≤ (h 90 25) + 62 * (x4 + 1) ∧ (h102 90 22) = (h 90 22) ∧ (h102 90 2) = (h 90 2) ∧ (h102 90 7) = (h 90 7) ∧ (h102 90 8) = (h 90 8) ∧ (h102 90 13) = (h 90 13) ∧ (h102 90 20) = (h 90 20) ∧ (h102 90 22) = (h 90 22) ∧ (h102 90 34) = (h 90 34); omega) (by omega)
  exact L4 55 (-1) 0 0 _ _ I rfl rfl rfl rfl rfl rfl rfl rfl rfl rfl rfl rfl rfl PM (by show 0 ≤ 0 ∧ 0 ≤ 54 ∧ -1 ≤ (-1) ∧ (-1) ≤ 100 ∧ ov_g 0 ∧ (h 90 25) ≤ (h 90 25) ∧ (h 90 25) ≤ (h 90 25) + 62 * 0 ∧ (h 90 22) = (h 90 22) ∧ (h 90 2) = (h 90 2) ∧ (h 90 7) = (h 90 7) ∧ (h 90 8) = (h 90 8) ∧ (h 90 13) = (h 90 13) ∧ (h 90 20) = (h 90 20) ∧ (h 90 22) = (h 90 22) ∧ (h 90 34) = (h 90 34); omega) (by omega)
abbrev P_Mo_rules_90 (F : ov_H × ov_Z) (z : ov_Z) (h : ov_H) : Option ov_V → ov_Z → ov_H → Prop := fun r0 z' h' => ∃ r : Int, r0 = some (ov_i r) ∧ ov_N F z' h' ∧ ((h' 90 2) = (h 90 2) ∧ (h' 90 7) = (h 90 7) ∧ (h' 90 8) = (h 90 8) ∧ (h' 90 13) = (h 90 13) ∧ (h' 90 20) = (h 90 20) ∧ (h' 90 22) = (h 90 22) ∧ (h' 90 34) = (h 90 34) ∧ (h 90 25) ≤ (h' 90 25) ∧ (h' 90 25) ≤ (h 90 25) + 4 ∧ -1 ≤ r ∧ r ≤ 4) ∧ h' 91 = h 91 ∧ h' 92 = h 92 ∧ h' 93 = h 93 ∧ h' 94 = h 94 ∧ h' 95 = h 95 ∧ h' 96 = h 96 ∧ h' 97 = h 97 ∧ h' 98 = h 98 ∧ h' 99 = h 99 ∧ h' 100 = h 100 ∧ h' 103 = h 103 ∧ h' 109 = h 109 ∧ h' 114 = h 114 ∧ (ov_PM (h 96) (h 103) (h 97) (h 98) (h' 105) (h' 106) (h' 90 22) (h' 90 25) (h' 90 26) (h' 90 28) (h' 90 29) (h' 90 30))
set_option maxHeartbeats 4000000 in
theorem c_Mo_rules_90 {u : ov_U} {F : ov_H × ov_Z} {z : ov_Z} {h : ov_H} (d : Nat) (hd : 90 ≤ d) (U : ov_cap u) (I : ov_N F z h) (p0 : 0 ≤ (h 90 25) ∧ (h 90 25) ≤ 1000000000) (W : ov_WT (h 96)) (CD : ov_CD (h 96) (h 97) (h 98)) (PM : ov_PM (h 96) (h 103) (h 97) (h 98) (h 105) (h 106) (h 90 22) (h 90 25) (h 90 26) (h 90 28) (h 90 29) (h 90 30)) : ov_T u d ov_m301 [ov_r 90] z h (P_Mo_rules_90 F z h) := by
  refine ov_en rfl (Nat.le_of_ble_eq_true rfl) ?_
  show ov_R u d ov_m301 0 [(0, ov_r 90)] [] z h (P_Mo_rules_90 F z h)
  have t0 := t96_0 I
  have t1 := t96_1 I
  have t8 := t96_8 I
  have t9 := t96_9 I
  refine ov_blk (ls2 := [(0, ov_r 90)]) (st2 := [ov_i 0, ov_r 90]) (pc2 := 2) b_301_0_2 rfl rfl ?_
  refine ov_putf (x := 0) d_301_2 fl_Mo_1 (zb_90 I) (zs_90 I) rfl nk_0 rfl ?_
  have I1 := up_90_0 (x := 0) I (by omega)
  refine ov_blk (ls2 := [(0, ov_r 90), (1, ov_i (-1)), (2, ov_i 0), (3, ov_i 0)]) (st2 := []) (pc2 := 11) b_301_5_6 rfl rfl ?_
  have L5 : ∀ (n2 : Nat) (x1 : Int) (x2 : Int) (x3 : Int) (z6 : ov_Z) (h7 : ov_H) (I8 : ov_N F z6 h7) (E9 : h7 91 = h 91) (E10 : h7 92 = h 92) (E11 : h7 93 = h 93) (E12 : h7 94 = h 94) (E13 : h7 95 = h 95) (E14 : h7 96 = h 96) (E15 : h7 97 = h 97) (E16 : h7 98 = h 98) (E17 : h7 99 = h 99) (E18 : h7 100 = h 100) (E19 : h7 103 = h 103) (E20 : h7 109 = h 109) (E21 : h7 114 = h 114) (xp : ov_PM (h 96) (h 103) (h 97) (h 98) (h7 105) (h7 106) (h7 90 22) (h7 90 25) (h7 90 26) (h7 90 28) (h7 90 29) (h7 90 30)) (q4 : 0 ≤ x3 ∧ x3 ≤ 4 ∧ x3 ≤ (h 96 8) ∧ -1 ≤ x1 ∧ x1 ≤ 4 ∧ ov_g x2 ∧ (h 90 25) ≤ (h7 90 25) ∧ (h7 90 25) ≤ (h 90 25) + x3 ∧ (h7 90 22) = (h 90 22) ∧ (h7 90 2) = (h 90 2) ∧ (h7 90 7) = (h 90 7) ∧ (h7 90 8) = (h 90 8) ∧ (h7 90 13) = (h 90 13) ∧ (h7 90 20) = (h 90 20) ∧ (h7 90 22) = (h 90 22) ∧ (h7 90 34) = (h 90 34)), 4 - x3 < (n2 : Int) → ov_R u d ov_m301 11 [(0, ov_r 90), (1, ov_i x1), (2, ov_i x2), (3, ov_i x3)] [] z6 h7 (P_Mo_rules_90 F z h) := by
    intro n2
    induction n2 with
    | zero =>
      intro x1 x2 x3 z6 h7 I8 E9 E10 E11 E12 E13 E14 E15 E16 E17 E18 E19 E20 E21 xp q4 hn22
      exact absurd hn22 (by omega)
    | succ n2 ih3 =>
      intro x1 x2 x3 z6 h7 I8 E9 E10 E11 E12 E13 E14 E15 E16 E17 E18 E19 E20 E21 xp q4 hn22
      refine ov_blk (ls2 := [(0, ov_r 90), (1, ov_i x1), (2, ov_i x2), (3, ov_i x3)]) (st2 := [ov_r 90, ov_i x3]) (pc2 := 13) b_301_11_2 rfl rfl ?_
      refine ov_getf (v := ov_r 96) d_301_13 fl_Mo_81 (zb_90 I8) (zs_90 I8) (congrArg ov_r (rg_90_10 I8)) ?_
      refine ov_blk (ls2 := [(0, ov_r 90), (1, ov_i x1), (2, ov_i x2), (3, ov_i x3)]) (st2 := [ov_i 8, ov_r 96, ov_i x3]) (pc2 := 18) b_301_16_1 rfl rfl ?_
      refine ov_iald d_301_18 (zb_96 I8) (zs_96 I8) (by omega) ?_
      rw [show h7 96 = h 96 from E14]
      have g23 := t96_8 I
      refine ov_icge (tgt := 67) d_301_19 (by decide) (by omega) (by omega) (fun c24 => ?_) (fun c24 => ?_)
      · skip
        refine ov_blk (ls2 := [(0, ov_r 90), (1, ov_i x1), (2, ov_i x2), (3, ov_i x3)]) (st2 := [ov_i x1]) (pc2 := 68) b_301_67_1 rfl rfl ?_
        exact ov_reti (st := []) d_301_68 rfl ⟨_, rfl, I8, (by show (h7 90 2) = (h 90 2) ∧ (h7 90 7) = (h 90 7) ∧ (h7 90 8) = (h 90 8) ∧ (h7 90 13) = (h 90 13) ∧ (h7 90 20) = (h 90 20) ∧ (h7 90 22) = (h 90 22) ∧ (h7 90 34) = (h 90 34) ∧ (h 90 25) ≤ (h7 90 25) ∧ (h7 90 25) ≤ (h 90 25) + 4 ∧ -1 ≤ x1 ∧ x1 ≤ 4; omega), E9, E10, E11, E12, E13, E14, E15, E16, E17, E18, E19, E20, E21, xp⟩
      · skip
        refine ov_blk (ls2 := [(0, ov_r 90), (1, ov_i x1), (2, ov_i x2), (3, ov_i x3)]) (st2 := [ov_i 0, ov_i (-1), ov_i 0, ov_i (4 + x3), ov_r 90]) (pc2 := 29) b_301_22_7 rfl rfl ?_
        refine ov_cV (as := [ov_i (4 + x3), ov_i 0, ov_i (-1), ov_i 0]) (st := []) (d2 := d - 1) d_301_29 lk_Mo_389 rfl (Nat.le_of_ble_eq_true rfl) (c := 1) (zb_90 I8) (zs_90 I8) ⟨by decide, rfl⟩ (by omega) (c_Mo_asks_90 (d - 1) (by omega) U I8 (4 + x3) 0 (-1) 0 (by omega) (by omega) (by omega) (by omega) (by omega) (by omega) (by omega) (by show 0 ≤ (h7 90 25) ∧ (h7 90 25) ≤ 2000000000; omega)) ?_
        rintro _ z41 h42 ⟨rfl, I43, f25, e26, e27, e28, e29, e30, e31, e32, e33, e34, e35, e36, e37, e38, e39, e40⟩
        have E44 : h42 91 = h 91 := Eq.trans e26 E9
        have E45 : h42 92 = h 92 := Eq.trans e27 E10
        have E46 : h42 93 = h 93 := Eq.trans e28 E11
        have E47 : h42 94 = h 94 := Eq.trans e29 E12
        have E48 : h42 95 = h 95 := Eq.trans e30 E13
        have E49 : h42 96 = h 96 := Eq.trans e31 E14
        have E50 : h42 97 = h 97 := Eq.trans e32 E15
        have E51 : h42 98 = h 98 := Eq.trans e33 E16
        have E52 : h42 99 = h 99 := Eq.trans e34 E17
        have E53 : h42 100 = h 100 := Eq.trans e35 E18
        have E54 : h42 103 = h 103 := Eq.trans e36 E19
        have E55 : h42 105 = h7 105 := e37
        have E56 : h42 106 = h7 106 := e38
        have E57 : h42 109 = h 109 := Eq.trans e39 E20
        have E58 : h42 114 = h 114 := Eq.trans e40 E21
        show ov_R u d ov_m301 32 [(0, ov_r 90), (1, ov_i x1), (2, ov_i x2), (3, ov_i x3)] [] z41 h42 (P_Mo_rules_90 F z h)
        have f59 : (h42 90 2) = (h7 90 2) ∧ (h42 90 7) = (h7 90 7) ∧ (h42 90 8) = (h7 90 8) ∧ (h42 90 13) = (h7 90 13) ∧ (h42 90 20) = (h7 90 20) ∧ (h42 90 22) = (h7 90 22) ∧ (h42 90 34) = (h7 90 34) ∧ (h42 90 26) = (4 + x3) ∧ (h42 90 27) = (0 : Int) ∧ (h42 90 28) = (h7 90 22) ∧ (h42 90 29) = ((-1) : Int) ∧ (h42 90 30) = (0 : Int) ∧ (((h42 90 25) = (h7 90 25) + 1) ∨ ((h42 90 25) = (h7 90 25) ∧ (h7 90 26) = (4 + x3) ∧ (h7 90 27) = (0 : Int) ∧ (h7 90 28) = (h7 90 22) ∧ (h7 90 29) = ((-1) : Int) ∧ (h7 90 30) = (0 : Int))) := f25
        clear f25
        have mi60 : ov_MI (h 96) (h 103) (h 97) (h 98) (4 + x3) (-1) 0 (h42 90 25) (h7 105) (h7 106) := ov_PM_ask xp (by omega)
        refine ov_blk (ls2 := [(0, ov_r 90), (1, ov_i x1), (2, ov_i x2), (3, ov_i x3)]) (st2 := [ov_i 0, ov_i 0, ov_i 0, ov_r 90]) (pc2 := 36) b_301_32_4 rfl rfl ?_
        have cf61 : h42 96 (0) = h 96 (0) := congrFun E49 (0)
        have cf62 : h42 96 (1) = h 96 (1) := congrFun E49 (1)
        have cf63 : h42 96 (8) = h 96 (8) := congrFun E49 (8)
        refine ov_cV (as := [ov_i 0, ov_i 0, ov_i 0]) (st := []) (d2 := d - 1) d_301_36 lk_Mo_377 rfl (Nat.le_of_ble_eq_true rfl) (c := 1) (zb_90 I43) (zs_90 I43) ⟨by decide, rfl⟩ (by omega) (c_Mo_worthFrom_90_all ((4 + x3)) ((-1)) 0 ((h42 90 25)) (Int.toNat (13 - (0) - (0))) (d - 1) (by omega) U I43 0 0 0 (by omega) (by omega) (by omega) (by omega) (by show (0 : Int) < (h42 96 0) ∧ (0 : Int) < (h42 96 1); omega) (by omega) (by omega) (by show (h42 90 26) = (4 + x3); omega) (by show (h42 90 29) = ((-1) : Int); omega) (by show (h42 90 30) = (0 : Int); omega) (by show (h42 90 25) = (h42 90 25); omega) (by show 0 ≤ (4 + x3) ∧ (4 + x3) ≤ 3 + (h42 96 8); omega) (by rw [show h42 96 = h 96 from E49]; exact W) (by rw [show h42 96 = h 96 from E49, show h42 97 = h 97 from E50, show h42 98 = h 98 from E51]; exact CD) (by rw [show h42 96 = h 96 from E49, show h42 103 = h 103 from E54, show h42 97 = h 97 from E50, show h42 98 = h 98 from E51, show h42 105 = h7 105 from E55, show h42 106 = h7 106 from E56]; exact mi60)) ?_
        rintro _ z81 h82 ⟨v65, rfl, I83, f64, e66, e67, e68, e69, e70, e71, e72, e73, e74, e75, e76, e77, e78, y79, y80⟩
        have E84 : h82 91 = h 91 := Eq.trans e66 E44
        have E85 : h82 92 = h 92 := Eq.trans e67 E45
        have E86 : h82 93 = h 93 := Eq.trans e68 E46
        have E87 : h82 94 = h 94 := Eq.trans e69 E47
        have E88 : h82 95 = h 95 := Eq.trans e70 E48
        have E89 : h82 96 = h 96 := Eq.trans e71 E49
        have E90 : h82 97 = h 97 := Eq.trans e72 E50
        have E91 : h82 98 = h 98 := Eq.trans e73 E51
        have E92 : h82 99 = h 99 := Eq.trans e74 E52
        have E93 : h82 100 = h 100 := Eq.trans e75 E53
        have E94 : h82 103 = h 103 := Eq.trans e76 E54
        have E95 : h82 109 = h 109 := Eq.trans e77 E57
        have E96 : h82 114 = h 114 := Eq.trans e78 E58
        show ov_R u d ov_m301 39 [(0, ov_r 90), (1, ov_i x1), (2, ov_i x2), (3, ov_i x3)] [ov_i v65] z81 h82 (P_Mo_rules_90 F z h)
        have f97 : (h82 90 2) = (h42 90 2) ∧ (h82 90 7) = (h42 90 7) ∧ (h82 90 8) = (h42 90 8) ∧ (h82 90 13) = (h42 90 13) ∧ (h82 90 20) = (h42 90 20) ∧ (h82 90 22) = (h42 90 22) ∧ (h82 90 25) = (h42 90 25) ∧ (h82 90 26) = (h42 90 26) ∧ (h82 90 28) = (h42 90 28) ∧ (h82 90 29) = (h42 90 29) ∧ (h82 90 30) = (h42 90 30) ∧ (h82 90 34) = (h42 90 34) ∧ -1 ≤ v65 ∧ v65 ≤ 89000 * (13 - (0 : Int) - (0 : Int)) := f64
        clear f64
        rw [show h42 103 = h 103 from E54] at y79
        rw [show h42 96 = h 96 from E49] at y79
        rw [show h42 97 = h 97 from E50] at y79
        rw [show h42 98 = h 98 from E51] at y79
        have y79_ : ov_MI (h 96) (h 103) (h 97) (h 98) (4 + x3) ((-1) : Int) (0 : Int) (h42 90 25) (h82 105) (h82 106) := y79
        rw [show h42 103 = h 103 from E54] at y80
        rw [show h42 96 = h 96 from E49] at y80
        rw [show h42 97 = h 97 from E50] at y80
        rw [show h42 98 = h 98 from E51] at y80
        have y80_ : (0 ≤ v65 ↔ ov_go (h 96) (h 103) (h 97) (h 98) (4 + x3) ((-1) : Int) (0 : Int) (0 : Int) (0 : Int) ((0 : Int) % (h 96 9))) := y80
        refine ov_blk (ls2 := [(0, ov_r 90), (1, ov_i x1), (2, ov_i x2), (3, ov_i x3), (4, ov_i v65)]) (st2 := [ov_i v65]) (pc2 := 43) b_301_39_2 rfl rfl ?_
        refine ov_iflt (tgt := 61) d_301_43 (by decide) (by omega) (fun c98 => ?_) (fun c98 => ?_)
        · skip
          have pm99 : ov_PM (h 96) (h 103) (h 97) (h 98) (h82 105) (h82 106) (h82 90 22) (h82 90 25) (h82 90 26) (h82 90 28) (h82 90 29) (h82 90 30) := ov_PM_mi y79_ (by omega) (by omega) (by omega) (by omega) (by omega) (by omega)
          refine ov_blk (ls2 := [(0, ov_r 90), (1, ov_i x1), (2, ov_i x2), (3, ov_i (x3 + 1)), (4, ov_i v65)]) (st2 := []) (pc2 := 64) b_301_61_1 rfl rfl ?_
          refine ov_goto (tgt := 11) d_301_64 (by decide) ?_
          refine ov_sub (ls2 := [(0, ov_r 90), (1, ov_i x1), (2, ov_i x2), (3, ov_i (x3 + 1))]) (List.Sublist.subset (by repeat (first | exact List.Sublist.refl _ | apply List.Sublist.cons_cons | apply List.Sublist.cons))) ?_
          exact ih3 x1 x2 (x3 + 1) _ _ I83 E84 E85 E86 E87 E88 E89 E90 E91 E92 E93 E94 E95 E96 pm99 (by show 0 ≤ (x3 + 1) ∧ (x3 + 1) ≤ 4 ∧ (x3 + 1) ≤ (h 96 8) ∧ -1 ≤ x1 ∧ x1 ≤ 4 ∧ ov_g x2 ∧ (h 90 25) ≤ (h82 90 25) ∧ (h82 90 25) ≤ (h 90 25) + (x3 + 1) ∧ (h82 90 22) = (h 90 22) ∧ (h82 90 2) = (h 90 2) ∧ (h82 90 7) = (h 90 7) ∧ (h82 90 8) = (h 90 8) ∧ (h82 90 13) = (h 90 13) ∧ (h82 90 20) = (h 90 20) ∧ (h82 90 22) = (h 90 22) ∧ (h82 90 34) = (h 90 34); omega) (by omega)
        · skip
          refine ov_blk (ls2 := [(0, ov_r 90), (1, ov_i x1), (2, ov_i x2), (3, ov_i x3), (4, ov_i v65)]) (st2 := [ov_i x1]) (pc2 := 47) b_301_46_1 rfl rfl ?_
          refine ov_iflt (tgt := 56) d_301_47 (by decide) (by omega) (fun c100 => ?_) (fun c100 => ?_)
          · skip
            refine ov_blk (ls2 := [(0, ov_r 90), (1, ov_i x3), (2, ov_i v65), (3, ov_i x3), (4, ov_i v65)]) (st2 := []) (pc2 := 61) b_301_56_4 rfl rfl ?_
            have pm101 : ov_PM (h 96) (h 103) (h 97) (h 98) (h82 105) (h82 106) (h82 90 22) (h82 90 25) (h82 90 26) (h82 90 28) (h82 90 29) (h82 90 30) := ov_PM_mi y79_ (by omega) (by omega) (by omega) (by omega) (by omega) (by omega)
            refine ov_blk (ls2 := [(0, ov_r 90), (1, ov_i x3), (2, ov_i v65), (3, ov_i (x3 + 1)), (4, ov_i v65)]) (st2 := []) (pc2 := 64) b_301_61_1 rfl rfl ?_
            refine ov_goto (tgt := 11) d_301_64 (by decide) ?_
            refine ov_sub (ls2 := [(0, ov_r 90), (1, ov_i x3), (2, ov_i v65), (3, ov_i (x3 + 1))]) (List.Sublist.subset (by repeat (first | exact List.Sublist.refl _ | apply List.Sublist.cons_cons | apply List.Sublist.cons))) ?_
            exact ih3 x3 v65 (x3 + 1) _ _ I83 E84 E85 E86 E87 E88 E89 E90 E91 E92 E93 E94 E95 E96 pm101 (by show 0 ≤ (x3 + 1) ∧ (x3 + 1) ≤ 4 ∧ (x3 + 1) ≤ (h 96 8) ∧ -1 ≤ x3 ∧ x3 ≤ 4 ∧ ov_g v65 ∧ (h 90 25) ≤ (h82 90 25) ∧ (h82 90 25) ≤ (h 90 25) + (x3 + 1) ∧ (h82 90 22) = (h 90 22) ∧ (h82 90 2) = (h 90 2) ∧ (h82 90 7) = (h 90 7) ∧ (h82 90 8) = (h 90 8) ∧ (h82 90 13) = (h 90 13) ∧ (h82 90 20) = (h 90 20) ∧ (h82 90 22) = (h 90 22) ∧ (h82 90 34) = (h 90 34); omega) (by omega)
          · skip
            refine ov_blk (ls2 := [(0, ov_r 90), (1, ov_i x1), (2, ov_i x2), (3, ov_i x3), (4, ov_i v65)]) (st2 := [ov_i x2, ov_i v65]) (pc2 := 53) b_301_50_2 rfl rfl ?_
            refine ov_icge (tgt := 61) d_301_53 (by decide) (by omega) (by omega) (fun c102 => ?_) (fun c102 => ?_)
            · skip
              have pm103 : ov_PM (h 96) (h 103) (h 97) (h 98) (h82 105) (h82 106) (h82 90 22) (h82 90 25) (h82 90 26) (h82 90 28) (h82 90 29) (h82 90 30) := ov_PM_mi y79_ (by omega) (by omega) (by omega) (by omega) (by omega) (by omega)
              refine ov_blk (ls2 := [(0, ov_r 90), (1, ov_i x1), (2, ov_i x2), (3, ov_i (x3 + 1)), (4, ov_i v65)]) (st2 := []) (pc2 := 64) b_301_61_1 rfl rfl ?_
              refine ov_goto (tgt := 11) d_301_64 (by decide) ?_
              refine ov_sub (ls2 := [(0, ov_r 90), (1, ov_i x1), (2, ov_i x2), (3, ov_i (x3 + 1))]) (List.Sublist.subset (by repeat (first | exact List.Sublist.refl _ | apply List.Sublist.cons_cons | apply List.Sublist.cons))) ?_
              exact ih3 x1 x2 (x3 + 1) _ _ I83 E84 E85 E86 E87 E88 E89 E90 E91 E92 E93 E94 E95 E96 pm103 (by show 0 ≤ (x3 + 1) ∧ (x3 + 1) ≤ 4 ∧ (x3 + 1) ≤ (h 96 8) ∧ -1 ≤ x1 ∧ x1 ≤ 4 ∧ ov_g x2 ∧ (h 90 25) ≤ (h82 90 25) ∧ (h82 90 25) ≤ (h 90 25) + (x3 + 1) ∧ (h82 90 22) = (h 90 22) ∧ (h82 90 2) = (h 90 2) ∧ (h82 90 7) = (h 90 7) ∧ (h82 90 8) = (h 90 8) ∧ (h82 90 13) = (h 90 13) ∧ (h82 90 20) = (h 90 20) ∧ (h82 90 22) = (h 90 22) ∧ (h82 90 34) = (h 90 34); omega) (by omega)
            · skip
              refine ov_blk (ls2 := [(0, ov_r 90), (1, ov_i x3), (2, ov_i v65), (3, ov_i x3), (4, ov_i v65)]) (st2 := []) (pc2 := 61) b_301_56_4 rfl rfl ?_
              have pm104 : ov_PM (h 96) (h 103) (h 97) (h 98) (h82 105) (h82 106) (h82 90 22) (h82 90 25) (h82 90 26) (h82 90 28) (h82 90 29) (h82 90 30) := ov_PM_mi y79_ (by omega) (by omega) (by omega) (by omega) (by omega) (by omega)
              refine ov_blk (ls2 := [(0, ov_r 90), (1, ov_i x3), (2, ov_i v65), (3, ov_i (x3 + 1)), (4, ov_i v65)]) (st2 := []) (pc2 := 64) b_301_61_1 rfl rfl ?_
              refine ov_goto (tgt := 11) d_301_64 (by decide) ?_
              refine ov_sub (ls2 := [(0, ov_r 90), (1, ov_i x3), (2, ov_i v65), (3, ov_i (x3 + 1))]) (List.Sublist.subset (by repeat (first | exact List.Sublist.refl _ | apply List.Sublist.cons_cons | apply List.Sublist.cons))) ?_
              exact ih3 x3 v65 (x3 + 1) _ _ I83 E84 E85 E86 E87 E88 E89 E90 E91 E92 E93 E94 E95 E96 pm104 (by show 0 ≤ (x3 + 1) ∧ (x3 + 1) ≤ 4 ∧ (x3 + 1) ≤ (h 96 8) ∧ -1 ≤ x3 ∧ x3 ≤ 4 ∧ ov_g v65 ∧ (h 90 25) ≤ (h82 90 25) ∧ (h82 90 25) ≤ (h 90 25) + (x3 + 1) ∧ (h82 90 22) = (h 90 22) ∧ (h82 90 2) = (h 90 2) ∧ (h82 90 7) = (h 90 7) ∧ (h82 90 8) = (h 90 8) ∧ (h82 90 13) = (h 90 13) ∧ (h82 90 20) = (h 90 20) ∧ (h82 90 22) = (h 90 22) ∧ (h82 90 34) = (h 90 34); omega) (by omega)
  exact L5 5 (-1) 0 0 _ _ I1 rfl rfl rfl rfl rfl rfl rfl rfl rfl rfl rfl rfl rfl PM (by show 0 ≤ 0 ∧ 0 ≤ 4 ∧ 0 ≤ (h 96 8) ∧ -1 ≤ (-1) ∧ (-1) ≤ 4 ∧ ov_g 0 ∧ (h 90 25) ≤ (h 90 25) ∧ (h 90 25) ≤ (h 90 25) + 0 ∧ (h 90 22) = (h 90 22) ∧ (h 90 2) = (h 90 2) ∧ (h 90 7) = (h 90 7) ∧ (h 90 8) = (h 90 8) ∧ (h 90 13) = (h 90 13) ∧ (h 90 20) = (h 90 20) ∧ (h 90 22) = (h 90 22) ∧ (h 90 34) = (h 90 34); omega) (by omega)

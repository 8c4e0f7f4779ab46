abbrev P_Mo_mean_90 (F : ov_H × ov_Z) (z : ov_Z) (h : ov_H) (ge : Int) (x : Int) (y : Int) (s : Int) : Option ov_V → ov_Z → ov_H → Prop := fun r0 z' h' => ∃ r : Int, r0 = some (ov_i r) ∧ ov_N F z' h' ∧ ((h' 90 2) = (h 90 2) ∧ (h' 90 7) = (h 90 7) ∧ (h' 90 8) = (h 90 8) ∧ (h' 90 13) = (h 90 13) ∧ (h' 90 20) = (h 90 20) ∧ (h' 90 22) = (h 90 22) ∧ (h' 90 34) = (h 90 34) ∧ (h 90 25) ≤ (h' 90 25) ∧ (h' 90 25) ≤ (h 90 25) + 1 ∧ -1 ≤ r ∧ r ≤ 1200000) ∧ h' 91 = h 91 ∧ h' 92 = h 92 ∧ h' 93 = h 93 ∧ h' 94 = h 94 ∧ h' 95 = h 95 ∧ h' 96 = h 96 ∧ h' 97 = h 97 ∧ h' 98 = h 98 ∧ h' 99 = h 99 ∧ h' 100 = h 100 ∧ h' 103 = h 103 ∧ h' 104 = h 104 ∧ h' 109 = h 109 ∧ h' 114 = h 114 ∧ (ov_PM (h 96) (h 103) (h 97) (h 98) (h' 105) (h' 106) (h' 90 22) (h' 90 25) (h' 90 26) (h' 90 28) (h' 90 29) (h' 90 30))
set_option maxHeartbeats 4000000 in
theorem c_Mo_mean_90 {u : ov_U} {F : ov_H × ov_Z} {z : ov_Z} {h : ov_H} (d : Nat) (hd : 90 ≤ d) (U : ov_cap u) (I : ov_N F z h) (ge : Int) (x : Int) (y : Int) (s : Int) (g_ge : ov_g ge) (g_x : ov_g x) (g_y : ov_g y) (g_s : ov_g s) (p0 : 0 ≤ (h 90 25) ∧ (h 90 25) ≤ 1000000000) (W : ov_WT (h 96)) (CD : ov_CD (h 96) (h 97) (h 98)) (PM : ov_PM (h 96) (h 103) (h 97) (h 98) (h 105) (h 106) (h 90 22) (h 90 25) (h 90 26) (h 90 28) (h 90 29) (h 90 30)) : ov_T u d ov_m268 [ov_r 90, ov_i ge, ov_i x, ov_i y, ov_i s] z h (P_Mo_mean_90 F z h ge x y s) := by
  refine ov_en rfl (Nat.le_of_ble_eq_true rfl) ?_
  show ov_R u d ov_m268 0 [(0, ov_r 90), (1, ov_i ge), (2, ov_i x), (3, ov_i y), (4, ov_i s)] [] z h (P_Mo_mean_90 F z h ge x y s)
  have t0 := t96_0 I
  have t1 := t96_1 I
  have t8 := t96_8 I
  have t9 := t96_9 I
  refine ov_blk (ls2 := [(0, ov_r 90), (1, ov_i ge), (2, ov_i x), (3, ov_i y), (4, ov_i s)]) (st2 := [ov_i 0, ov_r 90]) (pc2 := 2) b_268_0_2 rfl rfl ?_
  refine ov_putf (x := 0) d_268_2 fl_Mo_1 (zb_90 I) (zs_90 I) rfl nk_0 rfl ?_
  have I1 := up_90_0 (x := 0) I (by omega)
  refine ov_blk (ls2 := [(0, ov_r 90), (1, ov_i ge), (2, ov_i x), (3, ov_i y), (4, ov_i s)]) (st2 := [ov_i ge, ov_r 90]) (pc2 := 7) b_268_5_2 rfl rfl ?_
  refine ov_cV (as := [ov_i ge]) (st := []) (d2 := d - 1) d_268_7 lk_Mo_383 rfl (Nat.le_of_ble_eq_true rfl) (c := 1) (zb_90 I1) (zs_90 I1) ⟨by decide, rfl⟩ (by omega) (c_Mo_isGoer_90 (d - 1) (by omega) U I1 ge (by omega)) ?_
  rintro _ _ _ ⟨v3, rfl, rfl, rfl, f2⟩
  show ov_R u d ov_m268 10 [(0, ov_r 90), (1, ov_i ge), (2, ov_i x), (3, ov_i y), (4, ov_i s)] [ov_i v3] z (ov_up h 90 0 0) (P_Mo_mean_90 F z h ge x y s)
  have f4 : (v3 = 0 ∨ v3 = 1) ∧ (v3 = 1 → 0 ≤ ge ∧ ge ≤ 3 + (h 96 8)) := f2
  clear f2
  refine ov_ifeq (tgt := 24) d_268_10 (by decide) (by omega) (fun c5 => ?_) (fun c5 => ?_)
  · skip
    have f4_ : v3 = 0 := by omega
    clear f4
    refine ov_blk (ls2 := [(0, ov_r 90), (1, ov_i ge), (2, ov_i x), (3, ov_i y), (4, ov_i s)]) (st2 := [ov_i (-1)]) (pc2 := 25) b_268_24_1 rfl rfl ?_
    exact ov_reti (st := []) d_268_25 rfl ⟨_, rfl, I1, ⟨rfl, rfl, rfl, rfl, rfl, rfl, rfl, (by show (h 90 25) ≤ (h 90 25) ∧ (h 90 25) ≤ (h 90 25) + 1 ∧ -1 ≤ (-1) ∧ (-1) ≤ 1200000; omega)⟩, rfl, rfl, rfl, rfl, rfl, rfl, rfl, rfl, rfl, rfl, rfl, rfl, rfl, rfl, PM⟩
  · skip
    have f4_ : v3 = 1 := by omega
    have f6 : 0 ≤ ge ∧ ge ≤ 3 + (h 96 8) := f4.2 (by omega)
    clear f4
    refine ov_blk (ls2 := [(0, ov_r 90), (1, ov_i ge), (2, ov_i x), (3, ov_i y), (4, ov_i s)]) (st2 := [ov_i s, ov_i y, ov_i x, ov_r 90]) (pc2 := 18) b_268_13_4 rfl rfl ?_
    refine ov_cV (as := [ov_i x, ov_i y, ov_i s]) (st := []) (d2 := d - 1) d_268_18 lk_Mo_386 rfl (Nat.le_of_ble_eq_true rfl) (c := 1) (zb_90 I1) (zs_90 I1) ⟨by decide, rfl⟩ (by omega) (c_Mo_isPlace_90 (d - 1) (by omega) U I1 x y s (by omega) (by omega) (by omega)) ?_
    rintro _ _ _ ⟨v8, rfl, rfl, rfl, f7⟩
    show ov_R u d ov_m268 21 [(0, ov_r 90), (1, ov_i ge), (2, ov_i x), (3, ov_i y), (4, ov_i s)] [ov_i v8] z (ov_up h 90 0 0) (P_Mo_mean_90 F z h ge x y s)
    have f9 : (v8 = 0 ∨ v8 = 1) ∧ (v8 = 1 → 0 ≤ x ∧ x ≤ 5 ∧ 0 ≤ y ∧ y ≤ 8 ∧ x < (h 96 0) ∧ y < (h 96 1) ∧ 0 ≤ s ∧ s ≤ 1000000) := f7
    clear f7
    refine ov_ifne (tgt := 26) d_268_21 (by decide) (by omega) (fun c10 => ?_) (fun c10 => ?_)
    · skip
      have f9_ : v8 = 1 := by omega
      have f11 : 0 ≤ x ∧ x ≤ 5 ∧ 0 ≤ y ∧ y ≤ 8 ∧ x < (h 96 0) ∧ y < (h 96 1) ∧ 0 ≤ s ∧ s ≤ 1000000 := f9.2 (by omega)
      clear f9
      refine ov_blk (ls2 := [(0, ov_r 90), (1, ov_i ge), (2, ov_i x), (3, ov_i y), (4, ov_i s)]) (st2 := [ov_i 0, ov_i (-1), ov_i 0, ov_i ge, ov_r 90]) (pc2 := 31) b_268_26_5 rfl rfl ?_
      refine ov_cV (as := [ov_i ge, ov_i 0, ov_i (-1), ov_i 0]) (st := []) (d2 := d - 1) d_268_31 lk_Mo_389 rfl (Nat.le_of_ble_eq_true rfl) (c := 1) (zb_90 I1) (zs_90 I1) ⟨by decide, rfl⟩ (by omega) (c_Mo_asks_90 (d - 1) (by omega) U I1 ge 0 (-1) 0 (by omega) (by omega) (by omega) (by omega) (by omega) (by omega) (by omega) (by show 0 ≤ (h 90 25) ∧ (h 90 25) ≤ 2000000000; omega)) ?_
      rintro _ z29 h30 ⟨rfl, I31, f12, e13, e14, e15, e16, e17, e18, e19, e20, e21, e22, e23, e24, e25, e26, e27, e28⟩
      have E32 : h30 91 = h 91 := e13
      have E33 : h30 92 = h 92 := e14
      have E34 : h30 93 = h 93 := e15
      have E35 : h30 94 = h 94 := e16
      have E36 : h30 95 = h 95 := e17
      have E37 : h30 96 = h 96 := e18
      have E38 : h30 97 = h 97 := e19
      have E39 : h30 98 = h 98 := e20
      have E40 : h30 99 = h 99 := e21
      have E41 : h30 100 = h 100 := e22
      have E42 : h30 103 = h 103 := e23
      have E43 : h30 104 = h 104 := e24
      have E44 : h30 105 = h 105 := e25
      have E45 : h30 106 = h 106 := e26
      have E46 : h30 109 = h 109 := e27
      have E47 : h30 114 = h 114 := e28
      show ov_R u d ov_m268 34 [(0, ov_r 90), (1, ov_i ge), (2, ov_i x), (3, ov_i y), (4, ov_i s)] [] z29 h30 (P_Mo_mean_90 F z h ge x y s)
      have f48 : (h30 90 2) = (h 90 2) ∧ (h30 90 7) = (h 90 7) ∧ (h30 90 8) = (h 90 8) ∧ (h30 90 13) = (h 90 13) ∧ (h30 90 20) = (h 90 20) ∧ (h30 90 22) = (h 90 22) ∧ (h30 90 34) = (h 90 34) ∧ (h30 90 26) = ge ∧ (h30 90 27) = (0 : Int) ∧ (h30 90 28) = (h 90 22) ∧ (h30 90 29) = ((-1) : Int) ∧ (h30 90 30) = (0 : Int) ∧ (((h30 90 25) = (h 90 25) + 1) ∨ ((h30 90 25) = (h 90 25) ∧ (h 90 26) = ge ∧ (h 90 27) = (0 : Int) ∧ (h 90 28) = (h 90 22) ∧ (h 90 29) = ((-1) : Int) ∧ (h 90 30) = (0 : Int))) := f12
      clear f12
      have mi49 : ov_MI (h 96) (h 103) (h 97) (h 98) ge (-1) 0 (h30 90 25) (h 105) (h 106) := ov_PM_ask PM (by omega)
      refine ov_blk (ls2 := [(0, ov_r 90), (1, ov_i ge), (2, ov_i x), (3, ov_i y), (4, ov_i s)]) (st2 := [ov_i s, ov_i y, ov_i x, ov_r 90]) (pc2 := 39) b_268_34_4 rfl rfl ?_
      have cf50 : h30 96 (0) = h 96 (0) := congrFun E37 (0)
      have cf51 : h30 96 (1) = h 96 (1) := congrFun E37 (1)
      have cf52 : h30 96 (8) = h 96 (8) := congrFun E37 (8)
      refine ov_cV (as := [ov_i x, ov_i y, ov_i s]) (st := []) (d2 := d - 1) d_268_39 lk_Mo_377 rfl (Nat.le_of_ble_eq_true rfl) (c := 1) (zb_90 I31) (zs_90 I31) ⟨by decide, rfl⟩ (by omega) (c_Mo_worthFrom_90_all ge ((-1)) 0 ((h30 90 25)) (Int.toNat (13 - (x) - (y))) (d - 1) (by omega) U I31 x y s (by omega) (by omega) (by omega) (by omega) (by show x < (h30 96 0) ∧ y < (h30 96 1); omega) (by omega) (by omega) (by show (h30 90 26) = ge; omega) (by show (h30 90 29) = ((-1) : Int); omega) (by show (h30 90 30) = (0 : Int); omega) (by show (h30 90 25) = (h30 90 25); omega) (by show 0 ≤ ge ∧ ge ≤ 3 + (h30 96 8); omega) (by rw [show h30 96 = h 96 from E37]; exact W) (by rw [show h30 96 = h 96 from E37, show h30 97 = h 97 from E38, show h30 98 = h 98 from E39]; exact CD) (by rw [show h30 96 = h 96 from E37, show h30 103 = h 103 from E42, show h30 97 = h 97 from E38, show h30 98 = h 98 from E39, show h30 105 = h 105 from E44, show h30 106 = h 106 from E45]; exact mi49)) ?_
      rintro _ z71 h72 ⟨v54, rfl, I73, f53, e55, e56, e57, e58, e59, e60, e61, e62, e63, e64, e65, e66, e67, e68, y69, y70⟩
      have E74 : h72 91 = h 91 := Eq.trans e55 E32
      have E75 : h72 92 = h 92 := Eq.trans e56 E33
      have E76 : h72 93 = h 93 := Eq.trans e57 E34
      have E77 : h72 94 = h 94 := Eq.trans e58 E35
      have E78 : h72 95 = h 95 := Eq.trans e59 E36
      have E79 : h72 96 = h 96 := Eq.trans e60 E37
      have E80 : h72 97 = h 97 := Eq.trans e61 E38
      have E81 : h72 98 = h 98 := Eq.trans e62 E39
      have E82 : h72 99 = h 99 := Eq.trans e63 E40
      have E83 : h72 100 = h 100 := Eq.trans e64 E41
      have E84 : h72 103 = h 103 := Eq.trans e65 E42
      have E85 : h72 104 = h 104 := Eq.trans e66 E43
      have E86 : h72 109 = h 109 := Eq.trans e67 E46
      have E87 : h72 114 = h 114 := Eq.trans e68 E47
      show ov_R u d ov_m268 42 [(0, ov_r 90), (1, ov_i ge), (2, ov_i x), (3, ov_i y), (4, ov_i s)] [ov_i v54] z71 h72 (P_Mo_mean_90 F z h ge x y s)
      have f88 : (h72 90 2) = (h30 90 2) ∧ (h72 90 7) = (h30 90 7) ∧ (h72 90 8) = (h30 90 8) ∧ (h72 90 13) = (h30 90 13) ∧ (h72 90 20) = (h30 90 20) ∧ (h72 90 22) = (h30 90 22) ∧ (h72 90 25) = (h30 90 25) ∧ (h72 90 26) = (h30 90 26) ∧ (h72 90 28) = (h30 90 28) ∧ (h72 90 29) = (h30 90 29) ∧ (h72 90 30) = (h30 90 30) ∧ (h72 90 34) = (h30 90 34) ∧ -1 ≤ v54 ∧ v54 ≤ 89000 * (13 - x - y) := f53
      clear f53
      rw [show h30 103 = h 103 from E42] at y69
      rw [show h30 96 = h 96 from E37] at y69
      rw [show h30 97 = h 97 from E38] at y69
      rw [show h30 98 = h 98 from E39] at y69
      have y69_ : ov_MI (h 96) (h 103) (h 97) (h 98) ge ((-1) : Int) (0 : Int) (h30 90 25) (h72 105) (h72 106) := y69
      rw [show h30 103 = h 103 from E42] at y70
      rw [show h30 96 = h 96 from E37] at y70
      rw [show h30 97 = h 97 from E38] at y70
      rw [show h30 98 = h 98 from E39] at y70
      have y70_ : (0 ≤ v54 ↔ ov_go (h 96) (h 103) (h 97) (h 98) ge ((-1) : Int) (0 : Int) x y (s % (h 96 9))) := y70
      have pm89 : ov_PM (h 96) (h 103) (h 97) (h 98) (h72 105) (h72 106) (h72 90 22) (h72 90 25) (h72 90 26) (h72 90 28) (h72 90 29) (h72 90 30) := ov_PM_mi y69_ (by omega) (by omega) (by omega) (by omega) (by omega) (by omega)
      exact ov_reti (st := []) d_268_42 rfl ⟨_, rfl, I73, (by show (h72 90 2) = (h 90 2) ∧ (h72 90 7) = (h 90 7) ∧ (h72 90 8) = (h 90 8) ∧ (h72 90 13) = (h 90 13) ∧ (h72 90 20) = (h 90 20) ∧ (h72 90 22) = (h 90 22) ∧ (h72 90 34) = (h 90 34) ∧ (h 90 25) ≤ (h72 90 25) ∧ (h72 90 25) ≤ (h 90 25) + 1 ∧ -1 ≤ v54 ∧ v54 ≤ 1200000; omega), E74, E75, E76, E77, E78, E79, E80, E81, E82, E83, E84, E85, E86, E87, pm89⟩
    · skip
      have f9_ : v8 = 0 := by omega
      clear f9
      refine ov_blk (ls2 := [(0, ov_r 90), (1, ov_i ge), (2, ov_i x), (3, ov_i y), (4, ov_i s)]) (st2 := [ov_i (-1)]) (pc2 := 25) b_268_24_1 rfl rfl ?_
      exact ov_reti (st := []) d_268_25 rfl ⟨_, rfl, I1, ⟨rfl, rfl, rfl, rfl, rfl, rfl, rfl, (by show (h 90 25) ≤ (h 90 25) ∧ (h 90 25) ≤ (h 90 25) + 1 ∧ -1 ≤ (-1) ∧ (-1) ≤ 1200000; omega)⟩, rfl, rfl, rfl, rfl, rfl, rfl, rfl, rfl, rfl, rfl, rfl, rfl, rfl, rfl, PM⟩
abbrev P_Mo_worst_90 (F : ov_H × ov_Z) (z : ov_Z) (h : ov_H) (ge : Int) (x : Int) (y : Int) (s : Int) : Option ov_V → ov_Z → ov_H → Prop := fun r0 z' h' => ∃ r : Int, r0 = some (ov_i r) ∧ ov_N F z' h' ∧ ((h' 90 2) = (h 90 2) ∧ (h' 90 7) = (h 90 7) ∧ (h' 90 8) = (h 90 8) ∧ (h' 90 13) = (h 90 13) ∧ (h' 90 20) = (h 90 20) ∧ (h' 90 22) = (h 90 22) ∧ (h' 90 34) = (h 90 34) ∧ (h 90 25) ≤ (h' 90 25) ∧ (h' 90 25) ≤ (h 90 25) + 1 ∧ -1 ≤ r ∧ r ≤ 1200000) ∧ h' 91 = h 91 ∧ h' 92 = h 92 ∧ h' 93 = h 93 ∧ h' 94 = h 94 ∧ h' 95 = h 95 ∧ h' 96 = h 96 ∧ h' 97 = h 97 ∧ h' 98 = h 98 ∧ h' 99 = h 99 ∧ h' 100 = h 100 ∧ h' 103 = h 103 ∧ h' 104 = h 104 ∧ h' 109 = h 109 ∧ h' 114 = h 114 ∧ (ov_PM (h 96) (h 103) (h 97) (h 98) (h' 105) (h' 106) (h' 90 22) (h' 90 25) (h' 90 26) (h' 90 28) (h' 90 29) (h' 90 30))
set_option maxHeartbeats 4000000 in
theorem c_Mo_worst_90 {u : ov_U} {F : ov_H × ov_Z} {z : ov_Z} {h : ov_H} (d : Nat) (hd : 90 ≤ d) (U : ov_cap u) (I : ov_N F z h) (ge : Int) (x : Int) (y : Int) (s : Int) (g_ge : ov_g ge) (g_x : ov_g x) (g_y : ov_g y) (g_s : ov_g s) (p0 : 0 ≤ (h 90 25) ∧ (h 90 25) ≤ 1000000000) (W : ov_WT (h 96)) (CD : ov_CD (h 96) (h 97) (h 98)) (PM : ov_PM (h 96) (h 103) (h 97) (h 98) (h 105) (h 106) (h 90 22) (h 90 25) (h 90 26) (h 90 28) (h 90 29) (h 90 30)) : ov_T u d ov_m280 [ov_r 90, ov_i ge, ov_i x, ov_i y, ov_i s] z h (P_Mo_worst_90 F z h ge x y s) := by
  refine ov_en rfl (Nat.le_of_ble_eq_true rfl) ?_
  show ov_R u d ov_m280 0 [(0, ov_r 90), (1, ov_i ge), (2, ov_i x), (3, ov_i y), (4, ov_i s)] [] z h (P_Mo_worst_90 F z h ge x y s)
  have t0 := t96_0 I
  have t1 := t96_1 I
  have t8 := t96_8 I
  have t9 := t96_9 I
  refine ov_blk (ls2 := [(0, ov_r 90), (1, ov_i ge), (2, ov_i x), (3, ov_i y), (4, ov_i s)]) (st2 := [ov_i 0, ov_r 90]) (pc2 := 2) b_280_0_2 rfl rfl ?_
  refine ov_putf (x := 0) d_280_2 fl_Mo_1 (zb_90 I) (zs_90 I) rfl nk_0 rfl ?_
  have I1 := up_90_0 (x := 0) I (by omega)
  refine ov_blk (ls2 := [(0, ov_r 90), (1, ov_i ge), (2, ov_i x), (3, ov_i y), (4, ov_i s)]) (st2 := [ov_i ge, ov_r 90]) (pc2 := 7) b_280_5_2 rfl rfl ?_
  refine ov_cV (as := [ov_i ge]) (st := []) (d2 := d - 1) d_280_7 lk_Mo_383 rfl (Nat.le_of_ble_eq_true rfl) (c := 1) (zb_90 I1) (zs_90 I1) ⟨by decide, rfl⟩ (by omega) (c_Mo_isGoer_90 (d - 1) (by omega) U I1 ge (by omega)) ?_
  rintro _ _ _ ⟨v3, rfl, rfl, rfl, f2⟩
  show ov_R u d ov_m280 10 [(0, ov_r 90), (1, ov_i ge), (2, ov_i x), (3, ov_i y), (4, ov_i s)] [ov_i v3] z (ov_up h 90 0 0) (P_Mo_worst_90 F z h ge x y s)
  have f4 : (v3 = 0 ∨ v3 = 1) ∧ (v3 = 1 → 0 ≤ ge ∧ ge ≤ 3 + (h 96 8)) := f2
  clear f2
  refine ov_ifeq (tgt := 24) d_280_10 (by decide) (by omega) (fun c5 => ?_) (fun c5 => ?_)
  · skip
    have f4_ : v3 = 0 := by omega
    clear f4
    refine ov_blk (ls2 := [(0, ov_r 90), (1, ov_i ge), (2, ov_i x), (3, ov_i y), (4, ov_i s)]) (st2 := [ov_i (-1)]) (pc2 := 25) b_280_24_1 rfl rfl ?_
    exact ov_reti (st := []) d_280_25 rfl ⟨_, rfl, I1, ⟨rfl, rfl, rfl, rfl, rfl, rfl, rfl, (by show (h 90 25) ≤ (h 90 25) ∧ (h 90 25) ≤ (h 90 25) + 1 ∧ -1 ≤ (-1) ∧ (-1) ≤ 1200000; omega)⟩, rfl, rfl, rfl, rfl, rfl, rfl, rfl, rfl, rfl, rfl, rfl, rfl, rfl, rfl, PM⟩
  · skip
    have f4_ : v3 = 1 := by omega
    have f6 : 0 ≤ ge ∧ ge ≤ 3 + (h 96 8) := f4.2 (by omega)
    clear f4
    refine ov_blk (ls2 := [(0, ov_r 90), (1, ov_i ge), (2, ov_i x), (3, ov_i y), (4, ov_i s)]) (st2 := [ov_i s, ov_i y, ov_i x, ov_r 90]) (pc2 := 18) b_280_13_4 rfl rfl ?_
    refine ov_cV (as := [ov_i x, ov_i y, ov_i s]) (st := []) (d2 := d - 1) d_280_18 lk_Mo_386 rfl (Nat.le_of_ble_eq_true rfl) (c := 1) (zb_90 I1) (zs_90 I1) ⟨by decide, rfl⟩ (by omega) (c_Mo_isPlace_90 (d - 1) (by omega) U I1 x y s (by omega) (by omega) (by omega)) ?_
    rintro _ _ _ ⟨v8, rfl, rfl, rfl, f7⟩
    show ov_R u d ov_m280 21 [(0, ov_r 90), (1, ov_i ge), (2, ov_i x), (3, ov_i y), (4, ov_i s)] [ov_i v8] z (ov_up h 90 0 0) (P_Mo_worst_90 F z h ge x y s)
    have f9 : (v8 = 0 ∨ v8 = 1) ∧ (v8 = 1 → 0 ≤ x ∧ x ≤ 5 ∧ 0 ≤ y ∧ y ≤ 8 ∧ x < (h 96 0) ∧ y < (h 96 1) ∧ 0 ≤ s ∧ s ≤ 1000000) := f7
    clear f7
    refine ov_ifne (tgt := 26) d_280_21 (by decide) (by omega) (fun c10 => ?_) (fun c10 => ?_)
    · skip
      have f9_ : v8 = 1 := by omega
      have f11 : 0 ≤ x ∧ x ≤ 5 ∧ 0 ≤ y ∧ y ≤ 8 ∧ x < (h 96 0) ∧ y < (h 96 1) ∧ 0 ≤ s ∧ s ≤ 1000000 := f9.2 (by omega)
      clear f9
      refine ov_blk (ls2 := [(0, ov_r 90), (1, ov_i ge), (2, ov_i x), (3, ov_i y), (4, ov_i s)]) (st2 := [ov_i 0, ov_i (-1), ov_i 1, ov_i ge, ov_r 90]) (pc2 := 31) b_280_26_5 rfl rfl ?_
      refine ov_cV (as := [ov_i ge, ov_i 1, ov_i (-1), ov_i 0]) (st := []) (d2 := d - 1) d_280_31 lk_Mo_389 rfl (Nat.le_of_ble_eq_true rfl) (c := 1) (zb_90 I1) (zs_90 I1) ⟨by decide, rfl⟩ (by omega) (c_Mo_asks_90 (d - 1) (by omega) U I1 ge 1 (-1) 0 (by omega) (by omega) (by omega) (by omega) (by omega) (by omega) (by omega) (by show 0 ≤ (h 90 25) ∧ (h 90 25) ≤ 2000000000; omega)) ?_
      rintro _ z29 h30 ⟨rfl, I31, f12, e13, e14, e15, e16, e17, e18, e19, e20, e21, e22, e23, e24, e25, e26, e27, e28⟩
      have E32 : h30 91 = h 91 := e13
      have E33 : h30 92 = h 92 := e14
      have E34 : h30 93 = h 93 := e15
      have E35 : h30 94 = h 94 := e16
      have E36 : h30 95 = h 95 := e17
      have E37 : h30 96 = h 96 := e18
      have E38 : h30 97 = h 97 := e19
      have E39 : h30 98 = h 98 := e20
      have E40 : h30 99 = h 99 := e21
      have E41 : h30 100 = h 100 := e22
      have E42 : h30 103 = h 103 := e23
      have E43 : h30 104 = h 104 := e24
      have E44 : h30 105 = h 105 := e25
      have E45 : h30 106 = h 106 := e26
      have E46 : h30 109 = h 109 := e27
      have E47 : h30 114 = h 114 := e28
      show ov_R u d ov_m280 34 [(0, ov_r 90), (1, ov_i ge), (2, ov_i x), (3, ov_i y), (4, ov_i s)] [] z29 h30 (P_Mo_worst_90 F z h ge x y s)
      have f48 : (h30 90 2) = (h 90 2) ∧ (h30 90 7) = (h 90 7) ∧ (h30 90 8) = (h 90 8) ∧ (h30 90 13) = (h 90 13) ∧ (h30 90 20) = (h 90 20) ∧ (h30 90 22) = (h 90 22) ∧ (h30 90 34) = (h 90 34) ∧ (h30 90 26) = ge ∧ (h30 90 27) = (1 : Int) ∧ (h30 90 28) = (h 90 22) ∧ (h30 90 29) = ((-1) : Int) ∧ (h30 90 30) = (0 : Int) ∧ (((h30 90 25) = (h 90 25) + 1) ∨ ((h30 90 25) = (h 90 25) ∧ (h 90 26) = ge ∧ (h 90 27) = (1 : Int) ∧ (h 90 28) = (h 90 22) ∧ (h 90 29) = ((-1) : Int) ∧ (h 90 30) = (0 : Int))) := f12
      clear f12
      have mi49 : ov_MI (h 96) (h 103) (h 97) (h 98) ge (-1) 0 (h30 90 25) (h 105) (h 106) := ov_PM_ask PM (by omega)
      refine ov_blk (ls2 := [(0, ov_r 90), (1, ov_i ge), (2, ov_i x), (3, ov_i y), (4, ov_i s)]) (st2 := [ov_i s, ov_i y, ov_i x, ov_r 90]) (pc2 := 39) b_280_34_4 rfl rfl ?_
      have cf50 : h30 96 (0) = h 96 (0) := congrFun E37 (0)
      have cf51 : h30 96 (1) = h 96 (1) := congrFun E37 (1)
      have cf52 : h30 96 (8) = h 96 (8) := congrFun E37 (8)
      refine ov_cV (as := [ov_i x, ov_i y, ov_i s]) (st := []) (d2 := d - 1) d_280_39 lk_Mo_377 rfl (Nat.le_of_ble_eq_true rfl) (c := 1) (zb_90 I31) (zs_90 I31) ⟨by decide, rfl⟩ (by omega) (c_Mo_worthFrom_90_all ge ((-1)) 0 ((h30 90 25)) (Int.toNat (13 - (x) - (y))) (d - 1) (by omega) U I31 x y s (by omega) (by omega) (by omega) (by omega) (by show x < (h30 96 0) ∧ y < (h30 96 1); omega) (by omega) (by omega) (by show (h30 90 26) = ge; omega) (by show (h30 90 29) = ((-1) : Int); omega) (by show (h30 90 30) = (0 : Int); omega) (by show (h30 90 25) = (h30 90 25); omega) (by show 0 ≤ ge ∧ ge ≤ 3 + (h30 96 8); omega) (by rw [show h30 96 = h 96 from E37]; exact W) (by rw [show h30 96 = h 96 from E37, show h30 97 = h 97 from E38, show h30 98 = h 98 from E39]; exact CD) (by rw [show h30 96 = h 96 from E37, show h30 103 = h 103 from E42, show h30 97 = h 97 from E38, show h30 98 = h 98 from E39, show h30 105 = h 105 from E44, show h30 106 = h 106 from E45]; exact mi49)) ?_
      rintro _ z71 h72 ⟨v54, rfl, I73, f53, e55, e56, e57, e58, e59, e60, e61, e62, e63, e64, e65, e66, e67, e68, y69, y70⟩
      have E74 : h72 91 = h 91 := Eq.trans e55 E32
      have E75 : h72 92 = h 92 := Eq.trans e56 E33
      have E76 : h72 93 = h 93 := Eq.trans e57 E34
      have E77 : h72 94 = h 94 := Eq.trans e58 E35
      have E78 : h72 95 = h 95 := Eq.trans e59 E36
      have E79 : h72 96 = h 96 := Eq.trans e60 E37
      have E80 : h72 97 = h 97 := Eq.trans e61 E38
      have E81 : h72 98 = h 98 := Eq.trans e62 E39
      have E82 : h72 99 = h 99 := Eq.trans e63 E40
      have E83 : h72 100 = h 100 := Eq.trans e64 E41
      have E84 : h72 103 = h 103 := Eq.trans e65 E42
      have E85 : h72 104 = h 104 := Eq.trans e66 E43
      have E86 : h72 109 = h 109 := Eq.trans e67 E46
      have E87 : h72 114 = h 114 := Eq.trans e68 E47
      show ov_R u d ov_m280 42 [(0, ov_r 90), (1, ov_i ge), (2, ov_i x), (3, ov_i y), (4, ov_i s)] [ov_i v54] z71 h72 (P_Mo_worst_90 F z h ge x y s)
      have f88 : (h72 90 2) = (h30 90 2) ∧ (h72 90 7) = (h30 90 7) ∧ (h72 90 8) = (h30 90 8) ∧ (h72 90 13) = (h30 90 13) ∧ (h72 90 20) = (h30 90 20) ∧ (h72 90 22) = (h30 90 22) ∧ (h72 90 25) = (h30 90 25) ∧ (h72 90 26) = (h30 90 26) ∧ (h72 90 28) = (h30 90 28) ∧ (h72 90 29) = (h30 90 29) ∧ (h72 90 30) = (h30 90 30) ∧ (h72 90 34) = (h30 90 34) ∧ -1 ≤ v54 ∧ v54 ≤ 89000 * (13 - x - y) := f53
      clear f53
      rw [show h30 103 = h 103 from E42] at y69
      rw [show h30 96 = h 96 from E37] at y69
      rw [show h30 97 = h 97 from E38] at y69
      rw [show h30 98 = h 98 from E39] at y69
      have y69_ : ov_MI (h 96) (h 103) (h 97) (h 98) ge ((-1) : Int) (0 : Int) (h30 90 25) (h72 105) (h72 106) := y69
      rw [show h30 103 = h 103 from E42] at y70
      rw [show h30 96 = h 96 from E37] at y70
      rw [show h30 97 = h 97 from E38] at y70
      rw [show h30 98 = h 98 from E39] at y70
      have y70_ : (0 ≤ v54 ↔ ov_go (h 96) (h 103) (h 97) (h 98) ge ((-1) : Int) (0 : Int) x y (s % (h 96 9))) := y70
      have pm89 : ov_PM (h 96) (h 103) (h 97) (h 98) (h72 105) (h72 106) (h72 90 22) (h72 90 25) (h72 90 26) (h72 90 28) (h72 90 29) (h72 90 30) := ov_PM_mi y69_ (by omega) (by omega) (by omega) (by omega) (by omega) (by omega)
      exact ov_reti (st := []) d_280_42 rfl ⟨_, rfl, I73, (by show (h72 90 2) = (h 90 2) ∧ (h72 90 7) = (h 90 7) ∧ (h72 90 8) = (h 90 8) ∧ (h72 90 13) = (h 90 13) ∧ (h72 90 20) = (h 90 20) ∧ (h72 90 22) = (h 90 22) ∧ (h72 90 34) = (h 90 34) ∧ (h 90 25) ≤ (h72 90 25) ∧ (h72 90 25) ≤ (h 90 25) + 1 ∧ -1 ≤ v54 ∧ v54 ≤ 1200000; omega), E74, E75, E76, E77, E78, E79, E80, E81, E82, E83, E84, E85, E86, E87, pm89⟩
    · skip
      have f9_ : v8 = 0 := by omega
      clear f9
      refine ov_blk (ls2 := [(0, ov_r 90), (1, ov_i ge), (2, ov_i x), (3, ov_i y), (4, ov_i s)]) (st2 := [ov_i (-1)]) (pc2 := 25) b_280_24_1 rfl rfl ?_
      exact ov_reti (st := []) d_280_25 rfl ⟨_, rfl, I1, ⟨rfl, rfl, rfl, rfl, rfl, rfl, rfl, (by show (h 90 25) ≤ (h 90 25) ∧ (h 90 25) ≤ (h 90 25) + 1 ∧ -1 ≤ (-1) ∧ (-1) ≤ 1200000; omega)⟩, rfl, rfl, rfl, rfl, rfl, rfl, rfl, rfl, rfl, rfl, rfl, rfl, rfl, rfl, PM⟩
abbrev P_Mo_choice_90 (F : ov_H × ov_Z) (z : ov_Z) (h : ov_H) (x : Int) (y : Int) (s : Int) (e : Int) : Option ov_V → ov_Z → ov_H → Prop := fun r0 z' h' => ∃ r : Int, r0 = some (ov_i r) ∧ ov_N F z' h' ∧ ((h' 90 2) = (h 90 2) ∧ (h' 90 7) = (h 90 7) ∧ (h' 90 8) = (h 90 8) ∧ (h' 90 13) = (h 90 13) ∧ (h' 90 20) = (h 90 20) ∧ (h' 90 22) = (h 90 22) ∧ (h' 90 34) = (h 90 34) ∧ (h 90 25) ≤ (h' 90 25) ∧ (h' 90 25) ≤ (h 90 25) + 1 ∧ -1 ≤ r ∧ r ≤ 1) ∧ h' 91 = h 91 ∧ h' 92 = h 92 ∧ h' 93 = h 93 ∧ h' 94 = h 94 ∧ h' 95 = h 95 ∧ h' 96 = h 96 ∧ h' 97 = h 97 ∧ h' 98 = h 98 ∧ h' 99 = h 99 ∧ h' 100 = h 100 ∧ h' 103 = h 103 ∧ h' 104 = h 104 ∧ h' 109 = h 109 ∧ h' 114 = h 114 ∧ (ov_PM (h 96) (h 103) (h 97) (h 98) (h' 105) (h' 106) (h' 90 22) (h' 90 25) (h' 90 26) (h' 90 28) (h' 90 29) (h' 90 30))
set_option maxHeartbeats 4000000 in
theorem c_Mo_choice_90 {u : ov_U} {F : ov_H × ov_Z} {z : ov_Z} {h : ov_H} (d : Nat) (hd : 90 ≤ d) (U : ov_cap u) (I : ov_N F z h) (x : Int) (y : Int) (s : Int) (e : Int) (g_x : ov_g x) (g_y : ov_g y) (g_s : ov_g s) (g_e : ov_g e) (p0 : 0 ≤ (h 90 25) ∧ (h 90 25) ≤ 1000000000) (W : ov_WT (h 96)) (CD : ov_CD (h 96) (h 97) (h 98)) (PM : ov_PM (h 96) (h 103) (h 97) (h 98) (h 105) (h 106) (h 90 22) (h 90 25) (h 90 26) (h 90 28) (h 90 29) (h 90 30)) : ov_T u d ov_m281 [ov_r 90, ov_i x, ov_i y, ov_i s, ov_i e] z h (P_Mo_choice_90 F z h x y s e) := by
  refine ov_en rfl (Nat.le_of_ble_eq_true rfl) ?_
  show ov_R u d ov_m281 0 [(0, ov_r 90), (1, ov_i x), (2, ov_i y), (3, ov_i s), (4, ov_i e)] [] z h (P_Mo_choice_90 F z h x y s e)
  have t0 := t96_0 I
  have t1 := t96_1 I
  have t8 := t96_8 I
  have t9 := t96_9 I
  refine ov_blk (ls2 := [(0, ov_r 90), (1, ov_i x), (2, ov_i y), (3, ov_i s), (4, ov_i e)]) (st2 := [ov_i 0, ov_r 90]) (pc2 := 2) b_281_0_2 rfl rfl ?_
  refine ov_putf (x := 0) d_281_2 fl_Mo_1 (zb_90 I) (zs_90 I) rfl nk_0 rfl ?_
  have I1 := up_90_0 (x := 0) I (by omega)
  refine ov_blk (ls2 := [(0, ov_r 90), (1, ov_i x), (2, ov_i y), (3, ov_i s), (4, ov_i e)]) (st2 := [ov_i 0, ov_i (-1), ov_i 0, ov_i 3, ov_r 90]) (pc2 := 10) b_281_5_5 rfl rfl ?_
  refine ov_cV (as := [ov_i 3, ov_i 0, ov_i (-1), ov_i 0]) (st := []) (d2 := d - 1) d_281_10 lk_Mo_389 rfl (Nat.le_of_ble_eq_true rfl) (c := 1) (zb_90 I1) (zs_90 I1) ⟨by decide, rfl⟩ (by omega) (c_Mo_asks_90 (d - 1) (by omega) U I1 3 0 (-1) 0 (by omega) (by omega) (by omega) (by omega) (by omega) (by omega) (by omega) (by show 0 ≤ (h 90 25) ∧ (h 90 25) ≤ 2000000000; omega)) ?_
  rintro _ z19 h20 ⟨rfl, I21, f2, e3, e4, e5, e6, e7, e8, e9, e10, e11, e12, e13, e14, e15, e16, e17, e18⟩
  have E22 : h20 91 = h 91 := e3
  have E23 : h20 92 = h 92 := e4
  have E24 : h20 93 = h 93 := e5
  have E25 : h20 94 = h 94 := e6
  have E26 : h20 95 = h 95 := e7
  have E27 : h20 96 = h 96 := e8
  have E28 : h20 97 = h 97 := e9
  have E29 : h20 98 = h 98 := e10
  have E30 : h20 99 = h 99 := e11
  have E31 : h20 100 = h 100 := e12
  have E32 : h20 103 = h 103 := e13
  have E33 : h20 104 = h 104 := e14
  have E34 : h20 105 = h 105 := e15
  have E35 : h20 106 = h 106 := e16
  have E36 : h20 109 = h 109 := e17
  have E37 : h20 114 = h 114 := e18
  show ov_R u d ov_m281 13 [(0, ov_r 90), (1, ov_i x), (2, ov_i y), (3, ov_i s), (4, ov_i e)] [] z19 h20 (P_Mo_choice_90 F z h x y s e)
  have f38 : (h20 90 2) = (h 90 2) ∧ (h20 90 7) = (h 90 7) ∧ (h20 90 8) = (h 90 8) ∧ (h20 90 13) = (h 90 13) ∧ (h20 90 20) = (h 90 20) ∧ (h20 90 22) = (h 90 22) ∧ (h20 90 34) = (h 90 34) ∧ (h20 90 26) = (3 : Int) ∧ (h20 90 27) = (0 : Int) ∧ (h20 90 28) = (h 90 22) ∧ (h20 90 29) = ((-1) : Int) ∧ (h20 90 30) = (0 : Int) ∧ (((h20 90 25) = (h 90 25) + 1) ∨ ((h20 90 25) = (h 90 25) ∧ (h 90 26) = (3 : Int) ∧ (h 90 27) = (0 : Int) ∧ (h 90 28) = (h 90 22) ∧ (h 90 29) = ((-1) : Int) ∧ (h 90 30) = (0 : Int))) := f2
  clear f2
  have mi39 : ov_MI (h 96) (h 103) (h 97) (h 98) 3 (-1) 0 (h20 90 25) (h 105) (h 106) := ov_PM_ask PM (by omega)
  refine ov_blk (ls2 := [(0, ov_r 90), (1, ov_i x), (2, ov_i y), (3, ov_i s), (4, ov_i e)]) (st2 := [ov_i s, ov_i y, ov_i x, ov_r 90]) (pc2 := 17) b_281_13_4 rfl rfl ?_
  refine ov_cV (as := [ov_i x, ov_i y, ov_i s]) (st := []) (d2 := d - 1) d_281_17 lk_Mo_386 rfl (Nat.le_of_ble_eq_true rfl) (c := 1) (zb_90 I21) (zs_90 I21) ⟨by decide, rfl⟩ (by omega) (c_Mo_isPlace_90 (d - 1) (by omega) U I21 x y s (by omega) (by omega) (by omega)) ?_
  rintro _ _ _ ⟨v41, rfl, rfl, rfl, f40⟩
  show ov_R u d ov_m281 20 [(0, ov_r 90), (1, ov_i x), (2, ov_i y), (3, ov_i s), (4, ov_i e)] [ov_i v41] z19 h20 (P_Mo_choice_90 F z h x y s e)
  rw [show h20 96 = h 96 from E27] at f40
  have f42 : (v41 = 0 ∨ v41 = 1) ∧ (v41 = 1 → 0 ≤ x ∧ x ≤ 5 ∧ 0 ≤ y ∧ y ≤ 8 ∧ x < (h 96 0) ∧ y < (h 96 1) ∧ 0 ≤ s ∧ s ≤ 1000000) := f40
  clear f40
  refine ov_ifeq (tgt := 59) d_281_20 (by decide) (by omega) (fun c43 => ?_) (fun c43 => ?_)
  · skip
    have f42_ : v41 = 0 := by omega
    clear f42
    refine ov_blk (ls2 := [(0, ov_r 90), (1, ov_i x), (2, ov_i y), (3, ov_i s), (4, ov_i e)]) (st2 := [ov_i (-1)]) (pc2 := 60) b_281_59_1 rfl rfl ?_
    have pm44 : ov_PM (h 96) (h 103) (h 97) (h 98) (h 105) (h 106) (h20 90 22) (h20 90 25) (h20 90 26) (h20 90 28) (h20 90 29) (h20 90 30) := ov_PM_mi mi39 (by omega) (by omega) (by omega) (by omega) (by omega) (by omega)
    exact ov_reti (st := []) d_281_60 rfl ⟨_, rfl, I21, (by show (h20 90 2) = (h 90 2) ∧ (h20 90 7) = (h 90 7) ∧ (h20 90 8) = (h 90 8) ∧ (h20 90 13) = (h 90 13) ∧ (h20 90 20) = (h 90 20) ∧ (h20 90 22) = (h 90 22) ∧ (h20 90 34) = (h 90 34) ∧ (h 90 25) ≤ (h20 90 25) ∧ (h20 90 25) ≤ (h 90 25) + 1 ∧ -1 ≤ (-1) ∧ (-1) ≤ 1; omega), E22, E23, E24, E25, E26, E27, E28, E29, E30, E31, E32, E33, E36, E37, (by show ov_PM (h 96) (h 103) (h 97) (h 98) (h20 105) (h20 106) (h20 90 22) (h20 90 25) (h20 90 26) (h20 90 28) (h20 90 29) (h20 90 30); rw [show h20 105 = h 105 from E34, show h20 106 = h 106 from E35]; exact pm44)⟩
  · skip
    have f42_ : v41 = 1 := by omega
    have f45 : 0 ≤ x ∧ x ≤ 5 ∧ 0 ≤ y ∧ y ≤ 8 ∧ x < (h 96 0) ∧ y < (h 96 1) ∧ 0 ≤ s ∧ s ≤ 1000000 := f42.2 (by omega)
    clear f42
    refine ov_blk (ls2 := [(0, ov_r 90), (1, ov_i x), (2, ov_i y), (3, ov_i s), (4, ov_i e)]) (st2 := [ov_i y, ov_i x, ov_r 90]) (pc2 := 26) b_281_23_3 rfl rfl ?_
    refine ov_cV (as := [ov_i x, ov_i y]) (st := []) (d2 := d - 1) d_281_26 lk_Mo_335 rfl (Nat.le_of_ble_eq_true rfl) (c := 1) (zb_90 I21) (zs_90 I21) ⟨by decide, rfl⟩ (by omega) (c_Mo_isHome_90 (d - 1) (by omega) U I21 x y (by omega) (by omega) (by omega)) ?_
    rintro _ _ _ ⟨v47, rfl, rfl, rfl, f46⟩
    show ov_R u d ov_m281 29 [(0, ov_r 90), (1, ov_i x), (2, ov_i y), (3, ov_i s), (4, ov_i e)] [ov_i v47] z19 h20 (P_Mo_choice_90 F z h x y s e)
    rw [show h20 96 = h 96 from E27] at f46
    have f48 : (v47 = 0 ∨ v47 = 1) ∧ (v47 = 1 → x = (h 96 0) - 1 ∧ y = (h 96 1) - 1) ∧ (v47 = 0 → ¬ (x = (h 96 0) - 1 ∧ y = (h 96 1) - 1)) := f46
    clear f46
    refine ov_ifne (tgt := 59) d_281_29 (by decide) (by omega) (fun c49 => ?_) (fun c49 => ?_)
    · skip
      have f48_ : v47 = 1 := by omega
      have f50 : x = (h 96 0) - 1 ∧ y = (h 96 1) - 1 := f48.2.1 (by omega)
      clear f48
      refine ov_blk (ls2 := [(0, ov_r 90), (1, ov_i x), (2, ov_i y), (3, ov_i s), (4, ov_i e)]) (st2 := [ov_i (-1)]) (pc2 := 60) b_281_59_1 rfl rfl ?_
      have pm51 : ov_PM (h 96) (h 103) (h 97) (h 98) (h 105) (h 106) (h20 90 22) (h20 90 25) (h20 90 26) (h20 90 28) (h20 90 29) (h20 90 30) := ov_PM_mi mi39 (by omega) (by omega) (by omega) (by omega) (by omega) (by omega)
      exact ov_reti (st := []) d_281_60 rfl ⟨_, rfl, I21, (by show (h20 90 2) = (h 90 2) ∧ (h20 90 7) = (h 90 7) ∧ (h20 90 8) = (h 90 8) ∧ (h20 90 13) = (h 90 13) ∧ (h20 90 20) = (h 90 20) ∧ (h20 90 22) = (h 90 22) ∧ (h20 90 34) = (h 90 34) ∧ (h 90 25) ≤ (h20 90 25) ∧ (h20 90 25) ≤ (h 90 25) + 1 ∧ -1 ≤ (-1) ∧ (-1) ≤ 1; omega), E22, E23, E24, E25, E26, E27, E28, E29, E30, E31, E32, E33, E36, E37, (by show ov_PM (h 96) (h 103) (h 97) (h 98) (h20 105) (h20 106) (h20 90 22) (h20 90 25) (h20 90 26) (h20 90 28) (h20 90 29) (h20 90 30); rw [show h20 105 = h 105 from E34, show h20 106 = h 106 from E35]; exact pm51)⟩
    · skip
      have f48_ : v47 = 0 := by omega
      have f52 : ¬ (x = (h 96 0) - 1 ∧ y = (h 96 1) - 1) := f48.2.2 (by omega)
      clear f48
      refine ov_blk (ls2 := [(0, ov_r 90), (1, ov_i x), (2, ov_i y), (3, ov_i s), (4, ov_i e)]) (st2 := [ov_i y, ov_i x, ov_r 90]) (pc2 := 35) b_281_32_3 rfl rfl ?_
      refine ov_cV (as := [ov_i x, ov_i y]) (st := []) (d2 := d - 1) d_281_35 lk_Mo_362 rfl (Nat.le_of_ble_eq_true rfl) (c := 1) (zb_90 I21) (zs_90 I21) ⟨by decide, rfl⟩ (by omega) (c_Mo_isUnknown_90 (d - 1) (by omega) U I21 x y (by omega) (by omega) (by omega)) ?_
      rintro _ _ _ ⟨v54, rfl, rfl, rfl, f53⟩
      show ov_R u d ov_m281 38 [(0, ov_r 90), (1, ov_i x), (2, ov_i y), (3, ov_i s), (4, ov_i e)] [ov_i v54] z19 h20 (P_Mo_choice_90 F z h x y s e)
      rw [show h20 103 = h 103 from E32] at f53
      rw [show h20 96 = h 96 from E27] at f53
      have f55 : (v54 = 0 ∨ v54 = 1) ∧ (v54 = 1 → ((h 96 (10 + 4 * (6 * y + x))) = 2 ∧ ¬ (h 103 (4 + 6 * y + x)) = 1 ∧ ¬ 6 * y + x = (h20 90 29))) ∧ (v54 = 0 → ¬ ((h 96 (10 + 4 * (6 * y + x))) = 2 ∧ ¬ (h 103 (4 + 6 * y + x)) = 1 ∧ ¬ 6 * y + x = (h20 90 29))) := f53
      clear f53
      refine ov_ifeq (tgt := 61) d_281_38 (by decide) (by omega) (fun c56 => ?_) (fun c56 => ?_)
      · skip
        have f55_ : v54 = 0 := by omega
        have f57 : ¬ ((h 96 (10 + 4 * (6 * y + x))) = 2 ∧ ¬ (h 103 (4 + 6 * y + x)) = 1 ∧ ¬ 6 * y + x = (h20 90 29)) := f55.2.2 (by omega)
        clear f55
        refine ov_blk (ls2 := [(0, ov_r 90), (1, ov_i x), (2, ov_i y), (3, ov_i s), (4, ov_i e)]) (st2 := [ov_r 90, ov_i s]) (pc2 := 63) b_281_61_2 rfl rfl ?_
        refine ov_getf (v := ov_r 96) d_281_63 fl_Mo_81 (zb_90 I21) (zs_90 I21) (congrArg ov_r (rg_90_10 I21)) ?_
        refine ov_blk (ls2 := [(0, ov_r 90), (1, ov_i x), (2, ov_i y), (3, ov_i s), (4, ov_i e)]) (st2 := [ov_i 9, ov_r 96, ov_i s]) (pc2 := 68) b_281_66_1 rfl rfl ?_
        refine ov_iald d_281_68 (zb_96 I21) (zs_96 I21) (by omega) ?_
        rw [show h20 96 = h 96 from E27]
        have g58 := t96_9 I
        have gt1 := ov_tmv (x := s) (y := (h 96 9)) (by omega) (by omega)
        refine ov_irem d_281_69 (by omega) (by omega) (by omega) ?_
        have g59 := ov_tmg (a := s) (b := (h 96 9)) (by omega) (by omega)
        refine ov_blk (ls2 := [(0, ov_r 90), (1, ov_i x), (2, ov_i y), (3, ov_i s), (4, ov_i e), (5, ov_i (Int.tmod s (h 96 9)))]) (st2 := [ov_i s, ov_i y, ov_i x, ov_r 90]) (pc2 := 76) b_281_70_5 rfl rfl ?_
        have cf60 : h20 96 (0) = h 96 (0) := congrFun E27 (0)
        have cf61 : h20 96 (1) = h 96 (1) := congrFun E27 (1)
        have cf62 : h20 96 (8) = h 96 (8) := congrFun E27 (8)
        refine ov_cV (as := [ov_i x, ov_i y, ov_i s]) (st := []) (d2 := d - 1) d_281_76 lk_Mo_377 rfl (Nat.le_of_ble_eq_true rfl) (c := 1) (zb_90 I21) (zs_90 I21) ⟨by decide, rfl⟩ (by omega) (c_Mo_worthFrom_90_all 3 ((-1)) 0 ((h20 90 25)) (Int.toNat (13 - (x) - (y))) (d - 1) (by omega) U I21 x y s (by omega) (by omega) (by omega) (by omega) (by show x < (h20 96 0) ∧ y < (h20 96 1); omega) (by omega) (by omega) (by show (h20 90 26) = (3 : Int); omega) (by show (h20 90 29) = ((-1) : Int); omega) (by show (h20 90 30) = (0 : Int); omega) (by show (h20 90 25) = (h20 90 25); omega) (by show 0 ≤ (3 : Int) ∧ (3 : Int) ≤ 3 + (h20 96 8); omega) (by rw [show h20 96 = h 96 from E27]; exact W) (by rw [show h20 96 = h 96 from E27, show h20 97 = h 97 from E28, show h20 98 = h 98 from E29]; exact CD) (by rw [show h20 96 = h 96 from E27, show h20 103 = h 103 from E32, show h20 97 = h 97 from E28, show h20 98 = h 98 from E29, show h20 105 = h 105 from E34, show h20 106 = h 106 from E35]; exact mi39)) ?_
        rintro _ z81 h82 ⟨v64, rfl, I83, f63, e65, e66, e67, e68, e69, e70, e71, e72, e73, e74, e75, e76, e77, e78, y79, y80⟩
        have E84 : h82 91 = h 91 := Eq.trans e65 E22
        have E85 : h82 92 = h 92 := Eq.trans e66 E23
        have E86 : h82 93 = h 93 := Eq.trans e67 E24
        have E87 : h82 94 = h 94 := Eq.trans e68 E25
        have E88 : h82 95 = h 95 := Eq.trans e69 E26
        have E89 : h82 96 = h 96 := Eq.trans e70 E27
        have E90 : h82 97 = h 97 := Eq.trans e71 E28
        have E91 : h82 98 = h 98 := Eq.trans e72 E29
        have E92 : h82 99 = h 99 := Eq.trans e73 E30
        have E93 : h82 100 = h 100 := Eq.trans e74 E31
        have E94 : h82 103 = h 103 := Eq.trans e75 E32
        have E95 : h82 104 = h 104 := Eq.trans e76 E33
        have E96 : h82 109 = h 109 := Eq.trans e77 E36
        have E97 : h82 114 = h 114 := Eq.trans e78 E37
        show ov_R u d ov_m281 79 [(0, ov_r 90), (1, ov_i x), (2, ov_i y), (3, ov_i s), (4, ov_i e), (5, ov_i (Int.tmod s (h 96 9)))] [ov_i v64] z81 h82 (P_Mo_choice_90 F z h x y s e)
        have f98 : (h82 90 2) = (h20 90 2) ∧ (h82 90 7) = (h20 90 7) ∧ (h82 90 8) = (h20 90 8) ∧ (h82 90 13) = (h20 90 13) ∧ (h82 90 20) = (h20 90 20) ∧ (h82 90 22) = (h20 90 22) ∧ (h82 90 25) = (h20 90 25) ∧ (h82 90 26) = (h20 90 26) ∧ (h82 90 28) = (h20 90 28) ∧ (h82 90 29) = (h20 90 29) ∧ (h82 90 30) = (h20 90 30) ∧ (h82 90 34) = (h20 90 34) ∧ -1 ≤ v64 ∧ v64 ≤ 89000 * (13 - x - y) := f63
        clear f63
        rw [show h20 103 = h 103 from E32] at y79
        rw [show h20 96 = h 96 from E27] at y79
        rw [show h20 97 = h 97 from E28] at y79
        rw [show h20 98 = h 98 from E29] at y79
        have y79_ : ov_MI (h 96) (h 103) (h 97) (h 98) (3 : Int) ((-1) : Int) (0 : Int) (h20 90 25) (h82 105) (h82 106) := y79
        rw [show h20 103 = h 103 from E32] at y80
        rw [show h20 96 = h 96 from E27] at y80
        rw [show h20 97 = h 97 from E28] at y80
        rw [show h20 98 = h 98 from E29] at y80
        have y80_ : (0 ≤ v64 ↔ ov_go (h 96) (h 103) (h 97) (h 98) (3 : Int) ((-1) : Int) (0 : Int) x y (s % (h 96 9))) := y80
        refine ov_ifge (tgt := 86) d_281_79 (by decide) (by omega) (fun c99 => ?_) (fun c99 => ?_)
        · skip
          refine ov_blk (ls2 := [(0, ov_r 90), (1, ov_i x), (2, ov_i y), (3, ov_i s), (4, ov_i e), (5, ov_i (Int.tmod s (h 96 9)))]) (st2 := [ov_i y, ov_i x, ov_r 90, ov_i (Int.tmod s (h 96 9)), ov_i y, ov_i x, ov_r 90]) (pc2 := 94) b_281_86_7 rfl rfl ?_
          refine ov_cV (as := [ov_i x, ov_i y]) (st := [ov_i (Int.tmod s (h 96 9)), ov_i y, ov_i x, ov_r 90]) (d2 := d - 1) d_281_94 lk_Mo_362 rfl (Nat.le_of_ble_eq_true rfl) (c := 1) (zb_90 I83) (zs_90 I83) ⟨by decide, rfl⟩ (by omega) (c_Mo_isUnknown_90 (d - 1) (by omega) U I83 x y (by omega) (by omega) (by omega)) ?_
          rintro _ _ _ ⟨v101, rfl, rfl, rfl, f100⟩
          show ov_R u d ov_m281 97 [(0, ov_r 90), (1, ov_i x), (2, ov_i y), (3, ov_i s), (4, ov_i e), (5, ov_i (Int.tmod s (h 96 9)))] [ov_i v101, ov_i (Int.tmod s (h 96 9)), ov_i y, ov_i x, ov_r 90] z81 h82 (P_Mo_choice_90 F z h x y s e)
          rw [show h82 103 = h 103 from E94] at f100
          rw [show h82 96 = h 96 from E89] at f100
          have f102 : (v101 = 0 ∨ v101 = 1) ∧ (v101 = 1 → ((h 96 (10 + 4 * (6 * y + x))) = 2 ∧ ¬ (h 103 (4 + 6 * y + x)) = 1 ∧ ¬ 6 * y + x = (h82 90 29))) ∧ (v101 = 0 → ¬ ((h 96 (10 + 4 * (6 * y + x))) = 2 ∧ ¬ (h 103 (4 + 6 * y + x)) = 1 ∧ ¬ 6 * y + x = (h82 90 29))) := f100
          clear f100
          refine ov_ifeq (tgt := 105) d_281_97 (by decide) (by omega) (fun c103 => ?_) (fun c103 => ?_)
          · skip
            have f102_ : v101 = 0 := by omega
            have f104 : ¬ ((h 96 (10 + 4 * (6 * y + x))) = 2 ∧ ¬ (h 103 (4 + 6 * y + x)) = 1 ∧ ¬ 6 * y + x = (h82 90 29)) := f102.2.2 (by omega)
            clear f102
            refine ov_blk (ls2 := [(0, ov_r 90), (1, ov_i x), (2, ov_i y), (3, ov_i s), (4, ov_i e), (5, ov_i (Int.tmod s (h 96 9)))]) (st2 := [ov_i (Int.tmod s (h 96 9)), ov_i (Int.tmod s (h 96 9)), ov_i y, ov_i x, ov_r 90]) (pc2 := 107) b_281_105_1 rfl rfl ?_
            have cf105 : h82 96 (0) = h 96 (0) := congrFun E89 (0)
            have cf106 : h82 96 (1) = h 96 (1) := congrFun E89 (1)
            have cf107 : h82 96 (9) = h 96 (9) := congrFun E89 (9)
            have cf108 : h82 96 (8) = h 96 (8) := congrFun E89 (8)
            refine ov_cV (as := [ov_i x, ov_i y, ov_i (Int.tmod s (h 96 9)), ov_i (Int.tmod s (h 96 9))]) (st := []) (d2 := d - 1) d_281_107 lk_Mo_371 rfl (Nat.le_of_ble_eq_true rfl) (c := 1) (zb_90 I83) (zs_90 I83) ⟨by decide, rfl⟩ (by omega) (c_Mo_wayOf_90_all 3 ((-1)) 0 ((h20 90 25)) (Int.toNat (13 - (x) - (y))) (d - 1) (by omega) U I83 x y (Int.tmod s (h 96 9)) (Int.tmod s (h 96 9)) (by omega) (by omega) (by omega) (by omega) (by omega) (by show x < (h82 96 0) ∧ y < (h82 96 1); omega) (by omega) (by show 0 ≤ (Int.tmod s (h 96 9)) ∧ (Int.tmod s (h 96 9)) < (h82 96 9); omega) (by omega) (by show (h82 90 26) = (3 : Int); omega) (by show (h82 90 29) = ((-1) : Int); omega) (by show (h82 90 30) = (0 : Int); omega) (by show (h82 90 25) = (h20 90 25); omega) (by show 0 ≤ (3 : Int) ∧ (3 : Int) ≤ 3 + (h82 96 8); omega) (by rw [show h82 96 = h 96 from E89]; exact W) (by rw [show h82 96 = h 96 from E89, show h82 97 = h 97 from E90, show h82 98 = h 98 from E91]; exact CD) (by rw [show h82 96 = h 96 from E89, show h82 103 = h 103 from E94, show h82 97 = h 97 from E90, show h82 98 = h 98 from E91]; exact y79_)) ?_
            rintro _ z127 h128 ⟨v110, rfl, I129, f109, e111, e112, e113, e114, e115, e116, e117, e118, e119, e120, e121, e122, e123, e124, y125, y126⟩
            have E130 : h128 91 = h 91 := Eq.trans e111 E84
            have E131 : h128 92 = h 92 := Eq.trans e112 E85
            have E132 : h128 93 = h 93 := Eq.trans e113 E86
            have E133 : h128 94 = h 94 := Eq.trans e114 E87
            have E134 : h128 95 = h 95 := Eq.trans e115 E88
            have E135 : h128 96 = h 96 := Eq.trans e116 E89
            have E136 : h128 97 = h 97 := Eq.trans e117 E90
            have E137 : h128 98 = h 98 := Eq.trans e118 E91
            have E138 : h128 99 = h 99 := Eq.trans e119 E92
            have E139 : h128 100 = h 100 := Eq.trans e120 E93
            have E140 : h128 103 = h 103 := Eq.trans e121 E94
            have E141 : h128 104 = h 104 := Eq.trans e122 E95
            have E142 : h128 109 = h 109 := Eq.trans e123 E96
            have E143 : h128 114 = h 114 := Eq.trans e124 E97
            show ov_R u d ov_m281 110 [(0, ov_r 90), (1, ov_i x), (2, ov_i y), (3, ov_i s), (4, ov_i e), (5, ov_i (Int.tmod s (h 96 9)))] [ov_i v110] z127 h128 (P_Mo_choice_90 F z h x y s e)
            have f144 : (h128 90 2) = (h82 90 2) ∧ (h128 90 7) = (h82 90 7) ∧ (h128 90 8) = (h82 90 8) ∧ (h128 90 13) = (h82 90 13) ∧ (h128 90 20) = (h82 90 20) ∧ (h128 90 22) = (h82 90 22) ∧ (h128 90 25) = (h82 90 25) ∧ (h128 90 26) = (h82 90 26) ∧ (h128 90 28) = (h82 90 28) ∧ (h128 90 29) = (h82 90 29) ∧ (h128 90 30) = (h82 90 30) ∧ (h128 90 34) = (h82 90 34) ∧ -1 ≤ v110 ∧ v110 ≤ 1 := f109
            clear f109
            rw [show h82 103 = h 103 from E94] at y125
            rw [show h82 96 = h 96 from E89] at y125
            rw [show h82 97 = h 97 from E90] at y125
            rw [show h82 98 = h 98 from E91] at y125
            have y125_ : ov_MI (h 96) (h 103) (h 97) (h 98) (3 : Int) ((-1) : Int) (0 : Int) (h20 90 25) (h128 105) (h128 106) := y125
            rw [show h82 103 = h 103 from E94] at y126
            rw [show h82 96 = h 96 from E89] at y126
            rw [show h82 97 = h 97 from E90] at y126
            rw [show h82 98 = h 98 from E91] at y126
            have y126_ : ov_wf (h 96) (h 97) (h 98) (ov_go (h 96) (h 103) (h 97) (h 98) (3 : Int) ((-1) : Int) (0 : Int)) (3 : Int) x y (Int.tmod s (h 96 9)) (Int.tmod s (h 96 9)) v110 := y126
            have pm145 : ov_PM (h 96) (h 103) (h 97) (h 98) (h128 105) (h128 106) (h128 90 22) (h128 90 25) (h128 90 26) (h128 90 28) (h128 90 29) (h128 90 30) := ov_PM_mi y125_ (by omega) (by omega) (by omega) (by omega) (by omega) (by omega)
            exact ov_reti (st := []) d_281_110 rfl ⟨_, rfl, I129, (by show (h128 90 2) = (h 90 2) ∧ (h128 90 7) = (h 90 7) ∧ (h128 90 8) = (h 90 8) ∧ (h128 90 13) = (h 90 13) ∧ (h128 90 20) = (h 90 20) ∧ (h128 90 22) = (h 90 22) ∧ (h128 90 34) = (h 90 34) ∧ (h 90 25) ≤ (h128 90 25) ∧ (h128 90 25) ≤ (h 90 25) + 1 ∧ -1 ≤ v110 ∧ v110 ≤ 1; omega), E130, E131, E132, E133, E134, E135, E136, E137, E138, E139, E140, E141, E142, E143, pm145⟩
          · skip
            have f102_ : v101 = 1 := by omega
            have f146 : ((h 96 (10 + 4 * (6 * y + x))) = 2 ∧ ¬ (h 103 (4 + 6 * y + x)) = 1 ∧ ¬ 6 * y + x = (h82 90 29)) := f102.2.1 (by omega)
            clear f102
            refine ov_blk (ls2 := [(0, ov_r 90), (1, ov_i x), (2, ov_i y), (3, ov_i s), (4, ov_i e), (5, ov_i (Int.tmod s (h 96 9)))]) (st2 := [ov_i e, ov_i (Int.tmod s (h 96 9)), ov_i y, ov_i x, ov_r 90]) (pc2 := 102) b_281_100_1 rfl rfl ?_
            refine ov_goto (tgt := 107) d_281_102 (by decide) ?_
            have cf147 : h82 96 (0) = h 96 (0) := congrFun E89 (0)
            have cf148 : h82 96 (1) = h 96 (1) := congrFun E89 (1)
            have cf149 : h82 96 (9) = h 96 (9) := congrFun E89 (9)
            have cf150 : h82 96 (8) = h 96 (8) := congrFun E89 (8)
            refine ov_cV (as := [ov_i x, ov_i y, ov_i (Int.tmod s (h 96 9)), ov_i e]) (st := []) (d2 := d - 1) d_281_107 lk_Mo_371 rfl (Nat.le_of_ble_eq_true rfl) (c := 1) (zb_90 I83) (zs_90 I83) ⟨by decide, rfl⟩ (by omega) (c_Mo_wayOf_90_all 3 ((-1)) 0 ((h20 90 25)) (Int.toNat (13 - (x) - (y))) (d - 1) (by omega) U I83 x y (Int.tmod s (h 96 9)) e (by omega) (by omega) (by omega) (by omega) (by omega) (by show x < (h82 96 0) ∧ y < (h82 96 1); omega) (by omega) (by show 0 ≤ (Int.tmod s (h 96 9)) ∧ (Int.tmod s (h 96 9)) < (h82 96 9); omega) (by omega) (by show (h82 90 26) = (3 : Int); omega) (by show (h82 90 29) = ((-1) : Int); omega) (by show (h82 90 30) = (0 : Int); omega) (by show (h82 90 25) = (h20 90 25); omega) (by show 0 ≤ (3 : Int) ∧ (3 : Int) ≤ 3 + (h82 96 8); omega) (by rw [show h82 96 = h 96 from E89]; exact W) (by rw [show h82 96 = h 96 from E89, show h82 97 = h 97 from E90, show h82 98 = h 98 from E91]; exact CD) (by rw [show h82 96 = h 96 from E89, show h82 103 = h 103 from E94, show h82 97 = h 97 from E90, show h82 98 = h 98 from E91]; exact y79_)) ?_
            rintro _ z169 h170 ⟨v152, rfl, I171, f151, e153, e154, e155, e156, e157, e158, e159, e160, e161, e162, e163, e164, e165, e166, y167, y168⟩
            have E172 : h170 91 = h 91 := Eq.trans e153 E84
            have E173 : h170 92 = h 92 := Eq.trans e154 E85
            have E174 : h170 93 = h 93 := Eq.trans e155 E86
            have E175 : h170 94 = h 94 := Eq.trans e156 E87
            have E176 : h170 95 = h 95 := Eq.trans e157 E88
            have E177 : h170 96 = h 96 := Eq.trans e158 E89
            have E178 : h170 97 = h 97 := Eq.trans e159 E90
            have E179 : h170 98 = h 98 := Eq.trans e160 E91
            have E180 : h170 99 = h 99 := Eq.trans e161 E92
            have E181 : h170 100 = h 100 := Eq.trans e162 E93
            have E182 : h170 103 = h 103 := Eq.trans e163 E94
            have E183 : h170 104 = h 104 := Eq.trans e164 E95
            have E184 : h170 109 = h 109 := Eq.trans e165 E96
            have E185 : h170 114 = h 114 := Eq.trans e166 E97
            show ov_R u d ov_m281 110 [(0, ov_r 90), (1, ov_i x), (2, ov_i y), (3, ov_i s), (4, ov_i e), (5, ov_i (Int.tmod s (h 96 9)))] [ov_i v152] z169 h170 (P_Mo_choice_90 F z h x y s e)
            have f186 : (h170 90 2) = (h82 90 2) ∧ (h170 90 7) = (h82 90 7) ∧ (h170 90 8) = (h82 90 8) ∧ (h170 90 13) = (h82 90 13) ∧ (h170 90 20) = (h82 90 20) ∧ (h170 90 22) = (h82 90 22) ∧ (h170 90 25) = (h82 90 25) ∧ (h170 90 26) = (h82 90 26) ∧ (h170 90 28) = (h82 90 28) ∧ (h170 90 29) = (h82 90 29) ∧ (h170 90 30) = (h82 90 30) ∧ (h170 90 34) = (h82 90 34) ∧ -1 ≤ v152 ∧ v152 ≤ 1 := f151
            clear f151
            rw [show h82 103 = h 103 from E94] at y167
            rw [show h82 96 = h 96 from E89] at y167
            rw [show h82 97 = h 97 from E90] at y167
            rw [show h82 98 = h 98 from E91] at y167
            have y167_ : ov_MI (h 96) (h 103) (h 97) (h 98) (3 : Int) ((-1) : Int) (0 : Int) (h20 90 25) (h170 105) (h170 106) := y167
            rw [show h82 103 = h 103 from E94] at y168
            rw [show h82 96 = h 96 from E89] at y168
            rw [show h82 97 = h 97 from E90] at y168
            rw [show h82 98 = h 98 from E91] at y168
            have y168_ : ov_wf (h 96) (h 97) (h 98) (ov_go (h 96) (h 103) (h 97) (h 98) (3 : Int) ((-1) : Int) (0 : Int)) (3 : Int) x y (Int.tmod s (h 96 9)) e v152 := y168
            have pm187 : ov_PM (h 96) (h 103) (h 97) (h 98) (h170 105) (h170 106) (h170 90 22) (h170 90 25) (h170 90 26) (h170 90 28) (h170 90 29) (h170 90 30) := ov_PM_mi y167_ (by omega) (by omega) (by omega) (by omega) (by omega) (by omega)
            exact ov_reti (st := []) d_281_110 rfl ⟨_, rfl, I171, (by show (h170 90 2) = (h 90 2) ∧ (h170 90 7) = (h 90 7) ∧ (h170 90 8) = (h 90 8) ∧ (h170 90 13) = (h 90 13) ∧ (h170 90 20) = (h 90 20) ∧ (h170 90 22) = (h 90 22) ∧ (h170 90 34) = (h 90 34) ∧ (h 90 25) ≤ (h170 90 25) ∧ (h170 90 25) ≤ (h 90 25) + 1 ∧ -1 ≤ v152 ∧ v152 ≤ 1; omega), E172, E173, E174, E175, E176, E177, E178, E179, E180, E181, E182, E183, E184, E185, pm187⟩
        · skip
          refine ov_blk (ls2 := [(0, ov_r 90), (1, ov_i x), (2, ov_i y), (3, ov_i s), (4, ov_i e), (5, ov_i (Int.tmod s (h 96 9)))]) (st2 := [ov_i (-1)]) (pc2 := 83) b_281_82_1 rfl rfl ?_
          refine ov_goto (tgt := 110) d_281_83 (by decide) ?_
          have pm188 : ov_PM (h 96) (h 103) (h 97) (h 98) (h82 105) (h82 106) (h82 90 22) (h82 90 25) (h82 90 26) (h82 90 28) (h82 90 29) (h82 90 30) := ov_PM_mi y79_ (by omega) (by omega) (by omega) (by omega) (by omega) (by omega)
          exact ov_reti (st := []) d_281_110 rfl ⟨_, rfl, I83, (by show (h82 90 2) = (h 90 2) ∧ (h82 90 7) = (h 90 7) ∧ (h82 90 8) = (h 90 8) ∧ (h82 90 13) = (h 90 13) ∧ (h82 90 20) = (h 90 20) ∧ (h82 90 22) = (h 90 22) ∧ (h82 90 34) = (h 90 34) ∧ (h 90 25) ≤ (h82 90 25) ∧ (h82 90 25) ≤ (h 90 25) + 1 ∧ -1 ≤ (-1) ∧ (-1) ≤ 1; omega), E84, E85, E86, E87, E88, E89, E90, E91, E92, E93, E94, E95, E96, E97, pm188⟩
      · skip
        have f55_ : v54 = 1 := by omega
        have f189 : ((h 96 (10 + 4 * (6 * y + x))) = 2 ∧ ¬ (h 103 (4 + 6 * y + x)) = 1 ∧ ¬ 6 * y + x = (h20 90 29)) := f55.2.1 (by omega)
        clear f55
        refine ov_blk (ls2 := [(0, ov_r 90), (1, ov_i x), (2, ov_i y), (3, ov_i s), (4, ov_i e)]) (st2 := [ov_i 1, ov_i y, ov_i x, ov_r 90, ov_i 0, ov_i e]) (pc2 := 48) b_281_41_6 rfl rfl ?_
        refine ov_cV (as := [ov_i x, ov_i y, ov_i 1]) (st := [ov_i 0, ov_i e]) (d2 := d - 1) d_281_48 lk_Mo_289 rfl (Nat.le_of_ble_eq_true rfl) (c := 1) (zb_90 I21) (zs_90 I21) ⟨by decide, rfl⟩ (by omega) (c_Mo_lightAt_90 (d - 1) (by omega) U I21 x y 1 (by omega) (by omega) (by omega) (by omega) (by omega)) ?_
        rintro _ _ _ ⟨v191, rfl, rfl, rfl, f190⟩
        show ov_R u d ov_m281 51 [(0, ov_r 90), (1, ov_i x), (2, ov_i y), (3, ov_i s), (4, ov_i e)] [ov_i v191, ov_i 0, ov_i e] z19 h20 (P_Mo_choice_90 F z h x y s e)
        rw [show h20 96 = h 96 from E27] at f190
        have f192 : v191 = (h 96 (10 + 4 * (6 * y + x) + (1 : Int))) ∧ ((1 : Int) = 1 → 0 ≤ v191 ∧ v191 ≤ 60) ∧ ((1 : Int) = 2 → 0 ≤ v191 ∧ v191 ≤ 59) ∧ ((1 : Int) = 3 → 0 ≤ v191 ∧ v191 ≤ 60) := f190
        clear f190
        refine ov_blk (ls2 := [(0, ov_r 90), (1, ov_i x), (2, ov_i y), (3, ov_i s), (4, ov_i e)]) (st2 := [ov_i (v191 - 1), ov_i 0, ov_i e]) (pc2 := 53) b_281_51_2 rfl rfl ?_
        refine ov_cS (as := [ov_i e, ov_i 0, ov_i (v191 - 1)]) (st := []) (d2 := d - 1) d_281_53 lk_Mo_299 rfl (Nat.le_of_ble_eq_true rfl) (by omega) (c_Mo_within (d - 1) (by omega) U I21 e 0 (v191 - 1) (by omega) (by omega) (by omega)) ?_
        rintro _ _ _ ⟨v194, rfl, rfl, rfl, f193⟩
        show ov_R u d ov_m281 56 [(0, ov_r 90), (1, ov_i x), (2, ov_i y), (3, ov_i s), (4, ov_i e)] [ov_i v194] z19 h20 (P_Mo_choice_90 F z h x y s e)
        have f195 : (v194 = 0 ∨ v194 = 1) ∧ (v194 = 1 → (0 : Int) ≤ e ∧ e ≤ (v191 - 1)) ∧ (v194 = 0 → e < (0 : Int) ∨ (v191 - 1) < e) := f193
        clear f193
        refine ov_ifne (tgt := 61) d_281_56 (by decide) (by omega) (fun c196 => ?_) (fun c196 => ?_)
        · skip
          have f195_ : v194 = 1 := by omega
          have f197 : (0 : Int) ≤ e ∧ e ≤ (v191 - 1) := f195.2.1 (by omega)
          clear f195
          refine ov_blk (ls2 := [(0, ov_r 90), (1, ov_i x), (2, ov_i y), (3, ov_i s), (4, ov_i e)]) (st2 := [ov_r 90, ov_i s]) (pc2 := 63) b_281_61_2 rfl rfl ?_
          refine ov_getf (v := ov_r 96) d_281_63 fl_Mo_81 (zb_90 I21) (zs_90 I21) (congrArg ov_r (rg_90_10 I21)) ?_
          refine ov_blk (ls2 := [(0, ov_r 90), (1, ov_i x), (2, ov_i y), (3, ov_i s), (4, ov_i e)]) (st2 := [ov_i 9, ov_r 96, ov_i s]) (pc2 := 68) b_281_66_1 rfl rfl ?_
          refine ov_iald d_281_68 (zb_96 I21) (zs_96 I21) (by omega) ?_
          rw [show h20 96 = h 96 from E27]
          have g198 := t96_9 I
          have gt1 := ov_tmv (x := s) (y := (h 96 9)) (by omega) (by omega)
          refine ov_irem d_281_69 (by omega) (by omega) (by omega) ?_
          have g199 := ov_tmg (a := s) (b := (h 96 9)) (by omega) (by omega)
          refine ov_blk (ls2 := [(0, ov_r 90), (1, ov_i x), (2, ov_i y), (3, ov_i s), (4, ov_i e), (5, ov_i (Int.tmod s (h 96 9)))]) (st2 := [ov_i s, ov_i y, ov_i x, ov_r 90]) (pc2 := 76) b_281_70_5 rfl rfl ?_
          have cf200 : h20 96 (0) = h 96 (0) := congrFun E27 (0)
          have cf201 : h20 96 (1) = h 96 (1) := congrFun E27 (1)
          have cf202 : h20 96 (8) = h 96 (8) := congrFun E27 (8)
          refine ov_cV (as := [ov_i x, ov_i y, ov_i s]) (st := []) (d2 := d - 1) d_281_76 lk_Mo_377 rfl (Nat.le_of_ble_eq_true rfl) (c := 1) (zb_90 I21) (zs_90 I21) ⟨by decide, rfl⟩ (by omega) (c_Mo_worthFrom_90_all 3 ((-1)) 0 ((h20 90 25)) (Int.toNat (13 - (x) - (y))) (d - 1) (by omega) U I21 x y s (by omega) (by omega) (by omega) (by omega) (by show x < (h20 96 0) ∧ y < (h20 96 1); omega) (by omega) (by omega) (by show (h20 90 26) = (3 : Int); omega) (by show (h20 90 29) = ((-1) : Int); omega) (by show (h20 90 30) = (0 : Int); omega) (by show (h20 90 25) = (h20 90 25); omega) (by show 0 ≤ (3 : Int) ∧ (3 : Int) ≤ 3 + (h20 96 8); omega) (by rw [show h20 96 = h 96 from E27]; exact W) (by rw [show h20 96 = h 96 from E27, show h20 97 = h 97 from E28, show h20 98 = h 98 from E29]; exact CD) (by rw [show h20 96 = h 96 from E27, show h20 103 = h 103 from E32, show h20 97 = h 97 from E28, show h20 98 = h 98 from E29, show h20 105 = h 105 from E34, show h20 106 = h 106 from E35]; exact mi39)) ?_
          rintro _ z221 h222 ⟨v204, rfl, I223, f203, e205, e206, e207, e208, e209, e210, e211, e212, e213, e214, e215, e216, e217, e218, y219, y220⟩
          have E224 : h222 91 = h 91 := Eq.trans e205 E22
          have E225 : h222 92 = h 92 := Eq.trans e206 E23
          have E226 : h222 93 = h 93 := Eq.trans e207 E24
          have E227 : h222 94 = h 94 := Eq.trans e208 E25
          have E228 : h222 95 = h 95 := Eq.trans e209 E26
          have E229 : h222 96 = h 96 := Eq.trans e210 E27
          have E230 : h222 97 = h 97 := Eq.trans e211 E28
          have E231 : h222 98 = h 98 := Eq.trans e212 E29
          have E232 : h222 99 = h 99 := Eq.trans e213 E30
          have E233 : h222 100 = h 100 := Eq.trans e214 E31
          have E234 : h222 103 = h 103 := Eq.trans e215 E32
          have E235 : h222 104 = h 104 := Eq.trans e216 E33
          have E236 : h222 109 = h 109 := Eq.trans e217 E36
          have E237 : h222 114 = h 114 := Eq.trans e218 E37
          show ov_R u d ov_m281 79 [(0, ov_r 90), (1, ov_i x), (2, ov_i y), (3, ov_i s), (4, ov_i e), (5, ov_i (Int.tmod s (h 96 9)))] [ov_i v204] z221 h222 (P_Mo_choice_90 F z h x y s e)
          have f238 : (h222 90 2) = (h20 90 2) ∧ (h222 90 7) = (h20 90 7) ∧ (h222 90 8) = (h20 90 8) ∧ (h222 90 13) = (h20 90 13) ∧ (h222 90 20) = (h20 90 20) ∧ (h222 90 22) = (h20 90 22) ∧ (h222 90 25) = (h20 90 25) ∧ (h222 90 26) = (h20 90 26) ∧ (h222 90 28) = (h20 90 28) ∧ (h222 90 29) = (h20 90 29) ∧ (h222 90 30) = (h20 90 30) ∧ (h222 90 34) = (h20 90 34) ∧ -1 ≤ v204 ∧ v204 ≤ 89000 * (13 - x - y) := f203
          clear f203
          rw [show h20 103 = h 103 from E32] at y219
          rw [show h20 96 = h 96 from E27] at y219
          rw [show h20 97 = h 97 from E28] at y219
          rw [show h20 98 = h 98 from E29] at y219
          have y219_ : ov_MI (h 96) (h 103) (h 97) (h 98) (3 : Int) ((-1) : Int) (0 : Int) (h20 90 25) (h222 105) (h222 106) := y219
          rw [show h20 103 = h 103 from E32] at y220
          rw [show h20 96 = h 96 from E27] at y220
          rw [show h20 97 = h 97 from E28] at y220
          rw [show h20 98 = h 98 from E29] at y220
          have y220_ : (0 ≤ v204 ↔ ov_go (h 96) (h 103) (h 97) (h 98) (3 : Int) ((-1) : Int) (0 : Int) x y (s % (h 96 9))) := y220
          refine ov_ifge (tgt := 86) d_281_79 (by decide) (by omega) (fun c239 => ?_) (fun c239 => ?_)
          · skip
            refine ov_blk (ls2 := [(0, ov_r 90), (1, ov_i x), (2, ov_i y), (3, ov_i s), (4, ov_i e), (5, ov_i (Int.tmod s (h 96 9)))]) (st2 := [ov_i y, ov_i x, ov_r 90, ov_i (Int.tmod s (h 96 9)), ov_i y, ov_i x, ov_r 90]) (pc2 := 94) b_281_86_7 rfl rfl ?_
            refine ov_cV (as := [ov_i x, ov_i y]) (st := [ov_i (Int.tmod s (h 96 9)), ov_i y, ov_i x, ov_r 90]) (d2 := d - 1) d_281_94 lk_Mo_362 rfl (Nat.le_of_ble_eq_true rfl) (c := 1) (zb_90 I223) (zs_90 I223) ⟨by decide, rfl⟩ (by omega) (c_Mo_isUnknown_90 (d - 1) (by omega) U I223 x y (by omega) (by omega) (by omega)) ?_
            rintro _ _ _ ⟨v241, rfl, rfl, rfl, f240⟩
            show ov_R u d ov_m281 97 [(0, ov_r 90), (1, ov_i x), (2, ov_i y), (3, ov_i s), (4, ov_i e), (5, ov_i (Int.tmod s (h 96 9)))] [ov_i v241, ov_i (Int.tmod s (h 96 9)), ov_i y, ov_i x, ov_r 90] z221 h222 (P_Mo_choice_90 F z h x y s e)
            rw [show h222 103 = h 103 from E234] at f240
            rw [show h222 96 = h 96 from E229] at f240
            have f242 : (v241 = 0 ∨ v241 = 1) ∧ (v241 = 1 → ((h 96 (10 + 4 * (6 * y + x))) = 2 ∧ ¬ (h 103 (4 + 6 * y + x)) = 1 ∧ ¬ 6 * y + x = (h222 90 29))) ∧ (v241 = 0 → ¬ ((h 96 (10 + 4 * (6 * y + x))) = 2 ∧ ¬ (h 103 (4 + 6 * y + x)) = 1 ∧ ¬ 6 * y + x = (h222 90 29))) := f240
            clear f240
            refine ov_ifeq (tgt := 105) d_281_97 (by decide) (by omega) (fun c243 => ?_) (fun c243 => ?_)
            · skip
              have f242_ : v241 = 0 := by omega
              have f244 : ¬ ((h 96 (10 + 4 * (6 * y + x))) = 2 ∧ ¬ (h 103 (4 + 6 * y + x)) = 1 ∧ ¬ 6 * y + x = (h222 90 29)) := f242.2.2 (by omega)
              clear f242
              refine ov_blk (ls2 := [(0, ov_r 90), (1, ov_i x), (2, ov_i y), (3, ov_i s), (4, ov_i e), (5, ov_i (Int.tmod s (h 96 9)))]) (st2 := [ov_i (Int.tmod s (h 96 9)), ov_i (Int.tmod s (h 96 9)), ov_i y, ov_i x, ov_r 90]) (pc2 := 107) b_281_105_1 rfl rfl ?_
              have cf245 : h222 96 (0) = h 96 (0) := congrFun E229 (0)
              have cf246 : h222 96 (1) = h 96 (1) := congrFun E229 (1)
              have cf247 : h222 96 (9) = h 96 (9) := congrFun E229 (9)
              have cf248 : h222 96 (8) = h 96 (8) := congrFun E229 (8)
              refine ov_cV (as := [ov_i x, ov_i y, ov_i (Int.tmod s (h 96 9)), ov_i (Int.tmod s (h 96 9))]) (st := []) (d2 := d - 1) d_281_107 lk_Mo_371 rfl (Nat.le_of_ble_eq_true rfl) (c := 1) (zb_90 I223) (zs_90 I223) ⟨by decide, rfl⟩ (by omega) (c_Mo_wayOf_90_all 3 ((-1)) 0 ((h20 90 25)) (Int.toNat (13 - (x) - (y))) (d - 1) (by omega) U I223 x y (Int.tmod s (h 96 9)) (Int.tmod s (h 96 9)) (by omega) (by omega) (by omega) (by omega) (by omega) (by show x < (h222 96 0) ∧ y < (h222 96 1); omega) (by omega) (by show 0 ≤ (Int.tmod s (h 96 9)) ∧ (Int.tmod s (h 96 9)) < (h222 96 9); omega) (by omega) (by show (h222 90 26) = (3 : Int); omega) (by show (h222 90 29) = ((-1) : Int); omega) (by show (h222 90 30) = (0 : Int); omega) (by show (h222 90 25) = (h20 90 25); omega) (by show 0 ≤ (3 : Int) ∧ (3 : Int) ≤ 3 + (h222 96 8); omega) (by rw [show h222 96 = h 96 from E229]; exact W) (by rw [show h222 96 = h 96 from E229, show h222 97 = h 97 from E230, show h222 98 = h 98 from E231]; exact CD) (by rw [show h222 96 = h 96 from E229, show h222 103 = h 103 from E234, show h222 97 = h 97 from E230, show h222 98 = h 98 from E231]; exact y219_)) ?_
              rintro _ z267 h268 ⟨v250, rfl, I269, f249, e251, e252, e253, e254, e255, e256, e257, e258, e259, e260, e261, e262, e263, e264, y265, y266⟩
              have E270 : h268 91 = h 91 := Eq.trans e251 E224
              have E271 : h268 92 = h 92 := Eq.trans e252 E225
              have E272 : h268 93 = h 93 := Eq.trans e253 E226
              have E273 : h268 94 = h 94 := Eq.trans e254 E227
              have E274 : h268 95 = h 95 := Eq.trans e255 E228
              have E275 : h268 96 = h 96 := Eq.trans e256 E229
              have E276 : h268 97 = h 97 := Eq.trans e257 E230
              have E277 : h268 98 = h 98 := Eq.trans e258 E231
              have E278 : h268 99 = h 99 := Eq.trans e259 E232
              have E279 : h268 100 = h 100 := Eq.trans e260 E233
              have E280 : h268 103 = h 103 := Eq.trans e261 E234
              have E281 : h268 104 = h 104 := Eq.trans e262 E235
              have E282 : h268 109 = h 109 := Eq.trans e263 E236
              have E283 : h268 114 = h 114 := Eq.trans e264 E237
              show ov_R u d ov_m281 110 [(0, ov_r 90), (1, ov_i x), (2, ov_i y), (3, ov_i s), (4, ov_i e), (5, ov_i (Int.tmod s (h 96 9)))] [ov_i v250] z267 h268 (P_Mo_choice_90 F z h x y s e)
              have f284 : (h268 90 2) = (h222 90 2) ∧ (h268 90 7) = (h222 90 7) ∧ (h268 90 8) = (h222 90 8) ∧ (h268 90 13) = (h222 90 13) ∧ (h268 90 20) = (h222 90 20) ∧ (h268 90 22) = (h222 90 22) ∧ (h268 90 25) = (h222 90 25) ∧ (h268 90 26) = (h222 90 26) ∧ (h268 90 28) = (h222 90 28) ∧ (h268 90 29) = (h222 90 29) ∧ (h268 90 30) = (h222 90 30) ∧ (h268 90 34) = (h222 90 34) ∧ -1 ≤ v250 ∧ v250 ≤ 1 := f249
              clear f249
              rw [show h222 103 = h 103 from E234] at y265
              rw [show h222 96 = h 96 from E229] at y265
              rw [show h222 97 = h 97 from E230] at y265
              rw [show h222 98 = h 98 from E231] at y265
              have y265_ : ov_MI (h 96) (h 103) (h 97) (h 98) (3 : Int) ((-1) : Int) (0 : Int) (h20 90 25) (h268 105) (h268 106) := y265
              rw [show h222 103 = h 103 from E234] at y266
              rw [show h222 96 = h 96 from E229] at y266
              rw [show h222 97 = h 97 from E230] at y266
              rw [show h222 98 = h 98 from E231] at y266
              have y266_ : ov_wf (h 96) (h 97) (h 98) (ov_go (h 96) (h 103) (h 97) (h 98) (3 : Int) ((-1) : Int) (0 : Int)) (3 : Int) x y (Int.tmod s (h 96 9)) (Int.tmod s (h 96 9)) v250 := y266
              have pm285 : ov_PM (h 96) (h 103) (h 97) (h 98) (h268 105) (h268 106) (h268 90 22) (h268 90 25) (h268 90 26) (h268 90 28) (h268 90 29) (h268 90 30) := ov_PM_mi y265_ (by omega) (by omega) (by omega) (by omega) (by omega) (by omega)
              exact ov_reti (st := []) d_281_110 rfl ⟨_, rfl, I269, (by show (h268 90 2) = (h 90 2) ∧ (h268 90 7) = (h 90 7) ∧ (h268 90 8) = (h 90 8) ∧ (h268 90 13) = (h 90 13) ∧ (h268 90 20) = (h 90 20) ∧ (h268 90 22) = (h 90 22) ∧ (h268 90 34) = (h 90 34) ∧ (h 90 25) ≤ (h268 90 25) ∧ (h268 90 25) ≤ (h 90 25) + 1 ∧ -1 ≤ v250 ∧ v250 ≤ 1; omega), E270, E271, E272, E273, E274, E275, E276, E277, E278, E279, E280, E281, E282, E283, pm285⟩
            · skip
              have f242_ : v241 = 1 := by omega
              have f286 : ((h 96 (10 + 4 * (6 * y + x))) = 2 ∧ ¬ (h 103 (4 + 6 * y + x)) = 1 ∧ ¬ 6 * y + x = (h222 90 29)) := f242.2.1 (by omega)
              clear f242
              refine ov_blk (ls2 := [(0, ov_r 90), (1, ov_i x), (2, ov_i y), (3, ov_i s), (4, ov_i e), (5, ov_i (Int.tmod s (h 96 9)))]) (st2 := [ov_i e, ov_i (Int.tmod s (h 96 9)), ov_i y, ov_i x, ov_r 90]) (pc2 := 102) b_281_100_1 rfl rfl ?_
              refine ov_goto (tgt := 107) d_281_102 (by decide) ?_
              have cf287 : h222 96 (0) = h 96 (0) := congrFun E229 (0)
              have cf288 : h222 96 (1) = h 96 (1) := congrFun E229 (1)
              have cf289 : h222 96 (9) = h 96 (9) := congrFun E229 (9)
              have cf290 : h222 96 (8) = h 96 (8) := congrFun E229 (8)
              refine ov_cV (as := [ov_i x, ov_i y, ov_i (Int.tmod s (h 96 9)), ov_i e]) (st := []) (d2 := d - 1) d_281_107 lk_Mo_371 rfl (Nat.le_of_ble_eq_true rfl) (c := 1) (zb_90 I223) (zs_90 I223) ⟨by decide, rfl⟩ (by omega) (c_Mo_wayOf_90_all 3 ((-1)) 0 ((h20 90 25)) (Int.toNat (13 - (x) - (y))) (d - 1) (by omega) U I223 x y (Int.tmod s (h 96 9)) e (by omega) (by omega) (by omega) (by omega) (by omega) (by show x < (h222 96 0) ∧ y < (h222 96 1); omega) (by omega) (by show 0 ≤ (Int.tmod s (h 96 9)) ∧ (Int.tmod s (h 96 9)) < (h222 96 9); omega) (by omega) (by show (h222 90 26) = (3 : Int); omega) (by show (h222 90 29) = ((-1) : Int); omega) (by show (h222 90 30) = (0 : Int); omega) (by show (h222 90 25) = (h20 90 25); omega) (by show 0 ≤ (3 : Int) ∧ (3 : Int) ≤ 3 + (h222 96 8); omega) (by rw [show h222 96 = h 96 from E229]; exact W) (by rw [show h222 96 = h 96 from E229, show h222 97 = h 97 from E230, show h222 98 = h 98 from E231]; exact CD) (by rw [show h222 96 = h 96 from E229, show h222 103 = h 103 from E234, show h222 97 = h 97 from E230, show h222 98 = h 98 from E231]; exact y219_)) ?_
              rintro _ z309 h310 ⟨v292, rfl, I311, f291, e293, e294, e295, e296, e297, e298, e299, e300, e301, e302, e303, e304, e305, e306, y307, y308⟩
              have E312 : h310 91 = h 91 := Eq.trans e293 E224
              have E313 : h310 92 = h 92 := Eq.trans e294 E225
              have E314 : h310 93 = h 93 := Eq.trans e295 E226
              have E315 : h310 94 = h 94 := Eq.trans e296 E227
              have E316 : h310 95 = h 95 := Eq.trans e297 E228
              have E317 : h310 96 = h 96 := Eq.trans e298 E229
              have E318 : h310 97 = h 97 := Eq.trans e299 E230
              have E319 : h310 98 = h 98 := Eq.trans e300 E231
              have E320 : h310 99 = h 99 := Eq.trans e301 E232
              have E321 : h310 100 = h 100 := Eq.trans e302 E233
              have E322 : h310 103 = h 103 := Eq.trans e303 E234
              have E323 : h310 104 = h 104 := Eq.trans e304 E235
              have E324 : h310 109 = h 109 := Eq.trans e305 E236
              have E325 : h310 114 = h 114 := Eq.trans e306 E237
              show ov_R u d ov_m281 110 [(0, ov_r 90), (1, ov_i x), (2, ov_i y), (3, ov_i s), (4, ov_i e), (5, ov_i (Int.tmod s (h 96 9)))] [ov_i v292] z309 h310 (P_Mo_choice_90 F z h x y s e)
              have f326 : (h310 90 2) = (h222 90 2) ∧ (h310 90 7) = (h222 90 7) ∧ (h310 90 8) = (h222 90 8) ∧ (h310 90 13) = (h222 90 13) ∧ (h310 90 20) = (h222 90 20) ∧ (h310 90 22) = (h222 90 22) ∧ (h310 90 25) = (h222 90 25) ∧ (h310 90 26) = (h222 90 26) ∧ (h310 90 28) = (h222 90 28) ∧ (h310 90 29) = (h222 90 29) ∧ (h310 90 30) = (h222 90 30) ∧ (h310 90 34) = (h222 90 34) ∧ -1 ≤ v292 ∧ v292 ≤ 1 := f291
              clear f291
              rw [show h222 103 = h 103 from E234] at y307
              rw [show h222 96 = h 96 from E229] at y307
              rw [show h222 97 = h 97 from E230] at y307
              rw [show h222 98 = h 98 from E231] at y307
              have y307_ : ov_MI (h 96) (h 103) (h 97) (h 98) (3 : Int) ((-1) : Int) (0 : Int) (h20 90 25) (h310 105) (h310 106) := y307
              rw [show h222 103 = h 103 from E234] at y308
              rw [show h222 96 = h 96 from E229] at y308
              rw [show h222 97 = h 97 from E230] at y308
              rw [show h222 98 = h 98 from E231] at y308
              have y308_ : ov_wf (h 96) (h 97) (h 98) (ov_go (h 96) (h 103) (h 97) (h 98) (3 : Int) ((-1) : Int) (0 : Int)) (3 : Int) x y (Int.tmod s (h 96 9)) e v292 := y308
              have pm327 : ov_PM (h 96) (h 103) (h 97) (h 98) (h310 105) (h310 106) (h310 90 22) (h310 90 25) (h310 90 26) (h310 90 28) (h310 90 29) (h310 90 30) := ov_PM_mi y307_ (by omega) (by omega) (by omega) (by omega) (by omega) (by omega)
              exact ov_reti (st := []) d_281_110 rfl ⟨_, rfl, I311, (by show (h310 90 2) = (h 90 2) ∧ (h310 90 7) = (h 90 7) ∧ (h310 90 8) = (h 90 8) ∧ (h310 90 13) = (h 90 13) ∧ (h310 90 20) = (h 90 20) ∧ (h310 90 22) = (h 90 22) ∧ (h310 90 34) = (h 90 34) ∧ (h 90 25) ≤ (h310 90 25) ∧ (h310 90 25) ≤ (h 90 25) + 1 ∧ -1 ≤ v292 ∧ v292 ≤ 1; omega), E312, E313, E314, E315, E316, E317, E318, E319, E320, E321, E322, E323, E324, E325, pm327⟩
          · skip
            refine ov_blk (ls2 := [(0, ov_r 90), (1, ov_i x), (2, ov_i y), (3, ov_i s), (4, ov_i e), (5, ov_i (Int.tmod s (h 96 9)))]) (st2 := [ov_i (-1)]) (pc2 := 83) b_281_82_1 rfl rfl ?_
            refine ov_goto (tgt := 110) d_281_83 (by decide) ?_
            have pm328 : ov_PM (h 96) (h 103) (h 97) (h 98) (h222 105) (h222 106) (h222 90 22) (h222 90 25) (h222 90 26) (h222 90 28) (h222 90 29) (h222 90 30) := ov_PM_mi y219_ (by omega) (by omega) (by omega) (by omega) (by omega) (by omega)
            exact ov_reti (st := []) d_281_110 rfl ⟨_, rfl, I223, (by show (h222 90 2) = (h 90 2) ∧ (h222 90 7) = (h 90 7) ∧ (h222 90 8) = (h 90 8) ∧ (h222 90 13) = (h 90 13) ∧ (h222 90 20) = (h 90 20) ∧ (h222 90 22) = (h 90 22) ∧ (h222 90 34) = (h 90 34) ∧ (h 90 25) ≤ (h222 90 25) ∧ (h222 90 25) ≤ (h 90 25) + 1 ∧ -1 ≤ (-1) ∧ (-1) ≤ 1; omega), E224, E225, E226, E227, E228, E229, E230, E231, E232, E233, E234, E235, E236, E237, pm328⟩
        · skip
          have f195_ : v194 = 0 := by omega
          have f329 : e < (0 : Int) ∨ (v191 - 1) < e := f195.2.2 (by omega)
          clear f195
          refine ov_blk (ls2 := [(0, ov_r 90), (1, ov_i x), (2, ov_i y), (3, ov_i s), (4, ov_i e)]) (st2 := [ov_i (-1)]) (pc2 := 60) b_281_59_1 rfl rfl ?_
          have pm330 : ov_PM (h 96) (h 103) (h 97) (h 98) (h 105) (h 106) (h20 90 22) (h20 90 25) (h20 90 26) (h20 90 28) (h20 90 29) (h20 90 30) := ov_PM_mi mi39 (by omega) (by omega) (by omega) (by omega) (by omega) (by omega)
          exact ov_reti (st := []) d_281_60 rfl ⟨_, rfl, I21, (by show (h20 90 2) = (h 90 2) ∧ (h20 90 7) = (h 90 7) ∧ (h20 90 8) = (h 90 8) ∧ (h20 90 13) = (h 90 13) ∧ (h20 90 20) = (h 90 20) ∧ (h20 90 22) = (h 90 22) ∧ (h20 90 34) = (h 90 34) ∧ (h 90 25) ≤ (h20 90 25) ∧ (h20 90 25) ≤ (h 90 25) + 1 ∧ -1 ≤ (-1) ∧ (-1) ≤ 1; omega), E22, E23, E24, E25, E26, E27, E28, E29, E30, E31, E32, E33, E36, E37, (by show ov_PM (h 96) (h 103) (h 97) (h 98) (h20 105) (h20 106) (h20 90 22) (h20 90 25) (h20 90 26) (h20 90 28) (h20 90 29) (h20 90 30); rw [show h20 105 = h 105 from E34, show h20 106 = h 106 from E35]; exact pm330)⟩
abbrev P_Mo_gap_90 (F : ov_H × ov_Z) (z : ov_Z) (h : ov_H) (x : Int) (y : Int) (s : Int) : Option ov_V → ov_Z → ov_H → Prop := fun r0 z' h' => ∃ r : Int, r0 = some (ov_i r) ∧ ov_N F z' h' ∧ ((h' 90 2) = (h 90 2) ∧ (h' 90 7) = (h 90 7) ∧ (h' 90 8) = (h 90 8) ∧ (h' 90 13) = (h 90 13) ∧ (h' 90 20) = (h 90 20) ∧ (h' 90 22) = (h 90 22) ∧ (h' 90 34) = (h 90 34) ∧ (h 90 25) ≤ (h' 90 25) ∧ (h' 90 25) ≤ (h 90 25) + 2 ∧ -1200000 ≤ r ∧ r ≤ 1200000) ∧ h' 91 = h 91 ∧ h' 92 = h 92 ∧ h' 93 = h 93 ∧ h' 94 = h 94 ∧ h' 95 = h 95 ∧ h' 96 = h 96 ∧ h' 97 = h 97 ∧ h' 98 = h 98 ∧ h' 99 = h 99 ∧ h' 100 = h 100 ∧ h' 103 = h 103 ∧ h' 104 = h 104 ∧ h' 109 = h 109 ∧ h' 114 = h 114 ∧ (ov_PM (h 96) (h 103) (h 97) (h 98) (h' 105) (h' 106) (h' 90 22) (h' 90 25) (h' 90 26) (h' 90 28) (h' 90 29) (h' 90 30))
set_option maxHeartbeats 4000000 in
theorem c_Mo_gap_90 {u : ov_U} {F : ov_H × ov_Z} {z : ov_Z} {h : ov_H} (d : Nat) (hd : 90 ≤ d) (U : ov_cap u) (I : ov_N F z h) (x : Int) (y : Int) (s : Int) (g_x : ov_g x) (g_y : ov_g y) (g_s : ov_g s) (p0 : 0 ≤ (h 90 25) ∧ (h 90 25) ≤ 1000000000) (W : ov_WT (h 96)) (CD : ov_CD (h 96) (h 97) (h 98)) (PM : ov_PM (h 96) (h 103) (h 97) (h 98) (h 105) (h 106) (h 90 22) (h 90 25) (h 90 26) (h 90 28) (h 90 29) (h 90 30)) : ov_T u d ov_m282 [ov_r 90, ov_i x, ov_i y, ov_i s] z h (P_Mo_gap_90 F z h x y s) := by
  refine ov_en rfl (Nat.le_of_ble_eq_true rfl) ?_
  show ov_R u d ov_m282 0 [(0, ov_r 90), (1, ov_i x), (2, ov_i y), (3, ov_i s)] [] z h (P_Mo_gap_90 F z h x y s)
  have t0 := t96_0 I
  have t1 := t96_1 I
  have t8 := t96_8 I
  have t9 := t96_9 I
  refine ov_blk (ls2 := [(0, ov_r 90), (1, ov_i x), (2, ov_i y), (3, ov_i s)]) (st2 := [ov_i 0, ov_r 90]) (pc2 := 2) b_282_0_2 rfl rfl ?_
  refine ov_putf (x := 0) d_282_2 fl_Mo_1 (zb_90 I) (zs_90 I) rfl nk_0 rfl ?_
  have I1 := up_90_0 (x := 0) I (by omega)
  refine ov_blk (ls2 := [(0, ov_r 90), (1, ov_i x), (2, ov_i y), (3, ov_i s)]) (st2 := [ov_i s, ov_i y, ov_i x, ov_r 90]) (pc2 := 9) b_282_5_4 rfl rfl ?_
  refine ov_cV (as := [ov_i x, ov_i y, ov_i s]) (st := []) (d2 := d - 1) d_282_9 lk_Mo_386 rfl (Nat.le_of_ble_eq_true rfl) (c := 1) (zb_90 I1) (zs_90 I1) ⟨by decide, rfl⟩ (by omega) (c_Mo_isPlace_90 (d - 1) (by omega) U I1 x y s (by omega) (by omega) (by omega)) ?_
  rintro _ _ _ ⟨v3, rfl, rfl, rfl, f2⟩
  show ov_R u d ov_m282 12 [(0, ov_r 90), (1, ov_i x), (2, ov_i y), (3, ov_i s)] [ov_i v3] z (ov_up h 90 0 0) (P_Mo_gap_90 F z h x y s)
  have f4 : (v3 = 0 ∨ v3 = 1) ∧ (v3 = 1 → 0 ≤ x ∧ x ≤ 5 ∧ 0 ≤ y ∧ y ≤ 8 ∧ x < (h 96 0) ∧ y < (h 96 1) ∧ 0 ≤ s ∧ s ≤ 1000000) := f2
  clear f2
  refine ov_ifne (tgt := 17) d_282_12 (by decide) (by omega) (fun c5 => ?_) (fun c5 => ?_)
  · skip
    have f4_ : v3 = 1 := by omega
    have f6 : 0 ≤ x ∧ x ≤ 5 ∧ 0 ≤ y ∧ y ≤ 8 ∧ x < (h 96 0) ∧ y < (h 96 1) ∧ 0 ≤ s ∧ s ≤ 1000000 := f4.2 (by omega)
    clear f4
    refine ov_blk (ls2 := [(0, ov_r 90), (1, ov_i x), (2, ov_i y), (3, ov_i s)]) (st2 := [ov_i 0, ov_i (-1), ov_i 0, ov_i 2, ov_r 90]) (pc2 := 22) b_282_17_5 rfl rfl ?_
    refine ov_cV (as := [ov_i 2, ov_i 0, ov_i (-1), ov_i 0]) (st := []) (d2 := d - 1) d_282_22 lk_Mo_389 rfl (Nat.le_of_ble_eq_true rfl) (c := 1) (zb_90 I1) (zs_90 I1) ⟨by decide, rfl⟩ (by omega) (c_Mo_asks_90 (d - 1) (by omega) U I1 2 0 (-1) 0 (by omega) (by omega) (by omega) (by omega) (by omega) (by omega) (by omega) (by show 0 ≤ (h 90 25) ∧ (h 90 25) ≤ 2000000000; omega)) ?_
    rintro _ z24 h25 ⟨rfl, I26, f7, e8, e9, e10, e11, e12, e13, e14, e15, e16, e17, e18, e19, e20, e21, e22, e23⟩
    have E27 : h25 91 = h 91 := e8
    have E28 : h25 92 = h 92 := e9
    have E29 : h25 93 = h 93 := e10
    have E30 : h25 94 = h 94 := e11
    have E31 : h25 95 = h 95 := e12
    have E32 : h25 96 = h 96 := e13
    have E33 : h25 97 = h 97 := e14
    have E34 : h25 98 = h 98 := e15
    have E35 : h25 99 = h 99 := e16
    have E36 : h25 100 = h 100 := e17
    have E37 : h25 103 = h 103 := e18
    have E38 : h25 104 = h 104 := e19
    have E39 : h25 105 = h 105 := e20
    have E40 : h25 106 = h 106 := e21
    have E41 : h25 109 = h 109 := e22
    have E42 : h25 114 = h 114 := e23
    show ov_R u d ov_m282 25 [(0, ov_r 90), (1, ov_i x), (2, ov_i y), (3, ov_i s)] [] z24 h25 (P_Mo_gap_90 F z h x y s)
    have f43 : (h25 90 2) = (h 90 2) ∧ (h25 90 7) = (h 90 7) ∧ (h25 90 8) = (h 90 8) ∧ (h25 90 13) = (h 90 13) ∧ (h25 90 20) = (h 90 20) ∧ (h25 90 22) = (h 90 22) ∧ (h25 90 34) = (h 90 34) ∧ (h25 90 26) = (2 : Int) ∧ (h25 90 27) = (0 : Int) ∧ (h25 90 28) = (h 90 22) ∧ (h25 90 29) = ((-1) : Int) ∧ (h25 90 30) = (0 : Int) ∧ (((h25 90 25) = (h 90 25) + 1) ∨ ((h25 90 25) = (h 90 25) ∧ (h 90 26) = (2 : Int) ∧ (h 90 27) = (0 : Int) ∧ (h 90 28) = (h 90 22) ∧ (h 90 29) = ((-1) : Int) ∧ (h 90 30) = (0 : Int))) := f7
    clear f7
    have mi44 : ov_MI (h 96) (h 103) (h 97) (h 98) 2 (-1) 0 (h25 90 25) (h 105) (h 106) := ov_PM_ask PM (by omega)
    refine ov_blk (ls2 := [(0, ov_r 90), (1, ov_i x), (2, ov_i y), (3, ov_i s)]) (st2 := [ov_i s, ov_i y, ov_i x, ov_r 90]) (pc2 := 29) b_282_25_4 rfl rfl ?_
    have cf45 : h25 96 (0) = h 96 (0) := congrFun E32 (0)
    have cf46 : h25 96 (1) = h 96 (1) := congrFun E32 (1)
    have cf47 : h25 96 (8) = h 96 (8) := congrFun E32 (8)
    refine ov_cV (as := [ov_i x, ov_i y, ov_i s]) (st := []) (d2 := d - 1) d_282_29 lk_Mo_377 rfl (Nat.le_of_ble_eq_true rfl) (c := 1) (zb_90 I26) (zs_90 I26) ⟨by decide, rfl⟩ (by omega) (c_Mo_worthFrom_90_all 2 ((-1)) 0 ((h25 90 25)) (Int.toNat (13 - (x) - (y))) (d - 1) (by omega) U I26 x y s (by omega) (by omega) (by omega) (by omega) (by show x < (h25 96 0) ∧ y < (h25 96 1); omega) (by omega) (by omega) (by show (h25 90 26) = (2 : Int); omega) (by show (h25 90 29) = ((-1) : Int); omega) (by show (h25 90 30) = (0 : Int); omega) (by show (h25 90 25) = (h25 90 25); omega) (by show 0 ≤ (2 : Int) ∧ (2 : Int) ≤ 3 + (h25 96 8); omega) (by rw [show h25 96 = h 96 from E32]; exact W) (by rw [show h25 96 = h 96 from E32, show h25 97 = h 97 from E33, show h25 98 = h 98 from E34]; exact CD) (by rw [show h25 96 = h 96 from E32, show h25 103 = h 103 from E37, show h25 97 = h 97 from E33, show h25 98 = h 98 from E34, show h25 105 = h 105 from E39, show h25 106 = h 106 from E40]; exact mi44)) ?_
    rintro _ z66 h67 ⟨v49, rfl, I68, f48, e50, e51, e52, e53, e54, e55, e56, e57, e58, e59, e60, e61, e62, e63, y64, y65⟩
    have E69 : h67 91 = h 91 := Eq.trans e50 E27
    have E70 : h67 92 = h 92 := Eq.trans e51 E28
    have E71 : h67 93 = h 93 := Eq.trans e52 E29
    have E72 : h67 94 = h 94 := Eq.trans e53 E30
    have E73 : h67 95 = h 95 := Eq.trans e54 E31
    have E74 : h67 96 = h 96 := Eq.trans e55 E32
    have E75 : h67 97 = h 97 := Eq.trans e56 E33
    have E76 : h67 98 = h 98 := Eq.trans e57 E34
    have E77 : h67 99 = h 99 := Eq.trans e58 E35
    have E78 : h67 100 = h 100 := Eq.trans e59 E36
    have E79 : h67 103 = h 103 := Eq.trans e60 E37
    have E80 : h67 104 = h 104 := Eq.trans e61 E38
    have E81 : h67 109 = h 109 := Eq.trans e62 E41
    have E82 : h67 114 = h 114 := Eq.trans e63 E42
    show ov_R u d ov_m282 32 [(0, ov_r 90), (1, ov_i x), (2, ov_i y), (3, ov_i s)] [ov_i v49] z66 h67 (P_Mo_gap_90 F z h x y s)
    have f83 : (h67 90 2) = (h25 90 2) ∧ (h67 90 7) = (h25 90 7) ∧ (h67 90 8) = (h25 90 8) ∧ (h67 90 13) = (h25 90 13) ∧ (h67 90 20) = (h25 90 20) ∧ (h67 90 22) = (h25 90 22) ∧ (h67 90 25) = (h25 90 25) ∧ (h67 90 26) = (h25 90 26) ∧ (h67 90 28) = (h25 90 28) ∧ (h67 90 29) = (h25 90 29) ∧ (h67 90 30) = (h25 90 30) ∧ (h67 90 34) = (h25 90 34) ∧ -1 ≤ v49 ∧ v49 ≤ 89000 * (13 - x - y) := f48
    clear f48
    rw [show h25 103 = h 103 from E37] at y64
    rw [show h25 96 = h 96 from E32] at y64
    rw [show h25 97 = h 97 from E33] at y64
    rw [show h25 98 = h 98 from E34] at y64
    have y64_ : ov_MI (h 96) (h 103) (h 97) (h 98) (2 : Int) ((-1) : Int) (0 : Int) (h25 90 25) (h67 105) (h67 106) := y64
    rw [show h25 103 = h 103 from E37] at y65
    rw [show h25 96 = h 96 from E32] at y65
    rw [show h25 97 = h 97 from E33] at y65
    rw [show h25 98 = h 98 from E34] at y65
    have y65_ : (0 ≤ v49 ↔ ov_go (h 96) (h 103) (h 97) (h 98) (2 : Int) ((-1) : Int) (0 : Int) x y (s % (h 96 9))) := y65
    refine ov_blk (ls2 := [(0, ov_r 90), (1, ov_i x), (2, ov_i y), (3, ov_i s), (4, ov_i v49)]) (st2 := []) (pc2 := 34) b_282_32_1 rfl rfl ?_
    have pm84 : ov_PM (h 96) (h 103) (h 97) (h 98) (h67 105) (h67 106) (h67 90 22) (h67 90 25) (h67 90 26) (h67 90 28) (h67 90 29) (h67 90 30) := ov_PM_mi y64_ (by omega) (by omega) (by omega) (by omega) (by omega) (by omega)
    refine ov_blk (ls2 := [(0, ov_r 90), (1, ov_i x), (2, ov_i y), (3, ov_i s), (4, ov_i v49)]) (st2 := [ov_i 0, ov_i (-1), ov_i 0, ov_i 3, ov_r 90]) (pc2 := 39) b_282_34_5 rfl rfl ?_
    refine ov_cV (as := [ov_i 3, ov_i 0, ov_i (-1), ov_i 0]) (st := []) (d2 := d - 1) d_282_39 lk_Mo_389 rfl (Nat.le_of_ble_eq_true rfl) (c := 1) (zb_90 I68) (zs_90 I68) ⟨by decide, rfl⟩ (by omega) (c_Mo_asks_90 (d - 1) (by omega) U I68 3 0 (-1) 0 (by omega) (by omega) (by omega) (by omega) (by omega) (by omega) (by omega) (by show 0 ≤ (h67 90 25) ∧ (h67 90 25) ≤ 2000000000; omega)) ?_
    rintro _ z102 h103 ⟨rfl, I104, f85, e86, e87, e88, e89, e90, e91, e92, e93, e94, e95, e96, e97, e98, e99, e100, e101⟩
    have E105 : h103 91 = h 91 := Eq.trans e86 E69
    have E106 : h103 92 = h 92 := Eq.trans e87 E70
    have E107 : h103 93 = h 93 := Eq.trans e88 E71
    have E108 : h103 94 = h 94 := Eq.trans e89 E72
    have E109 : h103 95 = h 95 := Eq.trans e90 E73
    have E110 : h103 96 = h 96 := Eq.trans e91 E74
    have E111 : h103 97 = h 97 := Eq.trans e92 E75
    have E112 : h103 98 = h 98 := Eq.trans e93 E76
    have E113 : h103 99 = h 99 := Eq.trans e94 E77
    have E114 : h103 100 = h 100 := Eq.trans e95 E78
    have E115 : h103 103 = h 103 := Eq.trans e96 E79
    have E116 : h103 104 = h 104 := Eq.trans e97 E80
    have E117 : h103 105 = h67 105 := e98
    have E118 : h103 106 = h67 106 := e99
    have E119 : h103 109 = h 109 := Eq.trans e100 E81
    have E120 : h103 114 = h 114 := Eq.trans e101 E82
    show ov_R u d ov_m282 42 [(0, ov_r 90), (1, ov_i x), (2, ov_i y), (3, ov_i s), (4, ov_i v49)] [] z102 h103 (P_Mo_gap_90 F z h x y s)
    have f121 : (h103 90 2) = (h67 90 2) ∧ (h103 90 7) = (h67 90 7) ∧ (h103 90 8) = (h67 90 8) ∧ (h103 90 13) = (h67 90 13) ∧ (h103 90 20) = (h67 90 20) ∧ (h103 90 22) = (h67 90 22) ∧ (h103 90 34) = (h67 90 34) ∧ (h103 90 26) = (3 : Int) ∧ (h103 90 27) = (0 : Int) ∧ (h103 90 28) = (h67 90 22) ∧ (h103 90 29) = ((-1) : Int) ∧ (h103 90 30) = (0 : Int) ∧ (((h103 90 25) = (h67 90 25) + 1) ∨ ((h103 90 25) = (h67 90 25) ∧ (h67 90 26) = (3 : Int) ∧ (h67 90 27) = (0 : Int) ∧ (h67 90 28) = (h67 90 22) ∧ (h67 90 29) = ((-1) : Int) ∧ (h67 90 30) = (0 : Int))) := f85
    clear f85
    have mi122 : ov_MI (h 96) (h 103) (h 97) (h 98) 3 (-1) 0 (h103 90 25) (h67 105) (h67 106) := ov_PM_ask pm84 (by omega)
    refine ov_blk (ls2 := [(0, ov_r 90), (1, ov_i x), (2, ov_i y), (3, ov_i s), (4, ov_i v49)]) (st2 := [ov_i s, ov_i y, ov_i x, ov_r 90]) (pc2 := 46) b_282_42_4 rfl rfl ?_
    have cf123 : h103 96 (0) = h 96 (0) := congrFun E110 (0)
    have cf124 : h103 96 (1) = h 96 (1) := congrFun E110 (1)
    have cf125 : h103 96 (8) = h 96 (8) := congrFun E110 (8)
    refine ov_cV (as := [ov_i x, ov_i y, ov_i s]) (st := []) (d2 := d - 1) d_282_46 lk_Mo_377 rfl (Nat.le_of_ble_eq_true rfl) (c := 1) (zb_90 I104) (zs_90 I104) ⟨by decide, rfl⟩ (by omega) (c_Mo_worthFrom_90_all 3 ((-1)) 0 ((h103 90 25)) (Int.toNat (13 - (x) - (y))) (d - 1) (by omega) U I104 x y s (by omega) (by omega) (by omega) (by omega) (by show x < (h103 96 0) ∧ y < (h103 96 1); omega) (by omega) (by omega) (by show (h103 90 26) = (3 : Int); omega) (by show (h103 90 29) = ((-1) : Int); omega) (by show (h103 90 30) = (0 : Int); omega) (by show (h103 90 25) = (h103 90 25); omega) (by show 0 ≤ (3 : Int) ∧ (3 : Int) ≤ 3 + (h103 96 8); omega) (by rw [show h103 96 = h 96 from E110]; exact W) (by rw [show h103 96 = h 96 from E110, show h103 97 = h 97 from E111, show h103 98 = h 98 from E112]; exact CD) (by rw [show h103 96 = h 96 from E110, show h103 103 = h 103 from E115, show h103 97 = h 97 from E111, show h103 98 = h 98 from E112, show h103 105 = h67 105 from E117, show h103 106 = h67 106 from E118]; exact mi122)) ?_
    rintro _ z144 h145 ⟨v127, rfl, I146, f126, e128, e129, e130, e131, e132, e133, e134, e135, e136, e137, e138, e139, e140, e141, y142, y143⟩
    have E147 : h145 91 = h 91 := Eq.trans e128 E105
    have E148 : h145 92 = h 92 := Eq.trans e129 E106
    have E149 : h145 93 = h 93 := Eq.trans e130 E107
    have E150 : h145 94 = h 94 := Eq.trans e131 E108
    have E151 : h145 95 = h 95 := Eq.trans e132 E109
    have E152 : h145 96 = h 96 := Eq.trans e133 E110
    have E153 : h145 97 = h 97 := Eq.trans e134 E111
    have E154 : h145 98 = h 98 := Eq.trans e135 E112
    have E155 : h145 99 = h 99 := Eq.trans e136 E113
    have E156 : h145 100 = h 100 := Eq.trans e137 E114
    have E157 : h145 103 = h 103 := Eq.trans e138 E115
    have E158 : h145 104 = h 104 := Eq.trans e139 E116
    have E159 : h145 109 = h 109 := Eq.trans e140 E119
    have E160 : h145 114 = h 114 := Eq.trans e141 E120
    show ov_R u d ov_m282 49 [(0, ov_r 90), (1, ov_i x), (2, ov_i y), (3, ov_i s), (4, ov_i v49)] [ov_i v127] z144 h145 (P_Mo_gap_90 F z h x y s)
    have f161 : (h145 90 2) = (h103 90 2) ∧ (h145 90 7) = (h103 90 7) ∧ (h145 90 8) = (h103 90 8) ∧ (h145 90 13) = (h103 90 13) ∧ (h145 90 20) = (h103 90 20) ∧ (h145 90 22) = (h103 90 22) ∧ (h145 90 25) = (h103 90 25) ∧ (h145 90 26) = (h103 90 26) ∧ (h145 90 28) = (h103 90 28) ∧ (h145 90 29) = (h103 90 29) ∧ (h145 90 30) = (h103 90 30) ∧ (h145 90 34) = (h103 90 34) ∧ -1 ≤ v127 ∧ v127 ≤ 89000 * (13 - x - y) := f126
    clear f126
    rw [show h103 103 = h 103 from E115] at y142
    rw [show h103 96 = h 96 from E110] at y142
    rw [show h103 97 = h 97 from E111] at y142
    rw [show h103 98 = h 98 from E112] at y142
    have y142_ : ov_MI (h 96) (h 103) (h 97) (h 98) (3 : Int) ((-1) : Int) (0 : Int) (h103 90 25) (h145 105) (h145 106) := y142
    rw [show h103 103 = h 103 from E115] at y143
    rw [show h103 96 = h 96 from E110] at y143
    rw [show h103 97 = h 97 from E111] at y143
    rw [show h103 98 = h 98 from E112] at y143
    have y143_ : (0 ≤ v127 ↔ ov_go (h 96) (h 103) (h 97) (h 98) (3 : Int) ((-1) : Int) (0 : Int) x y (s % (h 96 9))) := y143
    refine ov_blk (ls2 := [(0, ov_r 90), (1, ov_i x), (2, ov_i y), (3, ov_i s), (4, ov_i v49), (5, ov_i v127)]) (st2 := [ov_i v49]) (pc2 := 53) b_282_49_2 rfl rfl ?_
    refine ov_iflt (tgt := 61) d_282_53 (by decide) (by omega) (fun c162 => ?_) (fun c162 => ?_)
    · skip
      refine ov_blk (ls2 := [(0, ov_r 90), (1, ov_i x), (2, ov_i y), (3, ov_i s), (4, ov_i v49), (5, ov_i v127)]) (st2 := [ov_i (-1)]) (pc2 := 62) b_282_61_1 rfl rfl ?_
      refine ov_goto (tgt := 70) d_282_62 (by decide) ?_
      have pm163 : ov_PM (h 96) (h 103) (h 97) (h 98) (h145 105) (h145 106) (h145 90 22) (h145 90 25) (h145 90 26) (h145 90 28) (h145 90 29) (h145 90 30) := ov_PM_mi y142_ (by omega) (by omega) (by omega) (by omega) (by omega) (by omega)
      exact ov_reti (st := []) d_282_70 rfl ⟨_, rfl, I146, (by show (h145 90 2) = (h 90 2) ∧ (h145 90 7) = (h 90 7) ∧ (h145 90 8) = (h 90 8) ∧ (h145 90 13) = (h 90 13) ∧ (h145 90 20) = (h 90 20) ∧ (h145 90 22) = (h 90 22) ∧ (h145 90 34) = (h 90 34) ∧ (h 90 25) ≤ (h145 90 25) ∧ (h145 90 25) ≤ (h 90 25) + 2 ∧ -1200000 ≤ (-1) ∧ (-1) ≤ 1200000; omega), E147, E148, E149, E150, E151, E152, E153, E154, E155, E156, E157, E158, E159, E160, pm163⟩
    · skip
      refine ov_blk (ls2 := [(0, ov_r 90), (1, ov_i x), (2, ov_i y), (3, ov_i s), (4, ov_i v49), (5, ov_i v127)]) (st2 := [ov_i v127]) (pc2 := 58) b_282_56_1 rfl rfl ?_
      refine ov_ifge (tgt := 65) d_282_58 (by decide) (by omega) (fun c164 => ?_) (fun c164 => ?_)
      · skip
        refine ov_blk (ls2 := [(0, ov_r 90), (1, ov_i x), (2, ov_i y), (3, ov_i s), (4, ov_i v49), (5, ov_i v127)]) (st2 := [ov_i (v49 - v127)]) (pc2 := 70) b_282_65_3 rfl rfl ?_
        have pm165 : ov_PM (h 96) (h 103) (h 97) (h 98) (h145 105) (h145 106) (h145 90 22) (h145 90 25) (h145 90 26) (h145 90 28) (h145 90 29) (h145 90 30) := ov_PM_mi y142_ (by omega) (by omega) (by omega) (by omega) (by omega) (by omega)
        exact ov_reti (st := []) d_282_70 rfl ⟨_, rfl, I146, (by show (h145 90 2) = (h 90 2) ∧ (h145 90 7) = (h 90 7) ∧ (h145 90 8) = (h 90 8) ∧ (h145 90 13) = (h 90 13) ∧ (h145 90 20) = (h 90 20) ∧ (h145 90 22) = (h 90 22) ∧ (h145 90 34) = (h 90 34) ∧ (h 90 25) ≤ (h145 90 25) ∧ (h145 90 25) ≤ (h 90 25) + 2 ∧ -1200000 ≤ (v49 - v127) ∧ (v49 - v127) ≤ 1200000; omega), E147, E148, E149, E150, E151, E152, E153, E154, E155, E156, E157, E158, E159, E160, pm165⟩
      · skip
        refine ov_blk (ls2 := [(0, ov_r 90), (1, ov_i x), (2, ov_i y), (3, ov_i s), (4, ov_i v49), (5, ov_i v127)]) (st2 := [ov_i (-1)]) (pc2 := 62) b_282_61_1 rfl rfl ?_
        refine ov_goto (tgt := 70) d_282_62 (by decide) ?_
        have pm166 : ov_PM (h 96) (h 103) (h 97) (h 98) (h145 105) (h145 106) (h145 90 22) (h145 90 25) (h145 90 26) (h145 90 28) (h145 90 29) (h145 90 30) := ov_PM_mi y142_ (by omega) (by omega) (by omega) (by omega) (by omega) (by omega)
        exact ov_reti (st := []) d_282_70 rfl ⟨_, rfl, I146, (by show (h145 90 2) = (h 90 2) ∧ (h145 90 7) = (h 90 7) ∧ (h145 90 8) = (h 90 8) ∧ (h145 90 13) = (h 90 13) ∧ (h145 90 20) = (h 90 20) ∧ (h145 90 22) = (h 90 22) ∧ (h145 90 34) = (h 90 34) ∧ (h 90 25) ≤ (h145 90 25) ∧ (h145 90 25) ≤ (h 90 25) + 2 ∧ -1200000 ≤ (-1) ∧ (-1) ≤ 1200000; omega), E147, E148, E149, E150, E151, E152, E153, E154, E155, E156, E157, E158, E159, E160, pm166⟩
  · skip
    have f4_ : v3 = 0 := by omega
    clear f4
    refine ov_blk (ls2 := [(0, ov_r 90), (1, ov_i x), (2, ov_i y), (3, ov_i s)]) (st2 := [ov_i (-1)]) (pc2 := 16) b_282_15_1 rfl rfl ?_
    exact ov_reti (st := []) d_282_16 rfl ⟨_, rfl, I1, ⟨rfl, rfl, rfl, rfl, rfl, rfl, rfl, (by show (h 90 25) ≤ (h 90 25) ∧ (h 90 25) ≤ (h 90 25) + 2 ∧ -1200000 ≤ (-1) ∧ (-1) ≤ 1200000; omega)⟩, rfl, rfl, rfl, rfl, rfl, rfl, rfl, rfl, rfl, rfl, rfl, rfl, rfl, rfl, PM⟩
abbrev P_Mo_watch_90 (F : ov_H × ov_Z) (z : ov_Z) (h : ov_H) (x : Int) (y : Int) (s : Int) : Option ov_V → ov_Z → ov_H → Prop := fun r0 z' h' => ∃ r : Int, r0 = some (ov_i r) ∧ ov_N F z' h' ∧ ((h' 90 2) = (h 90 2) ∧ (h' 90 7) = (h 90 7) ∧ (h' 90 8) = (h 90 8) ∧ (h' 90 13) = (h 90 13) ∧ (h' 90 20) = (h 90 20) ∧ (h' 90 22) = (h 90 22) ∧ (h' 90 34) = (h 90 34) ∧ (h 90 25) ≤ (h' 90 25) ∧ (h' 90 25) ≤ (h 90 25) + 61 ∧ -2147483648 ≤ r ∧ r ≤ 2147483647) ∧ h' 91 = h 91 ∧ h' 92 = h 92 ∧ h' 93 = h 93 ∧ h' 94 = h 94 ∧ h' 95 = h 95 ∧ h' 96 = h 96 ∧ h' 97 = h 97 ∧ h' 98 = h 98 ∧ h' 99 = h 99 ∧ h' 100 = h 100 ∧ h' 103 = h 103 ∧ h' 104 = h 104 ∧ h' 109 = h 109 ∧ h' 114 = h 114 ∧ (ov_PM (h 96) (h 103) (h 97) (h 98) (h' 105) (h' 106) (h' 90 22) (h' 90 25) (h' 90 26) (h' 90 28) (h' 90 29) (h' 90 30))
set_option maxHeartbeats 4000000 in
theorem c_Mo_watch_90 {u : ov_U} {F : ov_H × ov_Z} {z : ov_Z} {h : ov_H} (d : Nat) (hd : 92 ≤ d) (U : ov_cap u) (I : ov_N F z h) (x : Int) (y : Int) (s : Int) (g_x : ov_g x) (g_y : ov_g y) (g_s : ov_g s) (p0 : 0 ≤ (h 90 25) ∧ (h 90 25) ≤ 1500000000) (W : ov_WT (h 96)) (CD : ov_CD (h 96) (h 97) (h 98)) (PM : ov_PM (h 96) (h 103) (h 97) (h 98) (h 105) (h 106) (h 90 22) (h 90 25) (h 90 26) (h 90 28) (h 90 29) (h 90 30)) : ov_T u d ov_m283 [ov_r 90, ov_i x, ov_i y, ov_i s] z h (P_Mo_watch_90 F z h x y s) := by
  refine ov_en rfl (Nat.le_of_ble_eq_true rfl) ?_
  show ov_R u d ov_m283 0 [(0, ov_r 90), (1, ov_i x), (2, ov_i y), (3, ov_i s)] [] z h (P_Mo_watch_90 F z h x y s)
  have t0 := t96_0 I
  have t1 := t96_1 I
  have t8 := t96_8 I
  have t9 := t96_9 I
  refine ov_blk (ls2 := [(0, ov_r 90), (1, ov_i x), (2, ov_i y), (3, ov_i s)]) (st2 := [ov_i 0, ov_r 90]) (pc2 := 2) b_283_0_2 rfl rfl ?_
  refine ov_putf (x := 0) d_283_2 fl_Mo_1 (zb_90 I) (zs_90 I) rfl nk_0 rfl ?_
  have I1 := up_90_0 (x := 0) I (by omega)
  refine ov_blk (ls2 := [(0, ov_r 90), (1, ov_i x), (2, ov_i y), (3, ov_i s)]) (st2 := [ov_i s, ov_i y, ov_i x, ov_r 90]) (pc2 := 9) b_283_5_4 rfl rfl ?_
  refine ov_cV (as := [ov_i x, ov_i y, ov_i s]) (st := []) (d2 := d - 1) d_283_9 lk_Mo_386 rfl (Nat.le_of_ble_eq_true rfl) (c := 1) (zb_90 I1) (zs_90 I1) ⟨by decide, rfl⟩ (by omega) (c_Mo_isPlace_90 (d - 1) (by omega) U I1 x y s (by omega) (by omega) (by omega)) ?_
  rintro _ _ _ ⟨v3, rfl, rfl, rfl, f2⟩
  show ov_R u d ov_m283 12 [(0, ov_r 90), (1, ov_i x), (2, ov_i y), (3, ov_i s)] [ov_i v3] z (ov_up h 90 0 0) (P_Mo_watch_90 F z h x y s)
  have f4 : (v3 = 0 ∨ v3 = 1) ∧ (v3 = 1 → 0 ≤ x ∧ x ≤ 5 ∧ 0 ≤ y ∧ y ≤ 8 ∧ x < (h 96 0) ∧ y < (h 96 1) ∧ 0 ≤ s ∧ s ≤ 1000000) := f2
  clear f2
  refine ov_ifeq (tgt := 34) d_283_12 (by decide) (by omega) (fun c5 => ?_) (fun c5 => ?_)
  · skip
    have f4_ : v3 = 0 := by omega
    clear f4
    refine ov_blk (ls2 := [(0, ov_r 90), (1, ov_i x), (2, ov_i y), (3, ov_i s)]) (st2 := [ov_i (-1)]) (pc2 := 35) b_283_34_1 rfl rfl ?_
    exact ov_reti (st := []) d_283_35 rfl ⟨_, rfl, I1, ⟨rfl, rfl, rfl, rfl, rfl, rfl, rfl, (by show (h 90 25) ≤ (h 90 25) ∧ (h 90 25) ≤ (h 90 25) + 61 ∧ -2147483648 ≤ (-1) ∧ (-1) ≤ 2147483647; omega)⟩, rfl, rfl, rfl, rfl, rfl, rfl, rfl, rfl, rfl, rfl, rfl, rfl, rfl, rfl, PM⟩
  · skip
    have f4_ : v3 = 1 := by omega
    have f6 : 0 ≤ x ∧ x ≤ 5 ∧ 0 ≤ y ∧ y ≤ 8 ∧ x < (h 96 0) ∧ y < (h 96 1) ∧ 0 ≤ s ∧ s ≤ 1000000 := f4.2 (by omega)
    clear f4
    refine ov_blk (ls2 := [(0, ov_r 90), (1, ov_i x), (2, ov_i y), (3, ov_i s)]) (st2 := [ov_i y, ov_i x, ov_r 90]) (pc2 := 18) b_283_15_3 rfl rfl ?_
    refine ov_cV (as := [ov_i x, ov_i y]) (st := []) (d2 := d - 1) d_283_18 lk_Mo_282 rfl (Nat.le_of_ble_eq_true rfl) (c := 1) (zb_90 I1) (zs_90 I1) ⟨by decide, rfl⟩ (by omega) (c_Mo_kindAt_90 (d - 1) (by omega) U I1 x y (by omega) (by omega) (by omega)) ?_
    rintro _ _ _ ⟨v8, rfl, rfl, rfl, f7⟩
    show ov_R u d ov_m283 21 [(0, ov_r 90), (1, ov_i x), (2, ov_i y), (3, ov_i s)] [ov_i v8] z (ov_up h 90 0 0) (P_Mo_watch_90 F z h x y s)
    have f9 : v8 = (h 96 (10 + 4 * (6 * y + x))) - 1 ∧ -1 ≤ v8 ∧ v8 ≤ 3 := f7
    clear f7
    refine ov_blk (ls2 := [(0, ov_r 90), (1, ov_i x), (2, ov_i y), (3, ov_i s)]) (st2 := [ov_i 1, ov_i v8]) (pc2 := 22) b_283_21_1 rfl rfl ?_
    refine ov_icne (tgt := 34) d_283_22 (by decide) (by omega) (by omega) (fun c10 => ?_) (fun c10 => ?_)
    · skip
      refine ov_blk (ls2 := [(0, ov_r 90), (1, ov_i x), (2, ov_i y), (3, ov_i s)]) (st2 := [ov_i (-1)]) (pc2 := 35) b_283_34_1 rfl rfl ?_
      exact ov_reti (st := []) d_283_35 rfl ⟨_, rfl, I1, ⟨rfl, rfl, rfl, rfl, rfl, rfl, rfl, (by show (h 90 25) ≤ (h 90 25) ∧ (h 90 25) ≤ (h 90 25) + 61 ∧ -2147483648 ≤ (-1) ∧ (-1) ≤ 2147483647; omega)⟩, rfl, rfl, rfl, rfl, rfl, rfl, rfl, rfl, rfl, rfl, rfl, rfl, rfl, rfl, PM⟩
    · skip
      refine ov_blk (ls2 := [(0, ov_r 90), (1, ov_i x), (2, ov_i y), (3, ov_i s)]) (st2 := [ov_i y, ov_i x, ov_r 90]) (pc2 := 28) b_283_25_3 rfl rfl ?_
      refine ov_cV (as := [ov_i x, ov_i y]) (st := []) (d2 := d - 1) d_283_28 lk_Mo_302 rfl (Nat.le_of_ble_eq_true rfl) (c := 1) (zb_90 I1) (zs_90 I1) ⟨by decide, rfl⟩ (by omega) (c_Mo_isKnown_90 (d - 1) (by omega) U I1 x y (by omega) (by omega) (by omega)) ?_
      rintro _ _ _ ⟨v12, rfl, rfl, rfl, f11⟩
      show ov_R u d ov_m283 31 [(0, ov_r 90), (1, ov_i x), (2, ov_i y), (3, ov_i s)] [ov_i v12] z (ov_up h 90 0 0) (P_Mo_watch_90 F z h x y s)
      have f13 : (v12 = 0 ∨ v12 = 1) ∧ (v12 = 1 → ((h 96 (10 + 4 * (6 * y + x))) = 2 ∧ (h 103 (4 + 6 * y + x)) = 1)) ∧ (v12 = 0 → ¬ ((h 96 (10 + 4 * (6 * y + x))) = 2 ∧ (h 103 (4 + 6 * y + x)) = 1)) := f11
      clear f11
      refine ov_ifeq (tgt := 36) d_283_31 (by decide) (by omega) (fun c14 => ?_) (fun c14 => ?_)
      · skip
        have f13_ : v12 = 0 := by omega
        have f15 : ¬ ((h 96 (10 + 4 * (6 * y + x))) = 2 ∧ (h 103 (4 + 6 * y + x)) = 1) := f13.2.2 (by omega)
        clear f13
        have w1 := ov_WT_at W (c := 6 * y + x) (by omega)
        refine ov_blk (ls2 := [(0, ov_r 90), (1, ov_i x), (2, ov_i y), (3, ov_i s)]) (st2 := [ov_i 0, ov_i (-1), ov_i 0, ov_i 3, ov_r 90]) (pc2 := 41) b_283_36_5 rfl rfl ?_
        refine ov_cV (as := [ov_i 3, ov_i 0, ov_i (-1), ov_i 0]) (st := []) (d2 := d - 1) d_283_41 lk_Mo_389 rfl (Nat.le_of_ble_eq_true rfl) (c := 1) (zb_90 I1) (zs_90 I1) ⟨by decide, rfl⟩ (by omega) (c_Mo_asks_90 (d - 1) (by omega) U I1 3 0 (-1) 0 (by omega) (by omega) (by omega) (by omega) (by omega) (by omega) (by omega) (by show 0 ≤ (h 90 25) ∧ (h 90 25) ≤ 2000000000; omega)) ?_
        rintro _ z33 h34 ⟨rfl, I35, f16, e17, e18, e19, e20, e21, e22, e23, e24, e25, e26, e27, e28, e29, e30, e31, e32⟩
        have E36 : h34 91 = h 91 := e17
        have E37 : h34 92 = h 92 := e18
        have E38 : h34 93 = h 93 := e19
        have E39 : h34 94 = h 94 := e20
        have E40 : h34 95 = h 95 := e21
        have E41 : h34 96 = h 96 := e22
        have E42 : h34 97 = h 97 := e23
        have E43 : h34 98 = h 98 := e24
        have E44 : h34 99 = h 99 := e25
        have E45 : h34 100 = h 100 := e26
        have E46 : h34 103 = h 103 := e27
        have E47 : h34 104 = h 104 := e28
        have E48 : h34 105 = h 105 := e29
        have E49 : h34 106 = h 106 := e30
        have E50 : h34 109 = h 109 := e31
        have E51 : h34 114 = h 114 := e32
        show ov_R u d ov_m283 44 [(0, ov_r 90), (1, ov_i x), (2, ov_i y), (3, ov_i s)] [] z33 h34 (P_Mo_watch_90 F z h x y s)
        have f52 : (h34 90 2) = (h 90 2) ∧ (h34 90 7) = (h 90 7) ∧ (h34 90 8) = (h 90 8) ∧ (h34 90 13) = (h 90 13) ∧ (h34 90 20) = (h 90 20) ∧ (h34 90 22) = (h 90 22) ∧ (h34 90 34) = (h 90 34) ∧ (h34 90 26) = (3 : Int) ∧ (h34 90 27) = (0 : Int) ∧ (h34 90 28) = (h 90 22) ∧ (h34 90 29) = ((-1) : Int) ∧ (h34 90 30) = (0 : Int) ∧ (((h34 90 25) = (h 90 25) + 1) ∨ ((h34 90 25) = (h 90 25) ∧ (h 90 26) = (3 : Int) ∧ (h 90 27) = (0 : Int) ∧ (h 90 28) = (h 90 22) ∧ (h 90 29) = ((-1) : Int) ∧ (h 90 30) = (0 : Int))) := f16
        clear f16
        have mi53 : ov_MI (h 96) (h 103) (h 97) (h 98) 3 (-1) 0 (h34 90 25) (h 105) (h 106) := ov_PM_ask PM (by omega)
        refine ov_blk (ls2 := [(0, ov_r 90), (1, ov_i x), (2, ov_i y), (3, ov_i s)]) (st2 := [ov_i s, ov_i 0, ov_i 0, ov_r 90]) (pc2 := 48) b_283_44_4 rfl rfl ?_
        have cf54 : h34 96 (0) = h 96 (0) := congrFun E41 (0)
        have cf55 : h34 96 (1) = h 96 (1) := congrFun E41 (1)
        have cf56 : h34 96 (8) = h 96 (8) := congrFun E41 (8)
        refine ov_cV (as := [ov_i 0, ov_i 0, ov_i s]) (st := []) (d2 := d - 1) d_283_48 lk_Mo_377 rfl (Nat.le_of_ble_eq_true rfl) (c := 1) (zb_90 I35) (zs_90 I35) ⟨by decide, rfl⟩ (by omega) (c_Mo_worthFrom_90_all 3 ((-1)) 0 ((h34 90 25)) (Int.toNat (13 - (0) - (0))) (d - 1) (by omega) U I35 0 0 s (by omega) (by omega) (by omega) (by omega) (by show (0 : Int) < (h34 96 0) ∧ (0 : Int) < (h34 96 1); omega) (by omega) (by omega) (by show (h34 90 26) = (3 : Int); omega) (by show (h34 90 29) = ((-1) : Int); omega) (by show (h34 90 30) = (0 : Int); omega) (by show (h34 90 25) = (h34 90 25); omega) (by show 0 ≤ (3 : Int) ∧ (3 : Int) ≤ 3 + (h34 96 8); omega) (by rw [show h34 96 = h 96 from E41]; exact W) (by rw [show h34 96 = h 96 from E41, show h34 97 = h 97 from E42, show h34 98 = h 98 from E43]; exact CD) (by rw [show h34 96 = h 96 from E41, show h34 103 = h 103 from E46, show h34 97 = h 97 from E42, show h34 98 = h 98 from E43, show h34 105 = h 105 from E48, show h34 106 = h 106 from E49]; exact mi53)) ?_
        rintro _ z75 h76 ⟨v58, rfl, I77, f57, e59, e60, e61, e62, e63, e64, e65, e66, e67, e68, e69, e70, e71, e72, y73, y74⟩
        have E78 : h76 91 = h 91 := Eq.trans e59 E36
        have E79 : h76 92 = h 92 := Eq.trans e60 E37
        have E80 : h76 93 = h 93 := Eq.trans e61 E38
        have E81 : h76 94 = h 94 := Eq.trans e62 E39
        have E82 : h76 95 = h 95 := Eq.trans e63 E40
        have E83 : h76 96 = h 96 := Eq.trans e64 E41
        have E84 : h76 97 = h 97 := Eq.trans e65 E42
        have E85 : h76 98 = h 98 := Eq.trans e66 E43
        have E86 : h76 99 = h 99 := Eq.trans e67 E44
        have E87 : h76 100 = h 100 := Eq.trans e68 E45
        have E88 : h76 103 = h 103 := Eq.trans e69 E46
        have E89 : h76 104 = h 104 := Eq.trans e70 E47
        have E90 : h76 109 = h 109 := Eq.trans e71 E50
        have E91 : h76 114 = h 114 := Eq.trans e72 E51
        show ov_R u d ov_m283 51 [(0, ov_r 90), (1, ov_i x), (2, ov_i y), (3, ov_i s)] [ov_i v58] z75 h76 (P_Mo_watch_90 F z h x y s)
        have f92 : (h76 90 2) = (h34 90 2) ∧ (h76 90 7) = (h34 90 7) ∧ (h76 90 8) = (h34 90 8) ∧ (h76 90 13) = (h34 90 13) ∧ (h76 90 20) = (h34 90 20) ∧ (h76 90 22) = (h34 90 22) ∧ (h76 90 25) = (h34 90 25) ∧ (h76 90 26) = (h34 90 26) ∧ (h76 90 28) = (h34 90 28) ∧ (h76 90 29) = (h34 90 29) ∧ (h76 90 30) = (h34 90 30) ∧ (h76 90 34) = (h34 90 34) ∧ -1 ≤ v58 ∧ v58 ≤ 89000 * (13 - (0 : Int) - (0 : Int)) := f57
        clear f57
        rw [show h34 103 = h 103 from E46] at y73
        rw [show h34 96 = h 96 from E41] at y73
        rw [show h34 97 = h 97 from E42] at y73
        rw [show h34 98 = h 98 from E43] at y73
        have y73_ : ov_MI (h 96) (h 103) (h 97) (h 98) (3 : Int) ((-1) : Int) (0 : Int) (h34 90 25) (h76 105) (h76 106) := y73
        rw [show h34 103 = h 103 from E46] at y74
        rw [show h34 96 = h 96 from E41] at y74
        rw [show h34 97 = h 97 from E42] at y74
        rw [show h34 98 = h 98 from E43] at y74
        have y74_ : (0 ≤ v58 ↔ ov_go (h 96) (h 103) (h 97) (h 98) (3 : Int) ((-1) : Int) (0 : Int) (0 : Int) (0 : Int) (s % (h 96 9))) := y74
        refine ov_blk (ls2 := [(0, ov_r 90), (1, ov_i x), (2, ov_i y), (3, ov_i s), (4, ov_i v58)]) (st2 := []) (pc2 := 53) b_283_51_1 rfl rfl ?_
        have pm93 : ov_PM (h 96) (h 103) (h 97) (h 98) (h76 105) (h76 106) (h76 90 22) (h76 90 25) (h76 90 26) (h76 90 28) (h76 90 29) (h76 90 30) := ov_PM_mi y73_ (by omega) (by omega) (by omega) (by omega) (by omega) (by omega)
        refine ov_blk (ls2 := [(0, ov_r 90), (1, ov_i x), (2, ov_i y), (3, ov_i s), (4, ov_i v58), (5, ov_l 0), (7, ov_i 0)]) (st2 := []) (pc2 := 59) b_283_53_4 rfl rfl ?_
        have L97 : ∀ (n94 : Nat) (x5 : Int) (x7 : Int) (z98 : ov_Z) (h99 : ov_H) (I100 : ov_N F z98 h99) (E101 : h99 91 = h 91) (E102 : h99 92 = h 92) (E103 : h99 93 = h 93) (E104 : h99 94 = h 94) (E105 : h99 95 = h 95) (E106 : h99 96 = h 96) (E107 : h99 97 = h 97) (E108 : h99 98 = h 98) (E109 : h99 99 = h 99) (E110 : h99 100 = h 100) (E111 : h99 103 = h 103) (E112 : h99 104 = h 104) (E113 : h99 109 = h 109) (E114 : h99 114 = h 114) (xp : ov_PM (h 96) (h 103) (h 97) (h 98) (h99 105) (h99 106) (h99 90 22) (h99 90 25) (h99 90 26) (h99 90 28) (h99 90 29) (h99 90 30)) (q96 : 0 ≤ x7 ∧ x7 ≤ 60 ∧ -60 ≤ x5 ∧ x5 ≤ 1200000 * x7 ∧ -x7 ≤ x5 ∧ -1 ≤ v58 ∧ v58 ≤ 1200000 ∧ (h 90 25) ≤ (h99 90 25) ∧ (h99 90 25) ≤ (h 90 25) + 1 + x7 ∧ (h99 90 22) = (h 90 22) ∧ (h99 90 2) = (h76 90 2) ∧ (h99 90 7) = (h76 90 7) ∧ (h99 90 8) = (h76 90 8) ∧ (h99 90 13) = (h76 90 13) ∧ (h99 90 20) = (h76 90 20) ∧ (h99 90 22) = (h76 90 22) ∧ (h99 90 34) = (h76 90 34)), 60 - x7 < (n94 : Int) → ov_R u d ov_m283 59 [(0, ov_r 90), (1, ov_i x), (2, ov_i y), (3, ov_i s), (4, ov_i v58), (5, ov_l x5), (7, ov_i x7)] [] z98 h99 (P_Mo_watch_90 F z h x y s) := by
          intro n94
          induction n94 with
          | zero =>
            intro x5 x7 z98 h99 I100 E101 E102 E103 E104 E105 E106 E107 E108 E109 E110 E111 E112 E113 E114 xp q96 hn115
            exact absurd hn115 (by omega)
          | succ n94 ih95 =>
            intro x5 x7 z98 h99 I100 E101 E102 E103 E104 E105 E106 E107 E108 E109 E110 E111 E112 E113 E114 xp q96 hn115
            refine ov_blk (ls2 := [(0, ov_r 90), (1, ov_i x), (2, ov_i y), (3, ov_i s), (4, ov_i v58), (5, ov_l x5), (7, ov_i x7)]) (st2 := [ov_i 1, ov_i y, ov_i x, ov_r 90, ov_i x7]) (pc2 := 65) b_283_59_5 rfl rfl ?_
            refine ov_cV (as := [ov_i x, ov_i y, ov_i 1]) (st := [ov_i x7]) (d2 := d - 1) d_283_65 lk_Mo_289 rfl (Nat.le_of_ble_eq_true rfl) (c := 1) (zb_90 I100) (zs_90 I100) ⟨by decide, rfl⟩ (by omega) (c_Mo_lightAt_90 (d - 1) (by omega) U I100 x y 1 (by omega) (by omega) (by omega) (by omega) (by omega)) ?_
            rintro _ _ _ ⟨v117, rfl, rfl, rfl, f116⟩
            show ov_R u d ov_m283 68 [(0, ov_r 90), (1, ov_i x), (2, ov_i y), (3, ov_i s), (4, ov_i v58), (5, ov_l x5), (7, ov_i x7)] [ov_i v117, ov_i x7] z98 h99 (P_Mo_watch_90 F z h x y s)
            rw [show h99 96 = h 96 from E106] at f116
            have f118 : v117 = (h 96 (10 + 4 * (6 * y + x) + (1 : Int))) ∧ ((1 : Int) = 1 → 0 ≤ v117 ∧ v117 ≤ 60) ∧ ((1 : Int) = 2 → 0 ≤ v117 ∧ v117 ≤ 59) ∧ ((1 : Int) = 3 → 0 ≤ v117 ∧ v117 ≤ 60) := f116
            clear f116
            refine ov_icge (tgt := 109) d_283_68 (by decide) (by omega) (by omega) (fun c119 => ?_) (fun c119 => ?_)
            · skip
              refine ov_blk (ls2 := [(0, ov_r 90), (1, ov_i x), (2, ov_i y), (3, ov_i s), (4, ov_i v58), (5, ov_l x5), (7, ov_i x7)]) (st2 := [ov_i v58]) (pc2 := 111) b_283_109_1 rfl rfl ?_
              refine ov_ifge (tgt := 118) d_283_111 (by decide) (by omega) (fun c120 => ?_) (fun c120 => ?_)
              · skip
                refine ov_blk (ls2 := [(0, ov_r 90), (1, ov_i x), (2, ov_i y), (3, ov_i s), (4, ov_i v58), (5, ov_l x5), (7, ov_i x7)]) (st2 := [ov_i 1, ov_i y, ov_i x, ov_r 90, ov_l x5, ov_i v58]) (pc2 := 126) b_283_118_6 rfl rfl ?_
                refine ov_cV (as := [ov_i x, ov_i y, ov_i 1]) (st := [ov_l x5, ov_i v58]) (d2 := d - 1) d_283_126 lk_Mo_289 rfl (Nat.le_of_ble_eq_true rfl) (c := 1) (zb_90 I100) (zs_90 I100) ⟨by decide, rfl⟩ (by omega) (c_Mo_lightAt_90 (d - 1) (by omega) U I100 x y 1 (by omega) (by omega) (by omega) (by omega) (by omega)) ?_
                rintro _ _ _ ⟨v122, rfl, rfl, rfl, f121⟩
                show ov_R u d ov_m283 129 [(0, ov_r 90), (1, ov_i x), (2, ov_i y), (3, ov_i s), (4, ov_i v58), (5, ov_l x5), (7, ov_i x7)] [ov_i v122, ov_l x5, ov_i v58] z98 h99 (P_Mo_watch_90 F z h x y s)
                rw [show h99 96 = h 96 from E106] at f121
                have f123 : v122 = (h 96 (10 + 4 * (6 * y + x) + (1 : Int))) ∧ ((1 : Int) = 1 → 0 ≤ v122 ∧ v122 ≤ 60) ∧ ((1 : Int) = 2 → 0 ≤ v122 ∧ v122 ≤ 59) ∧ ((1 : Int) = 3 → 0 ≤ v122 ∧ v122 ≤ 60) := f121
                clear f121
                refine ov_blk (ls2 := [(0, ov_r 90), (1, ov_i x), (2, ov_i y), (3, ov_i s), (4, ov_i v58), (5, ov_l x5), (7, ov_i x7)]) (st2 := [ov_l (ov_w v122), ov_l x5, ov_i v58]) (pc2 := 130) b_283_129_1 rfl rfl ?_
                have g124 := ov_wg v122
                have g125 := ov_wq v122
                have xd := ov_tds (a := x5) (b := (ov_w v122)) (by omega)
                refine ov_ldiv d_283_130 (by omega) (by omega) (by omega) ?_
                refine ov_blk (ls2 := [(0, ov_r 90), (1, ov_i x), (2, ov_i y), (3, ov_i s), (4, ov_i v58), (5, ov_l x5), (7, ov_i x7)]) (st2 := [ov_i (Int.tdiv x5 (ov_w v122)), ov_i v58]) (pc2 := 132) b_283_131_1 rfl rfl ?_
                refine ov_blk (ls2 := [(0, ov_r 90), (1, ov_i x), (2, ov_i y), (3, ov_i s), (4, ov_i v58), (5, ov_l x5), (7, ov_i x7)]) (st2 := [ov_i (v58 - (Int.tdiv x5 (ov_w v122)))]) (pc2 := 133) b_283_132_1 rfl rfl ?_
                exact ov_reti (st := []) d_283_133 rfl ⟨_, rfl, I100, (by show (h99 90 2) = (h 90 2) ∧ (h99 90 7) = (h 90 7) ∧ (h99 90 8) = (h 90 8) ∧ (h99 90 13) = (h 90 13) ∧ (h99 90 20) = (h 90 20) ∧ (h99 90 22) = (h 90 22) ∧ (h99 90 34) = (h 90 34) ∧ (h 90 25) ≤ (h99 90 25) ∧ (h99 90 25) ≤ (h 90 25) + 61 ∧ -2147483648 ≤ (v58 - (Int.tdiv x5 (ov_w v122))) ∧ (v58 - (Int.tdiv x5 (ov_w v122))) ≤ 2147483647; omega), E101, E102, E103, E104, E105, E106, E107, E108, E109, E110, E111, E112, E113, E114, xp⟩
              · skip
                refine ov_blk (ls2 := [(0, ov_r 90), (1, ov_i x), (2, ov_i y), (3, ov_i s), (4, ov_i v58), (5, ov_l x5), (7, ov_i x7)]) (st2 := [ov_i (-1)]) (pc2 := 115) b_283_114_1 rfl rfl ?_
                refine ov_goto (tgt := 133) d_283_115 (by decide) ?_
                exact ov_reti (st := []) d_283_133 rfl ⟨_, rfl, I100, (by show (h99 90 2) = (h 90 2) ∧ (h99 90 7) = (h 90 7) ∧ (h99 90 8) = (h 90 8) ∧ (h99 90 13) = (h 90 13) ∧ (h99 90 20) = (h 90 20) ∧ (h99 90 22) = (h 90 22) ∧ (h99 90 34) = (h 90 34) ∧ (h 90 25) ≤ (h99 90 25) ∧ (h99 90 25) ≤ (h 90 25) + 61 ∧ -2147483648 ≤ (-1) ∧ (-1) ≤ 2147483647; omega), E101, E102, E103, E104, E105, E106, E107, E108, E109, E110, E111, E112, E113, E114, xp⟩
            · skip
              refine ov_blk (ls2 := [(0, ov_r 90), (1, ov_i x), (2, ov_i y), (3, ov_i s), (4, ov_i v58), (5, ov_l x5), (7, ov_i x7)]) (st2 := [ov_i v58]) (pc2 := 73) b_283_71_1 rfl rfl ?_
              refine ov_iflt (tgt := 109) d_283_73 (by decide) (by omega) (fun c126 => ?_) (fun c126 => ?_)
              · skip
                refine ov_blk (ls2 := [(0, ov_r 90), (1, ov_i x), (2, ov_i y), (3, ov_i s), (4, ov_i v58), (5, ov_l x5), (7, ov_i x7)]) (st2 := [ov_i v58]) (pc2 := 111) b_283_109_1 rfl rfl ?_
                refine ov_ifge (tgt := 118) d_283_111 (by decide) (by omega) (fun c127 => ?_) (fun c127 => ?_)
                · omega
                · skip
                  refine ov_blk (ls2 := [(0, ov_r 90), (1, ov_i x), (2, ov_i y), (3, ov_i s), (4, ov_i v58), (5, ov_l x5), (7, ov_i x7)]) (st2 := [ov_i (-1)]) (pc2 := 115) b_283_114_1 rfl rfl ?_
                  refine ov_goto (tgt := 133) d_283_115 (by decide) ?_
                  exact ov_reti (st := []) d_283_133 rfl ⟨_, rfl, I100, (by show (h99 90 2) = (h 90 2) ∧ (h99 90 7) = (h 90 7) ∧ (h99 90 8) = (h 90 8) ∧ (h99 90 13) = (h 90 13) ∧ (h99 90 20) = (h 90 20) ∧ (h99 90 22) = (h 90 22) ∧ (h99 90 34) = (h 90 34) ∧ (h 90 25) ≤ (h99 90 25) ∧ (h99 90 25) ≤ (h 90 25) + 61 ∧ -2147483648 ≤ (-1) ∧ (-1) ≤ 2147483647; omega), E101, E102, E103, E104, E105, E106, E107, E108, E109, E110, E111, E112, E113, E114, xp⟩
              · skip
                refine ov_blk (ls2 := [(0, ov_r 90), (1, ov_i x), (2, ov_i y), (3, ov_i s), (4, ov_i v58), (5, ov_l x5), (7, ov_i x7)]) (st2 := [ov_i x7, ov_i ((6 * y) + x), ov_i 0, ov_i 3, ov_r 90]) (pc2 := 87) b_283_76_9 rfl rfl ?_
                refine ov_cV (as := [ov_i 3, ov_i 0, ov_i ((6 * y) + x), ov_i x7]) (st := []) (d2 := d - 1) d_283_87 lk_Mo_389 rfl (Nat.le_of_ble_eq_true rfl) (c := 1) (zb_90 I100) (zs_90 I100) ⟨by decide, rfl⟩ (by omega) (c_Mo_asks_90 (d - 1) (by omega) U I100 3 0 ((6 * y) + x) x7 (by omega) (by omega) (by omega) (by omega) (by omega) (by omega) (by omega) (by show 0 ≤ (h99 90 25) ∧ (h99 90 25) ≤ 2000000000; omega)) ?_
                rintro _ z145 h146 ⟨rfl, I147, f128, e129, e130, e131, e132, e133, e134, e135, e136, e137, e138, e139, e140, e141, e142, e143, e144⟩
                have E148 : h146 91 = h 91 := Eq.trans e129 E101
                have E149 : h146 92 = h 92 := Eq.trans e130 E102
                have E150 : h146 93 = h 93 := Eq.trans e131 E103
                have E151 : h146 94 = h 94 := Eq.trans e132 E104
                have E152 : h146 95 = h 95 := Eq.trans e133 E105
                have E153 : h146 96 = h 96 := Eq.trans e134 E106
                have E154 : h146 97 = h 97 := Eq.trans e135 E107
                have E155 : h146 98 = h 98 := Eq.trans e136 E108
                have E156 : h146 99 = h 99 := Eq.trans e137 E109
                have E157 : h146 100 = h 100 := Eq.trans e138 E110
                have E158 : h146 103 = h 103 := Eq.trans e139 E111
                have E159 : h146 104 = h 104 := Eq.trans e140 E112
                have E160 : h146 105 = h99 105 := e141
                have E161 : h146 106 = h99 106 := e142
                have E162 : h146 109 = h 109 := Eq.trans e143 E113
                have E163 : h146 114 = h 114 := Eq.trans e144 E114
                show ov_R u d ov_m283 90 [(0, ov_r 90), (1, ov_i x), (2, ov_i y), (3, ov_i s), (4, ov_i v58), (5, ov_l x5), (7, ov_i x7)] [] z145 h146 (P_Mo_watch_90 F z h x y s)
                have f164 : (h146 90 2) = (h99 90 2) ∧ (h146 90 7) = (h99 90 7) ∧ (h146 90 8) = (h99 90 8) ∧ (h146 90 13) = (h99 90 13) ∧ (h146 90 20) = (h99 90 20) ∧ (h146 90 22) = (h99 90 22) ∧ (h146 90 34) = (h99 90 34) ∧ (h146 90 26) = (3 : Int) ∧ (h146 90 27) = (0 : Int) ∧ (h146 90 28) = (h99 90 22) ∧ (h146 90 29) = ((6 * y) + x) ∧ (h146 90 30) = x7 ∧ (((h146 90 25) = (h99 90 25) + 1) ∨ ((h146 90 25) = (h99 90 25) ∧ (h99 90 26) = (3 : Int) ∧ (h99 90 27) = (0 : Int) ∧ (h99 90 28) = (h99 90 22) ∧ (h99 90 29) = ((6 * y) + x) ∧ (h99 90 30) = x7)) := f128
                clear f128
                have mi165 : ov_MI (h 96) (h 103) (h 97) (h 98) 3 ((6 * y) + x) x7 (h146 90 25) (h99 105) (h99 106) := ov_PM_ask xp (by omega)
                refine ov_blk (ls2 := [(0, ov_r 90), (1, ov_i x), (2, ov_i y), (3, ov_i s), (4, ov_i v58), (5, ov_l x5), (7, ov_i x7)]) (st2 := [ov_i s, ov_i 0, ov_i 0, ov_r 90, ov_l x5]) (pc2 := 96) b_283_90_5 rfl rfl ?_
                have cf166 : h146 96 (0) = h 96 (0) := congrFun E153 (0)
                have cf167 : h146 96 (1) = h 96 (1) := congrFun E153 (1)
                have cf168 : h146 96 (8) = h 96 (8) := congrFun E153 (8)
                refine ov_cV (as := [ov_i 0, ov_i 0, ov_i s]) (st := [ov_l x5]) (d2 := d - 1) d_283_96 lk_Mo_377 rfl (Nat.le_of_ble_eq_true rfl) (c := 1) (zb_90 I147) (zs_90 I147) ⟨by decide, rfl⟩ (by omega) (c_Mo_worthFrom_90_all 3 ((6 * y + x)) x7 ((h146 90 25)) (Int.toNat (13 - (0) - (0))) (d - 1) (by omega) U I147 0 0 s (by omega) (by omega) (by omega) (by omega) (by show (0 : Int) < (h146 96 0) ∧ (0 : Int) < (h146 96 1); omega) (by omega) (by omega) (by show (h146 90 26) = (3 : Int); omega) (by show (h146 90 29) = (6 * y + x); omega) (by show (h146 90 30) = x7; omega) (by show (h146 90 25) = (h146 90 25); omega) (by show 0 ≤ (3 : Int) ∧ (3 : Int) ≤ 3 + (h146 96 8); omega) (by rw [show h146 96 = h 96 from E153]; exact W) (by rw [show h146 96 = h 96 from E153, show h146 97 = h 97 from E154, show h146 98 = h 98 from E155]; exact CD) (by rw [show h146 96 = h 96 from E153, show h146 103 = h 103 from E158, show h146 97 = h 97 from E154, show h146 98 = h 98 from E155, show h146 105 = h99 105 from E160, show h146 106 = h99 106 from E161]; exact mi165)) ?_
                rintro _ z187 h188 ⟨v170, rfl, I189, f169, e171, e172, e173, e174, e175, e176, e177, e178, e179, e180, e181, e182, e183, e184, y185, y186⟩
                have E190 : h188 91 = h 91 := Eq.trans e171 E148
                have E191 : h188 92 = h 92 := Eq.trans e172 E149
                have E192 : h188 93 = h 93 := Eq.trans e173 E150
                have E193 : h188 94 = h 94 := Eq.trans e174 E151
                have E194 : h188 95 = h 95 := Eq.trans e175 E152
                have E195 : h188 96 = h 96 := Eq.trans e176 E153
                have E196 : h188 97 = h 97 := Eq.trans e177 E154
                have E197 : h188 98 = h 98 := Eq.trans e178 E155
                have E198 : h188 99 = h 99 := Eq.trans e179 E156
                have E199 : h188 100 = h 100 := Eq.trans e180 E157
                have E200 : h188 103 = h 103 := Eq.trans e181 E158
                have E201 : h188 104 = h 104 := Eq.trans e182 E159
                have E202 : h188 109 = h 109 := Eq.trans e183 E162
                have E203 : h188 114 = h 114 := Eq.trans e184 E163
                show ov_R u d ov_m283 99 [(0, ov_r 90), (1, ov_i x), (2, ov_i y), (3, ov_i s), (4, ov_i v58), (5, ov_l x5), (7, ov_i x7)] [ov_i v170, ov_l x5] z187 h188 (P_Mo_watch_90 F z h x y s)
                have f204 : (h188 90 2) = (h146 90 2) ∧ (h188 90 7) = (h146 90 7) ∧ (h188 90 8) = (h146 90 8) ∧ (h188 90 13) = (h146 90 13) ∧ (h188 90 20) = (h146 90 20) ∧ (h188 90 22) = (h146 90 22) ∧ (h188 90 25) = (h146 90 25) ∧ (h188 90 26) = (h146 90 26) ∧ (h188 90 28) = (h146 90 28) ∧ (h188 90 29) = (h146 90 29) ∧ (h188 90 30) = (h146 90 30) ∧ (h188 90 34) = (h146 90 34) ∧ -1 ≤ v170 ∧ v170 ≤ 89000 * (13 - (0 : Int) - (0 : Int)) := f169
                clear f169
                rw [show h146 103 = h 103 from E158] at y185
                rw [show h146 96 = h 96 from E153] at y185
                rw [show h146 97 = h 97 from E154] at y185
                rw [show h146 98 = h 98 from E155] at y185
                have y185_ : ov_MI (h 96) (h 103) (h 97) (h 98) (3 : Int) (6 * y + x) x7 (h146 90 25) (h188 105) (h188 106) := y185
                rw [show h146 103 = h 103 from E158] at y186
                rw [show h146 96 = h 96 from E153] at y186
                rw [show h146 97 = h 97 from E154] at y186
                rw [show h146 98 = h 98 from E155] at y186
                have y186_ : (0 ≤ v170 ↔ ov_go (h 96) (h 103) (h 97) (h 98) (3 : Int) (6 * y + x) x7 (0 : Int) (0 : Int) (s % (h 96 9))) := y186
                refine ov_blk (ls2 := [(0, ov_r 90), (1, ov_i x), (2, ov_i y), (3, ov_i s), (4, ov_i v58), (5, ov_l (x5 + (ov_w v170))), (7, ov_i x7)]) (st2 := []) (pc2 := 103) b_283_99_3 rfl rfl ?_
                have g205 := ov_wg v170
                have g206 := ov_wq v170
                have pm207 : ov_PM (h 96) (h 103) (h 97) (h 98) (h188 105) (h188 106) (h188 90 22) (h188 90 25) (h188 90 26) (h188 90 28) (h188 90 29) (h188 90 30) := ov_PM_mi y185_ (by omega) (by omega) (by omega) (by omega) (by omega) (by omega)
                refine ov_blk (ls2 := [(0, ov_r 90), (1, ov_i x), (2, ov_i y), (3, ov_i s), (4, ov_i v58), (5, ov_l (x5 + (ov_w v170))), (7, ov_i (x7 + 1))]) (st2 := []) (pc2 := 106) b_283_103_1 rfl rfl ?_
                refine ov_goto (tgt := 59) d_283_106 (by decide) ?_
                exact ih95 (x5 + (ov_w v170)) (x7 + 1) _ _ I189 E190 E191 E192 E193 E194 E195 E196 E197 E198 E199 E200 E201 E202 E203 pm207 (by show 0 ≤ (x7 + 1) ∧ (x7 + 1) ≤ 60 ∧ -60 ≤ (x5 + (ov_w v170)) ∧ (x5 + (ov_w v170)) ≤ 1200000 * (x7 + 1) ∧ -(x7 + 1) ≤ (x5 + (ov_w v170)) ∧ -1 ≤ v58 ∧ v58 ≤ 1200000 ∧ (h 90 25) ≤ (h188 90 25) ∧ (h188 90 25) ≤ (h 90 25) + 1 + (x7 + 1) ∧ (h188 90 22) = (h 90 22) ∧ (h188 90 2) = (h76 90 2) ∧ (h188 90 7) = (h76 90 7) ∧ (h188 90 8) = (h76 90 8) ∧ (h188 90 13) = (h76 90 13) ∧ (h188 90 20) = (h76 90 20) ∧ (h188 90 22) = (h76 90 22) ∧ (h188 90 34) = (h76 90 34); omega) (by omega)
        exact L97 61 0 0 _ _ I77 E78 E79 E80 E81 E82 E83 E84 E85 E86 E87 E88 E89 E90 E91 pm93 (by show 0 ≤ 0 ∧ 0 ≤ 60 ∧ -60 ≤ 0 ∧ 0 ≤ 1200000 * 0 ∧ -0 ≤ 0 ∧ -1 ≤ v58 ∧ v58 ≤ 1200000 ∧ (h 90 25) ≤ (h76 90 25) ∧ (h76 90 25) ≤ (h 90 25) + 1 + 0 ∧ (h76 90 22) = (h 90 22) ∧ (h76 90 2) = (h76 90 2) ∧ (h76 90 7) = (h76 90 7) ∧ (h76 90 8) = (h76 90 8) ∧ (h76 90 13) = (h76 90 13) ∧ (h76 90 20) = (h76 90 20) ∧ (h76 90 22) = (h76 90 22) ∧ (h76 90 34) = (h76 90 34); omega) (by omega)
      · skip
        have f13_ : v12 = 1 := by omega
        have f208 : ((h 96 (10 + 4 * (6 * y + x))) = 2 ∧ (h 103 (4 + 6 * y + x)) = 1) := f13.2.1 (by omega)
        clear f13
        refine ov_blk (ls2 := [(0, ov_r 90), (1, ov_i x), (2, ov_i y), (3, ov_i s)]) (st2 := [ov_i (-1)]) (pc2 := 35) b_283_34_1 rfl rfl ?_
        exact ov_reti (st := []) d_283_35 rfl ⟨_, rfl, I1, ⟨rfl, rfl, rfl, rfl, rfl, rfl, rfl, (by show (h 90 25) ≤ (h 90 25) ∧ (h 90 25) ≤ (h 90 25) + 61 ∧ -2147483648 ≤ (-1) ∧ (-1) ≤ 2147483647; omega)⟩, rfl, rfl, rfl, rfl, rfl, rfl, rfl, rfl, rfl, rfl, rfl, rfl, rfl, rfl, PM⟩
abbrev P_Mo_meanFrom0_90 (F : ov_H × ov_Z) (z : ov_Z) (h : ov_H) (s : Int) : Option ov_V → ov_Z → ov_H → Prop := fun r0 z' h' => ∃ r : Int, r0 = some (ov_i r) ∧ ov_N F z' h' ∧ ((h' 90 2) = (h 90 2) ∧ (h' 90 7) = (h 90 7) ∧ (h' 90 8) = (h 90 8) ∧ (h' 90 13) = (h 90 13) ∧ (h' 90 20) = (h 90 20) ∧ (h' 90 22) = (h 90 22) ∧ (h' 90 34) = (h 90 34) ∧ (h 90 25) ≤ (h' 90 25) ∧ (h' 90 25) ≤ (h 90 25) + 1 ∧ -1 ≤ r ∧ r ≤ 1200000) ∧ h' 91 = h 91 ∧ h' 92 = h 92 ∧ h' 93 = h 93 ∧ h' 94 = h 94 ∧ h' 95 = h 95 ∧ h' 96 = h 96 ∧ h' 97 = h 97 ∧ h' 98 = h 98 ∧ h' 99 = h 99 ∧ h' 100 = h 100 ∧ h' 103 = h 103 ∧ h' 104 = h 104 ∧ h' 109 = h 109 ∧ h' 114 = h 114 ∧ (ov_PM (h 96) (h 103) (h 97) (h 98) (h' 105) (h' 106) (h' 90 22) (h' 90 25) (h' 90 26) (h' 90 28) (h' 90 29) (h' 90 30))
set_option maxHeartbeats 4000000 in
theorem c_Mo_meanFrom0_90 {u : ov_U} {F : ov_H × ov_Z} {z : ov_Z} {h : ov_H} (d : Nat) (hd : 90 ≤ d) (U : ov_cap u) (I : ov_N F z h) (s : Int) (g_s : ov_g s) (p0 : 0 ≤ s ∧ s ≤ 1000000) (p1 : 0 ≤ (h 90 25) ∧ (h 90 25) ≤ 1500000000) (W : ov_WT (h 96)) (CD : ov_CD (h 96) (h 97) (h 98)) (PM : ov_PM (h 96) (h 103) (h 97) (h 98) (h 105) (h 106) (h 90 22) (h 90 25) (h 90 26) (h 90 28) (h 90 29) (h 90 30)) : ov_T u d ov_m285 [ov_r 90, ov_i s] z h (P_Mo_meanFrom0_90 F z h s) := by
  refine ov_en rfl (Nat.le_of_ble_eq_true rfl) ?_
  show ov_R u d ov_m285 0 [(0, ov_r 90), (1, ov_i s)] [] z h (P_Mo_meanFrom0_90 F z h s)
  have t0 := t96_0 I
  have t1 := t96_1 I
  have t8 := t96_8 I
  have t9 := t96_9 I
  refine ov_blk (ls2 := [(0, ov_r 90), (1, ov_i s)]) (st2 := [ov_i 0, ov_i (-1), ov_i 0, ov_i 3, ov_r 90]) (pc2 := 5) b_285_0_5 rfl rfl ?_
  refine ov_cV (as := [ov_i 3, ov_i 0, ov_i (-1), ov_i 0]) (st := []) (d2 := d - 1) d_285_5 lk_Mo_389 rfl (Nat.le_of_ble_eq_true rfl) (c := 1) (zb_90 I) (zs_90 I) ⟨by decide, rfl⟩ (by omega) (c_Mo_asks_90 (d - 1) (by omega) U I 3 0 (-1) 0 (by omega) (by omega) (by omega) (by omega) (by omega) (by omega) (by omega) (by show 0 ≤ (h 90 25) ∧ (h 90 25) ≤ 2000000000; omega)) ?_
  rintro _ z18 h19 ⟨rfl, I20, f1, e2, e3, e4, e5, e6, e7, e8, e9, e10, e11, e12, e13, e14, e15, e16, e17⟩
  have E21 : h19 91 = h 91 := e2
  have E22 : h19 92 = h 92 := e3
  have E23 : h19 93 = h 93 := e4
  have E24 : h19 94 = h 94 := e5
  have E25 : h19 95 = h 95 := e6
  have E26 : h19 96 = h 96 := e7
  have E27 : h19 97 = h 97 := e8
  have E28 : h19 98 = h 98 := e9
  have E29 : h19 99 = h 99 := e10
  have E30 : h19 100 = h 100 := e11
  have E31 : h19 103 = h 103 := e12
  have E32 : h19 104 = h 104 := e13
  have E33 : h19 105 = h 105 := e14
  have E34 : h19 106 = h 106 := e15
  have E35 : h19 109 = h 109 := e16
  have E36 : h19 114 = h 114 := e17
  show ov_R u d ov_m285 8 [(0, ov_r 90), (1, ov_i s)] [] z18 h19 (P_Mo_meanFrom0_90 F z h s)
  have f37 : (h19 90 2) = (h 90 2) ∧ (h19 90 7) = (h 90 7) ∧ (h19 90 8) = (h 90 8) ∧ (h19 90 13) = (h 90 13) ∧ (h19 90 20) = (h 90 20) ∧ (h19 90 22) = (h 90 22) ∧ (h19 90 34) = (h 90 34) ∧ (h19 90 26) = (3 : Int) ∧ (h19 90 27) = (0 : Int) ∧ (h19 90 28) = (h 90 22) ∧ (h19 90 29) = ((-1) : Int) ∧ (h19 90 30) = (0 : Int) ∧ (((h19 90 25) = (h 90 25) + 1) ∨ ((h19 90 25) = (h 90 25) ∧ (h 90 26) = (3 : Int) ∧ (h 90 27) = (0 : Int) ∧ (h 90 28) = (h 90 22) ∧ (h 90 29) = ((-1) : Int) ∧ (h 90 30) = (0 : Int))) := f1
  clear f1
  have mi38 : ov_MI (h 96) (h 103) (h 97) (h 98) 3 (-1) 0 (h19 90 25) (h 105) (h 106) := ov_PM_ask PM (by omega)
  refine ov_blk (ls2 := [(0, ov_r 90), (1, ov_i s)]) (st2 := [ov_i s, ov_i 0, ov_i 0, ov_r 90]) (pc2 := 12) b_285_8_4 rfl rfl ?_
  have cf39 : h19 96 (0) = h 96 (0) := congrFun E26 (0)
  have cf40 : h19 96 (1) = h 96 (1) := congrFun E26 (1)
  have cf41 : h19 96 (8) = h 96 (8) := congrFun E26 (8)
  refine ov_cV (as := [ov_i 0, ov_i 0, ov_i s]) (st := []) (d2 := d - 1) d_285_12 lk_Mo_377 rfl (Nat.le_of_ble_eq_true rfl) (c := 1) (zb_90 I20) (zs_90 I20) ⟨by decide, rfl⟩ (by omega) (c_Mo_worthFrom_90_all 3 ((-1)) 0 ((h19 90 25)) (Int.toNat (13 - (0) - (0))) (d - 1) (by omega) U I20 0 0 s (by omega) (by omega) (by omega) (by omega) (by show (0 : Int) < (h19 96 0) ∧ (0 : Int) < (h19 96 1); omega) (by omega) (by omega) (by show (h19 90 26) = (3 : Int); omega) (by show (h19 90 29) = ((-1) : Int); omega) (by show (h19 90 30) = (0 : Int); omega) (by show (h19 90 25) = (h19 90 25); omega) (by show 0 ≤ (3 : Int) ∧ (3 : Int) ≤ 3 + (h19 96 8); omega) (by rw [show h19 96 = h 96 from E26]; exact W) (by rw [show h19 96 = h 96 from E26, show h19 97 = h 97 from E27, show h19 98 = h 98 from E28]; exact CD) (by rw [show h19 96 = h 96 from E26, show h19 103 = h 103 from E31, show h19 97 = h 97 from E27, show h19 98 = h 98 from E28, show h19 105 = h 105 from E33, show h19 106 = h 106 from E34]; exact mi38)) ?_
  rintro _ z60 h61 ⟨v43, rfl, I62, f42, e44, e45, e46, e47, e48, e49, e50, e51, e52, e53, e54, e55, e56, e57, y58, y59⟩
  have E63 : h61 91 = h 91 := Eq.trans e44 E21
  have E64 : h61 92 = h 92 := Eq.trans e45 E22
  have E65 : h61 93 = h 93 := Eq.trans e46 E23
  have E66 : h61 94 = h 94 := Eq.trans e47 E24
  have E67 : h61 95 = h 95 := Eq.trans e48 E25
  have E68 : h61 96 = h 96 := Eq.trans e49 E26
  have E69 : h61 97 = h 97 := Eq.trans e50 E27
  have E70 : h61 98 = h 98 := Eq.trans e51 E28
  have E71 : h61 99 = h 99 := Eq.trans e52 E29
  have E72 : h61 100 = h 100 := Eq.trans e53 E30
  have E73 : h61 103 = h 103 := Eq.trans e54 E31
  have E74 : h61 104 = h 104 := Eq.trans e55 E32
  have E75 : h61 109 = h 109 := Eq.trans e56 E35
  have E76 : h61 114 = h 114 := Eq.trans e57 E36
  show ov_R u d ov_m285 15 [(0, ov_r 90), (1, ov_i s)] [ov_i v43] z60 h61 (P_Mo_meanFrom0_90 F z h s)
  have f77 : (h61 90 2) = (h19 90 2) ∧ (h61 90 7) = (h19 90 7) ∧ (h61 90 8) = (h19 90 8) ∧ (h61 90 13) = (h19 90 13) ∧ (h61 90 20) = (h19 90 20) ∧ (h61 90 22) = (h19 90 22) ∧ (h61 90 25) = (h19 90 25) ∧ (h61 90 26) = (h19 90 26) ∧ (h61 90 28) = (h19 90 28) ∧ (h61 90 29) = (h19 90 29) ∧ (h61 90 30) = (h19 90 30) ∧ (h61 90 34) = (h19 90 34) ∧ -1 ≤ v43 ∧ v43 ≤ 89000 * (13 - (0 : Int) - (0 : Int)) := f42
  clear f42
  rw [show h19 103 = h 103 from E31] at y58
  rw [show h19 96 = h 96 from E26] at y58
  rw [show h19 97 = h 97 from E27] at y58
  rw [show h19 98 = h 98 from E28] at y58
  have y58_ : ov_MI (h 96) (h 103) (h 97) (h 98) (3 : Int) ((-1) : Int) (0 : Int) (h19 90 25) (h61 105) (h61 106) := y58
  rw [show h19 103 = h 103 from E31] at y59
  rw [show h19 96 = h 96 from E26] at y59
  rw [show h19 97 = h 97 from E27] at y59
  rw [show h19 98 = h 98 from E28] at y59
  have y59_ : (0 ≤ v43 ↔ ov_go (h 96) (h 103) (h 97) (h 98) (3 : Int) ((-1) : Int) (0 : Int) (0 : Int) (0 : Int) (s % (h 96 9))) := y59
  have pm78 : ov_PM (h 96) (h 103) (h 97) (h 98) (h61 105) (h61 106) (h61 90 22) (h61 90 25) (h61 90 26) (h61 90 28) (h61 90 29) (h61 90 30) := ov_PM_mi y58_ (by omega) (by omega) (by omega) (by omega) (by omega) (by omega)
  exact ov_reti (st := []) d_285_15 rfl ⟨_, rfl, I62, (by show (h61 90 2) = (h 90 2) ∧ (h61 90 7) = (h 90 7) ∧ (h61 90 8) = (h 90 8) ∧ (h61 90 13) = (h 90 13) ∧ (h61 90 20) = (h 90 20) ∧ (h61 90 22) = (h 90 22) ∧ (h61 90 34) = (h 90 34) ∧ (h 90 25) ≤ (h61 90 25) ∧ (h61 90 25) ≤ (h 90 25) + 1 ∧ -1 ≤ v43 ∧ v43 ≤ 1200000; omega), E63, E64, E65, E66, E67, E68, E69, E70, E71, E72, E73, E74, E75, E76, pm78⟩
abbrev P_Mo_worthiest_90 (F : ov_H × ov_Z) (z : ov_Z) (h : ov_H) (s : Int) : Option ov_V → ov_Z → ov_H → Prop := fun r0 z' h' => ∃ r : Int, r0 = some (ov_i r) ∧ ov_N F z' h' ∧ ((h' 90 2) = (h 90 2) ∧ (h' 90 7) = (h 90 7) ∧ (h' 90 8) = (h 90 8) ∧ (h' 90 13) = (h 90 13) ∧ (h' 90 20) = (h 90 20) ∧ (h' 90 22) = (h 90 22) ∧ (h' 90 34) = (h 90 34) ∧ (h 90 25) ≤ (h' 90 25) ∧ (h' 90 25) ≤ (h 90 25) + 3400 ∧ -1 ≤ r ∧ r ≤ 100) ∧ h' 91 = h 91 ∧ h' 92 = h 92 ∧ h' 93 = h 93 ∧ h' 94 = h 94 ∧ h' 95 = h 95 ∧ h' 96 = h 96 ∧ h' 97 = h 97 ∧ h' 98 = h 98 ∧ h' 99 = h 99 ∧ h' 100 = h 100 ∧ h' 103 = h 103 ∧ h' 104 = h 104 ∧ h' 109 = h 109 ∧ h' 114 = h 114 ∧ (ov_PM (h 96) (h 103) (h 97) (h 98) (h' 105) (h' 106) (h' 90 22) (h' 90 25) (h' 90 26) (h' 90 28) (h' 90 29) (h' 90 30))
set_option maxHeartbeats 4000000 in
theorem c_Mo_worthiest_90 {u : ov_U} {F : ov_H × ov_Z} {z : ov_Z} {h : ov_H} (d : Nat) (hd : 94 ≤ d) (U : ov_cap u) (I : ov_N F z h) (s : Int) (g_s : ov_g s) (p0 : 0 ≤ (h 90 25) ∧ (h 90 25) ≤ 1000000000) (W : ov_WT (h 96)) (CD : ov_CD (h 96) (h 97) (h 98)) (PM : ov_PM (h 96) (h 103) (h 97) (h 98) (h 105) (h 106) (h 90 22) (h 90 25) (h 90 26) (h 90 28) (h 90 29) (h 90 30)) : ov_T u d ov_m284 [ov_r 90, ov_i s] z h (P_Mo_worthiest_90 F z h s) := by
  refine ov_en rfl (Nat.le_of_ble_eq_true rfl) ?_
  show ov_R u d ov_m284 0 [(0, ov_r 90), (1, ov_i s)] [] z h (P_Mo_worthiest_90 F z h s)
  have t0 := t96_0 I
  have t1 := t96_1 I
  have t8 := t96_8 I
  have t9 := t96_9 I
  refine ov_blk (ls2 := [(0, ov_r 90), (1, ov_i s), (2, ov_i (-1)), (3, ov_i 0), (4, ov_i 0)]) (st2 := []) (pc2 := 7) b_284_0_6 rfl rfl ?_
  have L4 : ∀ (n1 : Nat) (x2 : Int) (x3 : Int) (x4 : Int) (z5 : ov_Z) (h6 : ov_H) (I7 : ov_N F z5 h6) (E8 : h6 91 = h 91) (E9 : h6 92 = h 92) (E10 : h6 93 = h 93) (E11 : h6 94 = h 94) (E12 : h6 95 = h 95) (E13 : h6 96 = h 96) (E14 : h6 97 = h 97) (E15 : h6 98 = h 98) (E16 : h6 99 = h 99) (E17 : h6 100 = h 100) (E18 : h6 103 = h 103) (E19 : h6 104 = h 104) (E20 : h6 109 = h 109) (E21 : h6 114 = h 114) (xp : ov_PM (h 96) (h 103) (h 97) (h 98) (h6 105) (h6 106) (h6 90 22) (h6 90 25) (h6 90 26) (h6 90 28) (h6 90 29) (h6 90 30)) (q3 : 0 ≤ x4 ∧ x4 ≤ 54 ∧ -1 ≤ x2 ∧ x2 ≤ 100 ∧ ov_g x3 ∧ (h 90 25) ≤ (h6 90 25) ∧ (h6 90 25) ≤ (h 90 25) + 62 * x4 ∧ (h6 90 22) = (h 90 22) ∧ (h6 90 2) = (h 90 2) ∧ (h6 90 7) = (h 90 7) ∧ (h6 90 8) = (h 90 8) ∧ (h6 90 13) = (h 90 13) ∧ (h6 90 20) = (h 90 20) ∧ (h6 90 22) = (h 90 22) ∧ (h6 90 34) = (h 90 34)), 54 - x4 < (n1 : Int) → ov_R u d ov_m284 7 [(0, ov_r 90), (1, ov_i s), (2, ov_i x2), (3, ov_i x3), (4, ov_i x4)] [] z5 h6 (P_Mo_worthiest_90 F z h s) := by
    intro n1
    induction n1 with
    | zero =>
      intro x2 x3 x4 z5 h6 I7 E8 E9 E10 E11 E12 E13 E14 E15 E16 E17 E18 E19 E20 E21 xp q3 hn22
      exact absurd hn22 (by omega)
    | succ n1 ih2 =>
      intro x2 x3 x4 z5 h6 I7 E8 E9 E10 E11 E12 E13 E14 E15 E16 E17 E18 E19 E20 E21 xp q3 hn22
      refine ov_blk (ls2 := [(0, ov_r 90), (1, ov_i s), (2, ov_i x2), (3, ov_i x3), (4, ov_i x4)]) (st2 := [ov_i 54, ov_i x4]) (pc2 := 11) b_284_7_2 rfl rfl ?_
      refine ov_icge (tgt := 131) d_284_11 (by decide) (by omega) (by omega) (fun c23 => ?_) (fun c23 => ?_)
      · skip
        refine ov_blk (ls2 := [(0, ov_r 90), (1, ov_i s), (2, ov_i x2), (3, ov_i x3), (4, ov_i x4)]) (st2 := [ov_i 0, ov_r 90]) (pc2 := 133) b_284_131_2 rfl rfl ?_
        refine ov_putf (x := 0) d_284_133 fl_Mo_1 (zb_90 I7) (zs_90 I7) rfl nk_0 rfl ?_
        have I24 := up_90_0 (x := 0) I7 (by omega)
        refine ov_blk (ls2 := [(0, ov_r 90), (1, ov_i s), (2, ov_i x2), (3, ov_i x3), (4, ov_i x4)]) (st2 := [ov_i x2]) (pc2 := 137) b_284_136_1 rfl rfl ?_
        exact ov_reti (st := []) d_284_137 rfl ⟨_, rfl, I24, (by show (h6 90 2) = (h 90 2) ∧ (h6 90 7) = (h 90 7) ∧ (h6 90 8) = (h 90 8) ∧ (h6 90 13) = (h 90 13) ∧ (h6 90 20) = (h 90 20) ∧ (h6 90 22) = (h 90 22) ∧ (h6 90 34) = (h 90 34) ∧ (h 90 25) ≤ (h6 90 25) ∧ (h6 90 25) ≤ (h 90 25) + 3400 ∧ -1 ≤ x2 ∧ x2 ≤ 100; omega), E8, E9, E10, E11, E12, E13, E14, E15, E16, E17, E18, E19, E20, E21, xp⟩
      · skip
        refine ov_blk (ls2 := [(0, ov_r 90), (1, ov_i s), (2, ov_i x2), (3, ov_i x3), (4, ov_i x4)]) (st2 := [ov_i 6, ov_i x4]) (pc2 := 18) b_284_14_2 rfl rfl ?_
        refine ov_irem d_284_18 (by omega) (by omega) (by omega) ?_
        have g25 := ov_tm (a := x4) (b := 6) (by omega)
        have g26 := ov_tmg (a := x4) (b := 6) (by omega) (by omega)
        refine ov_blk (ls2 := [(0, ov_r 90), (1, ov_i s), (2, ov_i x2), (3, ov_i x3), (4, ov_i x4), (5, ov_i (Int.tmod x4 6))]) (st2 := [ov_i 6, ov_i x4]) (pc2 := 25) b_284_19_3 rfl rfl ?_
        refine ov_idiv d_284_25 (by omega) (by omega) (by omega) ?_
        have g27 := ov_td (a := x4) (b := 6) (by omega)
        refine ov_blk (ls2 := [(0, ov_r 90), (1, ov_i s), (2, ov_i x2), (3, ov_i x3), (4, ov_i x4), (5, ov_i (Int.tmod x4 6)), (6, ov_i (Int.tdiv x4 6))]) (st2 := [ov_i s, ov_i (Int.tdiv x4 6), ov_i (Int.tmod x4 6), ov_r 90]) (pc2 := 34) b_284_26_5 rfl rfl ?_
        refine ov_cV (as := [ov_i (Int.tmod x4 6), ov_i (Int.tdiv x4 6), ov_i s]) (st := []) (d2 := d - 1) d_284_34 lk_Mo_386 rfl (Nat.le_of_ble_eq_true rfl) (c := 1) (zb_90 I7) (zs_90 I7) ⟨by decide, rfl⟩ (by omega) (c_Mo_isPlace_90 (d - 1) (by omega) U I7 (Int.tmod x4 6) (Int.tdiv x4 6) s (by omega) (by omega) (by omega)) ?_
        rintro _ _ _ ⟨v29, rfl, rfl, rfl, f28⟩
        show ov_R u d ov_m284 37 [(0, ov_r 90), (1, ov_i s), (2, ov_i x2), (3, ov_i x3), (4, ov_i x4), (5, ov_i (Int.tmod x4 6)), (6, ov_i (Int.tdiv x4 6))] [ov_i v29] z5 h6 (P_Mo_worthiest_90 F z h s)
        rw [show h6 96 = h 96 from E13] at f28
        have f30 : (v29 = 0 ∨ v29 = 1) ∧ (v29 = 1 → 0 ≤ (Int.tmod x4 6) ∧ (Int.tmod x4 6) ≤ 5 ∧ 0 ≤ (Int.tdiv x4 6) ∧ (Int.tdiv x4 6) ≤ 8 ∧ (Int.tmod x4 6) < (h 96 0) ∧ (Int.tdiv x4 6) < (h 96 1) ∧ 0 ≤ s ∧ s ≤ 1000000) := f28
        clear f28
        refine ov_ifeq (tgt := 75) d_284_37 (by decide) (by omega) (fun c31 => ?_) (fun c31 => ?_)
        · skip
          have f30_ : v29 = 0 := by omega
          clear f30
          refine ov_blk (ls2 := [(0, ov_r 90), (1, ov_i s), (2, ov_i x2), (3, ov_i x3), (4, ov_i x4), (5, ov_i (Int.tmod x4 6)), (6, ov_i (Int.tdiv x4 6)), (7, ov_i 0)]) (st2 := [ov_i 0]) (pc2 := 80) b_284_75_3 rfl rfl ?_
          refine ov_ifeq (tgt := 95) d_284_80 (by decide) (by omega) (fun c32 => ?_) (fun c32 => ?_)
          · skip
            refine ov_blk (ls2 := [(0, ov_r 90), (1, ov_i s), (2, ov_i x2), (3, ov_i x3), (4, ov_i x4), (5, ov_i (Int.tmod x4 6)), (6, ov_i (Int.tdiv x4 6)), (7, ov_i 0), (8, ov_i 0)]) (st2 := [ov_i 0]) (pc2 := 100) b_284_95_3 rfl rfl ?_
            refine ov_ifeq (tgt := 125) d_284_100 (by decide) (by omega) (fun c33 => ?_) (fun c33 => ?_)
            · skip
              refine ov_blk (ls2 := [(0, ov_r 90), (1, ov_i s), (2, ov_i x2), (3, ov_i x3), (4, ov_i (x4 + 1)), (5, ov_i (Int.tmod x4 6)), (6, ov_i (Int.tdiv x4 6)), (7, ov_i 0), (8, ov_i 0)]) (st2 := []) (pc2 := 128) b_284_125_1 rfl rfl ?_
              refine ov_goto (tgt := 7) d_284_128 (by decide) ?_
              refine ov_sub (ls2 := [(0, ov_r 90), (1, ov_i s), (2, ov_i x2), (3, ov_i x3), (4, ov_i (x4 + 1))]) (List.Sublist.subset (by repeat (first | exact List.Sublist.refl _ | apply List.Sublist.cons_cons | apply List.Sublist.cons))) ?_
              exact ih2 x2 x3 (x4 + 1) _ _ I7 E8 E9 E10 E11 E12 E13 E14 E15 E16 E17 E18 E19 E20 E21 xp (by show 0 ≤ (x4 + 1) ∧ (x4 + 1) ≤ 54 ∧ -1 ≤ x2 ∧ x2 ≤ 100 ∧ ov_g x3 ∧ (h 90 25) ≤ (h6 90 25) ∧ (h6 90 25) ≤ (h 90 25) + 62 * (x4 + 1) ∧ (h6 90 22) = (h 90 22) ∧ (h6 90 2) = (h 90 2) ∧ (h6 90 7) = (h 90 7) ∧ (h6 90 8) = (h 90 8) ∧ (h6 90 13) = (h 90 13) ∧ (h6 90 20) = (h 90 20) ∧ (h6 90 22) = (h 90 22) ∧ (h6 90 34) = (h 90 34); omega) (by omega)
            · omega
          · omega
        · skip
          have f30_ : v29 = 1 := by omega
          have f34 : 0 ≤ (Int.tmod x4 6) ∧ (Int.tmod x4 6) ≤ 5 ∧ 0 ≤ (Int.tdiv x4 6) ∧ (Int.tdiv x4 6) ≤ 8 ∧ (Int.tmod x4 6) < (h 96 0) ∧ (Int.tdiv x4 6) < (h 96 1) ∧ 0 ≤ s ∧ s ≤ 1000000 := f30.2 (by omega)
          clear f30
          refine ov_blk (ls2 := [(0, ov_r 90), (1, ov_i s), (2, ov_i x2), (3, ov_i x3), (4, ov_i x4), (5, ov_i (Int.tmod x4 6)), (6, ov_i (Int.tdiv x4 6))]) (st2 := [ov_i (Int.tdiv x4 6), ov_i (Int.tmod x4 6), ov_r 90]) (pc2 := 45) b_284_40_3 rfl rfl ?_
          refine ov_cV (as := [ov_i (Int.tmod x4 6), ov_i (Int.tdiv x4 6)]) (st := []) (d2 := d - 1) d_284_45 lk_Mo_282 rfl (Nat.le_of_ble_eq_true rfl) (c := 1) (zb_90 I7) (zs_90 I7) ⟨by decide, rfl⟩ (by omega) (c_Mo_kindAt_90 (d - 1) (by omega) U I7 (Int.tmod x4 6) (Int.tdiv x4 6) (by omega) (by omega) (by omega)) ?_
          rintro _ _ _ ⟨v36, rfl, rfl, rfl, f35⟩
          show ov_R u d ov_m284 48 [(0, ov_r 90), (1, ov_i s), (2, ov_i x2), (3, ov_i x3), (4, ov_i x4), (5, ov_i (Int.tmod x4 6)), (6, ov_i (Int.tdiv x4 6))] [ov_i v36] z5 h6 (P_Mo_worthiest_90 F z h s)
          rw [show h6 96 = h 96 from E13] at f35
          have f37 : v36 = (h 96 (10 + 4 * (6 * (Int.tdiv x4 6) + (Int.tmod x4 6)))) - 1 ∧ -1 ≤ v36 ∧ v36 ≤ 3 := f35
          clear f35
          refine ov_blk (ls2 := [(0, ov_r 90), (1, ov_i s), (2, ov_i x2), (3, ov_i x3), (4, ov_i x4), (5, ov_i (Int.tmod x4 6)), (6, ov_i (Int.tdiv x4 6))]) (st2 := [ov_i 1, ov_i v36]) (pc2 := 49) b_284_48_1 rfl rfl ?_
          refine ov_icne (tgt := 75) d_284_49 (by decide) (by omega) (by omega) (fun c38 => ?_) (fun c38 => ?_)
          · skip
            refine ov_blk (ls2 := [(0, ov_r 90), (1, ov_i s), (2, ov_i x2), (3, ov_i x3), (4, ov_i x4), (5, ov_i (Int.tmod x4 6)), (6, ov_i (Int.tdiv x4 6)), (7, ov_i 0)]) (st2 := [ov_i 0]) (pc2 := 80) b_284_75_3 rfl rfl ?_
            refine ov_ifeq (tgt := 95) d_284_80 (by decide) (by omega) (fun c39 => ?_) (fun c39 => ?_)
            · skip
              refine ov_blk (ls2 := [(0, ov_r 90), (1, ov_i s), (2, ov_i x2), (3, ov_i x3), (4, ov_i x4), (5, ov_i (Int.tmod x4 6)), (6, ov_i (Int.tdiv x4 6)), (7, ov_i 0), (8, ov_i 0)]) (st2 := [ov_i 0]) (pc2 := 100) b_284_95_3 rfl rfl ?_
              refine ov_ifeq (tgt := 125) d_284_100 (by decide) (by omega) (fun c40 => ?_) (fun c40 => ?_)
              · skip
                refine ov_blk (ls2 := [(0, ov_r 90), (1, ov_i s), (2, ov_i x2), (3, ov_i x3), (4, ov_i (x4 + 1)), (5, ov_i (Int.tmod x4 6)), (6, ov_i (Int.tdiv x4 6)), (7, ov_i 0), (8, ov_i 0)]) (st2 := []) (pc2 := 128) b_284_125_1 rfl rfl ?_
                refine ov_goto (tgt := 7) d_284_128 (by decide) ?_
                refine ov_sub (ls2 := [(0, ov_r 90), (1, ov_i s), (2, ov_i x2), (3, ov_i x3), (4, ov_i (x4 + 1))]) (List.Sublist.subset (by repeat (first | exact List.Sublist.refl _ | apply List.Sublist.cons_cons | apply List.Sublist.cons))) ?_
                exact ih2 x2 x3 (x4 + 1) _ _ I7 E8 E9 E10 E11 E12 E13 E14 E15 E16 E17 E18 E19 E20 E21 xp (by show 0 ≤ (x4 + 1) ∧ (x4 + 1) ≤ 54 ∧ -1 ≤ x2 ∧ x2 ≤ 100 ∧ ov_g x3 ∧ (h 90 25) ≤ (h6 90 25) ∧ (h6 90 25) ≤ (h 90 25) + 62 * (x4 + 1) ∧ (h6 90 22) = (h 90 22) ∧ (h6 90 2) = (h 90 2) ∧ (h6 90 7) = (h 90 7) ∧ (h6 90 8) = (h 90 8) ∧ (h6 90 13) = (h 90 13) ∧ (h6 90 20) = (h 90 20) ∧ (h6 90 22) = (h 90 22) ∧ (h6 90 34) = (h 90 34); omega) (by omega)
              · omega
            · omega
          · skip
            refine ov_blk (ls2 := [(0, ov_r 90), (1, ov_i s), (2, ov_i x2), (3, ov_i x3), (4, ov_i x4), (5, ov_i (Int.tmod x4 6)), (6, ov_i (Int.tdiv x4 6))]) (st2 := [ov_i (Int.tdiv x4 6), ov_i (Int.tmod x4 6), ov_r 90]) (pc2 := 57) b_284_52_3 rfl rfl ?_
            refine ov_cV (as := [ov_i (Int.tmod x4 6), ov_i (Int.tdiv x4 6)]) (st := []) (d2 := d - 1) d_284_57 lk_Mo_302 rfl (Nat.le_of_ble_eq_true rfl) (c := 1) (zb_90 I7) (zs_90 I7) ⟨by decide, rfl⟩ (by omega) (c_Mo_isKnown_90 (d - 1) (by omega) U I7 (Int.tmod x4 6) (Int.tdiv x4 6) (by omega) (by omega) (by omega)) ?_
            rintro _ _ _ ⟨v42, rfl, rfl, rfl, f41⟩
            show ov_R u d ov_m284 60 [(0, ov_r 90), (1, ov_i s), (2, ov_i x2), (3, ov_i x3), (4, ov_i x4), (5, ov_i (Int.tmod x4 6)), (6, ov_i (Int.tdiv x4 6))] [ov_i v42] z5 h6 (P_Mo_worthiest_90 F z h s)
            rw [show h6 103 = h 103 from E18] at f41
            rw [show h6 96 = h 96 from E13] at f41
            have f43 : (v42 = 0 ∨ v42 = 1) ∧ (v42 = 1 → ((h 96 (10 + 4 * (6 * (Int.tdiv x4 6) + (Int.tmod x4 6)))) = 2 ∧ (h 103 (4 + 6 * (Int.tdiv x4 6) + (Int.tmod x4 6))) = 1)) ∧ (v42 = 0 → ¬ ((h 96 (10 + 4 * (6 * (Int.tdiv x4 6) + (Int.tmod x4 6)))) = 2 ∧ (h 103 (4 + 6 * (Int.tdiv x4 6) + (Int.tmod x4 6))) = 1)) := f41
            clear f41
            refine ov_ifne (tgt := 75) d_284_60 (by decide) (by omega) (fun c44 => ?_) (fun c44 => ?_)
            · skip
              have f43_ : v42 = 1 := by omega
              have f45 : ((h 96 (10 + 4 * (6 * (Int.tdiv x4 6) + (Int.tmod x4 6)))) = 2 ∧ (h 103 (4 + 6 * (Int.tdiv x4 6) + (Int.tmod x4 6))) = 1) := f43.2.1 (by omega)
              clear f43
              refine ov_blk (ls2 := [(0, ov_r 90), (1, ov_i s), (2, ov_i x2), (3, ov_i x3), (4, ov_i x4), (5, ov_i (Int.tmod x4 6)), (6, ov_i (Int.tdiv x4 6)), (7, ov_i 0)]) (st2 := [ov_i 0]) (pc2 := 80) b_284_75_3 rfl rfl ?_
              refine ov_ifeq (tgt := 95) d_284_80 (by decide) (by omega) (fun c46 => ?_) (fun c46 => ?_)
              · skip
                refine ov_blk (ls2 := [(0, ov_r 90), (1, ov_i s), (2, ov_i x2), (3, ov_i x3), (4, ov_i x4), (5, ov_i (Int.tmod x4 6)), (6, ov_i (Int.tdiv x4 6)), (7, ov_i 0), (8, ov_i 0)]) (st2 := [ov_i 0]) (pc2 := 100) b_284_95_3 rfl rfl ?_
                refine ov_ifeq (tgt := 125) d_284_100 (by decide) (by omega) (fun c47 => ?_) (fun c47 => ?_)
                · skip
                  refine ov_blk (ls2 := [(0, ov_r 90), (1, ov_i s), (2, ov_i x2), (3, ov_i x3), (4, ov_i (x4 + 1)), (5, ov_i (Int.tmod x4 6)), (6, ov_i (Int.tdiv x4 6)), (7, ov_i 0), (8, ov_i 0)]) (st2 := []) (pc2 := 128) b_284_125_1 rfl rfl ?_
                  refine ov_goto (tgt := 7) d_284_128 (by decide) ?_
                  refine ov_sub (ls2 := [(0, ov_r 90), (1, ov_i s), (2, ov_i x2), (3, ov_i x3), (4, ov_i (x4 + 1))]) (List.Sublist.subset (by repeat (first | exact List.Sublist.refl _ | apply List.Sublist.cons_cons | apply List.Sublist.cons))) ?_
                  exact ih2 x2 x3 (x4 + 1) _ _ I7 E8 E9 E10 E11 E12 E13 E14 E15 E16 E17 E18 E19 E20 E21 xp (by show 0 ≤ (x4 + 1) ∧ (x4 + 1) ≤ 54 ∧ -1 ≤ x2 ∧ x2 ≤ 100 ∧ ov_g x3 ∧ (h 90 25) ≤ (h6 90 25) ∧ (h6 90 25) ≤ (h 90 25) + 62 * (x4 + 1) ∧ (h6 90 22) = (h 90 22) ∧ (h6 90 2) = (h 90 2) ∧ (h6 90 7) = (h 90 7) ∧ (h6 90 8) = (h 90 8) ∧ (h6 90 13) = (h 90 13) ∧ (h6 90 20) = (h 90 20) ∧ (h6 90 22) = (h 90 22) ∧ (h6 90 34) = (h 90 34); omega) (by omega)
                · omega
              · omega
            · skip
              have f43_ : v42 = 0 := by omega
              have f48 : ¬ ((h 96 (10 + 4 * (6 * (Int.tdiv x4 6) + (Int.tmod x4 6)))) = 2 ∧ (h 103 (4 + 6 * (Int.tdiv x4 6) + (Int.tmod x4 6))) = 1) := f43.2.2 (by omega)
              clear f43
              refine ov_blk (ls2 := [(0, ov_r 90), (1, ov_i s), (2, ov_i x2), (3, ov_i x3), (4, ov_i x4), (5, ov_i (Int.tmod x4 6)), (6, ov_i (Int.tdiv x4 6))]) (st2 := [ov_i s, ov_r 90]) (pc2 := 65) b_284_63_2 rfl rfl ?_
              refine ov_cV (as := [ov_i s]) (st := []) (d2 := d - 1) d_284_65 lk_Mo_393 rfl (Nat.le_of_ble_eq_true rfl) (c := 1) (zb_90 I7) (zs_90 I7) ⟨by decide, rfl⟩ (by omega) (c_Mo_meanFrom0_90 (d - 1) (by omega) U I7 s (by omega) (by omega) (by show 0 ≤ (h6 90 25) ∧ (h6 90 25) ≤ 1500000000; omega) (by rw [show h6 96 = h 96 from E13]; exact W) (by rw [show h6 96 = h 96 from E13, show h6 97 = h 97 from E14, show h6 98 = h 98 from E15]; exact CD) (by rw [show h6 96 = h 96 from E13, show h6 103 = h 103 from E18, show h6 97 = h 97 from E14, show h6 98 = h 98 from E15]; exact xp)) ?_
              rintro _ z66 h67 ⟨v50, rfl, I68, f49, e51, e52, e53, e54, e55, e56, e57, e58, e59, e60, e61, e62, e63, e64, y65⟩
              have E69 : h67 91 = h 91 := Eq.trans e51 E8
              have E70 : h67 92 = h 92 := Eq.trans e52 E9
              have E71 : h67 93 = h 93 := Eq.trans e53 E10
              have E72 : h67 94 = h 94 := Eq.trans e54 E11
              have E73 : h67 95 = h 95 := Eq.trans e55 E12
              have E74 : h67 96 = h 96 := Eq.trans e56 E13
              have E75 : h67 97 = h 97 := Eq.trans e57 E14
              have E76 : h67 98 = h 98 := Eq.trans e58 E15
              have E77 : h67 99 = h 99 := Eq.trans e59 E16
              have E78 : h67 100 = h 100 := Eq.trans e60 E17
              have E79 : h67 103 = h 103 := Eq.trans e61 E18
              have E80 : h67 104 = h 104 := Eq.trans e62 E19
              have E81 : h67 109 = h 109 := Eq.trans e63 E20
              have E82 : h67 114 = h 114 := Eq.trans e64 E21
              show ov_R u d ov_m284 68 [(0, ov_r 90), (1, ov_i s), (2, ov_i x2), (3, ov_i x3), (4, ov_i x4), (5, ov_i (Int.tmod x4 6)), (6, ov_i (Int.tdiv x4 6))] [ov_i v50] z66 h67 (P_Mo_worthiest_90 F z h s)
              have f83 : (h67 90 2) = (h6 90 2) ∧ (h67 90 7) = (h6 90 7) ∧ (h67 90 8) = (h6 90 8) ∧ (h67 90 13) = (h6 90 13) ∧ (h67 90 20) = (h6 90 20) ∧ (h67 90 22) = (h6 90 22) ∧ (h67 90 34) = (h6 90 34) ∧ (h6 90 25) ≤ (h67 90 25) ∧ (h67 90 25) ≤ (h6 90 25) + 1 ∧ -1 ≤ v50 ∧ v50 ≤ 1200000 := f49
              clear f49
              rw [show h6 103 = h 103 from E18] at y65
              rw [show h6 96 = h 96 from E13] at y65
              rw [show h6 97 = h 97 from E14] at y65
              rw [show h6 98 = h 98 from E15] at y65
              have y65_ : ov_PM (h 96) (h 103) (h 97) (h 98) (h67 105) (h67 106) (h67 90 22) (h67 90 25) (h67 90 26) (h67 90 28) (h67 90 29) (h67 90 30) := y65
              refine ov_iflt (tgt := 75) d_284_68 (by decide) (by omega) (fun c84 => ?_) (fun c84 => ?_)
              · skip
                refine ov_blk (ls2 := [(0, ov_r 90), (1, ov_i s), (2, ov_i x2), (3, ov_i x3), (4, ov_i x4), (5, ov_i (Int.tmod x4 6)), (6, ov_i (Int.tdiv x4 6)), (7, ov_i 0)]) (st2 := [ov_i 0]) (pc2 := 80) b_284_75_3 rfl rfl ?_
                refine ov_ifeq (tgt := 95) d_284_80 (by decide) (by omega) (fun c85 => ?_) (fun c85 => ?_)
                · skip
                  refine ov_blk (ls2 := [(0, ov_r 90), (1, ov_i s), (2, ov_i x2), (3, ov_i x3), (4, ov_i x4), (5, ov_i (Int.tmod x4 6)), (6, ov_i (Int.tdiv x4 6)), (7, ov_i 0), (8, ov_i 0)]) (st2 := [ov_i 0]) (pc2 := 100) b_284_95_3 rfl rfl ?_
                  refine ov_ifeq (tgt := 125) d_284_100 (by decide) (by omega) (fun c86 => ?_) (fun c86 => ?_)
                  · skip
                    refine ov_blk (ls2 := [(0, ov_r 90), (1, ov_i s), (2, ov_i x2), (3, ov_i x3), (4, ov_i (x4 + 1)), (5, ov_i (Int.tmod x4 6)), (6, ov_i (Int.tdiv x4 6)), (7, ov_i 0), (8, ov_i 0)]) (st2 := []) (pc2 := 128) b_284_125_1 rfl rfl ?_
                    refine ov_goto (tgt := 7) d_284_128 (by decide) ?_
                    refine ov_sub (ls2 := [(0, ov_r 90), (1, ov_i s), (2, ov_i x2), (3, ov_i x3), (4, ov_i (x4 + 1))]) (List.Sublist.subset (by repeat (first | exact List.Sublist.refl _ | apply List.Sublist.cons_cons | apply List.Sublist.cons))) ?_
                    exact ih2 x2 x3 (x4 + 1) _ _ I68 E69 E70 E71 E72 E73 E74 E75 E76 E77 E78 E79 E80 E81 E82 y65_ (by show 0 ≤ (x4 + 1) ∧ (x4 + 1) ≤ 54 ∧ -1 ≤ x2 ∧ x2 ≤ 100 ∧ ov_g x3 ∧ (h 90 25) ≤ (h67 90 25) ∧ (h67 90 25) ≤ (h 90 25) + 62 * (x4 + 1) ∧ (h67 90 22) = (h 90 22) ∧ (h67 90 2) = (h 90 2) ∧ (h67 90 7) = (h 90 7) ∧ (h67 90 8) = (h 90 8) ∧ (h67 90 13) = (h 90 13) ∧ (h67 90 20) = (h 90 20) ∧ (h67 90 22) = (h 90 22) ∧ (h67 90 34) = (h 90 34); omega) (by omega)
                  · omega
                · omega
              · skip
                refine ov_blk (ls2 := [(0, ov_r 90), (1, ov_i s), (2, ov_i x2), (3, ov_i x3), (4, ov_i x4), (5, ov_i (Int.tmod x4 6)), (6, ov_i (Int.tdiv x4 6))]) (st2 := [ov_i 1]) (pc2 := 72) b_284_71_1 rfl rfl ?_
                refine ov_goto (tgt := 76) d_284_72 (by decide) ?_
                refine ov_blk (ls2 := [(0, ov_r 90), (1, ov_i s), (2, ov_i x2), (3, ov_i x3), (4, ov_i x4), (5, ov_i (Int.tmod x4 6)), (6, ov_i (Int.tdiv x4 6)), (7, ov_i 1)]) (st2 := [ov_i 1]) (pc2 := 80) b_284_76_2 rfl rfl ?_
                refine ov_ifeq (tgt := 95) d_284_80 (by decide) (by omega) (fun c87 => ?_) (fun c87 => ?_)
                · omega
                · skip
                  refine ov_blk (ls2 := [(0, ov_r 90), (1, ov_i s), (2, ov_i x2), (3, ov_i x3), (4, ov_i x4), (5, ov_i (Int.tmod x4 6)), (6, ov_i (Int.tdiv x4 6)), (7, ov_i 1)]) (st2 := [ov_i s, ov_i (Int.tdiv x4 6), ov_i (Int.tmod x4 6), ov_r 90]) (pc2 := 89) b_284_83_4 rfl rfl ?_
                  refine ov_cV (as := [ov_i (Int.tmod x4 6), ov_i (Int.tdiv x4 6), ov_i s]) (st := []) (d2 := d - 1) d_284_89 lk_Mo_396 rfl (Nat.le_of_ble_eq_true rfl) (c := 1) (zb_90 I68) (zs_90 I68) ⟨by decide, rfl⟩ (by omega) (c_Mo_watch_90 (d - 1) (by omega) U I68 (Int.tmod x4 6) (Int.tdiv x4 6) s (by omega) (by omega) (by omega) (by show 0 ≤ (h67 90 25) ∧ (h67 90 25) ≤ 1500000000; omega) (by rw [show h67 96 = h 96 from E74]; exact W) (by rw [show h67 96 = h 96 from E74, show h67 97 = h 97 from E75, show h67 98 = h 98 from E76]; exact CD) (by rw [show h67 96 = h 96 from E74, show h67 103 = h 103 from E79, show h67 97 = h 97 from E75, show h67 98 = h 98 from E76]; exact y65_)) ?_
                  rintro _ z105 h106 ⟨v89, rfl, I107, f88, e90, e91, e92, e93, e94, e95, e96, e97, e98, e99, e100, e101, e102, e103, y104⟩
                  have E108 : h106 91 = h 91 := Eq.trans e90 E69
                  have E109 : h106 92 = h 92 := Eq.trans e91 E70
                  have E110 : h106 93 = h 93 := Eq.trans e92 E71
                  have E111 : h106 94 = h 94 := Eq.trans e93 E72
                  have E112 : h106 95 = h 95 := Eq.trans e94 E73
                  have E113 : h106 96 = h 96 := Eq.trans e95 E74
                  have E114 : h106 97 = h 97 := Eq.trans e96 E75
                  have E115 : h106 98 = h 98 := Eq.trans e97 E76
                  have E116 : h106 99 = h 99 := Eq.trans e98 E77
                  have E117 : h106 100 = h 100 := Eq.trans e99 E78
                  have E118 : h106 103 = h 103 := Eq.trans e100 E79
                  have E119 : h106 104 = h 104 := Eq.trans e101 E80
                  have E120 : h106 109 = h 109 := Eq.trans e102 E81
                  have E121 : h106 114 = h 114 := Eq.trans e103 E82
                  show ov_R u d ov_m284 92 [(0, ov_r 90), (1, ov_i s), (2, ov_i x2), (3, ov_i x3), (4, ov_i x4), (5, ov_i (Int.tmod x4 6)), (6, ov_i (Int.tdiv x4 6)), (7, ov_i 1)] [ov_i v89] z105 h106 (P_Mo_worthiest_90 F z h s)
                  have f122 : (h106 90 2) = (h67 90 2) ∧ (h106 90 7) = (h67 90 7) ∧ (h106 90 8) = (h67 90 8) ∧ (h106 90 13) = (h67 90 13) ∧ (h106 90 20) = (h67 90 20) ∧ (h106 90 22) = (h67 90 22) ∧ (h106 90 34) = (h67 90 34) ∧ (h67 90 25) ≤ (h106 90 25) ∧ (h106 90 25) ≤ (h67 90 25) + 61 ∧ -2147483648 ≤ v89 ∧ v89 ≤ 2147483647 := f88
                  clear f88
                  rw [show h67 103 = h 103 from E79] at y104
                  rw [show h67 96 = h 96 from E74] at y104
                  rw [show h67 97 = h 97 from E75] at y104
                  rw [show h67 98 = h 98 from E76] at y104
                  have y104_ : ov_PM (h 96) (h 103) (h 97) (h 98) (h106 105) (h106 106) (h106 90 22) (h106 90 25) (h106 90 26) (h106 90 28) (h106 90 29) (h106 90 30) := y104
                  refine ov_goto (tgt := 96) d_284_92 (by decide) ?_
                  refine ov_blk (ls2 := [(0, ov_r 90), (1, ov_i s), (2, ov_i x2), (3, ov_i x3), (4, ov_i x4), (5, ov_i (Int.tmod x4 6)), (6, ov_i (Int.tdiv x4 6)), (7, ov_i 1), (8, ov_i v89)]) (st2 := [ov_i 1]) (pc2 := 100) b_284_96_2 rfl rfl ?_
                  refine ov_ifeq (tgt := 125) d_284_100 (by decide) (by omega) (fun c123 => ?_) (fun c123 => ?_)
                  · omega
                  · skip
                    refine ov_blk (ls2 := [(0, ov_r 90), (1, ov_i s), (2, ov_i x2), (3, ov_i x3), (4, ov_i x4), (5, ov_i (Int.tmod x4 6)), (6, ov_i (Int.tdiv x4 6)), (7, ov_i 1), (8, ov_i v89)]) (st2 := [ov_i x2]) (pc2 := 104) b_284_103_1 rfl rfl ?_
                    refine ov_iflt (tgt := 113) d_284_104 (by decide) (by omega) (fun c124 => ?_) (fun c124 => ?_)
                    · skip
                      refine ov_blk (ls2 := [(0, ov_r 90), (1, ov_i s), (2, ov_i ((8 * (Int.tdiv x4 6)) + (Int.tmod x4 6))), (3, ov_i v89), (4, ov_i (x4 + 1)), (5, ov_i (Int.tmod x4 6)), (6, ov_i (Int.tdiv x4 6)), (7, ov_i 1), (8, ov_i v89)]) (st2 := []) (pc2 := 128) b_284_113_9 rfl rfl ?_
                      refine ov_goto (tgt := 7) d_284_128 (by decide) ?_
                      refine ov_sub (ls2 := [(0, ov_r 90), (1, ov_i s), (2, ov_i ((8 * (Int.tdiv x4 6)) + (Int.tmod x4 6))), (3, ov_i v89), (4, ov_i (x4 + 1))]) (List.Sublist.subset (by repeat (first | exact List.Sublist.refl _ | apply List.Sublist.cons_cons | apply List.Sublist.cons))) ?_
                      exact ih2 ((8 * (Int.tdiv x4 6)) + (Int.tmod x4 6)) v89 (x4 + 1) _ _ I107 E108 E109 E110 E111 E112 E113 E114 E115 E116 E117 E118 E119 E120 E121 y104_ (by show 0 ≤ (x4 + 1) ∧ (x4 + 1) ≤ 54 ∧ -1 ≤ ((8 * (Int.tdiv x4 6)) + (Int.tmod x4 6)) ∧ ((8 * (Int.tdiv x4 6)) + (Int.tmod x4 6)) ≤ 100 ∧ ov_g v89 ∧ (h 90 25) ≤ (h106 90 25) ∧ (h106 90 25) ≤ (h 90 25) + 62 * (x4 + 1) ∧ (h106 90 22) = (h 90 22) ∧ (h106 90 2) = (h 90 2) ∧ (h106 90 7) = (h 90 7) ∧ (h106 90 8) = (h 90 8) ∧ (h106 90 13) = (h 90 13) ∧ (h106 90 20) = (h 90 20) ∧ (h106 90 22) = (h 90 22) ∧ (h106 90 34) = (h 90 34); omega) (by omega)
                    · skip
                      refine ov_blk (ls2 := [(0, ov_r 90), (1, ov_i s), (2, ov_i x2), (3, ov_i x3), (4, ov_i x4), (5, ov_i (Int.tmod x4 6)), (6, ov_i (Int.tdiv x4 6)), (7, ov_i 1), (8, ov_i v89)]) (st2 := [ov_i x3, ov_i v89]) (pc2 := 110) b_284_107_2 rfl rfl ?_
                      refine ov_icle (tgt := 125) d_284_110 (by decide) (by omega) (by omega) (fun c125 => ?_) (fun c125 => ?_)
                      · skip
                        refine ov_blk (ls2 := [(0, ov_r 90), (1, ov_i s), (2, ov_i x2), (3, ov_i x3), (4, ov_i (x4 + 1)), (5, ov_i (Int.tmod x4 6)), (6, ov_i (Int.tdiv x4 6)), (7, ov_i 1), (8, ov_i v89)]) (st2 := []) (pc2 := 128) b_284_125_1 rfl rfl ?_
                        refine ov_goto (tgt := 7) d_284_128 (by decide) ?_
                        refine ov_sub (ls2 := [(0, ov_r 90), (1, ov_i s), (2, ov_i x2), (3, ov_i x3), (4, ov_i (x4 + 1))]) (List.Sublist.subset (by repeat (first | exact List.Sublist.refl _ | apply List.Sublist.cons_cons | apply List.Sublist.cons))) ?_
                        exact ih2 x2 x3 (x4 + 1) _ _ I107 E108 E109 E110 E111 E112 E113 E114 E115 E116 E117 E118 E119 E120 E121 y104_ (by show 0 ≤ (x4 + 1) ∧ (x4 + 1) ≤ 54 ∧ -1 ≤ x2 ∧ x2 ≤ 100 ∧ ov_g x3 ∧ (h 90 25) ≤ (h106 90 25) ∧ (h106 90 25) ≤ (h 90 25) + 62 * (x4 + 1) ∧ (h106 90 22) = (h 90 22) ∧ (h106 90 2) = (h 90 2) ∧ (h106 90 7) = (h 90 7) ∧ (h106 90 8) = (h 90 8) ∧ (h106 90 13) = (h 90 13) ∧ (h106 90 20) = (h 90 20) ∧ (h106 90 22) = (h 90 22) ∧ (h106 90 34) = (h 90 34); omega) (by omega)
                      · skip
                        refine ov_blk (ls2 := [(0, ov_r 90), (1, ov_i s), (2, ov_i ((8 * (Int.tdiv x4 6)) + (Int.tmod x4 6))), (3, ov_i v89), (4, ov_i (x4 + 1)), (5, ov_i (Int.tmod x4 6)), (6, ov_i (Int.tdiv x4 6)), (7, ov_i 1), (8, ov_i v89)]) (st2 := []) (pc2 := 128) b_284_113_9 rfl rfl ?_
                        refine ov_goto (tgt := 7) d_284_128 (by decide) ?_
                        refine ov_sub (ls2 := [(0, ov_r 90), (1, ov_i s), (2, ov_i ((8 * (Int.tdiv x4 6)) + (Int.tmod x4 6))), (3, ov_i v89), (4, ov_i (x4 + 1))]) (List.Sublist.subset (by repeat (first | exact List.Sublist.refl _ | apply List.Sublist.cons_cons | apply List.Sublist.cons))) ?_
                        exact ih2 ((8 * (Int.tdiv x4 6)) + (Int.tmod x4 6)) v89 (x4 + 1) _ _ I107 E108 E109 E110 E111 E112 E113 E114 E115 E116 E117 E118 E119 E120 E121 y104_ (by show 0 ≤ (x4 + 1) ∧ (x4 + 1) ≤ 54 ∧ -1 ≤ ((8 * (Int.tdiv x4 6)) + (Int.tmod x4 6)) ∧ ((8 * (Int.tdiv x4 6)) + (Int.tmod x4 6)) ≤ 100 ∧ ov_g v89 ∧ (h 90 25) ≤ (h106 90 25) ∧ (h106 90 25) ≤ (h 90 25) + 62 * (x4 + 1) ∧ (h106 90 22) = (h 90 22) ∧ (h106 90 2) = (h 90 2) ∧ (h106 90 7) = (h 90 7) ∧ (h106 90 8) = (h 90 8) ∧ (h106 90 13) = (h 90 13) ∧ (h106 90 20) = (h 90 20) ∧ (h106 90 22) = (h 90 22) ∧ (h106 90 34) = (h 90 34); omega) (by omega)
  exact L4 55 (-1) 0 0 _ _ I rfl rfl rfl rfl rfl rfl rfl rfl rfl rfl rfl rfl rfl rfl PM (by show 0 ≤ 0 ∧ 0 ≤ 54 ∧ -1 ≤ (-1) ∧ (-1) ≤ 100 ∧ ov_g 0 ∧ (h 90 25) ≤ (h 90 25) ∧ (h 90 25) ≤ (h 90 25) + 62 * 0 ∧ (h 90 22) = (h 90 22) ∧ (h 90 2) = (h 90 2) ∧ (h 90 7) = (h 90 7) ∧ (h 90 8) = (h 90 8) ∧ (h 90 13) = (h 90 13) ∧ (h 90 20) = (h 90 20) ∧ (h 90 22) = (h 90 22) ∧ (h 90 34) = (h 90 34); omega) (by omega)
abbrev P_Mo_rules_90 (F : ov_H × ov_Z) (z : ov_Z) (h : ov_H) : Option ov_V → ov_Z → ov_H → Prop := fun r0 z' h' => ∃ r : Int, r0 = some (ov_i r) ∧ ov_N F z' h' ∧ ((h' 90 2) = (h 90 2) ∧ (h' 90 7) = (h 90 7) ∧ (h' 90 8) = (h 90 8) ∧ (h' 90 13) = (h 90 13) ∧ (h' 90 20) = (h 90 20) ∧ (h' 90 22) = (h 90 22) ∧ (h' 90 34) = (h 90 34) ∧ (h 90 25) ≤ (h' 90 25) ∧ (h' 90 25) ≤ (h 90 25) + 4 ∧ -1 ≤ r ∧ r ≤ 4) ∧ h' 91 = h 91 ∧ h' 92 = h 92 ∧ h' 93 = h 93 ∧ h' 94 = h 94 ∧ h' 95 = h 95 ∧ h' 96 = h 96 ∧ h' 97 = h 97 ∧ h' 98 = h 98 ∧ h' 99 = h 99 ∧ h' 100 = h 100 ∧ h' 103 = h 103 ∧ h' 104 = h 104 ∧ h' 109 = h 109 ∧ h' 114 = h 114 ∧ (ov_PM (h 96) (h 103) (h 97) (h 98) (h' 105) (h' 106) (h' 90 22) (h' 90 25) (h' 90 26) (h' 90 28) (h' 90 29) (h' 90 30))
set_option maxHeartbeats 4000000 in
theorem c_Mo_rules_90 {u : ov_U} {F : ov_H × ov_Z} {z : ov_Z} {h : ov_H} (d : Nat) (hd : 90 ≤ d) (U : ov_cap u) (I : ov_N F z h) (p0 : 0 ≤ (h 90 25) ∧ (h 90 25) ≤ 1000000000) (W : ov_WT (h 96)) (CD : ov_CD (h 96) (h 97) (h 98)) (PM : ov_PM (h 96) (h 103) (h 97) (h 98) (h 105) (h 106) (h 90 22) (h 90 25) (h 90 26) (h 90 28) (h 90 29) (h 90 30)) : ov_T u d ov_m301 [ov_r 90] z h (P_Mo_rules_90 F z h) := by
  refine ov_en rfl (Nat.le_of_ble_eq_true rfl) ?_
  show ov_R u d ov_m301 0 [(0, ov_r 90)] [] z h (P_Mo_rules_90 F z h)
  have t0 := t96_0 I
  have t1 := t96_1 I
  have t8 := t96_8 I
  have t9 := t96_9 I
  refine ov_blk (ls2 := [(0, ov_r 90)]) (st2 := [ov_i 0, ov_r 90]) (pc2 := 2) b_301_0_2 rfl rfl ?_
  refine ov_putf (x := 0) d_301_2 fl_Mo_1 (zb_90 I) (zs_90 I) rfl nk_0 rfl ?_
  have I1 := up_90_0 (x := 0) I (by omega)
  refine ov_blk (ls2 := [(0, ov_r 90), (1, ov_i (-1)), (2, ov_i 0), (3, ov_i 0)]) (st2 := []) (pc2 := 11) b_301_5_6 rfl rfl ?_
  have L5 : ∀ (n2 : Nat) (x1 : Int) (x2 : Int) (x3 : Int) (z6 : ov_Z) (h7 : ov_H) (I8 : ov_N F z6 h7) (E9 : h7 91 = h 91) (E10 : h7 92 = h 92) (E11 : h7 93 = h 93) (E12 : h7 94 = h 94) (E13 : h7 95 = h 95) (E14 : h7 96 = h 96) (E15 : h7 97 = h 97) (E16 : h7 98 = h 98) (E17 : h7 99 = h 99) (E18 : h7 100 = h 100) (E19 : h7 103 = h 103) (E20 : h7 104 = h 104) (E21 : h7 109 = h 109) (E22 : h7 114 = h 114) (xp : ov_PM (h 96) (h 103) (h 97) (h 98) (h7 105) (h7 106) (h7 90 22) (h7 90 25) (h7 90 26) (h7 90 28) (h7 90 29) (h7 90 30)) (q4 : 0 ≤ x3 ∧ x3 ≤ 4 ∧ x3 ≤ (h 96 8) ∧ -1 ≤ x1 ∧ x1 ≤ 4 ∧ ov_g x2 ∧ (h 90 25) ≤ (h7 90 25) ∧ (h7 90 25) ≤ (h 90 25) + x3 ∧ (h7 90 22) = (h 90 22) ∧ (h7 90 2) = (h 90 2) ∧ (h7 90 7) = (h 90 7) ∧ (h7 90 8) = (h 90 8) ∧ (h7 90 13) = (h 90 13) ∧ (h7 90 20) = (h 90 20) ∧ (h7 90 22) = (h 90 22) ∧ (h7 90 34) = (h 90 34)), 4 - x3 < (n2 : Int) → ov_R u d ov_m301 11 [(0, ov_r 90), (1, ov_i x1), (2, ov_i x2), (3, ov_i x3)] [] z6 h7 (P_Mo_rules_90 F z h) := by
    intro n2
    induction n2 with
    | zero =>
      intro x1 x2 x3 z6 h7 I8 E9 E10 E11 E12 E13 E14 E15 E16 E17 E18 E19 E20 E21 E22 xp q4 hn23
      exact absurd hn23 (by omega)
    | succ n2 ih3 =>
      intro x1 x2 x3 z6 h7 I8 E9 E10 E11 E12 E13 E14 E15 E16 E17 E18 E19 E20 E21 E22 xp q4 hn23
      refine ov_blk (ls2 := [(0, ov_r 90), (1, ov_i x1), (2, ov_i x2), (3, ov_i x3)]) (st2 := [ov_r 90, ov_i x3]) (pc2 := 13) b_301_11_2 rfl rfl ?_
      refine ov_getf (v := ov_r 96) d_301_13 fl_Mo_81 (zb_90 I8) (zs_90 I8) (congrArg ov_r (rg_90_10 I8)) ?_
      refine ov_blk (ls2 := [(0, ov_r 90), (1, ov_i x1), (2, ov_i x2), (3, ov_i x3)]) (st2 := [ov_i 8, ov_r 96, ov_i x3]) (pc2 := 18) b_301_16_1 rfl rfl ?_
      refine ov_iald d_301_18 (zb_96 I8) (zs_96 I8) (by omega) ?_
      rw [show h7 96 = h 96 from E14]
      have g24 := t96_8 I
      refine ov_icge (tgt := 67) d_301_19 (by decide) (by omega) (by omega) (fun c25 => ?_) (fun c25 => ?_)
      · skip
        refine ov_blk (ls2 := [(0, ov_r 90), (1, ov_i x1), (2, ov_i x2), (3, ov_i x3)]) (st2 := [ov_i x1]) (pc2 := 68) b_301_67_1 rfl rfl ?_
        exact ov_reti (st := []) d_301_68 rfl ⟨_, rfl, I8, (by show (h7 90 2) = (h 90 2) ∧ (h7 90 7) = (h 90 7) ∧ (h7 90 8) = (h 90 8) ∧ (h7 90 13) = (h 90 13) ∧ (h7 90 20) = (h 90 20) ∧ (h7 90 22) = (h 90 22) ∧ (h7 90 34) = (h 90 34) ∧ (h 90 25) ≤ (h7 90 25) ∧ (h7 90 25) ≤ (h 90 25) + 4 ∧ -1 ≤ x1 ∧ x1 ≤ 4; omega), E9, E10, E11, E12, E13, E14, E15, E16, E17, E18, E19, E20, E21, E22, xp⟩
      · skip
        refine ov_blk (ls2 := [(0, ov_r 90), (1, ov_i x1), (2, ov_i x2), (3, ov_i x3)]) (st2 := [ov_i 0, ov_i (-1), ov_i 0, ov_i (4 + x3), ov_r 90]) (pc2 := 29) b_301_22_7 rfl rfl ?_
        refine ov_cV (as := [ov_i (4 + x3), ov_i 0, ov_i (-1), ov_i 0]) (st := []) (d2 := d - 1) d_301_29 lk_Mo_389 rfl (Nat.le_of_ble_eq_true rfl) (c := 1) (zb_90 I8) (zs_90 I8) ⟨by decide, rfl⟩ (by omega) (c_Mo_asks_90 (d - 1) (by omega) U I8 (4 + x3) 0 (-1) 0 (by omega) (by omega) (by omega) (by omega) (by omega) (by omega) (by omega) (by show 0 ≤ (h7 90 25) ∧ (h7 90 25) ≤ 2000000000; omega)) ?_
        rintro _ z43 h44 ⟨rfl, I45, f26, e27, e28, e29, e30, e31, e32, e33, e34, e35, e36, e37, e38, e39, e40, e41, e42⟩
        have E46 : h44 91 = h 91 := Eq.trans e27 E9
        have E47 : h44 92 = h 92 := Eq.trans e28 E10
        have E48 : h44 93 = h 93 := Eq.trans e29 E11
        have E49 : h44 94 = h 94 := Eq.trans e30 E12
        have E50 : h44 95 = h 95 := Eq.trans e31 E13
        have E51 : h44 96 = h 96 := Eq.trans e32 E14
        have E52 : h44 97 = h 97 := Eq.trans e33 E15
        have E53 : h44 98 = h 98 := Eq.trans e34 E16
        have E54 : h44 99 = h 99 := Eq.trans e35 E17
        have E55 : h44 100 = h 100 := Eq.trans e36 E18
        have E56 : h44 103 = h 103 := Eq.trans e37 E19
        have E57 : h44 104 = h 104 := Eq.trans e38 E20
        have E58 : h44 105 = h7 105 := e39
        have E59 : h44 106 = h7 106 := e40
        have E60 : h44 109 = h 109 := Eq.trans e41 E21
        have E61 : h44 114 = h 114 := Eq.trans e42 E22
        show ov_R u d ov_m301 32 [(0, ov_r 90), (1, ov_i x1), (2, ov_i x2), (3, ov_i x3)] [] z43 h44 (P_Mo_rules_90 F z h)
        have f62 : (h44 90 2) = (h7 90 2) ∧ (h44 90 7) = (h7 90 7) ∧ (h44 90 8) = (h7 90 8) ∧ (h44 90 13) = (h7 90 13) ∧ (h44 90 20) = (h7 90 20) ∧ (h44 90 22) = (h7 90 22) ∧ (h44 90 34) = (h7 90 34) ∧ (h44 90 26) = (4 + x3) ∧ (h44 90 27) = (0 : Int) ∧ (h44 90 28) = (h7 90 22) ∧ (h44 90 29) = ((-1) : Int) ∧ (h44 90 30) = (0 : Int) ∧ (((h44 90 25) = (h7 90 25) + 1) ∨ ((h44 90 25) = (h7 90 25) ∧ (h7 90 26) = (4 + x3) ∧ (h7 90 27) = (0 : Int) ∧ (h7 90 28) = (h7 90 22) ∧ (h7 90 29) = ((-1) : Int) ∧ (h7 90 30) = (0 : Int))) := f26
        clear f26
        have mi63 : ov_MI (h 96) (h 103) (h 97) (h 98) (4 + x3) (-1) 0 (h44 90 25) (h7 105) (h7 106) := ov_PM_ask xp (by omega)
        refine ov_blk (ls2 := [(0, ov_r 90), (1, ov_i x1), (2, ov_i x2), (3, ov_i x3)]) (st2 := [ov_i 0, ov_i 0, ov_i 0, ov_r 90]) (pc2 := 36) b_301_32_4 rfl rfl ?_
        have cf64 : h44 96 (0) = h 96 (0) := congrFun E51 (0)
        have cf65 : h44 96 (1) = h 96 (1) := congrFun E51 (1)
        have cf66 : h44 96 (8) = h 96 (8) := congrFun E51 (8)
        refine ov_cV (as := [ov_i 0, ov_i 0, ov_i 0]) (st := []) (d2 := d - 1) d_301_36 lk_Mo_377 rfl (Nat.le_of_ble_eq_true rfl) (c := 1) (zb_90 I45) (zs_90 I45) ⟨by decide, rfl⟩ (by omega) (c_Mo_worthFrom_90_all ((4 + x3)) ((-1)) 0 ((h44 90 25)) (Int.toNat (13 - (0) - (0))) (d - 1) (by omega) U I45 0 0 0 (by omega) (by omega) (by omega) (by omega) (by show (0 : Int) < (h44 96 0) ∧ (0 : Int) < (h44 96 1); omega) (by omega) (by omega) (by show (h44 90 26) = (4 + x3); omega) (by show (h44 90 29) = ((-1) : Int); omega) (by show (h44 90 30) = (0 : Int); omega) (by show (h44 90 25) = (h44 90 25); omega) (by show 0 ≤ (4 + x3) ∧ (4 + x3) ≤ 3 + (h44 96 8); omega) (by rw [show h44 96 = h 96 from E51]; exact W) (by rw [show h44 96 = h 96 from E51, show h44 97 = h 97 from E52, show h44 98 = h 98 from E53]; exact CD) (by rw [show h44 96 = h 96 from E51, show h44 103 = h 103 from E56, show h44 97 = h 97 from E52, show h44 98 = h 98 from E53, show h44 105 = h7 105 from E58, show h44 106 = h7 106 from E59]; exact mi63)) ?_
        rintro _ z85 h86 ⟨v68, rfl, I87, f67, e69, e70, e71, e72, e73, e74, e75, e76, e77, e78, e79, e80, e81, e82, y83, y84⟩
        have E88 : h86 91 = h 91 := Eq.trans e69 E46
        have E89 : h86 92 = h 92 := Eq.trans e70 E47
        have E90 : h86 93 = h 93 := Eq.trans e71 E48
        have E91 : h86 94 = h 94 := Eq.trans e72 E49
        have E92 : h86 95 = h 95 := Eq.trans e73 E50
        have E93 : h86 96 = h 96 := Eq.trans e74 E51
        have E94 : h86 97 = h 97 := Eq.trans e75 E52
        have E95 : h86 98 = h 98 := Eq.trans e76 E53
        have E96 : h86 99 = h 99 := Eq.trans e77 E54
        have E97 : h86 100 = h 100 := Eq.trans e78 E55
        have E98 : h86 103 = h 103 := Eq.trans e79 E56
        have E99 : h86 104 = h 104 := Eq.trans e80 E57
        have E100 : h86 109 = h 109 := Eq.trans e81 E60
        have E101 : h86 114 = h 114 := Eq.trans e82 E61
        show ov_R u d ov_m301 39 [(0, ov_r 90), (1, ov_i x1), (2, ov_i x2), (3, ov_i x3)] [ov_i v68] z85 h86 (P_Mo_rules_90 F z h)
        have f102 : (h86 90 2) = (h44 90 2) ∧ (h86 90 7) = (h44 90 7) ∧ (h86 90 8) = (h44 90 8) ∧ (h86 90 13) = (h44 90 13) ∧ (h86 90 20) = (h44 90 20) ∧ (h86 90 22) = (h44 90 22) ∧ (h86 90 25) = (h44 90 25) ∧ (h86 90 26) = (h44 90 26) ∧ (h86 90 28) = (h44 90 28) ∧ (h86 90 29) = (h44 90 29) ∧ (h86 90 30) = (h44 90 30) ∧ (h86 90 34) = (h44 90 34) ∧ -1 ≤ v68 ∧ v68 ≤ 89000 * (13 - (0 : Int) - (0 : Int)) := f67
        clear f67
        rw [show h44 103 = h 103 from E56] at y83
        rw [show h44 96 = h 96 from E51] at y83
        rw [show h44 97 = h 97 from E52] at y83
        rw [show h44 98 = h 98 from E53] at y83
        have y83_ : ov_MI (h 96) (h 103) (h 97) (h 98) (4 + x3) ((-1) : Int) (0 : Int) (h44 90 25) (h86 105) (h86 106) := y83
        rw [show h44 103 = h 103 from E56] at y84
        rw [show h44 96 = h 96 from E51] at y84
        rw [show h44 97 = h 97 from E52] at y84
        rw [show h44 98 = h 98 from E53] at y84
        have y84_ : (0 ≤ v68 ↔ ov_go (h 96) (h 103) (h 97) (h 98) (4 + x3) ((-1) : Int) (0 : Int) (0 : Int) (0 : Int) ((0 : Int) % (h 96 9))) := y84
        refine ov_blk (ls2 := [(0, ov_r 90), (1, ov_i x1), (2, ov_i x2), (3, ov_i x3), (4, ov_i v68)]) (st2 := [ov_i v68]) (pc2 := 43) b_301_39_2 rfl rfl ?_
        refine ov_iflt (tgt := 61) d_301_43 (by decide) (by omega) (fun c103 => ?_) (fun c103 => ?_)
        · skip
          have pm104 : ov_PM (h 96) (h 103) (h 97) (h 98) (h86 105) (h86 106) (h86 90 22) (h86 90 25) (h86 90 26) (h86 90 28) (h86 90 29) (h86 90 30) := ov_PM_mi y83_ (by omega) (by omega) (by omega) (by omega) (by omega) (by omega)
          refine ov_blk (ls2 := [(0, ov_r 90), (1, ov_i x1), (2, ov_i x2), (3, ov_i (x3 + 1)), (4, ov_i v68)]) (st2 := []) (pc2 := 64) b_301_61_1 rfl rfl ?_
          refine ov_goto (tgt := 11) d_301_64 (by decide) ?_
          refine ov_sub (ls2 := [(0, ov_r 90), (1, ov_i x1), (2, ov_i x2), (3, ov_i (x3 + 1))]) (List.Sublist.subset (by repeat (first | exact List.Sublist.refl _ | apply List.Sublist.cons_cons | apply List.Sublist.cons))) ?_
          exact ih3 x1 x2 (x3 + 1) _ _ I87 E88 E89 E90 E91 E92 E93 E94 E95 E96 E97 E98 E99 E100 E101 pm104 (by show 0 ≤ (x3 + 1) ∧ (x3 + 1) ≤ 4 ∧ (x3 + 1) ≤ (h 96 8) ∧ -1 ≤ x1 ∧ x1 ≤ 4 ∧ ov_g x2 ∧ (h 90 25) ≤ (h86 90 25) ∧ (h86 90 25) ≤ (h 90 25) + (x3 + 1) ∧ (h86 90 22) = (h 90 22) ∧ (h86 90 2) = (h 90 2) ∧ (h86 90 7) = (h 90 7) ∧ (h86 90 8) = (h 90 8) ∧ (h86 90 13) = (h 90 13) ∧ (h86 90 20) = (h 90 20) ∧ (h86 90 22) = (h 90 22) ∧ (h86 90 34) = (h 90 34); omega) (by omega)
        · skip
          refine ov_blk (ls2 := [(0, ov_r 90), (1, ov_i x1), (2, ov_i x2), (3, ov_i x3), (4, ov_i v68)]) (st2 := [ov_i x1]) (pc2 := 47) b_301_46_1 rfl rfl ?_
          refine ov_iflt (tgt := 56) d_301_47 (by decide) (by omega) (fun c105 => ?_) (fun c105 => ?_)
          · skip
            refine ov_blk (ls2 := [(0, ov_r 90), (1, ov_i x3), (2, ov_i v68), (3, ov_i x3), (4, ov_i v68)]) (st2 := []) (pc2 := 61) b_301_56_4 rfl rfl ?_
            have pm106 : ov_PM (h 96) (h 103) (h 97) (h 98) (h86 105) (h86 106) (h86 90 22) (h86 90 25) (h86 90 26) (h86 90 28) (h86 90 29) (h86 90 30) := ov_PM_mi y83_ (by omega) (by omega) (by omega) (by omega) (by omega) (by omega)
            refine ov_blk (ls2 := [(0, ov_r 90), (1, ov_i x3), (2, ov_i v68), (3, ov_i (x3 + 1)), (4, ov_i v68)]) (st2 := []) (pc2 := 64) b_301_61_1 rfl rfl ?_
            refine ov_goto (tgt := 11) d_301_64 (by decide) ?_
            refine ov_sub (ls2 := [(0, ov_r 90), (1, ov_i x3), (2, ov_i v68), (3, ov_i (x3 + 1))]) (List.Sublist.subset (by repeat (first | exact List.Sublist.refl _ | apply List.Sublist.cons_cons | apply List.Sublist.cons))) ?_
            exact ih3 x3 v68 (x3 + 1) _ _ I87 E88 E89 E90 E91 E92 E93 E94 E95 E96 E97 E98 E99 E100 E101 pm106 (by show 0 ≤ (x3 + 1) ∧ (x3 + 1) ≤ 4 ∧ (x3 + 1) ≤ (h 96 8) ∧ -1 ≤ x3 ∧ x3 ≤ 4 ∧ ov_g v68 ∧ (h 90 25) ≤ (h86 90 25) ∧ (h86 90 25) ≤ (h 90 25) + (x3 + 1) ∧ (h86 90 22) = (h 90 22) ∧ (h86 90 2) = (h 90 2) ∧ (h86 90 7) = (h 90 7) ∧ (h86 90 8) = (h 90 8) ∧ (h86 90 13) = (h 90 13) ∧ (h86 90 20) = (h 90 20) ∧ (h86 90 22) = (h 90 22) ∧ (h86 90 34) = (h 90 34); omega) (by omega)
          · skip
            refine ov_blk (ls2 := [(0, ov_r 90), (1, ov_i x1), (2, ov_i x2), (3, ov_i x3), (4, ov_i v68)]) (st2 := [ov_i x2, ov_i v68]) (pc2 := 53) b_301_50_2 rfl rfl ?_
            refine ov_icge (tgt := 61) d_301_53 (by decide) (by omega) (by omega) (fun c107 => ?_) (fun c107 => ?_)
            · skip
              have pm108 : ov_PM (h 96) (h 103) (h 97) (h 98) (h86 105) (h86 106) (h86 90 22) (h86 90 25) (h86 90 26) (h86 90 28) (h86 90 29) (h86 90 30) := ov_PM_mi y83_ (by omega) (by omega) (by omega) (by omega) (by omega) (by omega)
              refine ov_blk (ls2 := [(0, ov_r 90), (1, ov_i x1), (2, ov_i x2), (3, ov_i (x3 + 1)), (4, ov_i v68)]) (st2 := []) (pc2 := 64) b_301_61_1 rfl rfl ?_
              refine ov_goto (tgt := 11) d_301_64 (by decide) ?_
              refine ov_sub (ls2 := [(0, ov_r 90), (1, ov_i x1), (2, ov_i x2), (3, ov_i (x3 + 1))]) (List.Sublist.subset (by repeat (first | exact List.Sublist.refl _ | apply List.Sublist.cons_cons | apply List.Sublist.cons))) ?_
              exact ih3 x1 x2 (x3 + 1) _ _ I87 E88 E89 E90 E91 E92 E93 E94 E95 E96 E97 E98 E99 E100 E101 pm108 (by show 0 ≤ (x3 + 1) ∧ (x3 + 1) ≤ 4 ∧ (x3 + 1) ≤ (h 96 8) ∧ -1 ≤ x1 ∧ x1 ≤ 4 ∧ ov_g x2 ∧ (h 90 25) ≤ (h86 90 25) ∧ (h86 90 25) ≤ (h 90 25) + (x3 + 1) ∧ (h86 90 22) = (h 90 22) ∧ (h86 90 2) = (h 90 2) ∧ (h86 90 7) = (h 90 7) ∧ (h86 90 8) = (h 90 8) ∧ (h86 90 13) = (h 90 13) ∧ (h86 90 20) = (h 90 20) ∧ (h86 90 22) = (h 90 22) ∧ (h86 90 34) = (h 90 34); omega) (by omega)
            · skip
              refine ov_blk (ls2 := [(0, ov_r 90), (1, ov_i x3), (2, ov_i v68), (3, ov_i x3), (4, ov_i v68)]) (st2 := []) (pc2 := 61) b_301_56_4 rfl rfl ?_
              have pm109 : ov_PM (h 96) (h 103) (h 97) (h 98) (h86 105) (h86 106) (h86 90 22) (h86 90 25) (h86 90 26) (h86 90 28) (h86 90 29) (h86 90 30) := ov_PM_mi y83_ (by omega) (by omega) (by omega) (by omega) (by omega) (by omega)
              refine ov_blk (ls2 := [(0, ov_r 90), (1, ov_i x3), (2, ov_i v68), (3, ov_i (x3 + 1)), (4, ov_i v68)]) (st2 := []) (pc2 := 64) b_301_61_1 rfl rfl ?_
              refine ov_goto (tgt := 11) d_301_64 (by decide) ?_
              refine ov_sub (ls2 := [(0, ov_r 90), (1, ov_i x3), (2, ov_i v68), (3, ov_i (x3 + 1))]) (List.Sublist.subset (by repeat (first | exact List.Sublist.refl _ | apply List.Sublist.cons_cons | apply List.Sublist.cons))) ?_
              exact ih3 x3 v68 (x3 + 1) _ _ I87 E88 E89 E90 E91 E92 E93 E94 E95 E96 E97 E98 E99 E100 E101 pm109 (by show 0 ≤ (x3 + 1) ∧ (x3 + 1) ≤ 4 ∧ (x3 + 1) ≤ (h 96 8) ∧ -1 ≤ x3 ∧ x3 ≤ 4 ∧ ov_g v68 ∧ (h 90 25) ≤ (h86 90 25) ∧ (h86 90 25) ≤ (h 90 25) + (x3 + 1) ∧ (h86 90 22) = (h 90 22) ∧ (h86 90 2) = (h 90 2) ∧ (h86 90 7) = (h 90 7) ∧ (h86 90 8) = (h 90 8) ∧ (h86 90 13) = (h 90 13) ∧ (h86 90 20) = (h 90 20) ∧ (h86 90 22) = (h 90 22) ∧ (h86 90 34) = (h 90 34); omega) (by omega)
  exact L5 5 (-1) 0 0 _ _ I1 rfl rfl rfl rfl rfl rfl rfl rfl rfl rfl rfl rfl rfl rfl PM (by show 0 ≤ 0 ∧ 0 ≤ 4 ∧ 0 ≤ (h 96 8) ∧ -1 ≤ (-1) ∧ (-1) ≤ 4 ∧ ov_g 0 ∧ (h 90 25) ≤ (h 90 25) ∧ (h 90 25) ≤ (h 90 25) + 0 ∧ (h 90 22) = (h 90 22) ∧ (h 90 2) = (h 90 2) ∧ (h 90 7) = (h 90 7) ∧ (h 90 8) = (h 90 8) ∧ (h 90 13) = (h 90 13) ∧ (h 90 20) = (h 90 20) ∧ (h 90 22) = (h 90 22) ∧ (h 90 34) = (h 90 34); omega) (by omega)

abbrev P_fMo_town_90 (F : ov_H × ov_Z) (z : ov_Z) (h : ov_H) (t : Int → Int) (m : Int) : Option ov_V → ov_Z → ov_H → Prop := fun r0 z' h' => ∃ r : Int, r0 = some (ov_i r) ∧ ov_N F z' h' ∧ (∀ a : Int, a ≠ 90 ∧ (a < 92 ∨ 94 < a) ∧ (a < 96 ∨ 100 < a) ∧ (a < 103 ∨ 104 < a) → h' a = h a) ∧ (∀ k : Int, k ≠ 0 → k ≠ 2 → k ≠ 3 → k ≠ 7 → k ≠ 8 → k ≠ 13 → k ≠ 15 → k ≠ 20 → k ≠ 22 → (h' 90) k = (h 90) k) ∧ ((∃ B : Int → Int, (1 ≤ r ∧ r ≤ 16005) ∧ (pt_ET t m r B) ∧ ((h' 104) = (h 104))) ∨ (∃ B : Int → Int, (r = 0) ∧ (pt_ET t m r B) ∧ (∀ j : Int, 0 ≤ j → j < 4 → (h' 104) j = 0)))
set_option maxHeartbeats 4000000 in
theorem c_fMo_town_90 {u : ov_U} {F : ov_H × ov_Z} (t : Int → Int) (m : Int) {z : ov_Z} {h : ov_H} (d : Nat) (hd : 42 ≤ d) (U : ov_cap u) (I : ov_N F z h) (p0 : (h 90 2) = m) (p1 : 0 ≤ m ∧ m ≤ 1000) (p2 : 0 ≤ ov_bd F) (e91 : (h 91) = t) (wd : pt_WD (h 95)) : ov_T u d ov_m205 [ov_r 90] z h (P_fMo_town_90 F z h t m) := by
  refine ov_en rfl (Nat.le_of_ble_eq_true rfl) ?_
  show ov_R u d ov_m205 0 [(0, ov_r 90)] [] z h (P_fMo_town_90 F z h t m)
  refine ov_blk (ls2 := [(0, ov_r 90)]) (st2 := [ov_i 0, ov_r 90]) (pc2 := 2) b_205_0_2 rfl rfl ?_
  refine ov_putf (x := 0) d_205_2 fl_Mo_1 (zb_90 I) (zs_90 I) rfl nk_0 rfl ?_
  have I1 := up_90_0 (x := 0) I (by omega)
  show ov_R u d ov_m205 5 [(0, ov_r 90)] [] z (ov_up h 90 0 0) (P_fMo_town_90 F z h t m)
  refine ov_blk (ls2 := [(0, ov_r 90)]) (st2 := [ov_r 90]) (pc2 := 6) b_205_5_1 rfl rfl ?_
  refine ov_cV (as := []) (st := []) (d2 := d - 1) d_205_6 lk_Mo_205 rfl (Nat.le_of_ble_eq_true rfl) (c := 1) (zb_90 I1) (zs_90 I1) ⟨by decide, rfl⟩ (by omega) (c_fMo_cutAll_90 t m (d - 1) (by omega) U I1 (by show (h 90 2) = m; omega) (by show 0 ≤ m ∧ m ≤ 1000; omega) e91) ?_
  rintro _ z2 h3 ⟨rfl, I4, y5, f6, y7, y8⟩
  have E9 : h3 91 = h 91 := Eq.trans (y5 91 (by decide)) (show (ov_up h 90 0 0) 91 = h 91 from rfl)
  have E10 : h3 95 = h 95 := Eq.trans (y5 95 (by decide)) (show (ov_up h 90 0 0) 95 = h 95 from rfl)
  have E11 : h3 96 = h 96 := Eq.trans (y5 96 (by decide)) (show (ov_up h 90 0 0) 96 = h 96 from rfl)
  have E12 : h3 99 = h 99 := Eq.trans (y5 99 (by decide)) (show (ov_up h 90 0 0) 99 = h 99 from rfl)
  have E13 : h3 104 = h 104 := Eq.trans (y5 104 (by decide)) (show (ov_up h 90 0 0) 104 = h 104 from rfl)
  have fr14 : ∀ a : Int, a ≠ 90 ∧ (a < 92 ∨ 94 < a) ∧ (a < 96 ∨ 100 < a) ∧ (a < 103 ∨ 104 < a) → h3 a = h a := fun a ca => Eq.trans (y5 a (by omega)) (Eq.trans (by show (ov_up h 90 0 0) a = h a; rw [ov_up_ne (by omega)]) rfl)
  have f16 : (h3 90 2) = 0 ∧ (h3 90 3) = m ∧ (h3 90 7) = 0 ∧ (h3 90 8) = 0 := f6
  clear f6
  have y7_ : ∃ N : Int, pt_MT t m (h3 92) (h3 93) (h3 94) N := y7
  have y8_ : ∀ k : Int, k ≠ 2 → k ≠ 3 → k ≠ 7 → k ≠ 8 → (h3 90) k = ((ov_up h 90 0 0) 90) k := y8
  have rk15 : ∀ k : Int, k ≠ 0 → k ≠ 2 → k ≠ 3 → k ≠ 7 → k ≠ 8 → k ≠ 13 → k ≠ 15 → k ≠ 20 → k ≠ 22 → h3 90 k = h 90 k := fun k n0 n1 n2 n3 n4 n5 n6 n7 n8 => Eq.trans (y8_ k n1 n2 n3 n4) (Eq.trans (by show (ov_up h 90 0 0) 90 k = h 90 k; rw [ov_up_j n0]) rfl)
  have g17 : h3 90 13 = (h 90 13) := y8_ 13 (by decide) (by decide) (by decide) (by decide)
  have g18 : h3 90 15 = (h 90 15) := y8_ 15 (by decide) (by decide) (by decide) (by decide)
  show ov_R u d ov_m205 9 [(0, ov_r 90)] [] z2 h3 (P_fMo_town_90 F z h t m)
  obtain ⟨N, mt⟩ := y7_
  have pz := pt_MT_0 mt
  have mN := mt.1.2.1
  have mN0 := mt.1.1
  have zp : h3 93 (h3 90 7) = (pt_rn pt_bB t m 0) := by rw [show h3 90 7 = 0 by omega]; exact pz
  have nb0 := pt_rn_b (P := pt_bB) (t := t) (n := m) (p := 0)
  refine ov_blk (ls2 := [(0, ov_r 90)]) (st2 := [ov_i 0, ov_r 90]) (pc2 := 11) b_205_9_2 rfl rfl ?_
  refine ov_putf (x := 0) d_205_11 fl_Mo_208 (zb_90 I4) (zs_90 I4) rfl nk_0 rfl ?_
  have I19 := up_90_13 (x := 0) I4 (by omega)
  show ov_R u d ov_m205 14 [(0, ov_r 90)] [] z2 (ov_up h3 90 13 0) (P_fMo_town_90 F z h t m)
  refine ov_blk (ls2 := [(0, ov_r 90)]) (st2 := [ov_i 0, ov_r 90]) (pc2 := 16) b_205_14_2 rfl rfl ?_
  refine ov_putf (x := 0) d_205_16 fl_Mo_211 (zb_90 I19) (zs_90 I19) rfl nk_0 rfl ?_
  have I20 := up_90_15 (x := 0) I19 (by omega)
  show ov_R u d ov_m205 19 [(0, ov_r 90)] [] z2 (ov_up (ov_up h3 90 13 0) 90 15 0) (P_fMo_town_90 F z h t m)
  refine ov_blk (ls2 := [(0, ov_r 90)]) (st2 := [ov_i 340, ov_r 90]) (pc2 := 23) b_205_19_2 rfl rfl ?_
  refine ov_cV (as := [ov_i 340]) (st := []) (d2 := d - 1) d_205_23 lk_Mo_147 rfl (Nat.le_of_ble_eq_true rfl) (c := 1) (zb_90 I20) (zs_90 I20) ⟨by decide, rfl⟩ (by omega) (c_fMo_standsAsAlways_90 (d - 1) (by omega) U I20 340 (by omega) (by show (340 : Int) = 340; omega)) ?_
  rintro _ z21 h22 ⟨rfl, I23, y24, y25⟩
  have E26 : h22 91 = h 91 := Eq.trans (y24 91 (by decide)) (show (ov_up (ov_up h3 90 13 0) 90 15 0) 91 = h 91 from E9)
  have E27 : h22 92 = h3 92 := Eq.trans (y24 92 (by decide)) (show (ov_up (ov_up h3 90 13 0) 90 15 0) 92 = h3 92 from rfl)
  have E28 : h22 93 = h3 93 := Eq.trans (y24 93 (by decide)) (show (ov_up (ov_up h3 90 13 0) 90 15 0) 93 = h3 93 from rfl)
  have E29 : h22 94 = h3 94 := Eq.trans (y24 94 (by decide)) (show (ov_up (ov_up h3 90 13 0) 90 15 0) 94 = h3 94 from rfl)
  have E30 : h22 95 = h 95 := Eq.trans (y24 95 (by decide)) (show (ov_up (ov_up h3 90 13 0) 90 15 0) 95 = h 95 from E10)
  have E31 : h22 99 = h 99 := Eq.trans (y24 99 (by decide)) (show (ov_up (ov_up h3 90 13 0) 90 15 0) 99 = h 99 from E12)
  have E32 : h22 104 = h 104 := Eq.trans (y24 104 (by decide)) (show (ov_up (ov_up h3 90 13 0) 90 15 0) 104 = h 104 from E13)
  have fr33 : ∀ a : Int, a ≠ 90 ∧ (a < 92 ∨ 94 < a) ∧ (a < 96 ∨ 100 < a) ∧ (a < 103 ∨ 104 < a) → h22 a = h a := fun a ca => Eq.trans (y24 a (by omega)) (Eq.trans (by show (ov_up (ov_up h3 90 13 0) 90 15 0) a = h3 a; rw [ov_up_ne (by omega), ov_up_ne (by omega)]) (fr14 a ca))
  have rk34 : ∀ k : Int, k ≠ 0 → k ≠ 2 → k ≠ 3 → k ≠ 7 → k ≠ 8 → k ≠ 13 → k ≠ 15 → k ≠ 20 → k ≠ 22 → h22 90 k = h 90 k := fun k n0 n1 n2 n3 n4 n5 n6 n7 n8 => Eq.trans (congrFun (y24 90 (by decide)) k) (Eq.trans (by show (ov_up (ov_up h3 90 13 0) 90 15 0) 90 k = h3 90 k; rw [ov_up_j n6, ov_up_j n5]) (rk15 k n0 n1 n2 n3 n4 n5 n6 n7 n8))
  have g35 : h22 90 2 = (h3 90 2) := congrFun (y24 90 (by decide)) 2
  have g36 : h22 90 3 = (h3 90 3) := congrFun (y24 90 (by decide)) 3
  have g37 : h22 90 7 = (h3 90 7) := congrFun (y24 90 (by decide)) 7
  have g38 : h22 90 8 = (h3 90 8) := congrFun (y24 90 (by decide)) 8
  have g39 : h22 90 13 = 0 := congrFun (y24 90 (by decide)) 13
  have g40 : h22 90 15 = 0 := congrFun (y24 90 (by decide)) 15
  have y25_ : ∀ j : Int, 0 ≤ j → j < 340 → (h22 96) (340 + j) = pt_A0 0 0 j := y25
  show ov_R u d ov_m205 26 [(0, ov_r 90)] [] z21 h22 (P_fMo_town_90 F z h t m)
  have zp2 : h3 93 (h22 90 7) = (pt_rn pt_bB t m 0) := by rw [show h22 90 7 = 0 by omega]; exact pz
  refine ov_blk (ls2 := [(0, ov_r 90)]) (st2 := [ov_i 0, ov_r 90]) (pc2 := 28) b_205_26_2 rfl rfl ?_
  have cf41 : h22 93 ((h22 90 7)) = h3 93 ((h22 90 7)) := congrFun E28 ((h22 90 7))
  refine ov_cV (as := [ov_i 0]) (st := []) (d2 := d - 1) d_205_28 lk_Mo_195 rfl (Nat.le_of_ble_eq_true rfl) (c := 1) (zb_90 I23) (zs_90 I23) ⟨by decide, rfl⟩ (by omega) (c_fMo_takeWord_90 t m N (pt_rn pt_bB t m 0) 1953462126 (d - 1) (by omega) U I23 0 (by omega) (by show 0 ≤ (h22 90 7) ∧ (h22 90 7) ≤ N; omega) (by show (h22 93 ((h22 90 7))) = (pt_rn pt_bB t m 0); omega) (by show 0 ≤ (h22 90 8); omega) (by show 0 ≤ (0 : Int) ∧ (0 : Int) ≤ 21; omega) (by rw [show h22 92 = h3 92 from E27, show h22 93 = h3 93 from E28, show h22 94 = h3 94 from E29]; exact mt) (by rw [show h22 95 = h 95 from E30]; exact wd) (by decide +kernel)) ?_
  rintro _ z42 h43 ⟨rfl, I44, y45, y46, y47⟩
  have E48 : h43 91 = h 91 := Eq.trans (y45 91 (by decide)) (show h22 91 = h 91 from E26)
  have E49 : h43 92 = h3 92 := Eq.trans (y45 92 (by decide)) (show h22 92 = h3 92 from E27)
  have E50 : h43 93 = h3 93 := Eq.trans (y45 93 (by decide)) (show h22 93 = h3 93 from E28)
  have E51 : h43 94 = h3 94 := Eq.trans (y45 94 (by decide)) (show h22 94 = h3 94 from E29)
  have E52 : h43 95 = h 95 := Eq.trans (y45 95 (by decide)) (show h22 95 = h 95 from E30)
  have E53 : h43 96 = h22 96 := Eq.trans (y45 96 (by decide)) (show h22 96 = h22 96 from rfl)
  have E54 : h43 99 = h 99 := Eq.trans (y45 99 (by decide)) (show h22 99 = h 99 from E31)
  have E55 : h43 104 = h 104 := Eq.trans (y45 104 (by decide)) (show h22 104 = h 104 from E32)
  have fr56 : ∀ a : Int, a ≠ 90 ∧ (a < 92 ∨ 94 < a) ∧ (a < 96 ∨ 100 < a) ∧ (a < 103 ∨ 104 < a) → h43 a = h a := fun a ca => Eq.trans (y45 a (by omega)) (fr33 a ca)
  have y46_ : ∀ k : Int, k ≠ 7 → k ≠ 8 → (h43 90) k = (h22 90) k := y46
  have rk57 : ∀ k : Int, k ≠ 0 → k ≠ 2 → k ≠ 3 → k ≠ 7 → k ≠ 8 → k ≠ 13 → k ≠ 15 → k ≠ 20 → k ≠ 22 → h43 90 k = h 90 k := fun k n0 n1 n2 n3 n4 n5 n6 n7 n8 => Eq.trans (y46_ k n3 n4) (rk34 k n0 n1 n2 n3 n4 n5 n6 n7 n8)
  have g58 : h43 90 2 = (h22 90 2) := y46_ 2 (by decide) (by decide)
  have g59 : h43 90 3 = (h22 90 3) := y46_ 3 (by decide) (by decide)
  have g60 : h43 90 13 = (h22 90 13) := y46_ 13 (by decide) (by decide)
  have g61 : h43 90 15 = (h22 90 15) := y46_ 15 (by decide) (by decide)
  rcases y47 with f62 | f63 | f64
  · omega
  · skip
    show ov_R u d ov_m205 31 [(0, ov_r 90)] [] z42 h43 (P_fMo_town_90 F z h t m)
    have f65 : (h22 90 8) = 0 ∧ pt_iw t m (pt_rn pt_bB t m 0) (1953462126 : Int) = 0 ∧ (h43 90 8) = 1 + 16 * (pt_rn pt_bB t m 0) ∧ 1 ≤ (h43 90 8) ∧ (h43 90 7) = (h22 90 7) ∧ (h43 93 ((h43 90 7))) = (pt_rn pt_bB t m 0) := f63
    clear f63
    refine ov_blk (ls2 := [(0, ov_r 90)]) (st2 := [ov_r 90]) (pc2 := 32) b_205_31_1 rfl rfl ?_
    refine ov_getf (v := ov_r 96) d_205_32 fl_Mo_81 (zb_90 I44) (zs_90 I44) (congrArg ov_r (rg_90_10 I44)) ?_
    refine ov_blk (ls2 := [(0, ov_r 90)]) (st2 := [ov_i 6, ov_i 1, ov_r 90, ov_i 340, ov_r 96]) (pc2 := 42) b_205_35_4 rfl rfl ?_
    have cf66 : h43 93 ((h43 90 7)) = h3 93 ((h43 90 7)) := congrFun E50 ((h43 90 7))
    refine ov_cV (as := [ov_i 1, ov_i 6]) (st := [ov_i 340, ov_r 96]) (d2 := d - 1) d_205_42 lk_Mo_198 rfl (Nat.le_of_ble_eq_true rfl) (c := 1) (zb_90 I44) (zs_90 I44) ⟨by decide, rfl⟩ (by omega) (c_fMo_takeNumber_90 t m N (pt_rn pt_bB t m 0) (d - 1) (by omega) U I44 1 6 (by omega) (by omega) (by show 0 ≤ (h43 90 7) ∧ (h43 90 7) ≤ N; omega) (by show (h43 93 ((h43 90 7))) = (pt_rn pt_bB t m 0); omega) (by show 0 ≤ (h43 90 8); omega) (by rw [show h43 92 = h3 92 from E49, show h43 93 = h3 93 from E50, show h43 94 = h3 94 from E51]; exact mt)) ?_
    rintro _ z68 h69 ⟨v67, rfl, I70, y71, y72, y73⟩
    have E74 : h69 91 = h 91 := Eq.trans (y71 91 (by decide)) (show h43 91 = h 91 from E48)
    have E75 : h69 92 = h3 92 := Eq.trans (y71 92 (by decide)) (show h43 92 = h3 92 from E49)
    have E76 : h69 93 = h3 93 := Eq.trans (y71 93 (by decide)) (show h43 93 = h3 93 from E50)
    have E77 : h69 94 = h3 94 := Eq.trans (y71 94 (by decide)) (show h43 94 = h3 94 from E51)
    have E78 : h69 95 = h 95 := Eq.trans (y71 95 (by decide)) (show h43 95 = h 95 from E52)
    have E79 : h69 96 = h22 96 := Eq.trans (y71 96 (by decide)) (show h43 96 = h22 96 from E53)
    have E80 : h69 99 = h 99 := Eq.trans (y71 99 (by decide)) (show h43 99 = h 99 from E54)
    have E81 : h69 104 = h 104 := Eq.trans (y71 104 (by decide)) (show h43 104 = h 104 from E55)
    have fr82 : ∀ a : Int, a ≠ 90 ∧ (a < 92 ∨ 94 < a) ∧ (a < 96 ∨ 100 < a) ∧ (a < 103 ∨ 104 < a) → h69 a = h a := fun a ca => Eq.trans (y71 a (by omega)) (fr56 a ca)
    have y72_ : ∀ k : Int, k ≠ 7 → k ≠ 8 → (h69 90) k = (h43 90) k := y72
    have rk83 : ∀ k : Int, k ≠ 0 → k ≠ 2 → k ≠ 3 → k ≠ 7 → k ≠ 8 → k ≠ 13 → k ≠ 15 → k ≠ 20 → k ≠ 22 → h69 90 k = h 90 k := fun k n0 n1 n2 n3 n4 n5 n6 n7 n8 => Eq.trans (y72_ k n3 n4) (rk57 k n0 n1 n2 n3 n4 n5 n6 n7 n8)
    have g84 : h69 90 2 = (h43 90 2) := y72_ 2 (by decide) (by decide)
    have g85 : h69 90 3 = (h43 90 3) := y72_ 3 (by decide) (by decide)
    have g86 : h69 90 13 = (h43 90 13) := y72_ 13 (by decide) (by decide)
    have g87 : h69 90 15 = (h43 90 15) := y72_ 15 (by decide) (by decide)
    rcases y73 with f88 | f89 | f90
    · skip
      show ov_R u d ov_m205 45 [(0, ov_r 90)] [ov_i v67, ov_i 340, ov_r 96] z68 h69 (P_fMo_town_90 F z h t m)
      have f91 : v67 = 0 ∧ (h43 90 8) ≠ 0 ∧ (h69 90 8) = (h43 90 8) ∧ (h69 90 7) = (h43 90 7) ∧ (h69 93 ((h69 90 7))) = (pt_rn pt_bB t m 0) := f88
      clear f88
      refine ov_iast d_205_45 (zb_96 I70) (zs_96 I70) (by omega) ?_
      have I92 := ua_96 (k := 340) (x := v67) I70 (by refine ⟨?_, ?_, ?_, ?_, ?_, ?_, ?_, ?_, ?_, ?_, ?_, ?_, ?_, ?_, ?_, ?_, ?_, ?_, ?_, ?_, ?_, ?_, ?_, ?_, ?_, ?_, ?_, ?_, ?_⟩ <;> omega)
      refine ov_blk (ls2 := [(0, ov_r 90)]) (st2 := [ov_r 90]) (pc2 := 47) b_205_46_1 rfl rfl ?_
      refine ov_getf (v := ov_r 96) d_205_47 fl_Mo_81 (zb_90 I92) (zs_90 I92) (congrArg ov_r (rg_90_10 I92)) ?_
      refine ov_blk (ls2 := [(0, ov_r 90)]) (st2 := [ov_i 9, ov_i 1, ov_r 90, ov_i 341, ov_r 96]) (pc2 := 57) b_205_50_4 rfl rfl ?_
      have cf93 : h69 93 ((h69 90 7)) = h3 93 ((h69 90 7)) := congrFun E76 ((h69 90 7))
      refine ov_cV (as := [ov_i 1, ov_i 9]) (st := [ov_i 341, ov_r 96]) (d2 := d - 1) d_205_57 lk_Mo_198 rfl (Nat.le_of_ble_eq_true rfl) (c := 1) (zb_90 I92) (zs_90 I92) ⟨by decide, rfl⟩ (by omega) (c_fMo_takeNumber_90 t m N (pt_rn pt_bB t m 0) (d - 1) (by omega) U I92 1 9 (by omega) (by omega) (by show 0 ≤ (h69 90 7) ∧ (h69 90 7) ≤ N; omega) (by show (h69 93 ((h69 90 7))) = (pt_rn pt_bB t m 0); omega) (by show 0 ≤ (h69 90 8); omega) (by rw [show (ov_up h69 96 340 v67) 92 = h3 92 from E75, show (ov_up h69 96 340 v67) 93 = h3 93 from E76, show (ov_up h69 96 340 v67) 94 = h3 94 from E77]; exact mt)) ?_
      rintro _ z95 h96 ⟨v94, rfl, I97, y98, y99, y100⟩
      have E101 : h96 91 = h 91 := Eq.trans (y98 91 (by decide)) (show (ov_up h69 96 340 v67) 91 = h 91 from E74)
      have E102 : h96 92 = h3 92 := Eq.trans (y98 92 (by decide)) (show (ov_up h69 96 340 v67) 92 = h3 92 from E75)
      have E103 : h96 93 = h3 93 := Eq.trans (y98 93 (by decide)) (show (ov_up h69 96 340 v67) 93 = h3 93 from E76)
      have E104 : h96 94 = h3 94 := Eq.trans (y98 94 (by decide)) (show (ov_up h69 96 340 v67) 94 = h3 94 from E77)
      have E105 : h96 95 = h 95 := Eq.trans (y98 95 (by decide)) (show (ov_up h69 96 340 v67) 95 = h 95 from E78)
      have R107 : h96 96 = (ov_rs (h22 96) 340 v67) := Eq.trans (y98 96 (by decide)) (Eq.trans (ov_up_row h69 96 340 v67) (congrArg (fun f => ov_rs f 340 v67) E79))
      have E108 : h96 99 = h 99 := Eq.trans (y98 99 (by decide)) (show (ov_up h69 96 340 v67) 99 = h 99 from E80)
      have E109 : h96 104 = h 104 := Eq.trans (y98 104 (by decide)) (show (ov_up h69 96 340 v67) 104 = h 104 from E81)
      have fr110 : ∀ a : Int, a ≠ 90 ∧ (a < 92 ∨ 94 < a) ∧ (a < 96 ∨ 100 < a) ∧ (a < 103 ∨ 104 < a) → h96 a = h a := fun a ca => Eq.trans (y98 a (by omega)) (Eq.trans (by show (ov_up h69 96 340 v67) a = h69 a; rw [ov_up_ne (by omega)]) (fr82 a ca))
      have y99_ : ∀ k : Int, k ≠ 7 → k ≠ 8 → (h96 90) k = (h69 90) k := y99
      have rk111 : ∀ k : Int, k ≠ 0 → k ≠ 2 → k ≠ 3 → k ≠ 7 → k ≠ 8 → k ≠ 13 → k ≠ 15 → k ≠ 20 → k ≠ 22 → h96 90 k = h 90 k := fun k n0 n1 n2 n3 n4 n5 n6 n7 n8 => Eq.trans (y99_ k n3 n4) (Eq.trans (by show (ov_up h69 96 340 v67) 90 k = h69 90 k; rw [ov_up_ne (by decide)]) (rk83 k n0 n1 n2 n3 n4 n5 n6 n7 n8))
      have g112 : h96 90 2 = (h69 90 2) := y99_ 2 (by decide) (by decide)
      have g113 : h96 90 3 = (h69 90 3) := y99_ 3 (by decide) (by decide)
      have g114 : h96 90 13 = (h69 90 13) := y99_ 13 (by decide) (by decide)
      have g115 : h96 90 15 = (h69 90 15) := y99_ 15 (by decide) (by decide)
      rcases y100 with f116 | f117 | f118
      · skip
        show ov_R u d ov_m205 60 [(0, ov_r 90)] [ov_i v94, ov_i 341, ov_r 96] z95 h96 (P_fMo_town_90 F z h t m)
        have f119 : v94 = 0 ∧ (h69 90 8) ≠ 0 ∧ (h96 90 8) = (h69 90 8) ∧ (h96 90 7) = (h69 90 7) ∧ (h96 93 ((h96 90 7))) = (pt_rn pt_bB t m 0) := f116
        clear f116
        refine ov_iast d_205_60 (zb_96 I97) (zs_96 I97) (by omega) ?_
        have I120 := ua_96 (k := 341) (x := v94) I97 (by refine ⟨?_, ?_, ?_, ?_, ?_, ?_, ?_, ?_, ?_, ?_, ?_, ?_, ?_, ?_, ?_, ?_, ?_, ?_, ?_, ?_, ?_, ?_, ?_, ?_, ?_, ?_, ?_, ?_, ?_⟩ <;> omega)
        refine ov_blk (ls2 := [(0, ov_r 90)]) (st2 := [ov_i 59, ov_r 90]) (pc2 := 64) b_205_61_2 rfl rfl ?_
        have cf121 : h96 93 ((h96 90 7)) = h3 93 ((h96 90 7)) := congrFun E103 ((h96 90 7))
        refine ov_cV (as := [ov_i 59]) (st := []) (d2 := d - 1) d_205_64 lk_Mo_214 rfl (Nat.le_of_ble_eq_true rfl) (c := 1) (zb_90 I120) (zs_90 I120) ⟨by decide, rfl⟩ (by omega) (c_fMo_takeSign_90 t m N (pt_rn pt_bB t m 0) (d - 1) (by omega) U I120 59 (by omega) (by show 0 ≤ (h96 90 7) ∧ (h96 90 7) ≤ N; omega) (by show (h96 93 ((h96 90 7))) = (pt_rn pt_bB t m 0); omega) (by show 0 ≤ (h96 90 8); omega) (by show 0 ≤ (59 : Int) ∧ (59 : Int) ≤ 65535; omega) (by rw [show (ov_up h96 96 341 v94) 92 = h3 92 from E102, show (ov_up h96 96 341 v94) 93 = h3 93 from E103, show (ov_up h96 96 341 v94) 94 = h3 94 from E104]; exact mt)) ?_
        rintro _ z122 h123 ⟨rfl, I124, y125, y126, y127⟩
        have E128 : h123 91 = h 91 := Eq.trans (y125 91 (by decide)) (show (ov_up h96 96 341 v94) 91 = h 91 from E101)
        have E129 : h123 92 = h3 92 := Eq.trans (y125 92 (by decide)) (show (ov_up h96 96 341 v94) 92 = h3 92 from E102)
        have E130 : h123 93 = h3 93 := Eq.trans (y125 93 (by decide)) (show (ov_up h96 96 341 v94) 93 = h3 93 from E103)
        have E131 : h123 94 = h3 94 := Eq.trans (y125 94 (by decide)) (show (ov_up h96 96 341 v94) 94 = h3 94 from E104)
        have E132 : h123 95 = h 95 := Eq.trans (y125 95 (by decide)) (show (ov_up h96 96 341 v94) 95 = h 95 from E105)
        have R134 : h123 96 = (ov_rs (ov_rs (h22 96) 340 v67) 341 v94) := Eq.trans (y125 96 (by decide)) (Eq.trans (ov_up_row h96 96 341 v94) (congrArg (fun f => ov_rs f 341 v94) R107))
        have E135 : h123 99 = h 99 := Eq.trans (y125 99 (by decide)) (show (ov_up h96 96 341 v94) 99 = h 99 from E108)
        have E136 : h123 104 = h 104 := Eq.trans (y125 104 (by decide)) (show (ov_up h96 96 341 v94) 104 = h 104 from E109)
        have fr137 : ∀ a : Int, a ≠ 90 ∧ (a < 92 ∨ 94 < a) ∧ (a < 96 ∨ 100 < a) ∧ (a < 103 ∨ 104 < a) → h123 a = h a := fun a ca => Eq.trans (y125 a (by omega)) (Eq.trans (by show (ov_up h96 96 341 v94) a = h96 a; rw [ov_up_ne (by omega)]) (fr110 a ca))
        have y126_ : ∀ k : Int, k ≠ 7 → k ≠ 8 → (h123 90) k = (h96 90) k := y126
        have rk138 : ∀ k : Int, k ≠ 0 → k ≠ 2 → k ≠ 3 → k ≠ 7 → k ≠ 8 → k ≠ 13 → k ≠ 15 → k ≠ 20 → k ≠ 22 → h123 90 k = h 90 k := fun k n0 n1 n2 n3 n4 n5 n6 n7 n8 => Eq.trans (y126_ k n3 n4) (Eq.trans (by show (ov_up h96 96 341 v94) 90 k = h96 90 k; rw [ov_up_ne (by decide)]) (rk111 k n0 n1 n2 n3 n4 n5 n6 n7 n8))
        have g139 : h123 90 2 = (h96 90 2) := y126_ 2 (by decide) (by decide)
        have g140 : h123 90 3 = (h96 90 3) := y126_ 3 (by decide) (by decide)
        have g141 : h123 90 13 = (h96 90 13) := y126_ 13 (by decide) (by decide)
        have g142 : h123 90 15 = (h96 90 15) := y126_ 15 (by decide) (by decide)
        rcases y127 with f143 | f144 | f145
        · skip
          show ov_R u d ov_m205 67 [(0, ov_r 90)] [] z122 h123 (P_fMo_town_90 F z h t m)
          have f146 : (h96 90 8) ≠ 0 ∧ (h123 90 8) = (h96 90 8) ∧ (h123 90 7) = (h96 90 7) ∧ (h123 93 ((h123 90 7))) = (pt_rn pt_bB t m 0) := f143
          clear f143
          refine ov_blk (ls2 := [(0, ov_r 90)]) (st2 := [ov_r 90]) (pc2 := 68) b_205_67_1 rfl rfl ?_
          refine ov_getf (v := ov_i (h123 90 8)) d_205_68 fl_Mo_180 (zb_90 I124) (zs_90 I124) rfl ?_
          have g147 := rg_90_8 I124
          refine ov_ifne (tgt := 99) d_205_71 (by decide) (by omega) (fun c148 => ?_) (fun c148 => ?_)
          · skip
            refine ov_blk (ls2 := [(0, ov_r 90)]) (st2 := [ov_r 90]) (pc2 := 100) b_205_99_1 rfl rfl ?_
            refine ov_getf (v := ov_i (h123 90 8)) d_205_100 fl_Mo_180 (zb_90 I124) (zs_90 I124) rfl ?_
            refine ov_ifle (tgt := 111) d_205_103 (by decide) (by omega) (fun c150 => ?_) (fun c150 => ?_)
            · omega
            · skip
              refine ov_blk (ls2 := [(0, ov_r 90)]) (st2 := [ov_r 90]) (pc2 := 107) b_205_106_1 rfl rfl ?_
              refine ov_getf (v := ov_i (h123 90 8)) d_205_107 fl_Mo_180 (zb_90 I124) (zs_90 I124) rfl ?_
              have hz : (pt_szF t m (pt_rn pt_bB t m 0)) = (h123 90 8) := by unfold pt_szF pt_fW pt_fS; (repeat' split) <;> omega
              exact ov_reti (st := []) d_205_110 rfl ⟨_, rfl, I124, (fun a ca => (fr137 a ca)), (fun k n0 n1 n2 n3 n4 n5 n6 n7 n8 => (rk138 k n0 n1 n2 n3 n4 n5 n6 n7 n8)), (Or.inl ⟨(fun _ => 0), (by show 1 ≤ (h123 90 8) ∧ (h123 90 8) ≤ 16005; omega), (Or.inl ⟨by omega, hz.symm⟩), E136⟩)⟩
          · omega
        · have q9 : (h96 90 8) = 0 ∧ pt_is t m (pt_rn pt_bB t m 0) (59 : Int) = 0 ∧ (h123 90 8) = 1 + 16 * (pt_rn pt_bB t m 0) ∧ 1 ≤ (h123 90 8) ∧ (h123 90 7) = (h96 90 7) ∧ (h123 93 ((h123 90 7))) = (pt_rn pt_bB t m 0) := f144
          omega
        · have q9 : (h96 90 8) = 0 ∧ pt_is t m (pt_rn pt_bB t m 0) (59 : Int) = 1 ∧ (h123 90 8) = 0 ∧ (h123 90 7) = (h96 90 7) + 1 ∧ (h123 90 7) ≤ N ∧ (h123 93 ((h123 90 7))) = pt_nt t m (pt_rn pt_bB t m 0) := f145
          omega
      · have q9 : v94 = 0 ∧ (h69 90 8) = 0 ∧ (h96 90 8) = pt_fN t m (1 : Int) (9 : Int) (pt_rn pt_bB t m 0) ∧ 1 ≤ (h96 90 8) ∧ (h96 90 7) = (h69 90 7) ∧ (h96 93 ((h96 90 7))) = (pt_rn pt_bB t m 0) := f117
        omega
      · have q9 : (h69 90 8) = 0 ∧ (h96 90 8) = 0 ∧ pt_fN t m (1 : Int) (9 : Int) (pt_rn pt_bB t m 0) = 0 ∧ pt_ty t m (pt_rn pt_bB t m 0) = 3 ∧ (1 : Int) ≤ v94 ∧ v94 ≤ (9 : Int) ∧ v94 = pt_nm t m (pt_rn pt_bB t m 0) ∧ 0 ≤ v94 ∧ v94 ≤ 9999 ∧ (h96 90 7) = (h69 90 7) + 1 ∧ (h96 90 7) ≤ N ∧ (h96 93 ((h96 90 7))) = pt_nt t m (pt_rn pt_bB t m 0) := f118
        omega
    · omega
    · omega
  · skip
    show ov_R u d ov_m205 31 [(0, ov_r 90)] [] z42 h43 (P_fMo_town_90 F z h t m)
    have f152 : (h22 90 8) = 0 ∧ pt_iw t m (pt_rn pt_bB t m 0) (1953462126 : Int) = 1 ∧ (h43 90 8) = 0 ∧ (h43 90 7) = (h22 90 7) + 1 ∧ (h43 90 7) ≤ N ∧ (h43 93 ((h43 90 7))) = pt_nt t m (pt_rn pt_bB t m 0) := f64
    clear f64
    refine ov_blk (ls2 := [(0, ov_r 90)]) (st2 := [ov_r 90]) (pc2 := 32) b_205_31_1 rfl rfl ?_
    refine ov_getf (v := ov_r 96) d_205_32 fl_Mo_81 (zb_90 I44) (zs_90 I44) (congrArg ov_r (rg_90_10 I44)) ?_
    refine ov_blk (ls2 := [(0, ov_r 90)]) (st2 := [ov_i 6, ov_i 1, ov_r 90, ov_i 340, ov_r 96]) (pc2 := 42) b_205_35_4 rfl rfl ?_
    have cf153 : h43 93 ((h43 90 7)) = h3 93 ((h43 90 7)) := congrFun E50 ((h43 90 7))
    refine ov_cV (as := [ov_i 1, ov_i 6]) (st := [ov_i 340, ov_r 96]) (d2 := d - 1) d_205_42 lk_Mo_198 rfl (Nat.le_of_ble_eq_true rfl) (c := 1) (zb_90 I44) (zs_90 I44) ⟨by decide, rfl⟩ (by omega) (c_fMo_takeNumber_90 t m N (pt_nt t m (pt_rn pt_bB t m 0)) (d - 1) (by omega) U I44 1 6 (by omega) (by omega) (by show 0 ≤ (h43 90 7) ∧ (h43 90 7) ≤ N; omega) (by show (h43 93 ((h43 90 7))) = (pt_nt t m (pt_rn pt_bB t m 0)); omega) (by show 0 ≤ (h43 90 8); omega) (by rw [show h43 92 = h3 92 from E49, show h43 93 = h3 93 from E50, show h43 94 = h3 94 from E51]; exact mt)) ?_
    rintro _ z155 h156 ⟨v154, rfl, I157, y158, y159, y160⟩
    have E161 : h156 91 = h 91 := Eq.trans (y158 91 (by decide)) (show h43 91 = h 91 from E48)
    have E162 : h156 92 = h3 92 := Eq.trans (y158 92 (by decide)) (show h43 92 = h3 92 from E49)
    have E163 : h156 93 = h3 93 := Eq.trans (y158 93 (by decide)) (show h43 93 = h3 93 from E50)
    have E164 : h156 94 = h3 94 := Eq.trans (y158 94 (by decide)) (show h43 94 = h3 94 from E51)
    have E165 : h156 95 = h 95 := Eq.trans (y158 95 (by decide)) (show h43 95 = h 95 from E52)
    have E166 : h156 96 = h22 96 := Eq.trans (y158 96 (by decide)) (show h43 96 = h22 96 from E53)
    have E167 : h156 99 = h 99 := Eq.trans (y158 99 (by decide)) (show h43 99 = h 99 from E54)
    have E168 : h156 104 = h 104 := Eq.trans (y158 104 (by decide)) (show h43 104 = h 104 from E55)
    have fr169 : ∀ a : Int, a ≠ 90 ∧ (a < 92 ∨ 94 < a) ∧ (a < 96 ∨ 100 < a) ∧ (a < 103 ∨ 104 < a) → h156 a = h a := fun a ca => Eq.trans (y158 a (by omega)) (fr56 a ca)
    have y159_ : ∀ k : Int, k ≠ 7 → k ≠ 8 → (h156 90) k = (h43 90) k := y159
    have rk170 : ∀ k : Int, k ≠ 0 → k ≠ 2 → k ≠ 3 → k ≠ 7 → k ≠ 8 → k ≠ 13 → k ≠ 15 → k ≠ 20 → k ≠ 22 → h156 90 k = h 90 k := fun k n0 n1 n2 n3 n4 n5 n6 n7 n8 => Eq.trans (y159_ k n3 n4) (rk57 k n0 n1 n2 n3 n4 n5 n6 n7 n8)
    have g171 : h156 90 2 = (h43 90 2) := y159_ 2 (by decide) (by decide)
    have g172 : h156 90 3 = (h43 90 3) := y159_ 3 (by decide) (by decide)
    have g173 : h156 90 13 = (h43 90 13) := y159_ 13 (by decide) (by decide)
    have g174 : h156 90 15 = (h43 90 15) := y159_ 15 (by decide) (by decide)
    rcases y160 with f175 | f176 | f177
    · omega
    · skip
      show ov_R u d ov_m205 45 [(0, ov_r 90)] [ov_i v154, ov_i 340, ov_r 96] z155 h156 (P_fMo_town_90 F z h t m)
      have f178 : v154 = 0 ∧ (h43 90 8) = 0 ∧ (h156 90 8) = pt_fN t m (1 : Int) (6 : Int) (pt_nt t m (pt_rn pt_bB t m 0)) ∧ 1 ≤ (h156 90 8) ∧ (h156 90 7) = (h43 90 7) ∧ (h156 93 ((h156 90 7))) = (pt_nt t m (pt_rn pt_bB t m 0)) := f176
      clear f176
      refine ov_iast d_205_45 (zb_96 I157) (zs_96 I157) (by omega) ?_
      have I179 := ua_96 (k := 340) (x := v154) I157 (by refine ⟨?_, ?_, ?_, ?_, ?_, ?_, ?_, ?_, ?_, ?_, ?_, ?_, ?_, ?_, ?_, ?_, ?_, ?_, ?_, ?_, ?_, ?_, ?_, ?_, ?_, ?_, ?_, ?_, ?_⟩ <;> omega)
      refine ov_blk (ls2 := [(0, ov_r 90)]) (st2 := [ov_r 90]) (pc2 := 47) b_205_46_1 rfl rfl ?_
      refine ov_getf (v := ov_r 96) d_205_47 fl_Mo_81 (zb_90 I179) (zs_90 I179) (congrArg ov_r (rg_90_10 I179)) ?_
      refine ov_blk (ls2 := [(0, ov_r 90)]) (st2 := [ov_i 9, ov_i 1, ov_r 90, ov_i 341, ov_r 96]) (pc2 := 57) b_205_50_4 rfl rfl ?_
      have cf180 : h156 93 ((h156 90 7)) = h3 93 ((h156 90 7)) := congrFun E163 ((h156 90 7))
      refine ov_cV (as := [ov_i 1, ov_i 9]) (st := [ov_i 341, ov_r 96]) (d2 := d - 1) d_205_57 lk_Mo_198 rfl (Nat.le_of_ble_eq_true rfl) (c := 1) (zb_90 I179) (zs_90 I179) ⟨by decide, rfl⟩ (by omega) (c_fMo_takeNumber_90 t m N (pt_nt t m (pt_rn pt_bB t m 0)) (d - 1) (by omega) U I179 1 9 (by omega) (by omega) (by show 0 ≤ (h156 90 7) ∧ (h156 90 7) ≤ N; omega) (by show (h156 93 ((h156 90 7))) = (pt_nt t m (pt_rn pt_bB t m 0)); omega) (by show 0 ≤ (h156 90 8); omega) (by rw [show (ov_up h156 96 340 v154) 92 = h3 92 from E162, show (ov_up h156 96 340 v154) 93 = h3 93 from E163, show (ov_up h156 96 340 v154) 94 = h3 94 from E164]; exact mt)) ?_
      rintro _ z182 h183 ⟨v181, rfl, I184, y185, y186, y187⟩
      have E188 : h183 91 = h 91 := Eq.trans (y185 91 (by decide)) (show (ov_up h156 96 340 v154) 91 = h 91 from E161)
      have E189 : h183 92 = h3 92 := Eq.trans (y185 92 (by decide)) (show (ov_up h156 96 340 v154) 92 = h3 92 from E162)
      have E190 : h183 93 = h3 93 := Eq.trans (y185 93 (by decide)) (show (ov_up h156 96 340 v154) 93 = h3 93 from E163)
      have E191 : h183 94 = h3 94 := Eq.trans (y185 94 (by decide)) (show (ov_up h156 96 340 v154) 94 = h3 94 from E164)
      have E192 : h183 95 = h 95 := Eq.trans (y185 95 (by decide)) (show (ov_up h156 96 340 v154) 95 = h 95 from E165)
      have R194 : h183 96 = (ov_rs (h22 96) 340 v154) := Eq.trans (y185 96 (by decide)) (Eq.trans (ov_up_row h156 96 340 v154) (congrArg (fun f => ov_rs f 340 v154) E166))
      have E195 : h183 99 = h 99 := Eq.trans (y185 99 (by decide)) (show (ov_up h156 96 340 v154) 99 = h 99 from E167)
      have E196 : h183 104 = h 104 := Eq.trans (y185 104 (by decide)) (show (ov_up h156 96 340 v154) 104 = h 104 from E168)
      have fr197 : ∀ a : Int, a ≠ 90 ∧ (a < 92 ∨ 94 < a) ∧ (a < 96 ∨ 100 < a) ∧ (a < 103 ∨ 104 < a) → h183 a = h a := fun a ca => Eq.trans (y185 a (by omega)) (Eq.trans (by show (ov_up h156 96 340 v154) a = h156 a; rw [ov_up_ne (by omega)]) (fr169 a ca))
      have y186_ : ∀ k : Int, k ≠ 7 → k ≠ 8 → (h183 90) k = (h156 90) k := y186
      have rk198 : ∀ k : Int, k ≠ 0 → k ≠ 2 → k ≠ 3 → k ≠ 7 → k ≠ 8 → k ≠ 13 → k ≠ 15 → k ≠ 20 → k ≠ 22 → h183 90 k = h 90 k := fun k n0 n1 n2 n3 n4 n5 n6 n7 n8 => Eq.trans (y186_ k n3 n4) (Eq.trans (by show (ov_up h156 96 340 v154) 90 k = h156 90 k; rw [ov_up_ne (by decide)]) (rk170 k n0 n1 n2 n3 n4 n5 n6 n7 n8))
      have g199 : h183 90 2 = (h156 90 2) := y186_ 2 (by decide) (by decide)
      have g200 : h183 90 3 = (h156 90 3) := y186_ 3 (by decide) (by decide)
      have g201 : h183 90 13 = (h156 90 13) := y186_ 13 (by decide) (by decide)
      have g202 : h183 90 15 = (h156 90 15) := y186_ 15 (by decide) (by decide)
      rcases y187 with f203 | f204 | f205
      · skip
        show ov_R u d ov_m205 60 [(0, ov_r 90)] [ov_i v181, ov_i 341, ov_r 96] z182 h183 (P_fMo_town_90 F z h t m)
        have f206 : v181 = 0 ∧ (h156 90 8) ≠ 0 ∧ (h183 90 8) = (h156 90 8) ∧ (h183 90 7) = (h156 90 7) ∧ (h183 93 ((h183 90 7))) = (pt_nt t m (pt_rn pt_bB t m 0)) := f203
        clear f203
        refine ov_iast d_205_60 (zb_96 I184) (zs_96 I184) (by omega) ?_
        have I207 := ua_96 (k := 341) (x := v181) I184 (by refine ⟨?_, ?_, ?_, ?_, ?_, ?_, ?_, ?_, ?_, ?_, ?_, ?_, ?_, ?_, ?_, ?_, ?_, ?_, ?_, ?_, ?_, ?_, ?_, ?_, ?_, ?_, ?_, ?_, ?_⟩ <;> omega)
        refine ov_blk (ls2 := [(0, ov_r 90)]) (st2 := [ov_i 59, ov_r 90]) (pc2 := 64) b_205_61_2 rfl rfl ?_
        have cf208 : h183 93 ((h183 90 7)) = h3 93 ((h183 90 7)) := congrFun E190 ((h183 90 7))
        refine ov_cV (as := [ov_i 59]) (st := []) (d2 := d - 1) d_205_64 lk_Mo_214 rfl (Nat.le_of_ble_eq_true rfl) (c := 1) (zb_90 I207) (zs_90 I207) ⟨by decide, rfl⟩ (by omega) (c_fMo_takeSign_90 t m N (pt_nt t m (pt_rn pt_bB t m 0)) (d - 1) (by omega) U I207 59 (by omega) (by show 0 ≤ (h183 90 7) ∧ (h183 90 7) ≤ N; omega) (by show (h183 93 ((h183 90 7))) = (pt_nt t m (pt_rn pt_bB t m 0)); omega) (by show 0 ≤ (h183 90 8); omega) (by show 0 ≤ (59 : Int) ∧ (59 : Int) ≤ 65535; omega) (by rw [show (ov_up h183 96 341 v181) 92 = h3 92 from E189, show (ov_up h183 96 341 v181) 93 = h3 93 from E190, show (ov_up h183 96 341 v181) 94 = h3 94 from E191]; exact mt)) ?_
        rintro _ z209 h210 ⟨rfl, I211, y212, y213, y214⟩
        have E215 : h210 91 = h 91 := Eq.trans (y212 91 (by decide)) (show (ov_up h183 96 341 v181) 91 = h 91 from E188)
        have E216 : h210 92 = h3 92 := Eq.trans (y212 92 (by decide)) (show (ov_up h183 96 341 v181) 92 = h3 92 from E189)
        have E217 : h210 93 = h3 93 := Eq.trans (y212 93 (by decide)) (show (ov_up h183 96 341 v181) 93 = h3 93 from E190)
        have E218 : h210 94 = h3 94 := Eq.trans (y212 94 (by decide)) (show (ov_up h183 96 341 v181) 94 = h3 94 from E191)
        have E219 : h210 95 = h 95 := Eq.trans (y212 95 (by decide)) (show (ov_up h183 96 341 v181) 95 = h 95 from E192)
        have R221 : h210 96 = (ov_rs (ov_rs (h22 96) 340 v154) 341 v181) := Eq.trans (y212 96 (by decide)) (Eq.trans (ov_up_row h183 96 341 v181) (congrArg (fun f => ov_rs f 341 v181) R194))
        have E222 : h210 99 = h 99 := Eq.trans (y212 99 (by decide)) (show (ov_up h183 96 341 v181) 99 = h 99 from E195)
        have E223 : h210 104 = h 104 := Eq.trans (y212 104 (by decide)) (show (ov_up h183 96 341 v181) 104 = h 104 from E196)
        have fr224 : ∀ a : Int, a ≠ 90 ∧ (a < 92 ∨ 94 < a) ∧ (a < 96 ∨ 100 < a) ∧ (a < 103 ∨ 104 < a) → h210 a = h a := fun a ca => Eq.trans (y212 a (by omega)) (Eq.trans (by show (ov_up h183 96 341 v181) a = h183 a; rw [ov_up_ne (by omega)]) (fr197 a ca))
        have y213_ : ∀ k : Int, k ≠ 7 → k ≠ 8 → (h210 90) k = (h183 90) k := y213
        have rk225 : ∀ k : Int, k ≠ 0 → k ≠ 2 → k ≠ 3 → k ≠ 7 → k ≠ 8 → k ≠ 13 → k ≠ 15 → k ≠ 20 → k ≠ 22 → h210 90 k = h 90 k := fun k n0 n1 n2 n3 n4 n5 n6 n7 n8 => Eq.trans (y213_ k n3 n4) (Eq.trans (by show (ov_up h183 96 341 v181) 90 k = h183 90 k; rw [ov_up_ne (by decide)]) (rk198 k n0 n1 n2 n3 n4 n5 n6 n7 n8))
        have g226 : h210 90 2 = (h183 90 2) := y213_ 2 (by decide) (by decide)
        have g227 : h210 90 3 = (h183 90 3) := y213_ 3 (by decide) (by decide)
        have g228 : h210 90 13 = (h183 90 13) := y213_ 13 (by decide) (by decide)
        have g229 : h210 90 15 = (h183 90 15) := y213_ 15 (by decide) (by decide)
        rcases y214 with f230 | f231 | f232
        · skip
          show ov_R u d ov_m205 67 [(0, ov_r 90)] [] z209 h210 (P_fMo_town_90 F z h t m)
          have f233 : (h183 90 8) ≠ 0 ∧ (h210 90 8) = (h183 90 8) ∧ (h210 90 7) = (h183 90 7) ∧ (h210 93 ((h210 90 7))) = (pt_nt t m (pt_rn pt_bB t m 0)) := f230
          clear f230
          refine ov_blk (ls2 := [(0, ov_r 90)]) (st2 := [ov_r 90]) (pc2 := 68) b_205_67_1 rfl rfl ?_
          refine ov_getf (v := ov_i (h210 90 8)) d_205_68 fl_Mo_180 (zb_90 I211) (zs_90 I211) rfl ?_
          have g234 := rg_90_8 I211
          refine ov_ifne (tgt := 99) d_205_71 (by decide) (by omega) (fun c235 => ?_) (fun c235 => ?_)
          · skip
            refine ov_blk (ls2 := [(0, ov_r 90)]) (st2 := [ov_r 90]) (pc2 := 100) b_205_99_1 rfl rfl ?_
            refine ov_getf (v := ov_i (h210 90 8)) d_205_100 fl_Mo_180 (zb_90 I211) (zs_90 I211) rfl ?_
            refine ov_ifle (tgt := 111) d_205_103 (by decide) (by omega) (fun c237 => ?_) (fun c237 => ?_)
            · omega
            · skip
              refine ov_blk (ls2 := [(0, ov_r 90)]) (st2 := [ov_r 90]) (pc2 := 107) b_205_106_1 rfl rfl ?_
              refine ov_getf (v := ov_i (h210 90 8)) d_205_107 fl_Mo_180 (zb_90 I211) (zs_90 I211) rfl ?_
              have hz : (pt_szF t m (pt_rn pt_bB t m 0)) = (h210 90 8) := by unfold pt_szF pt_fW pt_fS; (repeat' split) <;> omega
              exact ov_reti (st := []) d_205_110 rfl ⟨_, rfl, I211, (fun a ca => (fr224 a ca)), (fun k n0 n1 n2 n3 n4 n5 n6 n7 n8 => (rk225 k n0 n1 n2 n3 n4 n5 n6 n7 n8)), (Or.inl ⟨(fun _ => 0), (by show 1 ≤ (h210 90 8) ∧ (h210 90 8) ≤ 16005; omega), (Or.inl ⟨by omega, hz.symm⟩), E223⟩)⟩
          · omega
        · have q9 : (h183 90 8) = 0 ∧ pt_is t m (pt_nt t m (pt_rn pt_bB t m 0)) (59 : Int) = 0 ∧ (h210 90 8) = 1 + 16 * (pt_nt t m (pt_rn pt_bB t m 0)) ∧ 1 ≤ (h210 90 8) ∧ (h210 90 7) = (h183 90 7) ∧ (h210 93 ((h210 90 7))) = (pt_nt t m (pt_rn pt_bB t m 0)) := f231
          omega
        · have q9 : (h183 90 8) = 0 ∧ pt_is t m (pt_nt t m (pt_rn pt_bB t m 0)) (59 : Int) = 1 ∧ (h210 90 8) = 0 ∧ (h210 90 7) = (h183 90 7) + 1 ∧ (h210 90 7) ≤ N ∧ (h210 93 ((h210 90 7))) = pt_nt t m (pt_nt t m (pt_rn pt_bB t m 0)) := f232
          omega
      · have q9 : v181 = 0 ∧ (h156 90 8) = 0 ∧ (h183 90 8) = pt_fN t m (1 : Int) (9 : Int) (pt_nt t m (pt_rn pt_bB t m 0)) ∧ 1 ≤ (h183 90 8) ∧ (h183 90 7) = (h156 90 7) ∧ (h183 93 ((h183 90 7))) = (pt_nt t m (pt_rn pt_bB t m 0)) := f204
        omega
      · have q9 : (h156 90 8) = 0 ∧ (h183 90 8) = 0 ∧ pt_fN t m (1 : Int) (9 : Int) (pt_nt t m (pt_rn pt_bB t m 0)) = 0 ∧ pt_ty t m (pt_nt t m (pt_rn pt_bB t m 0)) = 3 ∧ (1 : Int) ≤ v181 ∧ v181 ≤ (9 : Int) ∧ v181 = pt_nm t m (pt_nt t m (pt_rn pt_bB t m 0)) ∧ 0 ≤ v181 ∧ v181 ≤ 9999 ∧ (h183 90 7) = (h156 90 7) + 1 ∧ (h183 90 7) ≤ N ∧ (h183 93 ((h183 90 7))) = pt_nt t m (pt_nt t m (pt_rn pt_bB t m 0)) := f205
        omega
    · skip
      show ov_R u d ov_m205 45 [(0, ov_r 90)] [ov_i v154, ov_i 340, ov_r 96] z155 h156 (P_fMo_town_90 F z h t m)
      have f239 : (h43 90 8) = 0 ∧ (h156 90 8) = 0 ∧ pt_fN t m (1 : Int) (6 : Int) (pt_nt t m (pt_rn pt_bB t m 0)) = 0 ∧ pt_ty t m (pt_nt t m (pt_rn pt_bB t m 0)) = 3 ∧ (1 : Int) ≤ v154 ∧ v154 ≤ (6 : Int) ∧ v154 = pt_nm t m (pt_nt t m (pt_rn pt_bB t m 0)) ∧ 0 ≤ v154 ∧ v154 ≤ 9999 ∧ (h156 90 7) = (h43 90 7) + 1 ∧ (h156 90 7) ≤ N ∧ (h156 93 ((h156 90 7))) = pt_nt t m (pt_nt t m (pt_rn pt_bB t m 0)) := f177
      clear f177
      refine ov_iast d_205_45 (zb_96 I157) (zs_96 I157) (by omega) ?_
      have I240 := ua_96 (k := 340) (x := v154) I157 (by refine ⟨?_, ?_, ?_, ?_, ?_, ?_, ?_, ?_, ?_, ?_, ?_, ?_, ?_, ?_, ?_, ?_, ?_, ?_, ?_, ?_, ?_, ?_, ?_, ?_, ?_, ?_, ?_, ?_, ?_⟩ <;> omega)
      refine ov_blk (ls2 := [(0, ov_r 90)]) (st2 := [ov_r 90]) (pc2 := 47) b_205_46_1 rfl rfl ?_
      refine ov_getf (v := ov_r 96) d_205_47 fl_Mo_81 (zb_90 I240) (zs_90 I240) (congrArg ov_r (rg_90_10 I240)) ?_
      refine ov_blk (ls2 := [(0, ov_r 90)]) (st2 := [ov_i 9, ov_i 1, ov_r 90, ov_i 341, ov_r 96]) (pc2 := 57) b_205_50_4 rfl rfl ?_
      have cf241 : h156 93 ((h156 90 7)) = h3 93 ((h156 90 7)) := congrFun E163 ((h156 90 7))
      refine ov_cV (as := [ov_i 1, ov_i 9]) (st := [ov_i 341, ov_r 96]) (d2 := d - 1) d_205_57 lk_Mo_198 rfl (Nat.le_of_ble_eq_true rfl) (c := 1) (zb_90 I240) (zs_90 I240) ⟨by decide, rfl⟩ (by omega) (c_fMo_takeNumber_90 t m N (pt_nt t m (pt_nt t m (pt_rn pt_bB t m 0))) (d - 1) (by omega) U I240 1 9 (by omega) (by omega) (by show 0 ≤ (h156 90 7) ∧ (h156 90 7) ≤ N; omega) (by show (h156 93 ((h156 90 7))) = (pt_nt t m (pt_nt t m (pt_rn pt_bB t m 0))); omega) (by show 0 ≤ (h156 90 8); omega) (by rw [show (ov_up h156 96 340 v154) 92 = h3 92 from E162, show (ov_up h156 96 340 v154) 93 = h3 93 from E163, show (ov_up h156 96 340 v154) 94 = h3 94 from E164]; exact mt)) ?_
      rintro _ z243 h244 ⟨v242, rfl, I245, y246, y247, y248⟩
      have E249 : h244 91 = h 91 := Eq.trans (y246 91 (by decide)) (show (ov_up h156 96 340 v154) 91 = h 91 from E161)
      have E250 : h244 92 = h3 92 := Eq.trans (y246 92 (by decide)) (show (ov_up h156 96 340 v154) 92 = h3 92 from E162)
      have E251 : h244 93 = h3 93 := Eq.trans (y246 93 (by decide)) (show (ov_up h156 96 340 v154) 93 = h3 93 from E163)
      have E252 : h244 94 = h3 94 := Eq.trans (y246 94 (by decide)) (show (ov_up h156 96 340 v154) 94 = h3 94 from E164)
      have E253 : h244 95 = h 95 := Eq.trans (y246 95 (by decide)) (show (ov_up h156 96 340 v154) 95 = h 95 from E165)
      have R255 : h244 96 = (ov_rs (h22 96) 340 v154) := Eq.trans (y246 96 (by decide)) (Eq.trans (ov_up_row h156 96 340 v154) (congrArg (fun f => ov_rs f 340 v154) E166))
      have E256 : h244 99 = h 99 := Eq.trans (y246 99 (by decide)) (show (ov_up h156 96 340 v154) 99 = h 99 from E167)
      have E257 : h244 104 = h 104 := Eq.trans (y246 104 (by decide)) (show (ov_up h156 96 340 v154) 104 = h 104 from E168)
      have fr258 : ∀ a : Int, a ≠ 90 ∧ (a < 92 ∨ 94 < a) ∧ (a < 96 ∨ 100 < a) ∧ (a < 103 ∨ 104 < a) → h244 a = h a := fun a ca => Eq.trans (y246 a (by omega)) (Eq.trans (by show (ov_up h156 96 340 v154) a = h156 a; rw [ov_up_ne (by omega)]) (fr169 a ca))
      have y247_ : ∀ k : Int, k ≠ 7 → k ≠ 8 → (h244 90) k = (h156 90) k := y247
      have rk259 : ∀ k : Int, k ≠ 0 → k ≠ 2 → k ≠ 3 → k ≠ 7 → k ≠ 8 → k ≠ 13 → k ≠ 15 → k ≠ 20 → k ≠ 22 → h244 90 k = h 90 k := fun k n0 n1 n2 n3 n4 n5 n6 n7 n8 => Eq.trans (y247_ k n3 n4) (Eq.trans (by show (ov_up h156 96 340 v154) 90 k = h156 90 k; rw [ov_up_ne (by decide)]) (rk170 k n0 n1 n2 n3 n4 n5 n6 n7 n8))
      have g260 : h244 90 2 = (h156 90 2) := y247_ 2 (by decide) (by decide)
      have g261 : h244 90 3 = (h156 90 3) := y247_ 3 (by decide) (by decide)
      have g262 : h244 90 13 = (h156 90 13) := y247_ 13 (by decide) (by decide)
      have g263 : h244 90 15 = (h156 90 15) := y247_ 15 (by decide) (by decide)
      rcases y248 with f264 | f265 | f266
      · have q9 : v242 = 0 ∧ (h156 90 8) ≠ 0 ∧ (h244 90 8) = (h156 90 8) ∧ (h244 90 7) = (h156 90 7) ∧ (h244 93 ((h244 90 7))) = (pt_nt t m (pt_nt t m (pt_rn pt_bB t m 0))) := f264
        omega
      · skip
        show ov_R u d ov_m205 60 [(0, ov_r 90)] [ov_i v242, ov_i 341, ov_r 96] z243 h244 (P_fMo_town_90 F z h t m)
        have f267 : v242 = 0 ∧ (h156 90 8) = 0 ∧ (h244 90 8) = pt_fN t m (1 : Int) (9 : Int) (pt_nt t m (pt_nt t m (pt_rn pt_bB t m 0))) ∧ 1 ≤ (h244 90 8) ∧ (h244 90 7) = (h156 90 7) ∧ (h244 93 ((h244 90 7))) = (pt_nt t m (pt_nt t m (pt_rn pt_bB t m 0))) := f265
        clear f265
        refine ov_iast d_205_60 (zb_96 I245) (zs_96 I245) (by omega) ?_
        have I268 := ua_96 (k := 341) (x := v242) I245 (by refine ⟨?_, ?_, ?_, ?_, ?_, ?_, ?_, ?_, ?_, ?_, ?_, ?_, ?_, ?_, ?_, ?_, ?_, ?_, ?_, ?_, ?_, ?_, ?_, ?_, ?_, ?_, ?_, ?_, ?_⟩ <;> omega)
        refine ov_blk (ls2 := [(0, ov_r 90)]) (st2 := [ov_i 59, ov_r 90]) (pc2 := 64) b_205_61_2 rfl rfl ?_
        have cf269 : h244 93 ((h244 90 7)) = h3 93 ((h244 90 7)) := congrFun E251 ((h244 90 7))
        refine ov_cV (as := [ov_i 59]) (st := []) (d2 := d - 1) d_205_64 lk_Mo_214 rfl (Nat.le_of_ble_eq_true rfl) (c := 1) (zb_90 I268) (zs_90 I268) ⟨by decide, rfl⟩ (by omega) (c_fMo_takeSign_90 t m N (pt_nt t m (pt_nt t m (pt_rn pt_bB t m 0))) (d - 1) (by omega) U I268 59 (by omega) (by show 0 ≤ (h244 90 7) ∧ (h244 90 7) ≤ N; omega) (by show (h244 93 ((h244 90 7))) = (pt_nt t m (pt_nt t m (pt_rn pt_bB t m 0))); omega) (by show 0 ≤ (h244 90 8); omega) (by show 0 ≤ (59 : Int) ∧ (59 : Int) ≤ 65535; omega) (by rw [show (ov_up h244 96 341 v242) 92 = h3 92 from E250, show (ov_up h244 96 341 v242) 93 = h3 93 from E251, show (ov_up h244 96 341 v242) 94 = h3 94 from E252]; exact mt)) ?_
        rintro _ z270 h271 ⟨rfl, I272, y273, y274, y275⟩
        have E276 : h271 91 = h 91 := Eq.trans (y273 91 (by decide)) (show (ov_up h244 96 341 v242) 91 = h 91 from E249)
        have E277 : h271 92 = h3 92 := Eq.trans (y273 92 (by decide)) (show (ov_up h244 96 341 v242) 92 = h3 92 from E250)
        have E278 : h271 93 = h3 93 := Eq.trans (y273 93 (by decide)) (show (ov_up h244 96 341 v242) 93 = h3 93 from E251)
        have E279 : h271 94 = h3 94 := Eq.trans (y273 94 (by decide)) (show (ov_up h244 96 341 v242) 94 = h3 94 from E252)
        have E280 : h271 95 = h 95 := Eq.trans (y273 95 (by decide)) (show (ov_up h244 96 341 v242) 95 = h 95 from E253)
        have R282 : h271 96 = (ov_rs (ov_rs (h22 96) 340 v154) 341 v242) := Eq.trans (y273 96 (by decide)) (Eq.trans (ov_up_row h244 96 341 v242) (congrArg (fun f => ov_rs f 341 v242) R255))
        have E283 : h271 99 = h 99 := Eq.trans (y273 99 (by decide)) (show (ov_up h244 96 341 v242) 99 = h 99 from E256)
        have E284 : h271 104 = h 104 := Eq.trans (y273 104 (by decide)) (show (ov_up h244 96 341 v242) 104 = h 104 from E257)
        have fr285 : ∀ a : Int, a ≠ 90 ∧ (a < 92 ∨ 94 < a) ∧ (a < 96 ∨ 100 < a) ∧ (a < 103 ∨ 104 < a) → h271 a = h a := fun a ca => Eq.trans (y273 a (by omega)) (Eq.trans (by show (ov_up h244 96 341 v242) a = h244 a; rw [ov_up_ne (by omega)]) (fr258 a ca))
        have y274_ : ∀ k : Int, k ≠ 7 → k ≠ 8 → (h271 90) k = (h244 90) k := y274
        have rk286 : ∀ k : Int, k ≠ 0 → k ≠ 2 → k ≠ 3 → k ≠ 7 → k ≠ 8 → k ≠ 13 → k ≠ 15 → k ≠ 20 → k ≠ 22 → h271 90 k = h 90 k := fun k n0 n1 n2 n3 n4 n5 n6 n7 n8 => Eq.trans (y274_ k n3 n4) (Eq.trans (by show (ov_up h244 96 341 v242) 90 k = h244 90 k; rw [ov_up_ne (by decide)]) (rk259 k n0 n1 n2 n3 n4 n5 n6 n7 n8))
        have g287 : h271 90 2 = (h244 90 2) := y274_ 2 (by decide) (by decide)
        have g288 : h271 90 3 = (h244 90 3) := y274_ 3 (by decide) (by decide)
        have g289 : h271 90 13 = (h244 90 13) := y274_ 13 (by decide) (by decide)
        have g290 : h271 90 15 = (h244 90 15) := y274_ 15 (by decide) (by decide)
        rcases y275 with f291 | f292 | f293
        · skip
          show ov_R u d ov_m205 67 [(0, ov_r 90)] [] z270 h271 (P_fMo_town_90 F z h t m)
          have f294 : (h244 90 8) ≠ 0 ∧ (h271 90 8) = (h244 90 8) ∧ (h271 90 7) = (h244 90 7) ∧ (h271 93 ((h271 90 7))) = (pt_nt t m (pt_nt t m (pt_rn pt_bB t m 0))) := f291
          clear f291
          refine ov_blk (ls2 := [(0, ov_r 90)]) (st2 := [ov_r 90]) (pc2 := 68) b_205_67_1 rfl rfl ?_
          refine ov_getf (v := ov_i (h271 90 8)) d_205_68 fl_Mo_180 (zb_90 I272) (zs_90 I272) rfl ?_
          have g295 := rg_90_8 I272
          refine ov_ifne (tgt := 99) d_205_71 (by decide) (by omega) (fun c296 => ?_) (fun c296 => ?_)
          · skip
            refine ov_blk (ls2 := [(0, ov_r 90)]) (st2 := [ov_r 90]) (pc2 := 100) b_205_99_1 rfl rfl ?_
            refine ov_getf (v := ov_i (h271 90 8)) d_205_100 fl_Mo_180 (zb_90 I272) (zs_90 I272) rfl ?_
            refine ov_ifle (tgt := 111) d_205_103 (by decide) (by omega) (fun c298 => ?_) (fun c298 => ?_)
            · omega
            · skip
              refine ov_blk (ls2 := [(0, ov_r 90)]) (st2 := [ov_r 90]) (pc2 := 107) b_205_106_1 rfl rfl ?_
              refine ov_getf (v := ov_i (h271 90 8)) d_205_107 fl_Mo_180 (zb_90 I272) (zs_90 I272) rfl ?_
              have hz : (pt_szF t m (pt_rn pt_bB t m 0)) = (h271 90 8) := by unfold pt_szF pt_fW pt_fS; (repeat' split) <;> omega
              exact ov_reti (st := []) d_205_110 rfl ⟨_, rfl, I272, (fun a ca => (fr285 a ca)), (fun k n0 n1 n2 n3 n4 n5 n6 n7 n8 => (rk286 k n0 n1 n2 n3 n4 n5 n6 n7 n8)), (Or.inl ⟨(fun _ => 0), (by show 1 ≤ (h271 90 8) ∧ (h271 90 8) ≤ 16005; omega), (Or.inl ⟨by omega, hz.symm⟩), E284⟩)⟩
          · omega
        · have q9 : (h244 90 8) = 0 ∧ pt_is t m (pt_nt t m (pt_nt t m (pt_rn pt_bB t m 0))) (59 : Int) = 0 ∧ (h271 90 8) = 1 + 16 * (pt_nt t m (pt_nt t m (pt_rn pt_bB t m 0))) ∧ 1 ≤ (h271 90 8) ∧ (h271 90 7) = (h244 90 7) ∧ (h271 93 ((h271 90 7))) = (pt_nt t m (pt_nt t m (pt_rn pt_bB t m 0))) := f292
          omega
        · have q9 : (h244 90 8) = 0 ∧ pt_is t m (pt_nt t m (pt_nt t m (pt_rn pt_bB t m 0))) (59 : Int) = 1 ∧ (h271 90 8) = 0 ∧ (h271 90 7) = (h244 90 7) + 1 ∧ (h271 90 7) ≤ N ∧ (h271 93 ((h271 90 7))) = pt_nt t m (pt_nt t m (pt_nt t m (pt_rn pt_bB t m 0))) := f293
          omega
      · skip
        show ov_R u d ov_m205 60 [(0, ov_r 90)] [ov_i v242, ov_i 341, ov_r 96] z243 h244 (P_fMo_town_90 F z h t m)
        have f300 : (h156 90 8) = 0 ∧ (h244 90 8) = 0 ∧ pt_fN t m (1 : Int) (9 : Int) (pt_nt t m (pt_nt t m (pt_rn pt_bB t m 0))) = 0 ∧ pt_ty t m (pt_nt t m (pt_nt t m (pt_rn pt_bB t m 0))) = 3 ∧ (1 : Int) ≤ v242 ∧ v242 ≤ (9 : Int) ∧ v242 = pt_nm t m (pt_nt t m (pt_nt t m (pt_rn pt_bB t m 0))) ∧ 0 ≤ v242 ∧ v242 ≤ 9999 ∧ (h244 90 7) = (h156 90 7) + 1 ∧ (h244 90 7) ≤ N ∧ (h244 93 ((h244 90 7))) = pt_nt t m (pt_nt t m (pt_nt t m (pt_rn pt_bB t m 0))) := f266
        clear f266
        refine ov_iast d_205_60 (zb_96 I245) (zs_96 I245) (by omega) ?_
        have I301 := ua_96 (k := 341) (x := v242) I245 (by refine ⟨?_, ?_, ?_, ?_, ?_, ?_, ?_, ?_, ?_, ?_, ?_, ?_, ?_, ?_, ?_, ?_, ?_, ?_, ?_, ?_, ?_, ?_, ?_, ?_, ?_, ?_, ?_, ?_, ?_⟩ <;> omega)
        refine ov_blk (ls2 := [(0, ov_r 90)]) (st2 := [ov_i 59, ov_r 90]) (pc2 := 64) b_205_61_2 rfl rfl ?_
        have cf302 : h244 93 ((h244 90 7)) = h3 93 ((h244 90 7)) := congrFun E251 ((h244 90 7))
        refine ov_cV (as := [ov_i 59]) (st := []) (d2 := d - 1) d_205_64 lk_Mo_214 rfl (Nat.le_of_ble_eq_true rfl) (c := 1) (zb_90 I301) (zs_90 I301) ⟨by decide, rfl⟩ (by omega) (c_fMo_takeSign_90 t m N (pt_nt t m (pt_nt t m (pt_nt t m (pt_rn pt_bB t m 0)))) (d - 1) (by omega) U I301 59 (by omega) (by show 0 ≤ (h244 90 7) ∧ (h244 90 7) ≤ N; omega) (by show (h244 93 ((h244 90 7))) = (pt_nt t m (pt_nt t m (pt_nt t m (pt_rn pt_bB t m 0)))); omega) (by show 0 ≤ (h244 90 8); omega) (by show 0 ≤ (59 : Int) ∧ (59 : Int) ≤ 65535; omega) (by rw [show (ov_up h244 96 341 v242) 92 = h3 92 from E250, show (ov_up h244 96 341 v242) 93 = h3 93 from E251, show (ov_up h244 96 341 v242) 94 = h3 94 from E252]; exact mt)) ?_
        rintro _ z303 h304 ⟨rfl, I305, y306, y307, y308⟩
        have E309 : h304 91 = h 91 := Eq.trans (y306 91 (by decide)) (show (ov_up h244 96 341 v242) 91 = h 91 from E249)
        have E310 : h304 92 = h3 92 := Eq.trans (y306 92 (by decide)) (show (ov_up h244 96 341 v242) 92 = h3 92 from E250)
        have E311 : h304 93 = h3 93 := Eq.trans (y306 93 (by decide)) (show (ov_up h244 96 341 v242) 93 = h3 93 from E251)
        have E312 : h304 94 = h3 94 := Eq.trans (y306 94 (by decide)) (show (ov_up h244 96 341 v242) 94 = h3 94 from E252)
        have E313 : h304 95 = h 95 := Eq.trans (y306 95 (by decide)) (show (ov_up h244 96 341 v242) 95 = h 95 from E253)
        have R315 : h304 96 = (ov_rs (ov_rs (h22 96) 340 v154) 341 v242) := Eq.trans (y306 96 (by decide)) (Eq.trans (ov_up_row h244 96 341 v242) (congrArg (fun f => ov_rs f 341 v242) R255))
        have E316 : h304 99 = h 99 := Eq.trans (y306 99 (by decide)) (show (ov_up h244 96 341 v242) 99 = h 99 from E256)
        have E317 : h304 104 = h 104 := Eq.trans (y306 104 (by decide)) (show (ov_up h244 96 341 v242) 104 = h 104 from E257)
        have fr318 : ∀ a : Int, a ≠ 90 ∧ (a < 92 ∨ 94 < a) ∧ (a < 96 ∨ 100 < a) ∧ (a < 103 ∨ 104 < a) → h304 a = h a := fun a ca => Eq.trans (y306 a (by omega)) (Eq.trans (by show (ov_up h244 96 341 v242) a = h244 a; rw [ov_up_ne (by omega)]) (fr258 a ca))
        have y307_ : ∀ k : Int, k ≠ 7 → k ≠ 8 → (h304 90) k = (h244 90) k := y307
        have rk319 : ∀ k : Int, k ≠ 0 → k ≠ 2 → k ≠ 3 → k ≠ 7 → k ≠ 8 → k ≠ 13 → k ≠ 15 → k ≠ 20 → k ≠ 22 → h304 90 k = h 90 k := fun k n0 n1 n2 n3 n4 n5 n6 n7 n8 => Eq.trans (y307_ k n3 n4) (Eq.trans (by show (ov_up h244 96 341 v242) 90 k = h244 90 k; rw [ov_up_ne (by decide)]) (rk259 k n0 n1 n2 n3 n4 n5 n6 n7 n8))
        have g320 : h304 90 2 = (h244 90 2) := y307_ 2 (by decide) (by decide)
        have g321 : h304 90 3 = (h244 90 3) := y307_ 3 (by decide) (by decide)
        have g322 : h304 90 13 = (h244 90 13) := y307_ 13 (by decide) (by decide)
        have g323 : h304 90 15 = (h244 90 15) := y307_ 15 (by decide) (by decide)
        rcases y308 with f324 | f325 | f326
        · have q9 : (h244 90 8) ≠ 0 ∧ (h304 90 8) = (h244 90 8) ∧ (h304 90 7) = (h244 90 7) ∧ (h304 93 ((h304 90 7))) = (pt_nt t m (pt_nt t m (pt_nt t m (pt_rn pt_bB t m 0)))) := f324
          omega
        · skip
          show ov_R u d ov_m205 67 [(0, ov_r 90)] [] z303 h304 (P_fMo_town_90 F z h t m)
          have f327 : (h244 90 8) = 0 ∧ pt_is t m (pt_nt t m (pt_nt t m (pt_nt t m (pt_rn pt_bB t m 0)))) (59 : Int) = 0 ∧ (h304 90 8) = 1 + 16 * (pt_nt t m (pt_nt t m (pt_nt t m (pt_rn pt_bB t m 0)))) ∧ 1 ≤ (h304 90 8) ∧ (h304 90 7) = (h244 90 7) ∧ (h304 93 ((h304 90 7))) = (pt_nt t m (pt_nt t m (pt_nt t m (pt_rn pt_bB t m 0)))) := f325
          clear f325
          refine ov_blk (ls2 := [(0, ov_r 90)]) (st2 := [ov_r 90]) (pc2 := 68) b_205_67_1 rfl rfl ?_
          refine ov_getf (v := ov_i (h304 90 8)) d_205_68 fl_Mo_180 (zb_90 I305) (zs_90 I305) rfl ?_
          have g328 := rg_90_8 I305
          refine ov_ifne (tgt := 99) d_205_71 (by decide) (by omega) (fun c329 => ?_) (fun c329 => ?_)
          · skip
            refine ov_blk (ls2 := [(0, ov_r 90)]) (st2 := [ov_r 90]) (pc2 := 100) b_205_99_1 rfl rfl ?_
            refine ov_getf (v := ov_i (h304 90 8)) d_205_100 fl_Mo_180 (zb_90 I305) (zs_90 I305) rfl ?_
            refine ov_ifle (tgt := 111) d_205_103 (by decide) (by omega) (fun c331 => ?_) (fun c331 => ?_)
            · omega
            · skip
              refine ov_blk (ls2 := [(0, ov_r 90)]) (st2 := [ov_r 90]) (pc2 := 107) b_205_106_1 rfl rfl ?_
              refine ov_getf (v := ov_i (h304 90 8)) d_205_107 fl_Mo_180 (zb_90 I305) (zs_90 I305) rfl ?_
              have hz : (pt_szF t m (pt_rn pt_bB t m 0)) = (h304 90 8) := by unfold pt_szF pt_fW pt_fS; (repeat' split) <;> omega
              exact ov_reti (st := []) d_205_110 rfl ⟨_, rfl, I305, (fun a ca => (fr318 a ca)), (fun k n0 n1 n2 n3 n4 n5 n6 n7 n8 => (rk319 k n0 n1 n2 n3 n4 n5 n6 n7 n8)), (Or.inl ⟨(fun _ => 0), (by show 1 ≤ (h304 90 8) ∧ (h304 90 8) ≤ 16005; omega), (Or.inl ⟨by omega, hz.symm⟩), E317⟩)⟩
          · omega
        · skip
          show ov_R u d ov_m205 67 [(0, ov_r 90)] [] z303 h304 (P_fMo_town_90 F z h t m)
          have f333 : (h244 90 8) = 0 ∧ pt_is t m (pt_nt t m (pt_nt t m (pt_nt t m (pt_rn pt_bB t m 0)))) (59 : Int) = 1 ∧ (h304 90 8) = 0 ∧ (h304 90 7) = (h244 90 7) + 1 ∧ (h304 90 7) ≤ N ∧ (h304 93 ((h304 90 7))) = pt_nt t m (pt_nt t m (pt_nt t m (pt_nt t m (pt_rn pt_bB t m 0)))) := f326
          clear f326
          have L337 : ∀ (n334 : Nat) (z338 : ov_Z) (h339 : ov_H) (I340 : ov_N F z338 h339) (E341 : h339 91 = h 91) (E342 : h339 92 = h3 92) (E343 : h339 93 = h3 93) (E344 : h339 94 = h3 94) (E345 : h339 95 = h 95) (E346 : h339 104 = h 104) (fr347 : ∀ a : Int, a ≠ 90 ∧ (a < 92 ∨ 94 < a) ∧ (a < 96 ∨ 100 < a) ∧ (a < 103 ∨ 104 < a) → h339 a = h a) (xg : ∃ A : Int → Int, pt_MR t m A (h339 96) (h339 90 15) (h339 99) ∧ ∀ (f : Int) (B : Int → Int), pt_EG t m A (h3 93 ((h339 90 7))) f B → pt_ET t m f B) (rkl90 : ∀ k : Int, k ≠ 0 → k ≠ 2 → k ≠ 3 → k ≠ 7 → k ≠ 8 → k ≠ 13 → k ≠ 15 → k ≠ 20 → k ≠ 22 → (h339 90) k = h 90 k) (q336 : (h339 90 8) = 0 ∧ 0 ≤ (h339 90 7) ∧ (h339 90 7) ≤ N ∧ 0 ≤ (h339 90 13) ∧ (h339 90 13) ≤ (h339 90 7)), N - (h339 90 7) < (n334 : Int) → ov_R u d ov_m205 67 [(0, ov_r 90)] [] z338 h339 (P_fMo_town_90 F z h t m) := by
            intro n334
            induction n334 with
            | zero =>
              intro  z338 h339 I340 E341 E342 E343 E344 E345 E346 fr347 xg rkl90 q336 hn348
              exact absurd hn348 (by omega)
            | succ n334 ih335 =>
              intro  z338 h339 I340 E341 E342 E343 E344 E345 E346 fr347 xg rkl90 q336 hn348
              obtain ⟨A, mr, cg⟩ := xg
              have cz : h339 93 (h339 90 7) = h3 93 (h339 90 7) := congrFun (show h339 93 = h3 93 from E343) _
              have mz := pt_MT_at mt (k := h339 90 7) (by omega)
              have mz3 := mz.2.2.1
              have mz2 := mz.2.1
              clear mz
              have mzc := pt_cm_f (t := t) (m := m) (p := h3 93 (h339 90 7))
              have gA := pt_MR_r mr
              refine ov_blk (ls2 := [(0, ov_r 90)]) (st2 := [ov_r 90]) (pc2 := 68) b_205_67_1 rfl rfl ?_
              refine ov_getf (v := ov_i (h339 90 8)) d_205_68 fl_Mo_180 (zb_90 I340) (zs_90 I340) rfl ?_
              have g349 := rg_90_8 I340
              refine ov_ifne (tgt := 99) d_205_71 (by decide) (by omega) (fun c350 => ?_) (fun c350 => ?_)
              · omega
              · skip
                refine ov_blk (ls2 := [(0, ov_r 90)]) (st2 := [ov_r 90]) (pc2 := 75) b_205_74_1 rfl rfl ?_
                refine ov_getf (v := ov_r 92) d_205_75 fl_Mo_24 (zb_90 I340) (zs_90 I340) (congrArg ov_r (rg_90_4 I340)) ?_
                refine ov_blk (ls2 := [(0, ov_r 90)]) (st2 := [ov_r 90, ov_r 92]) (pc2 := 79) b_205_78_1 rfl rfl ?_
                refine ov_getf (v := ov_i (h339 90 7)) d_205_79 fl_Mo_177 (zb_90 I340) (zs_90 I340) rfl ?_
                have g351 := rg_90_7 I340
                refine ov_iald d_205_82 (zb_92 I340) (zs_92 I340) (by omega) ?_
                have e352 : h339 92 (h339 90 7) = (h3 92 (h339 90 7)) := congrFun (show h339 92 = h3 92 from E342) (h339 90 7)
                have g353 := ra_92 I340 (h339 90 7)
                rw [e352] at g353
                rw [e352]
                show ov_R u d ov_m205 83 [(0, ov_r 90)] [ov_i (h3 92 (h339 90 7))] z338 h339 (P_fMo_town_90 F z h t m)
                refine ov_ifeq (tgt := 99) d_205_83 (by decide) (by omega) (fun c354 => ?_) (fun c354 => ?_)
                · skip
                  refine ov_blk (ls2 := [(0, ov_r 90)]) (st2 := [ov_r 90]) (pc2 := 100) b_205_99_1 rfl rfl ?_
                  refine ov_getf (v := ov_i (h339 90 8)) d_205_100 fl_Mo_180 (zb_90 I340) (zs_90 I340) rfl ?_
                  refine ov_ifle (tgt := 111) d_205_103 (by decide) (by omega) (fun c356 => ?_) (fun c356 => ?_)
                  · skip
                    refine ov_blk (ls2 := [(0, ov_r 90), (1, ov_i 0)]) (st2 := []) (pc2 := 113) b_205_111_2 rfl rfl ?_
                    have L360 : ∀ (n357 : Nat) (x1 : Int) (z361 : ov_Z) (h362 : ov_H) (I363 : ov_N F z361 h362) (E364 : h362 91 = h 91) (E365 : h362 92 = h3 92) (E366 : h362 93 = h3 93) (E367 : h362 94 = h3 94) (E368 : h362 95 = h 95) (E369 : h362 99 = h339 99) (E370 : h362 104 = h 104) (fr371 : ∀ a : Int, a ≠ 90 ∧ (a < 92 ∨ 94 < a) ∧ (a < 96 ∨ 100 < a) ∧ (a < 103 ∨ 104 < a) → h362 a = h a) (xl : ∀ j : Int, 340 ≤ j → (h362 96) j = h339 96 j) (rkl90 : ∀ k : Int, k ≠ 0 → k ≠ 2 → k ≠ 3 → k ≠ 7 → k ≠ 8 → k ≠ 13 → k ≠ 15 → k ≠ 20 → k ≠ 22 → (h362 90) k = h 90 k) (q359 : 0 ≤ x1 ∧ x1 ≤ 340), 340 - x1 < (n357 : Int) → ov_R u d ov_m205 113 [(0, ov_r 90), (1, ov_i x1)] [] z361 h362 (P_fMo_town_90 F z h t m) := by
                      intro n357
                      induction n357 with
                      | zero =>
                        intro x1 z361 h362 I363 E364 E365 E366 E367 E368 E369 E370 fr371 xl rkl90 q359 hn372
                        exact absurd hn372 (by omega)
                      | succ n357 ih358 =>
                        intro x1 z361 h362 I363 E364 E365 E366 E367 E368 E369 E370 fr371 xl rkl90 q359 hn372
                        refine ov_blk (ls2 := [(0, ov_r 90), (1, ov_i x1)]) (st2 := [ov_i 340, ov_i x1]) (pc2 := 117) b_205_113_2 rfl rfl ?_
                        refine ov_icge (tgt := 142) d_205_117 (by decide) (by omega) (by omega) (fun c373 => ?_) (fun c373 => ?_)
                        · skip
                          refine ov_blk (ls2 := [(0, ov_r 90), (1, ov_i 0)]) (st2 := []) (pc2 := 144) b_205_142_2 rfl rfl ?_
                          have L377 : ∀ (n374 : Nat) (x1_ : Int) (z378 : ov_Z) (h379 : ov_H) (I380 : ov_N F z378 h379) (E381 : h379 91 = h 91) (E382 : h379 92 = h3 92) (E383 : h379 93 = h3 93) (E384 : h379 94 = h3 94) (E385 : h379 95 = h 95) (E386 : h379 96 = h362 96) (E387 : h379 99 = h339 99) (E388 : h379 104 = h 104) (fr389 : ∀ a : Int, a ≠ 90 ∧ (a < 92 ∨ 94 < a) ∧ (a < 96 ∨ 100 < a) ∧ (a < 103 ∨ 104 < a) → h379 a = h a) (rkl90 : ∀ k : Int, k ≠ 0 → k ≠ 2 → k ≠ 3 → k ≠ 7 → k ≠ 8 → k ≠ 13 → k ≠ 15 → k ≠ 20 → k ≠ 22 → (h379 90) k = h 90 k) (q376 : 0 ≤ x1_ ∧ x1_ ≤ 1000), 1000 - x1_ < (n374 : Int) → ov_R u d ov_m205 144 [(0, ov_r 90), (1, ov_i x1_)] [] z378 h379 (P_fMo_town_90 F z h t m) := by
                            intro n374
                            induction n374 with
                            | zero =>
                              intro x1_ z378 h379 I380 E381 E382 E383 E384 E385 E386 E387 E388 fr389 rkl90 q376 hn390
                              exact absurd hn390 (by omega)
                            | succ n374 ih375 =>
                              intro x1_ z378 h379 I380 E381 E382 E383 E384 E385 E386 E387 E388 fr389 rkl90 q376 hn390
                              refine ov_blk (ls2 := [(0, ov_r 90), (1, ov_i x1_)]) (st2 := [ov_r 90, ov_i x1_]) (pc2 := 146) b_205_144_2 rfl rfl ?_
                              refine ov_getf (v := ov_i (h379 90 13)) d_205_146 fl_Mo_208 (zb_90 I380) (zs_90 I380) rfl ?_
                              have g391 := rg_90_13 I380
                              refine ov_icge (tgt := 190) d_205_149 (by decide) (by omega) (by omega) (fun c392 => ?_) (fun c392 => ?_)
                              · skip
                                refine ov_blk (ls2 := [(0, ov_r 90), (1, ov_i x1_)]) (st2 := [ov_r 90]) (pc2 := 191) b_205_190_1 rfl rfl ?_
                                refine ov_cV (as := []) (st := []) (d2 := d - 1) d_205_191 lk_Mo_151 rfl (Nat.le_of_ble_eq_true rfl) (c := 1) (zb_90 I380) (zs_90 I380) ⟨by decide, rfl⟩ (by omega) (c_fMo_begins_90 (d - 1) (by omega) U I380 (by show 0 ≤ ov_bd F; omega)) ?_
                                rintro _ z393 h394 ⟨rfl, I395, y396, y397, y398⟩
                                have E399 : h394 91 = h 91 := Eq.trans (y396 91 (by decide)) (show h379 91 = h 91 from E381)
                                have E400 : h394 92 = h3 92 := Eq.trans (y396 92 (by decide)) (show h379 92 = h3 92 from E382)
                                have E401 : h394 93 = h3 93 := Eq.trans (y396 93 (by decide)) (show h379 93 = h3 93 from E383)
                                have E402 : h394 94 = h3 94 := Eq.trans (y396 94 (by decide)) (show h379 94 = h3 94 from E384)
                                have E403 : h394 95 = h 95 := Eq.trans (y396 95 (by decide)) (show h379 95 = h 95 from E385)
                                have E404 : h394 96 = h362 96 := Eq.trans (y396 96 (by decide)) (show h379 96 = h362 96 from E386)
                                have E405 : h394 99 = h339 99 := Eq.trans (y396 99 (by decide)) (show h379 99 = h339 99 from E387)
                                have fr406 : ∀ a : Int, a ≠ 90 ∧ (a < 92 ∨ 94 < a) ∧ (a < 96 ∨ 100 < a) ∧ (a < 103 ∨ 104 < a) → h394 a = h a := fun a ca => Eq.trans (y396 a (by omega)) (fr389 a ca)
                                have y397_ : ∀ j : Int, 0 ≤ j → j < 4 → (h394 104) j = 0 := y397
                                have y398_ : ∀ k : Int, k ≠ 20 → k ≠ 22 → (h394 90) k = (h379 90) k := y398
                                have rk407 : ∀ k : Int, k ≠ 0 → k ≠ 2 → k ≠ 3 → k ≠ 7 → k ≠ 8 → k ≠ 13 → k ≠ 15 → k ≠ 20 → k ≠ 22 → h394 90 k = h 90 k := fun k n0 n1 n2 n3 n4 n5 n6 n7 n8 => Eq.trans (y398_ k n7 n8) (rkl90 k n0 n1 n2 n3 n4 n5 n6 n7 n8)
                                have g408 : h394 90 2 = (h379 90 2) := y398_ 2 (by decide) (by decide)
                                have g409 : h394 90 3 = (h379 90 3) := y398_ 3 (by decide) (by decide)
                                have g410 : h394 90 7 = (h379 90 7) := y398_ 7 (by decide) (by decide)
                                have g411 : h394 90 8 = (h379 90 8) := y398_ 8 (by decide) (by decide)
                                have g412 : h394 90 13 = (h379 90 13) := y398_ 13 (by decide) (by decide)
                                have g413 : h394 90 15 = (h379 90 15) := y398_ 15 (by decide) (by decide)
                                show ov_R u d ov_m205 194 [(0, ov_r 90), (1, ov_i x1_)] [] z393 h394 (P_fMo_town_90 F z h t m)
                                refine ov_blk (ls2 := [(0, ov_r 90), (1, ov_i x1_)]) (st2 := [ov_i 0]) (pc2 := 195) b_205_194_1 rfl rfl ?_
                                exact ov_reti (st := []) d_205_195 rfl ⟨_, rfl, I395, (fun a ca => (fr406 a ca)), (fun k n0 n1 n2 n3 n4 n5 n6 n7 n8 => (rk407 k n0 n1 n2 n3 n4 n5 n6 n7 n8)), (Or.inr ⟨A, (by show 0 = 0; omega), (cg 0 A (pt_EG_e (by omega))), y397_⟩)⟩
                              · skip
                                refine ov_blk (ls2 := [(0, ov_r 90), (1, ov_i x1_)]) (st2 := [ov_r 90]) (pc2 := 153) b_205_152_1 rfl rfl ?_
                                refine ov_getf (v := ov_r 97) d_205_153 fl_Mo_84 (zb_90 I380) (zs_90 I380) (congrArg ov_r (rg_90_11 I380)) ?_
                                refine ov_blk (ls2 := [(0, ov_r 90), (1, ov_i x1_)]) (st2 := [ov_r 90, ov_i x1_, ov_r 97]) (pc2 := 158) b_205_156_2 rfl rfl ?_
                                refine ov_getf (v := ov_r 97) d_205_158 fl_Mo_84 (zb_90 I380) (zs_90 I380) (congrArg ov_r (rg_90_11 I380)) ?_
                                refine ov_blk (ls2 := [(0, ov_r 90), (1, ov_i x1_)]) (st2 := [ov_i (1100 + x1_), ov_r 97, ov_i x1_, ov_r 97]) (pc2 := 166) b_205_161_3 rfl rfl ?_
                                refine ov_iald d_205_166 (zb_97 I380) (zs_97 I380) (by omega) ?_
                                have g414 := ra_97 I380 (1100 + x1_)
                                refine ov_iast d_205_167 (zb_97 I380) (zs_97 I380) (by omega) ?_
                                have I415 := ua_97 (k := x1_) (x := (h379 97 (1100 + x1_))) I380 (by omega)
                                refine ov_blk (ls2 := [(0, ov_r 90), (1, ov_i x1_)]) (st2 := [ov_r 90]) (pc2 := 169) b_205_168_1 rfl rfl ?_
                                refine ov_getf (v := ov_r 98) d_205_169 fl_Mo_87 (zb_90 I415) (zs_90 I415) (congrArg ov_r (rg_90_12 I415)) ?_
                                refine ov_blk (ls2 := [(0, ov_r 90), (1, ov_i x1_)]) (st2 := [ov_r 90, ov_i x1_, ov_r 98]) (pc2 := 174) b_205_172_2 rfl rfl ?_
                                refine ov_getf (v := ov_r 98) d_205_174 fl_Mo_87 (zb_90 I415) (zs_90 I415) (congrArg ov_r (rg_90_12 I415)) ?_
                                refine ov_blk (ls2 := [(0, ov_r 90), (1, ov_i x1_)]) (st2 := [ov_i (1100 + x1_), ov_r 98, ov_i x1_, ov_r 98]) (pc2 := 182) b_205_177_3 rfl rfl ?_
                                refine ov_iald d_205_182 (zb_98 I415) (zs_98 I415) (by omega) ?_
                                show ov_R u d ov_m205 183 [(0, ov_r 90), (1, ov_i x1_)] [ov_i (h379 98 (1100 + x1_)), ov_i x1_, ov_r 98] z378 (ov_up h379 97 x1_ (h379 97 (1100 + x1_))) (P_fMo_town_90 F z h t m)
                                have g416 := ra_98 I380 (1100 + x1_)
                                refine ov_iast d_205_183 (zb_98 I415) (zs_98 I415) (by omega) ?_
                                have I417 := ua_98 (k := x1_) (x := (h379 98 (1100 + x1_))) I415 (by omega)
                                refine ov_blk (ls2 := [(0, ov_r 90), (1, ov_i (x1_ + 1))]) (st2 := []) (pc2 := 187) b_205_184_1 rfl rfl ?_
                                refine ov_goto (tgt := 144) d_205_187 (by decide) ?_
                                exact ih375 (x1_ + 1) _ _ I417 E381 E382 E383 E384 E385 E386 E387 E388 (fun a ca => Eq.trans (by show (ov_up (ov_up h379 97 x1_ (h379 97 (1100 + x1_))) 98 x1_ (h379 98 (1100 + x1_))) a = h379 a; rw [ov_up_ne (by omega), ov_up_ne (by omega)]) (fr389 a ca)) (fun k n0 n1 n2 n3 n4 n5 n6 n7 n8 => (Eq.trans (by show (ov_up (ov_up h379 97 x1_ (h379 97 (1100 + x1_))) 98 x1_ (h379 98 (1100 + x1_))) 90 k = h379 90 k; rw [ov_up_ne (by decide), ov_up_ne (by decide)]) (rkl90 k n0 n1 n2 n3 n4 n5 n6 n7 n8))) (by show 0 ≤ (x1_ + 1) ∧ (x1_ + 1) ≤ 1000; omega) (by omega)
                          exact L377 1001 0 _ _ I363 E364 E365 E366 E367 E368 rfl E369 E370 (fun a ca => (fr371 a ca)) (fun k n0 n1 n2 n3 n4 n5 n6 n7 n8 => (rkl90 k n0 n1 n2 n3 n4 n5 n6 n7 n8)) (by show 0 ≤ 0 ∧ 0 ≤ 1000; omega) (by omega)
                        · skip
                          have xe0 : x1 = 0 → h362 96 (340 + x1) = A 0 := fun e => by rw [xl _ (by omega), e]; exact pt_MR_c mr (j := 0) (by omega)
                          have xe1 : x1 = 1 → h362 96 (340 + x1) = A 1 := fun e => by rw [xl _ (by omega), e]; exact pt_MR_c mr (j := 1) (by omega)
                          have xe2 : x1 = 2 → h362 96 (340 + x1) = A 2 := fun e => by rw [xl _ (by omega), e]; exact pt_MR_c mr (j := 2) (by omega)
                          have xe9 : x1 = 9 → h362 96 (340 + x1) = A 9 := fun e => by rw [xl _ (by omega), e]; exact pt_MR_c mr (j := 9) (by omega)
                          refine ov_blk (ls2 := [(0, ov_r 90), (1, ov_i x1)]) (st2 := [ov_r 90]) (pc2 := 121) b_205_120_1 rfl rfl ?_
                          refine ov_getf (v := ov_r 96) d_205_121 fl_Mo_81 (zb_90 I363) (zs_90 I363) (congrArg ov_r (rg_90_10 I363)) ?_
                          refine ov_blk (ls2 := [(0, ov_r 90), (1, ov_i x1)]) (st2 := [ov_r 90, ov_i x1, ov_r 96]) (pc2 := 126) b_205_124_2 rfl rfl ?_
                          refine ov_getf (v := ov_r 96) d_205_126 fl_Mo_81 (zb_90 I363) (zs_90 I363) (congrArg ov_r (rg_90_10 I363)) ?_
                          refine ov_blk (ls2 := [(0, ov_r 90), (1, ov_i x1)]) (st2 := [ov_i (340 + x1), ov_r 96, ov_i x1, ov_r 96]) (pc2 := 134) b_205_129_3 rfl rfl ?_
                          refine ov_iald d_205_134 (zb_96 I363) (zs_96 I363) (by omega) ?_
                          show ov_R u d ov_m205 135 [(0, ov_r 90), (1, ov_i x1)] [ov_i (h362 96 (340 + x1)), ov_i x1, ov_r 96] z361 h362 (P_fMo_town_90 F z h t m)
                          refine ov_iast d_205_135 (zb_96 I363) (zs_96 I363) (by omega) ?_
                          have I418 := ov_cp96 (k := x1) I363 (by omega) (by omega)
                          refine ov_blk (ls2 := [(0, ov_r 90), (1, ov_i (x1 + 1))]) (st2 := []) (pc2 := 139) b_205_136_1 rfl rfl ?_
                          refine ov_goto (tgt := 113) d_205_139 (by decide) ?_
                          exact ih358 (x1 + 1) _ _ I418 E364 E365 E366 E367 E368 E369 E370 (fun a ca => Eq.trans (by show (ov_up h362 96 x1 (h362 96 (340 + x1))) a = h362 a; rw [ov_up_ne (by omega)]) (fr371 a ca)) (fun j a => by rw [ov_up_j (by omega)]; exact xl j a) (fun k n0 n1 n2 n3 n4 n5 n6 n7 n8 => (Eq.trans (by show (ov_up h362 96 x1 (h362 96 (340 + x1))) 90 k = h362 90 k; rw [ov_up_ne (by decide)]) (rkl90 k n0 n1 n2 n3 n4 n5 n6 n7 n8))) (by show 0 ≤ (x1 + 1) ∧ (x1 + 1) ≤ 340; omega) (by omega)
                    exact L360 341 0 _ _ I340 E341 E342 E343 E344 E345 rfl E346 (fun a ca => (fr347 a ca)) (fun j a => rfl) (fun k n0 n1 n2 n3 n4 n5 n6 n7 n8 => (rkl90 k n0 n1 n2 n3 n4 n5 n6 n7 n8)) (by show 0 ≤ 0 ∧ 0 ≤ 340; omega) (by omega)
                  · omega
                · skip
                  refine ov_blk (ls2 := [(0, ov_r 90)]) (st2 := [ov_r 90]) (pc2 := 87) b_205_86_1 rfl rfl ?_
                  have cf419 : h339 93 ((h339 90 7)) = h3 93 ((h339 90 7)) := congrFun E343 ((h339 90 7))
                  refine ov_cV (as := []) (st := []) (d2 := d - 1) d_205_87 lk_Mo_217 rfl (Nat.le_of_ble_eq_true rfl) (c := 1) (zb_90 I340) (zs_90 I340) ⟨by decide, rfl⟩ (by omega) (c_fMo_readLine_90 t m N (h3 93 (h339 90 7)) A (d - 1) (by omega) U I340 (by show 0 ≤ (h339 90 7) ∧ (h339 90 7) ≤ N; omega) (by show (h339 93 ((h339 90 7))) = (h3 93 (h339 90 7)); omega) (by show 0 ≤ (h339 90 8); omega) (by show (h339 90 8) = 0; omega) (by show 0 ≤ (h339 90 13) ∧ (h339 90 13) ≤ (h339 90 7); omega) (by rw [show h339 92 = h3 92 from E342, show h339 93 = h3 93 from E343, show h339 94 = h3 94 from E344]; exact mt) (by rw [show h339 95 = h 95 from E345]; exact wd) mr) ?_
                  rintro _ z420 h421 ⟨rfl, I422, y423, y424, y425⟩
                  have E426 : h421 91 = h 91 := Eq.trans (y423 91 (by decide)) (show h339 91 = h 91 from E341)
                  have E427 : h421 92 = h3 92 := Eq.trans (y423 92 (by decide)) (show h339 92 = h3 92 from E342)
                  have E428 : h421 93 = h3 93 := Eq.trans (y423 93 (by decide)) (show h339 93 = h3 93 from E343)
                  have E429 : h421 94 = h3 94 := Eq.trans (y423 94 (by decide)) (show h339 94 = h3 94 from E344)
                  have E430 : h421 95 = h 95 := Eq.trans (y423 95 (by decide)) (show h339 95 = h 95 from E345)
                  have E431 : h421 104 = h 104 := Eq.trans (y423 104 (by decide)) (show h339 104 = h 104 from E346)
                  have fr432 : ∀ a : Int, a ≠ 90 ∧ (a < 92 ∨ 94 < a) ∧ (a < 96 ∨ 100 < a) ∧ (a < 103 ∨ 104 < a) → h421 a = h a := fun a ca => Eq.trans (y423 a (by omega)) (fr347 a ca)
                  have y424_ : ∀ k : Int, k ≠ 7 → k ≠ 8 → k ≠ 13 → k ≠ 15 → (h421 90) k = (h339 90) k := y424
                  have rk433 : ∀ k : Int, k ≠ 0 → k ≠ 2 → k ≠ 3 → k ≠ 7 → k ≠ 8 → k ≠ 13 → k ≠ 15 → k ≠ 20 → k ≠ 22 → h421 90 k = h 90 k := fun k n0 n1 n2 n3 n4 n5 n6 n7 n8 => Eq.trans (y424_ k n3 n4 n5 n6) (rkl90 k n0 n1 n2 n3 n4 n5 n6 n7 n8)
                  have g434 : h421 90 2 = (h339 90 2) := y424_ 2 (by decide) (by decide) (by decide) (by decide)
                  have g435 : h421 90 3 = (h339 90 3) := y424_ 3 (by decide) (by decide) (by decide) (by decide)
                  rcases y425 with ⟨w436, w437, f438, y439⟩ | ⟨w440, f441, y442, y443⟩
                  · skip
                    show ov_R u d ov_m205 90 [(0, ov_r 90)] [] z420 h421 (P_fMo_town_90 F z h t m)
                    have f444 : (h421 90 8) = w436 ∧ 1 ≤ w436 ∧ (h339 90 7) ≤ (h421 90 7) ∧ (h421 90 7) ≤ N := f438
                    clear f438
                    have y439_ : pt_EL t m A (h3 93 (h339 90 7)) w436 w437 := y439
                    refine ov_blk (ls2 := [(0, ov_r 90)]) (st2 := [ov_i 59, ov_r 90]) (pc2 := 93) b_205_90_2 rfl rfl ?_
                    have cf445 : h421 93 ((h421 90 7)) = h3 93 ((h421 90 7)) := congrFun E428 ((h421 90 7))
                    refine ov_cV (as := [ov_i 59]) (st := []) (d2 := d - 1) d_205_93 lk_Mo_214 rfl (Nat.le_of_ble_eq_true rfl) (c := 1) (zb_90 I422) (zs_90 I422) ⟨by decide, rfl⟩ (by omega) (c_fMo_takeSign_90 t m N (h421 93 (h421 90 7)) (d - 1) (by omega) U I422 59 (by omega) (by show 0 ≤ (h421 90 7) ∧ (h421 90 7) ≤ N; omega) (by show (h421 93 ((h421 90 7))) = (h421 93 (h421 90 7)); omega) (by show 0 ≤ (h421 90 8); omega) (by show 0 ≤ (59 : Int) ∧ (59 : Int) ≤ 65535; omega) (by rw [show h421 92 = h3 92 from E427, show h421 93 = h3 93 from E428, show h421 94 = h3 94 from E429]; exact mt)) ?_
                    rintro _ z446 h447 ⟨rfl, I448, y449, y450, y451⟩
                    have E452 : h447 91 = h 91 := Eq.trans (y449 91 (by decide)) (show h421 91 = h 91 from E426)
                    have E453 : h447 92 = h3 92 := Eq.trans (y449 92 (by decide)) (show h421 92 = h3 92 from E427)
                    have E454 : h447 93 = h3 93 := Eq.trans (y449 93 (by decide)) (show h421 93 = h3 93 from E428)
                    have E455 : h447 94 = h3 94 := Eq.trans (y449 94 (by decide)) (show h421 94 = h3 94 from E429)
                    have E456 : h447 95 = h 95 := Eq.trans (y449 95 (by decide)) (show h421 95 = h 95 from E430)
                    have E457 : h447 96 = h421 96 := Eq.trans (y449 96 (by decide)) (show h421 96 = h421 96 from rfl)
                    have E458 : h447 99 = h421 99 := Eq.trans (y449 99 (by decide)) (show h421 99 = h421 99 from rfl)
                    have E459 : h447 104 = h 104 := Eq.trans (y449 104 (by decide)) (show h421 104 = h 104 from E431)
                    have fr460 : ∀ a : Int, a ≠ 90 ∧ (a < 92 ∨ 94 < a) ∧ (a < 96 ∨ 100 < a) ∧ (a < 103 ∨ 104 < a) → h447 a = h a := fun a ca => Eq.trans (y449 a (by omega)) (fr432 a ca)
                    have y450_ : ∀ k : Int, k ≠ 7 → k ≠ 8 → (h447 90) k = (h421 90) k := y450
                    have rk461 : ∀ k : Int, k ≠ 0 → k ≠ 2 → k ≠ 3 → k ≠ 7 → k ≠ 8 → k ≠ 13 → k ≠ 15 → k ≠ 20 → k ≠ 22 → h447 90 k = h 90 k := fun k n0 n1 n2 n3 n4 n5 n6 n7 n8 => Eq.trans (y450_ k n3 n4) (rk433 k n0 n1 n2 n3 n4 n5 n6 n7 n8)
                    have g462 : h447 90 2 = (h421 90 2) := y450_ 2 (by decide) (by decide)
                    have g463 : h447 90 3 = (h421 90 3) := y450_ 3 (by decide) (by decide)
                    have g464 : h447 90 13 = (h421 90 13) := y450_ 13 (by decide) (by decide)
                    have g465 : h447 90 15 = (h421 90 15) := y450_ 15 (by decide) (by decide)
                    rcases y451 with f466 | f467 | f468
                    · skip
                      show ov_R u d ov_m205 96 [(0, ov_r 90)] [] z446 h447 (P_fMo_town_90 F z h t m)
                      have f469 : (h421 90 8) ≠ 0 ∧ (h447 90 8) = (h421 90 8) ∧ (h447 90 7) = (h421 90 7) ∧ (h447 93 ((h447 90 7))) = (h421 93 (h421 90 7)) := f466
                      clear f466
                      refine ov_goto (tgt := 67) d_205_96 (by decide) ?_
                      refine ov_blk (ls2 := [(0, ov_r 90)]) (st2 := [ov_r 90]) (pc2 := 68) b_205_67_1 rfl rfl ?_
                      refine ov_getf (v := ov_i (h447 90 8)) d_205_68 fl_Mo_180 (zb_90 I448) (zs_90 I448) rfl ?_
                      have g470 := rg_90_8 I448
                      refine ov_ifne (tgt := 99) d_205_71 (by decide) (by omega) (fun c471 => ?_) (fun c471 => ?_)
                      · skip
                        refine ov_blk (ls2 := [(0, ov_r 90)]) (st2 := [ov_r 90]) (pc2 := 100) b_205_99_1 rfl rfl ?_
                        refine ov_getf (v := ov_i (h447 90 8)) d_205_100 fl_Mo_180 (zb_90 I448) (zs_90 I448) rfl ?_
                        refine ov_ifle (tgt := 111) d_205_103 (by decide) (by omega) (fun c473 => ?_) (fun c473 => ?_)
                        · omega
                        · skip
                          refine ov_blk (ls2 := [(0, ov_r 90)]) (st2 := [ov_r 90]) (pc2 := 107) b_205_106_1 rfl rfl ?_
                          refine ov_getf (v := ov_i (h447 90 8)) d_205_107 fl_Mo_180 (zb_90 I448) (zs_90 I448) rfl ?_
                          exact ov_reti (st := []) d_205_110 rfl ⟨_, rfl, I448, (fun a ca => (fr460 a ca)), (fun k n0 n1 n2 n3 n4 n5 n6 n7 n8 => (rk461 k n0 n1 n2 n3 n4 n5 n6 n7 n8)), (Or.inl ⟨(fun _ => 0), (by show 1 ≤ (h447 90 8) ∧ (h447 90 8) ≤ 16005; omega), (by show pt_ET t m (h447 90 8) _; rw [show (h447 90 8) = w436 by omega]; exact cg _ _ (pt_EG_f (by omega) y439_ (by omega))), E459⟩)⟩
                      · omega
                    · omega
                    · omega
                  · skip
                    show ov_R u d ov_m205 90 [(0, ov_r 90)] [] z420 h421 (P_fMo_town_90 F z h t m)
                    have f475 : (h421 90 8) = 0 ∧ (h339 90 7) ≤ (h421 90 7) ∧ (h421 90 7) ≤ N ∧ 0 ≤ (h421 90 13) ∧ (h421 90 13) ≤ (h421 90 7) ∧ (h421 93 ((h421 90 7))) = w440 := f441
                    clear f441
                    have y442_ : pt_EL t m A (h3 93 (h339 90 7)) 0 w440 := y442
                    have y443_ : pt_MR t m (pt_LA t m A (h3 93 (h339 90 7))) (h421 96) (h421 90 15) (h421 99) := y443
                    refine ov_blk (ls2 := [(0, ov_r 90)]) (st2 := [ov_i 59, ov_r 90]) (pc2 := 93) b_205_90_2 rfl rfl ?_
                    have cf476 : h421 93 ((h421 90 7)) = h3 93 ((h421 90 7)) := congrFun E428 ((h421 90 7))
                    refine ov_cV (as := [ov_i 59]) (st := []) (d2 := d - 1) d_205_93 lk_Mo_214 rfl (Nat.le_of_ble_eq_true rfl) (c := 1) (zb_90 I422) (zs_90 I422) ⟨by decide, rfl⟩ (by omega) (c_fMo_takeSign_90 t m N w440 (d - 1) (by omega) U I422 59 (by omega) (by show 0 ≤ (h421 90 7) ∧ (h421 90 7) ≤ N; omega) (by show (h421 93 ((h421 90 7))) = w440; omega) (by show 0 ≤ (h421 90 8); omega) (by show 0 ≤ (59 : Int) ∧ (59 : Int) ≤ 65535; omega) (by rw [show h421 92 = h3 92 from E427, show h421 93 = h3 93 from E428, show h421 94 = h3 94 from E429]; exact mt)) ?_
                    rintro _ z477 h478 ⟨rfl, I479, y480, y481, y482⟩
                    have E483 : h478 91 = h 91 := Eq.trans (y480 91 (by decide)) (show h421 91 = h 91 from E426)
                    have E484 : h478 92 = h3 92 := Eq.trans (y480 92 (by decide)) (show h421 92 = h3 92 from E427)
                    have E485 : h478 93 = h3 93 := Eq.trans (y480 93 (by decide)) (show h421 93 = h3 93 from E428)
                    have E486 : h478 94 = h3 94 := Eq.trans (y480 94 (by decide)) (show h421 94 = h3 94 from E429)
                    have E487 : h478 95 = h 95 := Eq.trans (y480 95 (by decide)) (show h421 95 = h 95 from E430)
                    have E488 : h478 96 = h421 96 := Eq.trans (y480 96 (by decide)) (show h421 96 = h421 96 from rfl)
                    have E489 : h478 99 = h421 99 := Eq.trans (y480 99 (by decide)) (show h421 99 = h421 99 from rfl)
                    have E490 : h478 104 = h 104 := Eq.trans (y480 104 (by decide)) (show h421 104 = h 104 from E431)
                    have fr491 : ∀ a : Int, a ≠ 90 ∧ (a < 92 ∨ 94 < a) ∧ (a < 96 ∨ 100 < a) ∧ (a < 103 ∨ 104 < a) → h478 a = h a := fun a ca => Eq.trans (y480 a (by omega)) (fr432 a ca)
                    have y481_ : ∀ k : Int, k ≠ 7 → k ≠ 8 → (h478 90) k = (h421 90) k := y481
                    have rk492 : ∀ k : Int, k ≠ 0 → k ≠ 2 → k ≠ 3 → k ≠ 7 → k ≠ 8 → k ≠ 13 → k ≠ 15 → k ≠ 20 → k ≠ 22 → h478 90 k = h 90 k := fun k n0 n1 n2 n3 n4 n5 n6 n7 n8 => Eq.trans (y481_ k n3 n4) (rk433 k n0 n1 n2 n3 n4 n5 n6 n7 n8)
                    have g493 : h478 90 2 = (h421 90 2) := y481_ 2 (by decide) (by decide)
                    have g494 : h478 90 3 = (h421 90 3) := y481_ 3 (by decide) (by decide)
                    have g495 : h478 90 13 = (h421 90 13) := y481_ 13 (by decide) (by decide)
                    have g496 : h478 90 15 = (h421 90 15) := y481_ 15 (by decide) (by decide)
                    rcases y482 with f497 | f498 | f499
                    · omega
                    · skip
                      show ov_R u d ov_m205 96 [(0, ov_r 90)] [] z477 h478 (P_fMo_town_90 F z h t m)
                      have f500 : (h421 90 8) = 0 ∧ pt_is t m w440 (59 : Int) = 0 ∧ (h478 90 8) = 1 + 16 * w440 ∧ 1 ≤ (h478 90 8) ∧ (h478 90 7) = (h421 90 7) ∧ (h478 93 ((h478 90 7))) = w440 := f498
                      clear f498
                      refine ov_goto (tgt := 67) d_205_96 (by decide) ?_
                      refine ov_blk (ls2 := [(0, ov_r 90)]) (st2 := [ov_r 90]) (pc2 := 68) b_205_67_1 rfl rfl ?_
                      refine ov_getf (v := ov_i (h478 90 8)) d_205_68 fl_Mo_180 (zb_90 I479) (zs_90 I479) rfl ?_
                      have g501 := rg_90_8 I479
                      refine ov_ifne (tgt := 99) d_205_71 (by decide) (by omega) (fun c502 => ?_) (fun c502 => ?_)
                      · skip
                        refine ov_blk (ls2 := [(0, ov_r 90)]) (st2 := [ov_r 90]) (pc2 := 100) b_205_99_1 rfl rfl ?_
                        refine ov_getf (v := ov_i (h478 90 8)) d_205_100 fl_Mo_180 (zb_90 I479) (zs_90 I479) rfl ?_
                        refine ov_ifle (tgt := 111) d_205_103 (by decide) (by omega) (fun c504 => ?_) (fun c504 => ?_)
                        · omega
                        · skip
                          refine ov_blk (ls2 := [(0, ov_r 90)]) (st2 := [ov_r 90]) (pc2 := 107) b_205_106_1 rfl rfl ?_
                          refine ov_getf (v := ov_i (h478 90 8)) d_205_107 fl_Mo_180 (zb_90 I479) (zs_90 I479) rfl ?_
                          exact ov_reti (st := []) d_205_110 rfl ⟨_, rfl, I479, (fun a ca => (fr491 a ca)), (fun k n0 n1 n2 n3 n4 n5 n6 n7 n8 => (rk492 k n0 n1 n2 n3 n4 n5 n6 n7 n8)), (Or.inl ⟨(fun _ => 0), (by show 1 ≤ (h478 90 8) ∧ (h478 90 8) ≤ 16005; omega), (by show pt_ET t m (h478 90 8) _; rw [show (h478 90 8) = 1 + 16 * w440 by omega]; exact cg _ _ (pt_EG_s (by omega) y442_ (by omega) (by omega))), E490⟩)⟩
                      · omega
                    · skip
                      show ov_R u d ov_m205 96 [(0, ov_r 90)] [] z477 h478 (P_fMo_town_90 F z h t m)
                      have f506 : (h421 90 8) = 0 ∧ pt_is t m w440 (59 : Int) = 1 ∧ (h478 90 8) = 0 ∧ (h478 90 7) = (h421 90 7) + 1 ∧ (h478 90 7) ≤ N ∧ (h478 93 ((h478 90 7))) = pt_nt t m w440 := f499
                      clear f499
                      refine ov_goto (tgt := 67) d_205_96 (by decide) ?_
                      have pq : h3 93 (h478 90 7) = pt_nt t m w440 := Eq.trans (congrFun (show h3 93 = h478 93 from (E485).symm) _) (by show h478 93 (h478 90 7) = pt_nt t m w440; omega)
                      exact ih335  _ _ I479 E483 E484 E485 E486 E487 E490 (fun a ca => (fr491 a ca)) (⟨pt_LA t m A (h3 93 (h339 90 7)), (by rw [show (h478 90 15) = (h421 90 15) by omega, show h478 96 = h421 96 from E488, show h478 99 = h421 99 from E489]; exact y443_), fun f B e => cg f B (pt_EG_n (by omega) y442_ (by omega) (by rw [pq] at e; exact e))⟩) (fun k n0 n1 n2 n3 n4 n5 n6 n7 n8 => (rk492 k n0 n1 n2 n3 n4 n5 n6 n7 n8)) (by show (h478 90 8) = 0 ∧ 0 ≤ (h478 90 7) ∧ (h478 90 7) ≤ N ∧ 0 ≤ (h478 90 13) ∧ (h478 90 13) ≤ (h478 90 7); omega) (by show N - (h478 90 7) < _; omega)
          have m96 : h304 96 = ov_rs (ov_rs ((h22 96)) 340 (pt_nm t m (pt_nt t m (pt_rn pt_bB t m 0)))) 341 (pt_nm t m (pt_nt t m (pt_nt t m (pt_rn pt_bB t m 0)))) := by rw [show h304 96 = (ov_rs (ov_rs (h22 96) 340 v154) 341 v242) from R315, show v154 = (pt_nm t m (pt_nt t m (pt_rn pt_bB t m 0))) by omega, show v242 = (pt_nm t m (pt_nt t m (pt_nt t m (pt_rn pt_bB t m 0)))) by omega]
          have m15 : (h304 90 15) = 0 := by omega
          have hz : (pt_szF t m (pt_rn pt_bB t m 0)) = 0 := by unfold pt_szF pt_fW pt_fS; (repeat' split) <;> omega
          have pq : h3 93 (h304 90 7) = (pt_nt t m (pt_nt t m (pt_nt t m (pt_nt t m (pt_rn pt_bB t m 0))))) := Eq.trans (congrFun (show h3 93 = h304 93 from (E311).symm) _) (by show h304 93 (h304 90 7) = (pt_nt t m (pt_nt t m (pt_nt t m (pt_nt t m (pt_rn pt_bB t m 0))))); omega)
          exact L337 1001  _ _ I305 E309 E310 E311 E312 E313 E317 (fun a ca => (fr318 a ca)) (⟨pt_A0 (pt_nm t m (pt_nt t m (pt_rn pt_bB t m 0))) (pt_nm t m (pt_nt t m (pt_nt t m (pt_rn pt_bB t m 0)))), by rw [m96, m15]; exact pt_MR_first (by omega) (by omega) y25_, fun f B e => Or.inr ⟨hz, by rw [pq] at e; exact e⟩⟩) (fun k n0 n1 n2 n3 n4 n5 n6 n7 n8 => (rk319 k n0 n1 n2 n3 n4 n5 n6 n7 n8)) (by show (h304 90 8) = 0 ∧ 0 ≤ (h304 90 7) ∧ (h304 90 7) ≤ N ∧ 0 ≤ (h304 90 13) ∧ (h304 90 13) ≤ (h304 90 7); omega) (by show N - (h304 90 7) < _; omega)

abbrev P_fMo_town_90 (F : ov_H × ov_Z) (z : ov_Z) (h : ov_H) (t : Int → Int) (m : Int) : Option ov_V → ov_Z → ov_H → Prop := fun r0 z' h' => ∃ r : Int, r0 = some (ov_i r) ∧ ov_N F z' h' ∧ (∀ a : Int, a ≠ 90 ∧ (a < 92 ∨ 94 < a) ∧ (a < 96 ∨ 100 < a) ∧ (a < 103 ∨ 104 < a) → h' a = h a) ∧ (∀ k : Int, k ≠ 0 → k ≠ 2 → k ≠ 3 → k ≠ 7 → k ≠ 8 → k ≠ 13 → k ≠ 15 → k ≠ 20 → k ≠ 22 → (h' 90) k = (h 90) k) ∧ ((∃ B : Int → Int, (1 ≤ r ∧ r ≤ 16005 ∧ (h' 90 22) = (h 90 22)) ∧ (pt_ET t m r B) ∧ ((h' 104) = (h 104))) ∨ (∃ B : Int → Int, (r = 0) ∧ (pt_ET t m r B) ∧ (∀ j : Int, 0 ≤ j → j < 4 → (h' 104) j = 0) ∧ (∀ j : Int, 0 ≤ j → j < 280 → (h' 96) j = B j)))
set_option maxHeartbeats 4000000 in
theorem c_fMo_town_90 {u : ov_U} {F : ov_H × ov_Z} (t : Int → Int) (m : Int) {z : ov_Z} {h : ov_H} (d : Nat) (hd : 42 ≤ d) (U : ov_cap u) (I : ov_N F z h) (p0 : (h 90 2) = m) (p1 : 0 ≤ m ∧ m ≤ 1000) (p2 : 0 ≤ ov_bd F) (e91 : (h 91) = t) (wd : pt_WD (h 95)) : ov_T u d ov_m205 [ov_r 90] z h (P_fMo_town_90 F z h t m) := by
  refine ov_en rfl (Nat.le_of_ble_eq_true rfl) ?_
  show ov_R u d ov_m205 0 [(0, ov_r 90)] [] z h (P_fMo_town_90 F z h t m)
  refine ov_blk (ls2 := [(0, ov_r 90)]) (st2 := [ov_i 0, ov_r 90]) (pc2 := 2) b_205_0_2 rfl rfl ?_
  refine ov_putf (x := 0) d_205_2 fl_Mo_1 (zb_90 I) (zs_90 I) rfl nk_0 rfl ?_
  have I1 := up_90_0 (x := 0) I (by omega)
  show ov_R u d ov_m205 5 [(0, ov_r 90)] [] z (ov_up h 90 0 0) (P_fMo_town_90 F z h t m)
  refine ov_blk (ls2 := [(0, ov_r 90)]) (st2 := [ov_r 90]) (pc2 := 6) b_205_5_1 rfl rfl ?_
  refine ov_cV (as := []) (st := []) (d2 := d - 1) d_205_6 lk_Mo_205 rfl (Nat.le_of_ble_eq_true rfl) (c := 1) (zb_90 I1) (zs_90 I1) ⟨by decide, rfl⟩ (by omega) (c_fMo_cutAll_90 t m (d - 1) (by omega) U I1 (by show (h 90 2) = m; omega) (by show 0 ≤ m ∧ m ≤ 1000; omega) e91) ?_
  rintro _ z2 h3 ⟨rfl, I4, y5, f6, y7, y8⟩
  have E9 : h3 91 = h 91 := Eq.trans (y5 91 (by decide)) (show (ov_up h 90 0 0) 91 = h 91 from rfl)
  have E10 : h3 95 = h 95 := Eq.trans (y5 95 (by decide)) (show (ov_up h 90 0 0) 95 = h 95 from rfl)
  have E11 : h3 96 = h 96 := Eq.trans (y5 96 (by decide)) (show (ov_up h 90 0 0) 96 = h 96 from rfl)
  have E12 : h3 99 = h 99 := Eq.trans (y5 99 (by decide)) (show (ov_up h 90 0 0) 99 = h 99 from rfl)
  have E13 : h3 104 = h 104 := Eq.trans (y5 104 (by decide)) (show (ov_up h 90 0 0) 104 = h 104 from rfl)
  have fr14 : ∀ a : Int, a ≠ 90 ∧ (a < 92 ∨ 94 < a) ∧ (a < 96 ∨ 100 < a) ∧ (a < 103 ∨ 104 < a) → h3 a = h a := fun a ca => Eq.trans (y5 a (by omega)) (Eq.trans (by show (ov_up h 90 0 0) a = h a; rw [ov_up_ne (by omega)]) rfl)
  have f16 : (h3 90 2) = 0 ∧ (h3 90 3) = m ∧ (h3 90 7) = 0 ∧ (h3 90 8) = 0 := f6
  clear f6
  have y7_ : ∃ N : Int, pt_MT t m (h3 92) (h3 93) (h3 94) N := y7
  have y8_ : ∀ k : Int, k ≠ 2 → k ≠ 3 → k ≠ 7 → k ≠ 8 → (h3 90) k = ((ov_up h 90 0 0) 90) k := y8
  have rk15 : ∀ k : Int, k ≠ 0 → k ≠ 2 → k ≠ 3 → k ≠ 7 → k ≠ 8 → k ≠ 13 → k ≠ 15 → k ≠ 20 → k ≠ 22 → h3 90 k = h 90 k := fun k n0 n1 n2 n3 n4 n5 n6 n7 n8 => Eq.trans (y8_ k n1 n2 n3 n4) (Eq.trans (by show (ov_up h 90 0 0) 90 k = h 90 k; rw [ov_up_j n0]) rfl)
  have g17 : h3 90 13 = (h 90 13) := y8_ 13 (by decide) (by decide) (by decide) (by decide)
  have g18 : h3 90 15 = (h 90 15) := y8_ 15 (by decide) (by decide) (by decide) (by decide)
  have g19 : h3 90 22 = (h 90 22) := y8_ 22 (by decide) (by decide) (by decide) (by decide)
  show ov_R u d ov_m205 9 [(0, ov_r 90)] [] z2 h3 (P_fMo_town_90 F z h t m)
  obtain ⟨N, mt⟩ := y7_
  have pz := pt_MT_0 mt
  have mN := mt.1.2.1
  have mN0 := mt.1.1
  have zp : h3 93 (h3 90 7) = (pt_rn pt_bB t m 0) := by rw [show h3 90 7 = 0 by omega]; exact pz
  have nb0 := pt_rn_b (P := pt_bB) (t := t) (n := m) (p := 0)
  refine ov_blk (ls2 := [(0, ov_r 90)]) (st2 := [ov_i 0, ov_r 90]) (pc2 := 11) b_205_9_2 rfl rfl ?_
  refine ov_putf (x := 0) d_205_11 fl_Mo_208 (zb_90 I4) (zs_90 I4) rfl nk_0 rfl ?_
  have I20 := up_90_13 (x := 0) I4 (by omega)
  show ov_R u d ov_m205 14 [(0, ov_r 90)] [] z2 (ov_up h3 90 13 0) (P_fMo_town_90 F z h t m)
  refine ov_blk (ls2 := [(0, ov_r 90)]) (st2 := [ov_i 0, ov_r 90]) (pc2 := 16) b_205_14_2 rfl rfl ?_
  refine ov_putf (x := 0) d_205_16 fl_Mo_211 (zb_90 I20) (zs_90 I20) rfl nk_0 rfl ?_
  have I21 := up_90_15 (x := 0) I20 (by omega)
  show ov_R u d ov_m205 19 [(0, ov_r 90)] [] z2 (ov_up (ov_up h3 90 13 0) 90 15 0) (P_fMo_town_90 F z h t m)
  refine ov_blk (ls2 := [(0, ov_r 90)]) (st2 := [ov_i 340, ov_r 90]) (pc2 := 23) b_205_19_2 rfl rfl ?_
  refine ov_cV (as := [ov_i 340]) (st := []) (d2 := d - 1) d_205_23 lk_Mo_147 rfl (Nat.le_of_ble_eq_true rfl) (c := 1) (zb_90 I21) (zs_90 I21) ⟨by decide, rfl⟩ (by omega) (c_fMo_standsAsAlways_90 (d - 1) (by omega) U I21 340 (by omega) (by show (340 : Int) = 340; omega)) ?_
  rintro _ z22 h23 ⟨rfl, I24, y25, y26⟩
  have E27 : h23 91 = h 91 := Eq.trans (y25 91 (by decide)) (show (ov_up (ov_up h3 90 13 0) 90 15 0) 91 = h 91 from E9)
  have E28 : h23 92 = h3 92 := Eq.trans (y25 92 (by decide)) (show (ov_up (ov_up h3 90 13 0) 90 15 0) 92 = h3 92 from rfl)
  have E29 : h23 93 = h3 93 := Eq.trans (y25 93 (by decide)) (show (ov_up (ov_up h3 90 13 0) 90 15 0) 93 = h3 93 from rfl)
  have E30 : h23 94 = h3 94 := Eq.trans (y25 94 (by decide)) (show (ov_up (ov_up h3 90 13 0) 90 15 0) 94 = h3 94 from rfl)
  have E31 : h23 95 = h 95 := Eq.trans (y25 95 (by decide)) (show (ov_up (ov_up h3 90 13 0) 90 15 0) 95 = h 95 from E10)
  have E32 : h23 99 = h 99 := Eq.trans (y25 99 (by decide)) (show (ov_up (ov_up h3 90 13 0) 90 15 0) 99 = h 99 from E12)
  have E33 : h23 104 = h 104 := Eq.trans (y25 104 (by decide)) (show (ov_up (ov_up h3 90 13 0) 90 15 0) 104 = h 104 from E13)
  have fr34 : ∀ a : Int, a ≠ 90 ∧ (a < 92 ∨ 94 < a) ∧ (a < 96 ∨ 100 < a) ∧ (a < 103 ∨ 104 < a) → h23 a = h a := fun a ca => Eq.trans (y25 a (by omega)) (Eq.trans (by show (ov_up (ov_up h3 90 13 0) 90 15 0) a = h3 a; rw [ov_up_ne (by omega), ov_up_ne (by omega)]) (fr14 a ca))
  have rk35 : ∀ k : Int, k ≠ 0 → k ≠ 2 → k ≠ 3 → k ≠ 7 → k ≠ 8 → k ≠ 13 → k ≠ 15 → k ≠ 20 → k ≠ 22 → h23 90 k = h 90 k := fun k n0 n1 n2 n3 n4 n5 n6 n7 n8 => Eq.trans (congrFun (y25 90 (by decide)) k) (Eq.trans (by show (ov_up (ov_up h3 90 13 0) 90 15 0) 90 k = h3 90 k; rw [ov_up_j n6, ov_up_j n5]) (rk15 k n0 n1 n2 n3 n4 n5 n6 n7 n8))
  have g36 : h23 90 2 = (h3 90 2) := congrFun (y25 90 (by decide)) 2
  have g37 : h23 90 3 = (h3 90 3) := congrFun (y25 90 (by decide)) 3
  have g38 : h23 90 7 = (h3 90 7) := congrFun (y25 90 (by decide)) 7
  have g39 : h23 90 8 = (h3 90 8) := congrFun (y25 90 (by decide)) 8
  have g40 : h23 90 13 = 0 := congrFun (y25 90 (by decide)) 13
  have g41 : h23 90 15 = 0 := congrFun (y25 90 (by decide)) 15
  have g42 : h23 90 22 = (h3 90 22) := congrFun (y25 90 (by decide)) 22
  have y26_ : ∀ j : Int, 0 ≤ j → j < 340 → (h23 96) (340 + j) = pt_A0 0 0 j := y26
  show ov_R u d ov_m205 26 [(0, ov_r 90)] [] z22 h23 (P_fMo_town_90 F z h t m)
  have zp2 : h3 93 (h23 90 7) = (pt_rn pt_bB t m 0) := by rw [show h23 90 7 = 0 by omega]; exact pz
  refine ov_blk (ls2 := [(0, ov_r 90)]) (st2 := [ov_i 0, ov_r 90]) (pc2 := 28) b_205_26_2 rfl rfl ?_
  have cf43 : h23 93 ((h23 90 7)) = h3 93 ((h23 90 7)) := congrFun E29 ((h23 90 7))
  refine ov_cV (as := [ov_i 0]) (st := []) (d2 := d - 1) d_205_28 lk_Mo_195 rfl (Nat.le_of_ble_eq_true rfl) (c := 1) (zb_90 I24) (zs_90 I24) ⟨by decide, rfl⟩ (by omega) (c_fMo_takeWord_90 t m N (pt_rn pt_bB t m 0) 1953462126 (d - 1) (by omega) U I24 0 (by omega) (by show 0 ≤ (h23 90 7) ∧ (h23 90 7) ≤ N; omega) (by show (h23 93 ((h23 90 7))) = (pt_rn pt_bB t m 0); omega) (by show 0 ≤ (h23 90 8); omega) (by show 0 ≤ (0 : Int) ∧ (0 : Int) ≤ 21; omega) (by rw [show h23 92 = h3 92 from E28, show h23 93 = h3 93 from E29, show h23 94 = h3 94 from E30]; exact mt) (by rw [show h23 95 = h 95 from E31]; exact wd) (by decide +kernel)) ?_
  rintro _ z44 h45 ⟨rfl, I46, y47, y48, y49⟩
  have E50 : h45 91 = h 91 := Eq.trans (y47 91 (by decide)) (show h23 91 = h 91 from E27)
  have E51 : h45 92 = h3 92 := Eq.trans (y47 92 (by decide)) (show h23 92 = h3 92 from E28)
  have E52 : h45 93 = h3 93 := Eq.trans (y47 93 (by decide)) (show h23 93 = h3 93 from E29)
  have E53 : h45 94 = h3 94 := Eq.trans (y47 94 (by decide)) (show h23 94 = h3 94 from E30)
  have E54 : h45 95 = h 95 := Eq.trans (y47 95 (by decide)) (show h23 95 = h 95 from E31)
  have E55 : h45 96 = h23 96 := Eq.trans (y47 96 (by decide)) (show h23 96 = h23 96 from rfl)
  have E56 : h45 99 = h 99 := Eq.trans (y47 99 (by decide)) (show h23 99 = h 99 from E32)
  have E57 : h45 104 = h 104 := Eq.trans (y47 104 (by decide)) (show h23 104 = h 104 from E33)
  have fr58 : ∀ a : Int, a ≠ 90 ∧ (a < 92 ∨ 94 < a) ∧ (a < 96 ∨ 100 < a) ∧ (a < 103 ∨ 104 < a) → h45 a = h a := fun a ca => Eq.trans (y47 a (by omega)) (fr34 a ca)
  have y48_ : ∀ k : Int, k ≠ 7 → k ≠ 8 → (h45 90) k = (h23 90) k := y48
  have rk59 : ∀ k : Int, k ≠ 0 → k ≠ 2 → k ≠ 3 → k ≠ 7 → k ≠ 8 → k ≠ 13 → k ≠ 15 → k ≠ 20 → k ≠ 22 → h45 90 k = h 90 k := fun k n0 n1 n2 n3 n4 n5 n6 n7 n8 => Eq.trans (y48_ k n3 n4) (rk35 k n0 n1 n2 n3 n4 n5 n6 n7 n8)
  have g60 : h45 90 2 = (h23 90 2) := y48_ 2 (by decide) (by decide)
  have g61 : h45 90 3 = (h23 90 3) := y48_ 3 (by decide) (by decide)
  have g62 : h45 90 13 = (h23 90 13) := y48_ 13 (by decide) (by decide)
  have g63 : h45 90 15 = (h23 90 15) := y48_ 15 (by decide) (by decide)
  have g64 : h45 90 22 = (h23 90 22) := y48_ 22 (by decide) (by decide)
  rcases y49 with f65 | f66 | f67
  · omega
  · skip
    show ov_R u d ov_m205 31 [(0, ov_r 90)] [] z44 h45 (P_fMo_town_90 F z h t m)
    have f68 : (h23 90 8) = 0 ∧ pt_iw t m (pt_rn pt_bB t m 0) (1953462126 : Int) = 0 ∧ (h45 90 8) = 1 + 16 * (pt_rn pt_bB t m 0) ∧ 1 ≤ (h45 90 8) ∧ (h45 90 7) = (h23 90 7) ∧ (h45 93 ((h45 90 7))) = (pt_rn pt_bB t m 0) := f66
    clear f66
    refine ov_blk (ls2 := [(0, ov_r 90)]) (st2 := [ov_r 90]) (pc2 := 32) b_205_31_1 rfl rfl ?_
    refine ov_getf (v := ov_r 96) d_205_32 fl_Mo_81 (zb_90 I46) (zs_90 I46) (congrArg ov_r (rg_90_10 I46)) ?_
    refine ov_blk (ls2 := [(0, ov_r 90)]) (st2 := [ov_i 6, ov_i 1, ov_r 90, ov_i 340, ov_r 96]) (pc2 := 42) b_205_35_4 rfl rfl ?_
    have cf69 : h45 93 ((h45 90 7)) = h3 93 ((h45 90 7)) := congrFun E52 ((h45 90 7))
    refine ov_cV (as := [ov_i 1, ov_i 6]) (st := [ov_i 340, ov_r 96]) (d2 := d - 1) d_205_42 lk_Mo_198 rfl (Nat.le_of_ble_eq_true rfl) (c := 1) (zb_90 I46) (zs_90 I46) ⟨by decide, rfl⟩ (by omega) (c_fMo_takeNumber_90 t m N (pt_rn pt_bB t m 0) (d - 1) (by omega) U I46 1 6 (by omega) (by omega) (by show 0 ≤ (h45 90 7) ∧ (h45 90 7) ≤ N; omega) (by show (h45 93 ((h45 90 7))) = (pt_rn pt_bB t m 0); omega) (by show 0 ≤ (h45 90 8); omega) (by rw [show h45 92 = h3 92 from E51, show h45 93 = h3 93 from E52, show h45 94 = h3 94 from E53]; exact mt)) ?_
    rintro _ z71 h72 ⟨v70, rfl, I73, y74, y75, y76⟩
    have E77 : h72 91 = h 91 := Eq.trans (y74 91 (by decide)) (show h45 91 = h 91 from E50)
    have E78 : h72 92 = h3 92 := Eq.trans (y74 92 (by decide)) (show h45 92 = h3 92 from E51)
    have E79 : h72 93 = h3 93 := Eq.trans (y74 93 (by decide)) (show h45 93 = h3 93 from E52)
    have E80 : h72 94 = h3 94 := Eq.trans (y74 94 (by decide)) (show h45 94 = h3 94 from E53)
    have E81 : h72 95 = h 95 := Eq.trans (y74 95 (by decide)) (show h45 95 = h 95 from E54)
    have E82 : h72 96 = h23 96 := Eq.trans (y74 96 (by decide)) (show h45 96 = h23 96 from E55)
    have E83 : h72 99 = h 99 := Eq.trans (y74 99 (by decide)) (show h45 99 = h 99 from E56)
    have E84 : h72 104 = h 104 := Eq.trans (y74 104 (by decide)) (show h45 104 = h 104 from E57)
    have fr85 : ∀ a : Int, a ≠ 90 ∧ (a < 92 ∨ 94 < a) ∧ (a < 96 ∨ 100 < a) ∧ (a < 103 ∨ 104 < a) → h72 a = h a := fun a ca => Eq.trans (y74 a (by omega)) (fr58 a ca)
    have y75_ : ∀ k : Int, k ≠ 7 → k ≠ 8 → (h72 90) k = (h45 90) k := y75
    have rk86 : ∀ k : Int, k ≠ 0 → k ≠ 2 → k ≠ 3 → k ≠ 7 → k ≠ 8 → k ≠ 13 → k ≠ 15 → k ≠ 20 → k ≠ 22 → h72 90 k = h 90 k := fun k n0 n1 n2 n3 n4 n5 n6 n7 n8 => Eq.trans (y75_ k n3 n4) (rk59 k n0 n1 n2 n3 n4 n5 n6 n7 n8)
    have g87 : h72 90 2 = (h45 90 2) := y75_ 2 (by decide) (by decide)
    have g88 : h72 90 3 = (h45 90 3) := y75_ 3 (by decide) (by decide)
    have g89 : h72 90 13 = (h45 90 13) := y75_ 13 (by decide) (by decide)
    have g90 : h72 90 15 = (h45 90 15) := y75_ 15 (by decide) (by decide)
    have g91 : h72 90 22 = (h45 90 22) := y75_ 22 (by decide) (by decide)
    rcases y76 with f92 | f93 | f94
    · skip
      show ov_R u d ov_m205 45 [(0, ov_r 90)] [ov_i v70, ov_i 340, ov_r 96] z71 h72 (P_fMo_town_90 F z h t m)
      have f95 : v70 = 0 ∧ (h45 90 8) ≠ 0 ∧ (h72 90 8) = (h45 90 8) ∧ (h72 90 7) = (h45 90 7) ∧ (h72 93 ((h72 90 7))) = (pt_rn pt_bB t m 0) := f92
      clear f92
      refine ov_iast d_205_45 (zb_96 I73) (zs_96 I73) (by omega) ?_
      have I96 := ua_96 (k := 340) (x := v70) I73 (by refine ⟨?_, ?_, ?_, ?_, ?_, ?_, ?_, ?_, ?_, ?_, ?_, ?_, ?_, ?_, ?_, ?_, ?_, ?_, ?_, ?_, ?_, ?_, ?_, ?_, ?_, ?_, ?_, ?_, ?_⟩ <;> omega)
      refine ov_blk (ls2 := [(0, ov_r 90)]) (st2 := [ov_r 90]) (pc2 := 47) b_205_46_1 rfl rfl ?_
      refine ov_getf (v := ov_r 96) d_205_47 fl_Mo_81 (zb_90 I96) (zs_90 I96) (congrArg ov_r (rg_90_10 I96)) ?_
      refine ov_blk (ls2 := [(0, ov_r 90)]) (st2 := [ov_i 9, ov_i 1, ov_r 90, ov_i 341, ov_r 96]) (pc2 := 57) b_205_50_4 rfl rfl ?_
      have cf97 : h72 93 ((h72 90 7)) = h3 93 ((h72 90 7)) := congrFun E79 ((h72 90 7))
      refine ov_cV (as := [ov_i 1, ov_i 9]) (st := [ov_i 341, ov_r 96]) (d2 := d - 1) d_205_57 lk_Mo_198 rfl (Nat.le_of_ble_eq_true rfl) (c := 1) (zb_90 I96) (zs_90 I96) ⟨by decide, rfl⟩ (by omega) (c_fMo_takeNumber_90 t m N (pt_rn pt_bB t m 0) (d - 1) (by omega) U I96 1 9 (by omega) (by omega) (by show 0 ≤ (h72 90 7) ∧ (h72 90 7) ≤ N; omega) (by show (h72 93 ((h72 90 7))) = (pt_rn pt_bB t m 0); omega) (by show 0 ≤ (h72 90 8); omega) (by rw [show (ov_up h72 96 340 v70) 92 = h3 92 from E78, show (ov_up h72 96 340 v70) 93 = h3 93 from E79, show (ov_up h72 96 340 v70) 94 = h3 94 from E80]; exact mt)) ?_
      rintro _ z99 h100 ⟨v98, rfl, I101, y102, y103, y104⟩
      have E105 : h100 91 = h 91 := Eq.trans (y102 91 (by decide)) (show (ov_up h72 96 340 v70) 91 = h 91 from E77)
      have E106 : h100 92 = h3 92 := Eq.trans (y102 92 (by decide)) (show (ov_up h72 96 340 v70) 92 = h3 92 from E78)
      have E107 : h100 93 = h3 93 := Eq.trans (y102 93 (by decide)) (show (ov_up h72 96 340 v70) 93 = h3 93 from E79)
      have E108 : h100 94 = h3 94 := Eq.trans (y102 94 (by decide)) (show (ov_up h72 96 340 v70) 94 = h3 94 from E80)
      have E109 : h100 95 = h 95 := Eq.trans (y102 95 (by decide)) (show (ov_up h72 96 340 v70) 95 = h 95 from E81)
      have R111 : h100 96 = (ov_rs (h23 96) 340 v70) := Eq.trans (y102 96 (by decide)) (Eq.trans (ov_up_row h72 96 340 v70) (congrArg (fun f => ov_rs f 340 v70) E82))
      have E112 : h100 99 = h 99 := Eq.trans (y102 99 (by decide)) (show (ov_up h72 96 340 v70) 99 = h 99 from E83)
      have E113 : h100 104 = h 104 := Eq.trans (y102 104 (by decide)) (show (ov_up h72 96 340 v70) 104 = h 104 from E84)
      have fr114 : ∀ a : Int, a ≠ 90 ∧ (a < 92 ∨ 94 < a) ∧ (a < 96 ∨ 100 < a) ∧ (a < 103 ∨ 104 < a) → h100 a = h a := fun a ca => Eq.trans (y102 a (by omega)) (Eq.trans (by show (ov_up h72 96 340 v70) a = h72 a; rw [ov_up_ne (by omega)]) (fr85 a ca))
      have y103_ : ∀ k : Int, k ≠ 7 → k ≠ 8 → (h100 90) k = (h72 90) k := y103
      have rk115 : ∀ k : Int, k ≠ 0 → k ≠ 2 → k ≠ 3 → k ≠ 7 → k ≠ 8 → k ≠ 13 → k ≠ 15 → k ≠ 20 → k ≠ 22 → h100 90 k = h 90 k := fun k n0 n1 n2 n3 n4 n5 n6 n7 n8 => Eq.trans (y103_ k n3 n4) (Eq.trans (by show (ov_up h72 96 340 v70) 90 k = h72 90 k; rw [ov_up_ne (by decide)]) (rk86 k n0 n1 n2 n3 n4 n5 n6 n7 n8))
      have g116 : h100 90 2 = (h72 90 2) := y103_ 2 (by decide) (by decide)
      have g117 : h100 90 3 = (h72 90 3) := y103_ 3 (by decide) (by decide)
      have g118 : h100 90 13 = (h72 90 13) := y103_ 13 (by decide) (by decide)
      have g119 : h100 90 15 = (h72 90 15) := y103_ 15 (by decide) (by decide)
      have g120 : h100 90 22 = (h72 90 22) := y103_ 22 (by decide) (by decide)
      rcases y104 with f121 | f122 | f123
      · skip
        show ov_R u d ov_m205 60 [(0, ov_r 90)] [ov_i v98, ov_i 341, ov_r 96] z99 h100 (P_fMo_town_90 F z h t m)
        have f124 : v98 = 0 ∧ (h72 90 8) ≠ 0 ∧ (h100 90 8) = (h72 90 8) ∧ (h100 90 7) = (h72 90 7) ∧ (h100 93 ((h100 90 7))) = (pt_rn pt_bB t m 0) := f121
        clear f121
        refine ov_iast d_205_60 (zb_96 I101) (zs_96 I101) (by omega) ?_
        have I125 := ua_96 (k := 341) (x := v98) I101 (by refine ⟨?_, ?_, ?_, ?_, ?_, ?_, ?_, ?_, ?_, ?_, ?_, ?_, ?_, ?_, ?_, ?_, ?_, ?_, ?_, ?_, ?_, ?_, ?_, ?_, ?_, ?_, ?_, ?_, ?_⟩ <;> omega)
        refine ov_blk (ls2 := [(0, ov_r 90)]) (st2 := [ov_i 59, ov_r 90]) (pc2 := 64) b_205_61_2 rfl rfl ?_
        have cf126 : h100 93 ((h100 90 7)) = h3 93 ((h100 90 7)) := congrFun E107 ((h100 90 7))
        refine ov_cV (as := [ov_i 59]) (st := []) (d2 := d - 1) d_205_64 lk_Mo_214 rfl (Nat.le_of_ble_eq_true rfl) (c := 1) (zb_90 I125) (zs_90 I125) ⟨by decide, rfl⟩ (by omega) (c_fMo_takeSign_90 t m N (pt_rn pt_bB t m 0) (d - 1) (by omega) U I125 59 (by omega) (by show 0 ≤ (h100 90 7) ∧ (h100 90 7) ≤ N; omega) (by show (h100 93 ((h100 90 7))) = (pt_rn pt_bB t m 0); omega) (by show 0 ≤ (h100 90 8); omega) (by show 0 ≤ (59 : Int) ∧ (59 : Int) ≤ 65535; omega) (by rw [show (ov_up h100 96 341 v98) 92 = h3 92 from E106, show (ov_up h100 96 341 v98) 93 = h3 93 from E107, show (ov_up h100 96 341 v98) 94 = h3 94 from E108]; exact mt)) ?_
        rintro _ z127 h128 ⟨rfl, I129, y130, y131, y132⟩
        have E133 : h128 91 = h 91 := Eq.trans (y130 91 (by decide)) (show (ov_up h100 96 341 v98) 91 = h 91 from E105)
        have E134 : h128 92 = h3 92 := Eq.trans (y130 92 (by decide)) (show (ov_up h100 96 341 v98) 92 = h3 92 from E106)
        have E135 : h128 93 = h3 93 := Eq.trans (y130 93 (by decide)) (show (ov_up h100 96 341 v98) 93 = h3 93 from E107)
        have E136 : h128 94 = h3 94 := Eq.trans (y130 94 (by decide)) (show (ov_up h100 96 341 v98) 94 = h3 94 from E108)
        have E137 : h128 95 = h 95 := Eq.trans (y130 95 (by decide)) (show (ov_up h100 96 341 v98) 95 = h 95 from E109)
        have R139 : h128 96 = (ov_rs (ov_rs (h23 96) 340 v70) 341 v98) := Eq.trans (y130 96 (by decide)) (Eq.trans (ov_up_row h100 96 341 v98) (congrArg (fun f => ov_rs f 341 v98) R111))
        have E140 : h128 99 = h 99 := Eq.trans (y130 99 (by decide)) (show (ov_up h100 96 341 v98) 99 = h 99 from E112)
        have E141 : h128 104 = h 104 := Eq.trans (y130 104 (by decide)) (show (ov_up h100 96 341 v98) 104 = h 104 from E113)
        have fr142 : ∀ a : Int, a ≠ 90 ∧ (a < 92 ∨ 94 < a) ∧ (a < 96 ∨ 100 < a) ∧ (a < 103 ∨ 104 < a) → h128 a = h a := fun a ca => Eq.trans (y130 a (by omega)) (Eq.trans (by show (ov_up h100 96 341 v98) a = h100 a; rw [ov_up_ne (by omega)]) (fr114 a ca))
        have y131_ : ∀ k : Int, k ≠ 7 → k ≠ 8 → (h128 90) k = (h100 90) k := y131
        have rk143 : ∀ k : Int, k ≠ 0 → k ≠ 2 → k ≠ 3 → k ≠ 7 → k ≠ 8 → k ≠ 13 → k ≠ 15 → k ≠ 20 → k ≠ 22 → h128 90 k = h 90 k := fun k n0 n1 n2 n3 n4 n5 n6 n7 n8 => Eq.trans (y131_ k n3 n4) (Eq.trans (by show (ov_up h100 96 341 v98) 90 k = h100 90 k; rw [ov_up_ne (by decide)]) (rk115 k n0 n1 n2 n3 n4 n5 n6 n7 n8))
        have g144 : h128 90 2 = (h100 90 2) := y131_ 2 (by decide) (by decide)
        have g145 : h128 90 3 = (h100 90 3) := y131_ 3 (by decide) (by decide)
        have g146 : h128 90 13 = (h100 90 13) := y131_ 13 (by decide) (by decide)
        have g147 : h128 90 15 = (h100 90 15) := y131_ 15 (by decide) (by decide)
        have g148 : h128 90 22 = (h100 90 22) := y131_ 22 (by decide) (by decide)
        rcases y132 with f149 | f150 | f151
        · skip
          show ov_R u d ov_m205 67 [(0, ov_r 90)] [] z127 h128 (P_fMo_town_90 F z h t m)
          have f152 : (h100 90 8) ≠ 0 ∧ (h128 90 8) = (h100 90 8) ∧ (h128 90 7) = (h100 90 7) ∧ (h128 93 ((h128 90 7))) = (pt_rn pt_bB t m 0) := f149
          clear f149
          refine ov_blk (ls2 := [(0, ov_r 90)]) (st2 := [ov_r 90]) (pc2 := 68) b_205_67_1 rfl rfl ?_
          refine ov_getf (v := ov_i (h128 90 8)) d_205_68 fl_Mo_180 (zb_90 I129) (zs_90 I129) rfl ?_
          have g153 := rg_90_8 I129
          refine ov_ifne (tgt := 99) d_205_71 (by decide) (by omega) (fun c154 => ?_) (fun c154 => ?_)
          · skip
            refine ov_blk (ls2 := [(0, ov_r 90)]) (st2 := [ov_r 90]) (pc2 := 100) b_205_99_1 rfl rfl ?_
            refine ov_getf (v := ov_i (h128 90 8)) d_205_100 fl_Mo_180 (zb_90 I129) (zs_90 I129) rfl ?_
            refine ov_ifle (tgt := 111) d_205_103 (by decide) (by omega) (fun c156 => ?_) (fun c156 => ?_)
            · omega
            · skip
              refine ov_blk (ls2 := [(0, ov_r 90)]) (st2 := [ov_r 90]) (pc2 := 107) b_205_106_1 rfl rfl ?_
              refine ov_getf (v := ov_i (h128 90 8)) d_205_107 fl_Mo_180 (zb_90 I129) (zs_90 I129) rfl ?_
              have hz : (pt_szF t m (pt_rn pt_bB t m 0)) = (h128 90 8) := by unfold pt_szF pt_fW pt_fS; (repeat' split) <;> omega
              exact ov_reti (st := []) d_205_110 rfl ⟨_, rfl, I129, (fun a ca => (fr142 a ca)), (fun k n0 n1 n2 n3 n4 n5 n6 n7 n8 => (rk143 k n0 n1 n2 n3 n4 n5 n6 n7 n8)), (Or.inl ⟨(fun _ => 0), (by show 1 ≤ (h128 90 8) ∧ (h128 90 8) ≤ 16005 ∧ (h128 90 22) = (h 90 22); omega), (Or.inl ⟨by omega, hz.symm⟩), E141⟩)⟩
          · omega
        · have q9 : (h100 90 8) = 0 ∧ pt_is t m (pt_rn pt_bB t m 0) (59 : Int) = 0 ∧ (h128 90 8) = 1 + 16 * (pt_rn pt_bB t m 0) ∧ 1 ≤ (h128 90 8) ∧ (h128 90 7) = (h100 90 7) ∧ (h128 93 ((h128 90 7))) = (pt_rn pt_bB t m 0) := f150
          omega
        · have q9 : (h100 90 8) = 0 ∧ pt_is t m (pt_rn pt_bB t m 0) (59 : Int) = 1 ∧ (h128 90 8) = 0 ∧ (h128 90 7) = (h100 90 7) + 1 ∧ (h128 90 7) ≤ N ∧ (h128 93 ((h128 90 7))) = pt_nt t m (pt_rn pt_bB t m 0) := f151
          omega
      · have q9 : v98 = 0 ∧ (h72 90 8) = 0 ∧ (h100 90 8) = pt_fN t m (1 : Int) (9 : Int) (pt_rn pt_bB t m 0) ∧ 1 ≤ (h100 90 8) ∧ (h100 90 7) = (h72 90 7) ∧ (h100 93 ((h100 90 7))) = (pt_rn pt_bB t m 0) := f122
        omega
      · have q9 : (h72 90 8) = 0 ∧ (h100 90 8) = 0 ∧ pt_fN t m (1 : Int) (9 : Int) (pt_rn pt_bB t m 0) = 0 ∧ pt_ty t m (pt_rn pt_bB t m 0) = 3 ∧ (1 : Int) ≤ v98 ∧ v98 ≤ (9 : Int) ∧ v98 = pt_nm t m (pt_rn pt_bB t m 0) ∧ 0 ≤ v98 ∧ v98 ≤ 9999 ∧ (h100 90 7) = (h72 90 7) + 1 ∧ (h100 90 7) ≤ N ∧ (h100 93 ((h100 90 7))) = pt_nt t m (pt_rn pt_bB t m 0) := f123
        omega
    · omega
    · omega
  · skip
    show ov_R u d ov_m205 31 [(0, ov_r 90)] [] z44 h45 (P_fMo_town_90 F z h t m)
    have f158 : (h23 90 8) = 0 ∧ pt_iw t m (pt_rn pt_bB t m 0) (1953462126 : Int) = 1 ∧ (h45 90 8) = 0 ∧ (h45 90 7) = (h23 90 7) + 1 ∧ (h45 90 7) ≤ N ∧ (h45 93 ((h45 90 7))) = pt_nt t m (pt_rn pt_bB t m 0) := f67
    clear f67
    refine ov_blk (ls2 := [(0, ov_r 90)]) (st2 := [ov_r 90]) (pc2 := 32) b_205_31_1 rfl rfl ?_
    refine ov_getf (v := ov_r 96) d_205_32 fl_Mo_81 (zb_90 I46) (zs_90 I46) (congrArg ov_r (rg_90_10 I46)) ?_
    refine ov_blk (ls2 := [(0, ov_r 90)]) (st2 := [ov_i 6, ov_i 1, ov_r 90, ov_i 340, ov_r 96]) (pc2 := 42) b_205_35_4 rfl rfl ?_
    have cf159 : h45 93 ((h45 90 7)) = h3 93 ((h45 90 7)) := congrFun E52 ((h45 90 7))
    refine ov_cV (as := [ov_i 1, ov_i 6]) (st := [ov_i 340, ov_r 96]) (d2 := d - 1) d_205_42 lk_Mo_198 rfl (Nat.le_of_ble_eq_true rfl) (c := 1) (zb_90 I46) (zs_90 I46) ⟨by decide, rfl⟩ (by omega) (c_fMo_takeNumber_90 t m N (pt_nt t m (pt_rn pt_bB t m 0)) (d - 1) (by omega) U I46 1 6 (by omega) (by omega) (by show 0 ≤ (h45 90 7) ∧ (h45 90 7) ≤ N; omega) (by show (h45 93 ((h45 90 7))) = (pt_nt t m (pt_rn pt_bB t m 0)); omega) (by show 0 ≤ (h45 90 8); omega) (by rw [show h45 92 = h3 92 from E51, show h45 93 = h3 93 from E52, show h45 94 = h3 94 from E53]; exact mt)) ?_
    rintro _ z161 h162 ⟨v160, rfl, I163, y164, y165, y166⟩
    have E167 : h162 91 = h 91 := Eq.trans (y164 91 (by decide)) (show h45 91 = h 91 from E50)
    have E168 : h162 92 = h3 92 := Eq.trans (y164 92 (by decide)) (show h45 92 = h3 92 from E51)
    have E169 : h162 93 = h3 93 := Eq.trans (y164 93 (by decide)) (show h45 93 = h3 93 from E52)
    have E170 : h162 94 = h3 94 := Eq.trans (y164 94 (by decide)) (show h45 94 = h3 94 from E53)
    have E171 : h162 95 = h 95 := Eq.trans (y164 95 (by decide)) (show h45 95 = h 95 from E54)
    have E172 : h162 96 = h23 96 := Eq.trans (y164 96 (by decide)) (show h45 96 = h23 96 from E55)
    have E173 : h162 99 = h 99 := Eq.trans (y164 99 (by decide)) (show h45 99 = h 99 from E56)
    have E174 : h162 104 = h 104 := Eq.trans (y164 104 (by decide)) (show h45 104 = h 104 from E57)
    have fr175 : ∀ a : Int, a ≠ 90 ∧ (a < 92 ∨ 94 < a) ∧ (a < 96 ∨ 100 < a) ∧ (a < 103 ∨ 104 < a) → h162 a = h a := fun a ca => Eq.trans (y164 a (by omega)) (fr58 a ca)
    have y165_ : ∀ k : Int, k ≠ 7 → k ≠ 8 → (h162 90) k = (h45 90) k := y165
    have rk176 : ∀ k : Int, k ≠ 0 → k ≠ 2 → k ≠ 3 → k ≠ 7 → k ≠ 8 → k ≠ 13 → k ≠ 15 → k ≠ 20 → k ≠ 22 → h162 90 k = h 90 k := fun k n0 n1 n2 n3 n4 n5 n6 n7 n8 => Eq.trans (y165_ k n3 n4) (rk59 k n0 n1 n2 n3 n4 n5 n6 n7 n8)
    have g177 : h162 90 2 = (h45 90 2) := y165_ 2 (by decide) (by decide)
    have g178 : h162 90 3 = (h45 90 3) := y165_ 3 (by decide) (by decide)
    have g179 : h162 90 13 = (h45 90 13) := y165_ 13 (by decide) (by decide)
    have g180 : h162 90 15 = (h45 90 15) := y165_ 15 (by decide) (by decide)
    have g181 : h162 90 22 = (h45 90 22) := y165_ 22 (by decide) (by decide)
    rcases y166 with f182 | f183 | f184
    · omega
    · skip
      show ov_R u d ov_m205 45 [(0, ov_r 90)] [ov_i v160, ov_i 340, ov_r 96] z161 h162 (P_fMo_town_90 F z h t m)
      have f185 : v160 = 0 ∧ (h45 90 8) = 0 ∧ (h162 90 8) = pt_fN t m (1 : Int) (6 : Int) (pt_nt t m (pt_rn pt_bB t m 0)) ∧ 1 ≤ (h162 90 8) ∧ (h162 90 7) = (h45 90 7) ∧ (h162 93 ((h162 90 7))) = (pt_nt t m (pt_rn pt_bB t m 0)) := f183
      clear f183
      refine ov_iast d_205_45 (zb_96 I163) (zs_96 I163) (by omega) ?_
      have I186 := ua_96 (k := 340) (x := v160) I163 (by refine ⟨?_, ?_, ?_, ?_, ?_, ?_, ?_, ?_, ?_, ?_, ?_, ?_, ?_, ?_, ?_, ?_, ?_, ?_, ?_, ?_, ?_, ?_, ?_, ?_, ?_, ?_, ?_, ?_, ?_⟩ <;> omega)
      refine ov_blk (ls2 := [(0, ov_r 90)]) (st2 := [ov_r 90]) (pc2 := 47) b_205_46_1 rfl rfl ?_
      refine ov_getf (v := ov_r 96) d_205_47 fl_Mo_81 (zb_90 I186) (zs_90 I186) (congrArg ov_r (rg_90_10 I186)) ?_
      refine ov_blk (ls2 := [(0, ov_r 90)]) (st2 := [ov_i 9, ov_i 1, ov_r 90, ov_i 341, ov_r 96]) (pc2 := 57) b_205_50_4 rfl rfl ?_
      have cf187 : h162 93 ((h162 90 7)) = h3 93 ((h162 90 7)) := congrFun E169 ((h162 90 7))
      refine ov_cV (as := [ov_i 1, ov_i 9]) (st := [ov_i 341, ov_r 96]) (d2 := d - 1) d_205_57 lk_Mo_198 rfl (Nat.le_of_ble_eq_true rfl) (c := 1) (zb_90 I186) (zs_90 I186) ⟨by decide, rfl⟩ (by omega) (c_fMo_takeNumber_90 t m N (pt_nt t m (pt_rn pt_bB t m 0)) (d - 1) (by omega) U I186 1 9 (by omega) (by omega) (by show 0 ≤ (h162 90 7) ∧ (h162 90 7) ≤ N; omega) (by show (h162 93 ((h162 90 7))) = (pt_nt t m (pt_rn pt_bB t m 0)); omega) (by show 0 ≤ (h162 90 8); omega) (by rw [show (ov_up h162 96 340 v160) 92 = h3 92 from E168, show (ov_up h162 96 340 v160) 93 = h3 93 from E169, show (ov_up h162 96 340 v160) 94 = h3 94 from E170]; exact mt)) ?_
      rintro _ z189 h190 ⟨v188, rfl, I191, y192, y193, y194⟩
      have E195 : h190 91 = h 91 := Eq.trans (y192 91 (by decide)) (show (ov_up h162 96 340 v160) 91 = h 91 from E167)
      have E196 : h190 92 = h3 92 := Eq.trans (y192 92 (by decide)) (show (ov_up h162 96 340 v160) 92 = h3 92 from E168)
      have E197 : h190 93 = h3 93 := Eq.trans (y192 93 (by decide)) (show (ov_up h162 96 340 v160) 93 = h3 93 from E169)
      have E198 : h190 94 = h3 94 := Eq.trans (y192 94 (by decide)) (show (ov_up h162 96 340 v160) 94 = h3 94 from E170)
      have E199 : h190 95 = h 95 := Eq.trans (y192 95 (by decide)) (show (ov_up h162 96 340 v160) 95 = h 95 from E171)
      have R201 : h190 96 = (ov_rs (h23 96) 340 v160) := Eq.trans (y192 96 (by decide)) (Eq.trans (ov_up_row h162 96 340 v160) (congrArg (fun f => ov_rs f 340 v160) E172))
      have E202 : h190 99 = h 99 := Eq.trans (y192 99 (by decide)) (show (ov_up h162 96 340 v160) 99 = h 99 from E173)
      have E203 : h190 104 = h 104 := Eq.trans (y192 104 (by decide)) (show (ov_up h162 96 340 v160) 104 = h 104 from E174)
      have fr204 : ∀ a : Int, a ≠ 90 ∧ (a < 92 ∨ 94 < a) ∧ (a < 96 ∨ 100 < a) ∧ (a < 103 ∨ 104 < a) → h190 a = h a := fun a ca => Eq.trans (y192 a (by omega)) (Eq.trans (by show (ov_up h162 96 340 v160) a = h162 a; rw [ov_up_ne (by omega)]) (fr175 a ca))
      have y193_ : ∀ k : Int, k ≠ 7 → k ≠ 8 → (h190 90) k = (h162 90) k := y193
      have rk205 : ∀ k : Int, k ≠ 0 → k ≠ 2 → k ≠ 3 → k ≠ 7 → k ≠ 8 → k ≠ 13 → k ≠ 15 → k ≠ 20 → k ≠ 22 → h190 90 k = h 90 k := fun k n0 n1 n2 n3 n4 n5 n6 n7 n8 => Eq.trans (y193_ k n3 n4) (Eq.trans (by show (ov_up h162 96 340 v160) 90 k = h162 90 k; rw [ov_up_ne (by decide)]) (rk176 k n0 n1 n2 n3 n4 n5 n6 n7 n8))
      have g206 : h190 90 2 = (h162 90 2) := y193_ 2 (by decide) (by decide)
      have g207 : h190 90 3 = (h162 90 3) := y193_ 3 (by decide) (by decide)
      have g208 : h190 90 13 = (h162 90 13) := y193_ 13 (by decide) (by decide)
      have g209 : h190 90 15 = (h162 90 15) := y193_ 15 (by decide) (by decide)
      have g210 : h190 90 22 = (h162 90 22) := y193_ 22 (by decide) (by decide)
      rcases y194 with f211 | f212 | f213
      · skip
        show ov_R u d ov_m205 60 [(0, ov_r 90)] [ov_i v188, ov_i 341, ov_r 96] z189 h190 (P_fMo_town_90 F z h t m)
        have f214 : v188 = 0 ∧ (h162 90 8) ≠ 0 ∧ (h190 90 8) = (h162 90 8) ∧ (h190 90 7) = (h162 90 7) ∧ (h190 93 ((h190 90 7))) = (pt_nt t m (pt_rn pt_bB t m 0)) := f211
        clear f211
        refine ov_iast d_205_60 (zb_96 I191) (zs_96 I191) (by omega) ?_
        have I215 := ua_96 (k := 341) (x := v188) I191 (by refine ⟨?_, ?_, ?_, ?_, ?_, ?_, ?_, ?_, ?_, ?_, ?_, ?_, ?_, ?_, ?_, ?_, ?_, ?_, ?_, ?_, ?_, ?_, ?_, ?_, ?_, ?_, ?_, ?_, ?_⟩ <;> omega)
        refine ov_blk (ls2 := [(0, ov_r 90)]) (st2 := [ov_i 59, ov_r 90]) (pc2 := 64) b_205_61_2 rfl rfl ?_
        have cf216 : h190 93 ((h190 90 7)) = h3 93 ((h190 90 7)) := congrFun E197 ((h190 90 7))
        refine ov_cV (as := [ov_i 59]) (st := []) (d2 := d - 1) d_205_64 lk_Mo_214 rfl (Nat.le_of_ble_eq_true rfl) (c := 1) (zb_90 I215) (zs_90 I215) ⟨by decide, rfl⟩ (by omega) (c_fMo_takeSign_90 t m N (pt_nt t m (pt_rn pt_bB t m 0)) (d - 1) (by omega) U I215 59 (by omega) (by show 0 ≤ (h190 90 7) ∧ (h190 90 7) ≤ N; omega) (by show (h190 93 ((h190 90 7))) = (pt_nt t m (pt_rn pt_bB t m 0)); omega) (by show 0 ≤ (h190 90 8); omega) (by show 0 ≤ (59 : Int) ∧ (59 : Int) ≤ 65535; omega) (by rw [show (ov_up h190 96 341 v188) 92 = h3 92 from E196, show (ov_up h190 96 341 v188) 93 = h3 93 from E197, show (ov_up h190 96 341 v188) 94 = h3 94 from E198]; exact mt)) ?_
        rintro _ z217 h218 ⟨rfl, I219, y220, y221, y222⟩
        have E223 : h218 91 = h 91 := Eq.trans (y220 91 (by decide)) (show (ov_up h190 96 341 v188) 91 = h 91 from E195)
        have E224 : h218 92 = h3 92 := Eq.trans (y220 92 (by decide)) (show (ov_up h190 96 341 v188) 92 = h3 92 from E196)
        have E225 : h218 93 = h3 93 := Eq.trans (y220 93 (by decide)) (show (ov_up h190 96 341 v188) 93 = h3 93 from E197)
        have E226 : h218 94 = h3 94 := Eq.trans (y220 94 (by decide)) (show (ov_up h190 96 341 v188) 94 = h3 94 from E198)
        have E227 : h218 95 = h 95 := Eq.trans (y220 95 (by decide)) (show (ov_up h190 96 341 v188) 95 = h 95 from E199)
        have R229 : h218 96 = (ov_rs (ov_rs (h23 96) 340 v160) 341 v188) := Eq.trans (y220 96 (by decide)) (Eq.trans (ov_up_row h190 96 341 v188) (congrArg (fun f => ov_rs f 341 v188) R201))
        have E230 : h218 99 = h 99 := Eq.trans (y220 99 (by decide)) (show (ov_up h190 96 341 v188) 99 = h 99 from E202)
        have E231 : h218 104 = h 104 := Eq.trans (y220 104 (by decide)) (show (ov_up h190 96 341 v188) 104 = h 104 from E203)
        have fr232 : ∀ a : Int, a ≠ 90 ∧ (a < 92 ∨ 94 < a) ∧ (a < 96 ∨ 100 < a) ∧ (a < 103 ∨ 104 < a) → h218 a = h a := fun a ca => Eq.trans (y220 a (by omega)) (Eq.trans (by show (ov_up h190 96 341 v188) a = h190 a; rw [ov_up_ne (by omega)]) (fr204 a ca))
        have y221_ : ∀ k : Int, k ≠ 7 → k ≠ 8 → (h218 90) k = (h190 90) k := y221
        have rk233 : ∀ k : Int, k ≠ 0 → k ≠ 2 → k ≠ 3 → k ≠ 7 → k ≠ 8 → k ≠ 13 → k ≠ 15 → k ≠ 20 → k ≠ 22 → h218 90 k = h 90 k := fun k n0 n1 n2 n3 n4 n5 n6 n7 n8 => Eq.trans (y221_ k n3 n4) (Eq.trans (by show (ov_up h190 96 341 v188) 90 k = h190 90 k; rw [ov_up_ne (by decide)]) (rk205 k n0 n1 n2 n3 n4 n5 n6 n7 n8))
        have g234 : h218 90 2 = (h190 90 2) := y221_ 2 (by decide) (by decide)
        have g235 : h218 90 3 = (h190 90 3) := y221_ 3 (by decide) (by decide)
        have g236 : h218 90 13 = (h190 90 13) := y221_ 13 (by decide) (by decide)
        have g237 : h218 90 15 = (h190 90 15) := y221_ 15 (by decide) (by decide)
        have g238 : h218 90 22 = (h190 90 22) := y221_ 22 (by decide) (by decide)
        rcases y222 with f239 | f240 | f241
        · skip
          show ov_R u d ov_m205 67 [(0, ov_r 90)] [] z217 h218 (P_fMo_town_90 F z h t m)
          have f242 : (h190 90 8) ≠ 0 ∧ (h218 90 8) = (h190 90 8) ∧ (h218 90 7) = (h190 90 7) ∧ (h218 93 ((h218 90 7))) = (pt_nt t m (pt_rn pt_bB t m 0)) := f239
          clear f239
          refine ov_blk (ls2 := [(0, ov_r 90)]) (st2 := [ov_r 90]) (pc2 := 68) b_205_67_1 rfl rfl ?_
          refine ov_getf (v := ov_i (h218 90 8)) d_205_68 fl_Mo_180 (zb_90 I219) (zs_90 I219) rfl ?_
          have g243 := rg_90_8 I219
          refine ov_ifne (tgt := 99) d_205_71 (by decide) (by omega) (fun c244 => ?_) (fun c244 => ?_)
          · skip
            refine ov_blk (ls2 := [(0, ov_r 90)]) (st2 := [ov_r 90]) (pc2 := 100) b_205_99_1 rfl rfl ?_
            refine ov_getf (v := ov_i (h218 90 8)) d_205_100 fl_Mo_180 (zb_90 I219) (zs_90 I219) rfl ?_
            refine ov_ifle (tgt := 111) d_205_103 (by decide) (by omega) (fun c246 => ?_) (fun c246 => ?_)
            · omega
            · skip
              refine ov_blk (ls2 := [(0, ov_r 90)]) (st2 := [ov_r 90]) (pc2 := 107) b_205_106_1 rfl rfl ?_
              refine ov_getf (v := ov_i (h218 90 8)) d_205_107 fl_Mo_180 (zb_90 I219) (zs_90 I219) rfl ?_
              have hz : (pt_szF t m (pt_rn pt_bB t m 0)) = (h218 90 8) := by unfold pt_szF pt_fW pt_fS; (repeat' split) <;> omega
              exact ov_reti (st := []) d_205_110 rfl ⟨_, rfl, I219, (fun a ca => (fr232 a ca)), (fun k n0 n1 n2 n3 n4 n5 n6 n7 n8 => (rk233 k n0 n1 n2 n3 n4 n5 n6 n7 n8)), (Or.inl ⟨(fun _ => 0), (by show 1 ≤ (h218 90 8) ∧ (h218 90 8) ≤ 16005 ∧ (h218 90 22) = (h 90 22); omega), (Or.inl ⟨by omega, hz.symm⟩), E231⟩)⟩
          · omega
        · have q9 : (h190 90 8) = 0 ∧ pt_is t m (pt_nt t m (pt_rn pt_bB t m 0)) (59 : Int) = 0 ∧ (h218 90 8) = 1 + 16 * (pt_nt t m (pt_rn pt_bB t m 0)) ∧ 1 ≤ (h218 90 8) ∧ (h218 90 7) = (h190 90 7) ∧ (h218 93 ((h218 90 7))) = (pt_nt t m (pt_rn pt_bB t m 0)) := f240
          omega
        · have q9 : (h190 90 8) = 0 ∧ pt_is t m (pt_nt t m (pt_rn pt_bB t m 0)) (59 : Int) = 1 ∧ (h218 90 8) = 0 ∧ (h218 90 7) = (h190 90 7) + 1 ∧ (h218 90 7) ≤ N ∧ (h218 93 ((h218 90 7))) = pt_nt t m (pt_nt t m (pt_rn pt_bB t m 0)) := f241
          omega
      · have q9 : v188 = 0 ∧ (h162 90 8) = 0 ∧ (h190 90 8) = pt_fN t m (1 : Int) (9 : Int) (pt_nt t m (pt_rn pt_bB t m 0)) ∧ 1 ≤ (h190 90 8) ∧ (h190 90 7) = (h162 90 7) ∧ (h190 93 ((h190 90 7))) = (pt_nt t m (pt_rn pt_bB t m 0)) := f212
        omega
      · have q9 : (h162 90 8) = 0 ∧ (h190 90 8) = 0 ∧ pt_fN t m (1 : Int) (9 : Int) (pt_nt t m (pt_rn pt_bB t m 0)) = 0 ∧ pt_ty t m (pt_nt t m (pt_rn pt_bB t m 0)) = 3 ∧ (1 : Int) ≤ v188 ∧ v188 ≤ (9 : Int) ∧ v188 = pt_nm t m (pt_nt t m (pt_rn pt_bB t m 0)) ∧ 0 ≤ v188 ∧ v188 ≤ 9999 ∧ (h190 90 7) = (h162 90 7) + 1 ∧ (h190 90 7) ≤ N ∧ (h190 93 ((h190 90 7))) = pt_nt t m (pt_nt t m (pt_rn pt_bB t m 0)) := f213
        omega
    · skip
      show ov_R u d ov_m205 45 [(0, ov_r 90)] [ov_i v160, ov_i 340, ov_r 96] z161 h162 (P_fMo_town_90 F z h t m)
      have f248 : (h45 90 8) = 0 ∧ (h162 90 8) = 0 ∧ pt_fN t m (1 : Int) (6 : Int) (pt_nt t m (pt_rn pt_bB t m 0)) = 0 ∧ pt_ty t m (pt_nt t m (pt_rn pt_bB t m 0)) = 3 ∧ (1 : Int) ≤ v160 ∧ v160 ≤ (6 : Int) ∧ v160 = pt_nm t m (pt_nt t m (pt_rn pt_bB t m 0)) ∧ 0 ≤ v160 ∧ v160 ≤ 9999 ∧ (h162 90 7) = (h45 90 7) + 1 ∧ (h162 90 7) ≤ N ∧ (h162 93 ((h162 90 7))) = pt_nt t m (pt_nt t m (pt_rn pt_bB t m 0)) := f184
      clear f184
      refine ov_iast d_205_45 (zb_96 I163) (zs_96 I163) (by omega) ?_
      have I249 := ua_96 (k := 340) (x := v160) I163 (by refine ⟨?_, ?_, ?_, ?_, ?_, ?_, ?_, ?_, ?_, ?_, ?_, ?_, ?_, ?_, ?_, ?_, ?_, ?_, ?_, ?_, ?_, ?_, ?_, ?_, ?_, ?_, ?_, ?_, ?_⟩ <;> omega)
      refine ov_blk (ls2 := [(0, ov_r 90)]) (st2 := [ov_r 90]) (pc2 := 47) b_205_46_1 rfl rfl ?_
      refine ov_getf (v := ov_r 96) d_205_47 fl_Mo_81 (zb_90 I249) (zs_90 I249) (congrArg ov_r (rg_90_10 I249)) ?_
      refine ov_blk (ls2 := [(0, ov_r 90)]) (st2 := [ov_i 9, ov_i 1, ov_r 90, ov_i 341, ov_r 96]) (pc2 := 57) b_205_50_4 rfl rfl ?_
      have cf250 : h162 93 ((h162 90 7)) = h3 93 ((h162 90 7)) := congrFun E169 ((h162 90 7))
      refine ov_cV (as := [ov_i 1, ov_i 9]) (st := [ov_i 341, ov_r 96]) (d2 := d - 1) d_205_57 lk_Mo_198 rfl (Nat.le_of_ble_eq_true rfl) (c := 1) (zb_90 I249) (zs_90 I249) ⟨by decide, rfl⟩ (by omega) (c_fMo_takeNumber_90 t m N (pt_nt t m (pt_nt t m (pt_rn pt_bB t m 0))) (d - 1) (by omega) U I249 1 9 (by omega) (by omega) (by show 0 ≤ (h162 90 7) ∧ (h162 90 7) ≤ N; omega) (by show (h162 93 ((h162 90 7))) = (pt_nt t m (pt_nt t m (pt_rn pt_bB t m 0))); omega) (by show 0 ≤ (h162 90 8); omega) (by rw [show (ov_up h162 96 340 v160) 92 = h3 92 from E168, show (ov_up h162 96 340 v160) 93 = h3 93 from E169, show (ov_up h162 96 340 v160) 94 = h3 94 from E170]; exact mt)) ?_
      rintro _ z252 h253 ⟨v251, rfl, I254, y255, y256, y257⟩
      have E258 : h253 91 = h 91 := Eq.trans (y255 91 (by decide)) (show (ov_up h162 96 340 v160) 91 = h 91 from E167)
      have E259 : h253 92 = h3 92 := Eq.trans (y255 92 (by decide)) (show (ov_up h162 96 340 v160) 92 = h3 92 from E168)
      have E260 : h253 93 = h3 93 := Eq.trans (y255 93 (by decide)) (show (ov_up h162 96 340 v160) 93 = h3 93 from E169)
      have E261 : h253 94 = h3 94 := Eq.trans (y255 94 (by decide)) (show (ov_up h162 96 340 v160) 94 = h3 94 from E170)
      have E262 : h253 95 = h 95 := Eq.trans (y255 95 (by decide)) (show (ov_up h162 96 340 v160) 95 = h 95 from E171)
      have R264 : h253 96 = (ov_rs (h23 96) 340 v160) := Eq.trans (y255 96 (by decide)) (Eq.trans (ov_up_row h162 96 340 v160) (congrArg (fun f => ov_rs f 340 v160) E172))
      have E265 : h253 99 = h 99 := Eq.trans (y255 99 (by decide)) (show (ov_up h162 96 340 v160) 99 = h 99 from E173)
      have E266 : h253 104 = h 104 := Eq.trans (y255 104 (by decide)) (show (ov_up h162 96 340 v160) 104 = h 104 from E174)
      have fr267 : ∀ a : Int, a ≠ 90 ∧ (a < 92 ∨ 94 < a) ∧ (a < 96 ∨ 100 < a) ∧ (a < 103 ∨ 104 < a) → h253 a = h a := fun a ca => Eq.trans (y255 a (by omega)) (Eq.trans (by show (ov_up h162 96 340 v160) a = h162 a; rw [ov_up_ne (by omega)]) (fr175 a ca))
      have y256_ : ∀ k : Int, k ≠ 7 → k ≠ 8 → (h253 90) k = (h162 90) k := y256
      have rk268 : ∀ k : Int, k ≠ 0 → k ≠ 2 → k ≠ 3 → k ≠ 7 → k ≠ 8 → k ≠ 13 → k ≠ 15 → k ≠ 20 → k ≠ 22 → h253 90 k = h 90 k := fun k n0 n1 n2 n3 n4 n5 n6 n7 n8 => Eq.trans (y256_ k n3 n4) (Eq.trans (by show (ov_up h162 96 340 v160) 90 k = h162 90 k; rw [ov_up_ne (by decide)]) (rk176 k n0 n1 n2 n3 n4 n5 n6 n7 n8))
      have g269 : h253 90 2 = (h162 90 2) := y256_ 2 (by decide) (by decide)
      have g270 : h253 90 3 = (h162 90 3) := y256_ 3 (by decide) (by decide)
      have g271 : h253 90 13 = (h162 90 13) := y256_ 13 (by decide) (by decide)
      have g272 : h253 90 15 = (h162 90 15) := y256_ 15 (by decide) (by decide)
      have g273 : h253 90 22 = (h162 90 22) := y256_ 22 (by decide) (by decide)
      rcases y257 with f274 | f275 | f276
      · have q9 : v251 = 0 ∧ (h162 90 8) ≠ 0 ∧ (h253 90 8) = (h162 90 8) ∧ (h253 90 7) = (h162 90 7) ∧ (h253 93 ((h253 90 7))) = (pt_nt t m (pt_nt t m (pt_rn pt_bB t m 0))) := f274
        omega
      · skip
        show ov_R u d ov_m205 60 [(0, ov_r 90)] [ov_i v251, ov_i 341, ov_r 96] z252 h253 (P_fMo_town_90 F z h t m)
        have f277 : v251 = 0 ∧ (h162 90 8) = 0 ∧ (h253 90 8) = pt_fN t m (1 : Int) (9 : Int) (pt_nt t m (pt_nt t m (pt_rn pt_bB t m 0))) ∧ 1 ≤ (h253 90 8) ∧ (h253 90 7) = (h162 90 7) ∧ (h253 93 ((h253 90 7))) = (pt_nt t m (pt_nt t m (pt_rn pt_bB t m 0))) := f275
        clear f275
        refine ov_iast d_205_60 (zb_96 I254) (zs_96 I254) (by omega) ?_
        have I278 := ua_96 (k := 341) (x := v251) I254 (by refine ⟨?_, ?_, ?_, ?_, ?_, ?_, ?_, ?_, ?_, ?_, ?_, ?_, ?_, ?_, ?_, ?_, ?_, ?_, ?_, ?_, ?_, ?_, ?_, ?_, ?_, ?_, ?_, ?_, ?_⟩ <;> omega)
        refine ov_blk (ls2 := [(0, ov_r 90)]) (st2 := [ov_i 59, ov_r 90]) (pc2 := 64) b_205_61_2 rfl rfl ?_
        have cf279 : h253 93 ((h253 90 7)) = h3 93 ((h253 90 7)) := congrFun E260 ((h253 90 7))
        refine ov_cV (as := [ov_i 59]) (st := []) (d2 := d - 1) d_205_64 lk_Mo_214 rfl (Nat.le_of_ble_eq_true rfl) (c := 1) (zb_90 I278) (zs_90 I278) ⟨by decide, rfl⟩ (by omega) (c_fMo_takeSign_90 t m N (pt_nt t m (pt_nt t m (pt_rn pt_bB t m 0))) (d - 1) (by omega) U I278 59 (by omega) (by show 0 ≤ (h253 90 7) ∧ (h253 90 7) ≤ N; omega) (by show (h253 93 ((h253 90 7))) = (pt_nt t m (pt_nt t m (pt_rn pt_bB t m 0))); omega) (by show 0 ≤ (h253 90 8); omega) (by show 0 ≤ (59 : Int) ∧ (59 : Int) ≤ 65535; omega) (by rw [show (ov_up h253 96 341 v251) 92 = h3 92 from E259, show (ov_up h253 96 341 v251) 93 = h3 93 from E260, show (ov_up h253 96 341 v251) 94 = h3 94 from E261]; exact mt)) ?_
        rintro _ z280 h281 ⟨rfl, I282, y283, y284, y285⟩
        have E286 : h281 91 = h 91 := Eq.trans (y283 91 (by decide)) (show (ov_up h253 96 341 v251) 91 = h 91 from E258)
        have E287 : h281 92 = h3 92 := Eq.trans (y283 92 (by decide)) (show (ov_up h253 96 341 v251) 92 = h3 92 from E259)
        have E288 : h281 93 = h3 93 := Eq.trans (y283 93 (by decide)) (show (ov_up h253 96 341 v251) 93 = h3 93 from E260)
        have E289 : h281 94 = h3 94 := Eq.trans (y283 94 (by decide)) (show (ov_up h253 96 341 v251) 94 = h3 94 from E261)
        have E290 : h281 95 = h 95 := Eq.trans (y283 95 (by decide)) (show (ov_up h253 96 341 v251) 95 = h 95 from E262)
        have R292 : h281 96 = (ov_rs (ov_rs (h23 96) 340 v160) 341 v251) := Eq.trans (y283 96 (by decide)) (Eq.trans (ov_up_row h253 96 341 v251) (congrArg (fun f => ov_rs f 341 v251) R264))
        have E293 : h281 99 = h 99 := Eq.trans (y283 99 (by decide)) (show (ov_up h253 96 341 v251) 99 = h 99 from E265)
        have E294 : h281 104 = h 104 := Eq.trans (y283 104 (by decide)) (show (ov_up h253 96 341 v251) 104 = h 104 from E266)
        have fr295 : ∀ a : Int, a ≠ 90 ∧ (a < 92 ∨ 94 < a) ∧ (a < 96 ∨ 100 < a) ∧ (a < 103 ∨ 104 < a) → h281 a = h a := fun a ca => Eq.trans (y283 a (by omega)) (Eq.trans (by show (ov_up h253 96 341 v251) a = h253 a; rw [ov_up_ne (by omega)]) (fr267 a ca))
        have y284_ : ∀ k : Int, k ≠ 7 → k ≠ 8 → (h281 90) k = (h253 90) k := y284
        have rk296 : ∀ k : Int, k ≠ 0 → k ≠ 2 → k ≠ 3 → k ≠ 7 → k ≠ 8 → k ≠ 13 → k ≠ 15 → k ≠ 20 → k ≠ 22 → h281 90 k = h 90 k := fun k n0 n1 n2 n3 n4 n5 n6 n7 n8 => Eq.trans (y284_ k n3 n4) (Eq.trans (by show (ov_up h253 96 341 v251) 90 k = h253 90 k; rw [ov_up_ne (by decide)]) (rk268 k n0 n1 n2 n3 n4 n5 n6 n7 n8))
        have g297 : h281 90 2 = (h253 90 2) := y284_ 2 (by decide) (by decide)
        have g298 : h281 90 3 = (h253 90 3) := y284_ 3 (by decide) (by decide)
        have g299 : h281 90 13 = (h253 90 13) := y284_ 13 (by decide) (by decide)
        have g300 : h281 90 15 = (h253 90 15) := y284_ 15 (by decide) (by decide)
        have g301 : h281 90 22 = (h253 90 22) := y284_ 22 (by decide) (by decide)
        rcases y285 with f302 | f303 | f304
        · skip
          show ov_R u d ov_m205 67 [(0, ov_r 90)] [] z280 h281 (P_fMo_town_90 F z h t m)
          have f305 : (h253 90 8) ≠ 0 ∧ (h281 90 8) = (h253 90 8) ∧ (h281 90 7) = (h253 90 7) ∧ (h281 93 ((h281 90 7))) = (pt_nt t m (pt_nt t m (pt_rn pt_bB t m 0))) := f302
          clear f302
          refine ov_blk (ls2 := [(0, ov_r 90)]) (st2 := [ov_r 90]) (pc2 := 68) b_205_67_1 rfl rfl ?_
          refine ov_getf (v := ov_i (h281 90 8)) d_205_68 fl_Mo_180 (zb_90 I282) (zs_90 I282) rfl ?_
          have g306 := rg_90_8 I282
          refine ov_ifne (tgt := 99) d_205_71 (by decide) (by omega) (fun c307 => ?_) (fun c307 => ?_)
          · skip
            refine ov_blk (ls2 := [(0, ov_r 90)]) (st2 := [ov_r 90]) (pc2 := 100) b_205_99_1 rfl rfl ?_
            refine ov_getf (v := ov_i (h281 90 8)) d_205_100 fl_Mo_180 (zb_90 I282) (zs_90 I282) rfl ?_
            refine ov_ifle (tgt := 111) d_205_103 (by decide) (by omega) (fun c309 => ?_) (fun c309 => ?_)
            · omega
            · skip
              refine ov_blk (ls2 := [(0, ov_r 90)]) (st2 := [ov_r 90]) (pc2 := 107) b_205_106_1 rfl rfl ?_
              refine ov_getf (v := ov_i (h281 90 8)) d_205_107 fl_Mo_180 (zb_90 I282) (zs_90 I282) rfl ?_
              have hz : (pt_szF t m (pt_rn pt_bB t m 0)) = (h281 90 8) := by unfold pt_szF pt_fW pt_fS; (repeat' split) <;> omega
              exact ov_reti (st := []) d_205_110 rfl ⟨_, rfl, I282, (fun a ca => (fr295 a ca)), (fun k n0 n1 n2 n3 n4 n5 n6 n7 n8 => (rk296 k n0 n1 n2 n3 n4 n5 n6 n7 n8)), (Or.inl ⟨(fun _ => 0), (by show 1 ≤ (h281 90 8) ∧ (h281 90 8) ≤ 16005 ∧ (h281 90 22) = (h 90 22); omega), (Or.inl ⟨by omega, hz.symm⟩), E294⟩)⟩
          · omega
        · have q9 : (h253 90 8) = 0 ∧ pt_is t m (pt_nt t m (pt_nt t m (pt_rn pt_bB t m 0))) (59 : Int) = 0 ∧ (h281 90 8) = 1 + 16 * (pt_nt t m (pt_nt t m (pt_rn pt_bB t m 0))) ∧ 1 ≤ (h281 90 8) ∧ (h281 90 7) = (h253 90 7) ∧ (h281 93 ((h281 90 7))) = (pt_nt t m (pt_nt t m (pt_rn pt_bB t m 0))) := f303
          omega
        · have q9 : (h253 90 8) = 0 ∧ pt_is t m (pt_nt t m (pt_nt t m (pt_rn pt_bB t m 0))) (59 : Int) = 1 ∧ (h281 90 8) = 0 ∧ (h281 90 7) = (h253 90 7) + 1 ∧ (h281 90 7) ≤ N ∧ (h281 93 ((h281 90 7))) = pt_nt t m (pt_nt t m (pt_nt t m (pt_rn pt_bB t m 0))) := f304
          omega
      · skip
        show ov_R u d ov_m205 60 [(0, ov_r 90)] [ov_i v251, ov_i 341, ov_r 96] z252 h253 (P_fMo_town_90 F z h t m)
        have f311 : (h162 90 8) = 0 ∧ (h253 90 8) = 0 ∧ pt_fN t m (1 : Int) (9 : Int) (pt_nt t m (pt_nt t m (pt_rn pt_bB t m 0))) = 0 ∧ pt_ty t m (pt_nt t m (pt_nt t m (pt_rn pt_bB t m 0))) = 3 ∧ (1 : Int) ≤ v251 ∧ v251 ≤ (9 : Int) ∧ v251 = pt_nm t m (pt_nt t m (pt_nt t m (pt_rn pt_bB t m 0))) ∧ 0 ≤ v251 ∧ v251 ≤ 9999 ∧ (h253 90 7) = (h162 90 7) + 1 ∧ (h253 90 7) ≤ N ∧ (h253 93 ((h253 90 7))) = pt_nt t m (pt_nt t m (pt_nt t m (pt_rn pt_bB t m 0))) := f276
        clear f276
        refine ov_iast d_205_60 (zb_96 I254) (zs_96 I254) (by omega) ?_
        have I312 := ua_96 (k := 341) (x := v251) I254 (by refine ⟨?_, ?_, ?_, ?_, ?_, ?_, ?_, ?_, ?_, ?_, ?_, ?_, ?_, ?_, ?_, ?_, ?_, ?_, ?_, ?_, ?_, ?_, ?_, ?_, ?_, ?_, ?_, ?_, ?_⟩ <;> omega)
        refine ov_blk (ls2 := [(0, ov_r 90)]) (st2 := [ov_i 59, ov_r 90]) (pc2 := 64) b_205_61_2 rfl rfl ?_
        have cf313 : h253 93 ((h253 90 7)) = h3 93 ((h253 90 7)) := congrFun E260 ((h253 90 7))
        refine ov_cV (as := [ov_i 59]) (st := []) (d2 := d - 1) d_205_64 lk_Mo_214 rfl (Nat.le_of_ble_eq_true rfl) (c := 1) (zb_90 I312) (zs_90 I312) ⟨by decide, rfl⟩ (by omega) (c_fMo_takeSign_90 t m N (pt_nt t m (pt_nt t m (pt_nt t m (pt_rn pt_bB t m 0)))) (d - 1) (by omega) U I312 59 (by omega) (by show 0 ≤ (h253 90 7) ∧ (h253 90 7) ≤ N; omega) (by show (h253 93 ((h253 90 7))) = (pt_nt t m (pt_nt t m (pt_nt t m (pt_rn pt_bB t m 0)))); omega) (by show 0 ≤ (h253 90 8); omega) (by show 0 ≤ (59 : Int) ∧ (59 : Int) ≤ 65535; omega) (by rw [show (ov_up h253 96 341 v251) 92 = h3 92 from E259, show (ov_up h253 96 341 v251) 93 = h3 93 from E260, show (ov_up h253 96 341 v251) 94 = h3 94 from E261]; exact mt)) ?_
        rintro _ z314 h315 ⟨rfl, I316, y317, y318, y319⟩
        have E320 : h315 91 = h 91 := Eq.trans (y317 91 (by decide)) (show (ov_up h253 96 341 v251) 91 = h 91 from E258)
        have E321 : h315 92 = h3 92 := Eq.trans (y317 92 (by decide)) (show (ov_up h253 96 341 v251) 92 = h3 92 from E259)
        have E322 : h315 93 = h3 93 := Eq.trans (y317 93 (by decide)) (show (ov_up h253 96 341 v251) 93 = h3 93 from E260)
        have E323 : h315 94 = h3 94 := Eq.trans (y317 94 (by decide)) (show (ov_up h253 96 341 v251) 94 = h3 94 from E261)
        have E324 : h315 95 = h 95 := Eq.trans (y317 95 (by decide)) (show (ov_up h253 96 341 v251) 95 = h 95 from E262)
        have R326 : h315 96 = (ov_rs (ov_rs (h23 96) 340 v160) 341 v251) := Eq.trans (y317 96 (by decide)) (Eq.trans (ov_up_row h253 96 341 v251) (congrArg (fun f => ov_rs f 341 v251) R264))
        have E327 : h315 99 = h 99 := Eq.trans (y317 99 (by decide)) (show (ov_up h253 96 341 v251) 99 = h 99 from E265)
        have E328 : h315 104 = h 104 := Eq.trans (y317 104 (by decide)) (show (ov_up h253 96 341 v251) 104 = h 104 from E266)
        have fr329 : ∀ a : Int, a ≠ 90 ∧ (a < 92 ∨ 94 < a) ∧ (a < 96 ∨ 100 < a) ∧ (a < 103 ∨ 104 < a) → h315 a = h a := fun a ca => Eq.trans (y317 a (by omega)) (Eq.trans (by show (ov_up h253 96 341 v251) a = h253 a; rw [ov_up_ne (by omega)]) (fr267 a ca))
        have y318_ : ∀ k : Int, k ≠ 7 → k ≠ 8 → (h315 90) k = (h253 90) k := y318
        have rk330 : ∀ k : Int, k ≠ 0 → k ≠ 2 → k ≠ 3 → k ≠ 7 → k ≠ 8 → k ≠ 13 → k ≠ 15 → k ≠ 20 → k ≠ 22 → h315 90 k = h 90 k := fun k n0 n1 n2 n3 n4 n5 n6 n7 n8 => Eq.trans (y318_ k n3 n4) (Eq.trans (by show (ov_up h253 96 341 v251) 90 k = h253 90 k; rw [ov_up_ne (by decide)]) (rk268 k n0 n1 n2 n3 n4 n5 n6 n7 n8))
        have g331 : h315 90 2 = (h253 90 2) := y318_ 2 (by decide) (by decide)
        have g332 : h315 90 3 = (h253 90 3) := y318_ 3 (by decide) (by decide)
        have g333 : h315 90 13 = (h253 90 13) := y318_ 13 (by decide) (by decide)
        have g334 : h315 90 15 = (h253 90 15) := y318_ 15 (by decide) (by decide)
        have g335 : h315 90 22 = (h253 90 22) := y318_ 22 (by decide) (by decide)
        rcases y319 with f336 | f337 | f338
        · have q9 : (h253 90 8) ≠ 0 ∧ (h315 90 8) = (h253 90 8) ∧ (h315 90 7) = (h253 90 7) ∧ (h315 93 ((h315 90 7))) = (pt_nt t m (pt_nt t m (pt_nt t m (pt_rn pt_bB t m 0)))) := f336
          omega
        · skip
          show ov_R u d ov_m205 67 [(0, ov_r 90)] [] z314 h315 (P_fMo_town_90 F z h t m)
          have f339 : (h253 90 8) = 0 ∧ pt_is t m (pt_nt t m (pt_nt t m (pt_nt t m (pt_rn pt_bB t m 0)))) (59 : Int) = 0 ∧ (h315 90 8) = 1 + 16 * (pt_nt t m (pt_nt t m (pt_nt t m (pt_rn pt_bB t m 0)))) ∧ 1 ≤ (h315 90 8) ∧ (h315 90 7) = (h253 90 7) ∧ (h315 93 ((h315 90 7))) = (pt_nt t m (pt_nt t m (pt_nt t m (pt_rn pt_bB t m 0)))) := f337
          clear f337
          refine ov_blk (ls2 := [(0, ov_r 90)]) (st2 := [ov_r 90]) (pc2 := 68) b_205_67_1 rfl rfl ?_
          refine ov_getf (v := ov_i (h315 90 8)) d_205_68 fl_Mo_180 (zb_90 I316) (zs_90 I316) rfl ?_
          have g340 := rg_90_8 I316
          refine ov_ifne (tgt := 99) d_205_71 (by decide) (by omega) (fun c341 => ?_) (fun c341 => ?_)
          · skip
            refine ov_blk (ls2 := [(0, ov_r 90)]) (st2 := [ov_r 90]) (pc2 := 100) b_205_99_1 rfl rfl ?_
            refine ov_getf (v := ov_i (h315 90 8)) d_205_100 fl_Mo_180 (zb_90 I316) (zs_90 I316) rfl ?_
            refine ov_ifle (tgt := 111) d_205_103 (by decide) (by omega) (fun c343 => ?_) (fun c343 => ?_)
            · omega
            · skip
              refine ov_blk (ls2 := [(0, ov_r 90)]) (st2 := [ov_r 90]) (pc2 := 107) b_205_106_1 rfl rfl ?_
              refine ov_getf (v := ov_i (h315 90 8)) d_205_107 fl_Mo_180 (zb_90 I316) (zs_90 I316) rfl ?_
              have hz : (pt_szF t m (pt_rn pt_bB t m 0)) = (h315 90 8) := by unfold pt_szF pt_fW pt_fS; (repeat' split) <;> omega
              exact ov_reti (st := []) d_205_110 rfl ⟨_, rfl, I316, (fun a ca => (fr329 a ca)), (fun k n0 n1 n2 n3 n4 n5 n6 n7 n8 => (rk330 k n0 n1 n2 n3 n4 n5 n6 n7 n8)), (Or.inl ⟨(fun _ => 0), (by show 1 ≤ (h315 90 8) ∧ (h315 90 8) ≤ 16005 ∧ (h315 90 22) = (h 90 22); omega), (Or.inl ⟨by omega, hz.symm⟩), E328⟩)⟩
          · omega
        · skip
          show ov_R u d ov_m205 67 [(0, ov_r 90)] [] z314 h315 (P_fMo_town_90 F z h t m)
          have f345 : (h253 90 8) = 0 ∧ pt_is t m (pt_nt t m (pt_nt t m (pt_nt t m (pt_rn pt_bB t m 0)))) (59 : Int) = 1 ∧ (h315 90 8) = 0 ∧ (h315 90 7) = (h253 90 7) + 1 ∧ (h315 90 7) ≤ N ∧ (h315 93 ((h315 90 7))) = pt_nt t m (pt_nt t m (pt_nt t m (pt_nt t m (pt_rn pt_bB t m 0)))) := f338
          clear f338
          have L349 : ∀ (n346 : Nat) (z350 : ov_Z) (h351 : ov_H) (I352 : ov_N F z350 h351) (E353 : h351 91 = h 91) (E354 : h351 92 = h3 92) (E355 : h351 93 = h3 93) (E356 : h351 94 = h3 94) (E357 : h351 95 = h 95) (E358 : h351 104 = h 104) (fr359 : ∀ a : Int, a ≠ 90 ∧ (a < 92 ∨ 94 < a) ∧ (a < 96 ∨ 100 < a) ∧ (a < 103 ∨ 104 < a) → h351 a = h a) (xg : ∃ A : Int → Int, pt_MR t m A (h351 96) (h351 90 15) (h351 99) ∧ ∀ (f : Int) (B : Int → Int), pt_EG t m A (h3 93 ((h351 90 7))) f B → pt_ET t m f B) (rkl90 : ∀ k : Int, k ≠ 0 → k ≠ 2 → k ≠ 3 → k ≠ 7 → k ≠ 8 → k ≠ 13 → k ≠ 15 → k ≠ 20 → k ≠ 22 → (h351 90) k = h 90 k) (q348 : (h351 90 8) = 0 ∧ 0 ≤ (h351 90 7) ∧ (h351 90 7) ≤ N ∧ 0 ≤ (h351 90 13) ∧ (h351 90 13) ≤ (h351 90 7) ∧ (h351 90 22) = (h 90 22)), N - (h351 90 7) < (n346 : Int) → ov_R u d ov_m205 67 [(0, ov_r 90)] [] z350 h351 (P_fMo_town_90 F z h t m) := by
            intro n346
            induction n346 with
            | zero =>
              intro  z350 h351 I352 E353 E354 E355 E356 E357 E358 fr359 xg rkl90 q348 hn360
              exact absurd hn360 (by omega)
            | succ n346 ih347 =>
              intro  z350 h351 I352 E353 E354 E355 E356 E357 E358 fr359 xg rkl90 q348 hn360
              obtain ⟨A, mr, cg⟩ := xg
              have cz : h351 93 (h351 90 7) = h3 93 (h351 90 7) := congrFun (show h351 93 = h3 93 from E355) _
              have mz := pt_MT_at mt (k := h351 90 7) (by omega)
              have mz3 := mz.2.2.1
              have mz2 := mz.2.1
              clear mz
              have mzc := pt_cm_f (t := t) (m := m) (p := h3 93 (h351 90 7))
              have gA := pt_MR_r mr
              refine ov_blk (ls2 := [(0, ov_r 90)]) (st2 := [ov_r 90]) (pc2 := 68) b_205_67_1 rfl rfl ?_
              refine ov_getf (v := ov_i (h351 90 8)) d_205_68 fl_Mo_180 (zb_90 I352) (zs_90 I352) rfl ?_
              have g361 := rg_90_8 I352
              refine ov_ifne (tgt := 99) d_205_71 (by decide) (by omega) (fun c362 => ?_) (fun c362 => ?_)
              · omega
              · skip
                refine ov_blk (ls2 := [(0, ov_r 90)]) (st2 := [ov_r 90]) (pc2 := 75) b_205_74_1 rfl rfl ?_
                refine ov_getf (v := ov_r 92) d_205_75 fl_Mo_24 (zb_90 I352) (zs_90 I352) (congrArg ov_r (rg_90_4 I352)) ?_
                refine ov_blk (ls2 := [(0, ov_r 90)]) (st2 := [ov_r 90, ov_r 92]) (pc2 := 79) b_205_78_1 rfl rfl ?_
                refine ov_getf (v := ov_i (h351 90 7)) d_205_79 fl_Mo_177 (zb_90 I352) (zs_90 I352) rfl ?_
                have g363 := rg_90_7 I352
                refine ov_iald d_205_82 (zb_92 I352) (zs_92 I352) (by omega) ?_
                have e364 : h351 92 (h351 90 7) = (h3 92 (h351 90 7)) := congrFun (show h351 92 = h3 92 from E354) (h351 90 7)
                have g365 := ra_92 I352 (h351 90 7)
                rw [e364] at g365
                rw [e364]
                show ov_R u d ov_m205 83 [(0, ov_r 90)] [ov_i (h3 92 (h351 90 7))] z350 h351 (P_fMo_town_90 F z h t m)
                refine ov_ifeq (tgt := 99) d_205_83 (by decide) (by omega) (fun c366 => ?_) (fun c366 => ?_)
                · skip
                  refine ov_blk (ls2 := [(0, ov_r 90)]) (st2 := [ov_r 90]) (pc2 := 100) b_205_99_1 rfl rfl ?_
                  refine ov_getf (v := ov_i (h351 90 8)) d_205_100 fl_Mo_180 (zb_90 I352) (zs_90 I352) rfl ?_
                  refine ov_ifle (tgt := 111) d_205_103 (by decide) (by omega) (fun c368 => ?_) (fun c368 => ?_)
                  · skip
                    refine ov_blk (ls2 := [(0, ov_r 90), (1, ov_i 0)]) (st2 := []) (pc2 := 113) b_205_111_2 rfl rfl ?_
                    have L372 : ∀ (n369 : Nat) (x1 : Int) (z373 : ov_Z) (h374 : ov_H) (I375 : ov_N F z373 h374) (E376 : h374 91 = h 91) (E377 : h374 92 = h3 92) (E378 : h374 93 = h3 93) (E379 : h374 94 = h3 94) (E380 : h374 95 = h 95) (E381 : h374 99 = h351 99) (E382 : h374 104 = h 104) (fr383 : ∀ a : Int, a ≠ 90 ∧ (a < 92 ∨ 94 < a) ∧ (a < 96 ∨ 100 < a) ∧ (a < 103 ∨ 104 < a) → h374 a = h a) (xl : ∀ j : Int, 340 ≤ j → (h374 96) j = h351 96 j) (xc : ∀ j : Int, 0 ≤ j → j < x1 → j < 280 → (h374 96) j = A j) (rkl90 : ∀ k : Int, k ≠ 0 → k ≠ 2 → k ≠ 3 → k ≠ 7 → k ≠ 8 → k ≠ 13 → k ≠ 15 → k ≠ 20 → k ≠ 22 → (h374 90) k = h 90 k) (q371 : 0 ≤ x1 ∧ x1 ≤ 340), 340 - x1 < (n369 : Int) → ov_R u d ov_m205 113 [(0, ov_r 90), (1, ov_i x1)] [] z373 h374 (P_fMo_town_90 F z h t m) := by
                      intro n369
                      induction n369 with
                      | zero =>
                        intro x1 z373 h374 I375 E376 E377 E378 E379 E380 E381 E382 fr383 xl xc rkl90 q371 hn384
                        exact absurd hn384 (by omega)
                      | succ n369 ih370 =>
                        intro x1 z373 h374 I375 E376 E377 E378 E379 E380 E381 E382 fr383 xl xc rkl90 q371 hn384
                        refine ov_blk (ls2 := [(0, ov_r 90), (1, ov_i x1)]) (st2 := [ov_i 340, ov_i x1]) (pc2 := 117) b_205_113_2 rfl rfl ?_
                        refine ov_icge (tgt := 142) d_205_117 (by decide) (by omega) (by omega) (fun c385 => ?_) (fun c385 => ?_)
                        · skip
                          refine ov_blk (ls2 := [(0, ov_r 90), (1, ov_i 0)]) (st2 := []) (pc2 := 144) b_205_142_2 rfl rfl ?_
                          have L389 : ∀ (n386 : Nat) (x1_ : Int) (z390 : ov_Z) (h391 : ov_H) (I392 : ov_N F z390 h391) (E393 : h391 91 = h 91) (E394 : h391 92 = h3 92) (E395 : h391 93 = h3 93) (E396 : h391 94 = h3 94) (E397 : h391 95 = h 95) (E398 : h391 96 = h374 96) (E399 : h391 99 = h351 99) (E400 : h391 104 = h 104) (fr401 : ∀ a : Int, a ≠ 90 ∧ (a < 92 ∨ 94 < a) ∧ (a < 96 ∨ 100 < a) ∧ (a < 103 ∨ 104 < a) → h391 a = h a) (rkl90 : ∀ k : Int, k ≠ 0 → k ≠ 2 → k ≠ 3 → k ≠ 7 → k ≠ 8 → k ≠ 13 → k ≠ 15 → k ≠ 20 → k ≠ 22 → (h391 90) k = h 90 k) (q388 : 0 ≤ x1_ ∧ x1_ ≤ 1000), 1000 - x1_ < (n386 : Int) → ov_R u d ov_m205 144 [(0, ov_r 90), (1, ov_i x1_)] [] z390 h391 (P_fMo_town_90 F z h t m) := by
                            intro n386
                            induction n386 with
                            | zero =>
                              intro x1_ z390 h391 I392 E393 E394 E395 E396 E397 E398 E399 E400 fr401 rkl90 q388 hn402
                              exact absurd hn402 (by omega)
                            | succ n386 ih387 =>
                              intro x1_ z390 h391 I392 E393 E394 E395 E396 E397 E398 E399 E400 fr401 rkl90 q388 hn402
                              refine ov_blk (ls2 := [(0, ov_r 90), (1, ov_i x1_)]) (st2 := [ov_r 90, ov_i x1_]) (pc2 := 146) b_205_144_2 rfl rfl ?_
                              refine ov_getf (v := ov_i (h391 90 13)) d_205_146 fl_Mo_208 (zb_90 I392) (zs_90 I392) rfl ?_
                              have g403 := rg_90_13 I392
                              refine ov_icge (tgt := 190) d_205_149 (by decide) (by omega) (by omega) (fun c404 => ?_) (fun c404 => ?_)
                              · skip
                                refine ov_blk (ls2 := [(0, ov_r 90), (1, ov_i x1_)]) (st2 := [ov_r 90]) (pc2 := 191) b_205_190_1 rfl rfl ?_
                                refine ov_cV (as := []) (st := []) (d2 := d - 1) d_205_191 lk_Mo_151 rfl (Nat.le_of_ble_eq_true rfl) (c := 1) (zb_90 I392) (zs_90 I392) ⟨by decide, rfl⟩ (by omega) (c_fMo_begins_90 (d - 1) (by omega) U I392 (by show 0 ≤ ov_bd F; omega)) ?_
                                rintro _ z405 h406 ⟨rfl, I407, y408, y409, y410⟩
                                have E411 : h406 91 = h 91 := Eq.trans (y408 91 (by decide)) (show h391 91 = h 91 from E393)
                                have E412 : h406 92 = h3 92 := Eq.trans (y408 92 (by decide)) (show h391 92 = h3 92 from E394)
                                have E413 : h406 93 = h3 93 := Eq.trans (y408 93 (by decide)) (show h391 93 = h3 93 from E395)
                                have E414 : h406 94 = h3 94 := Eq.trans (y408 94 (by decide)) (show h391 94 = h3 94 from E396)
                                have E415 : h406 95 = h 95 := Eq.trans (y408 95 (by decide)) (show h391 95 = h 95 from E397)
                                have E416 : h406 96 = h374 96 := Eq.trans (y408 96 (by decide)) (show h391 96 = h374 96 from E398)
                                have E417 : h406 99 = h351 99 := Eq.trans (y408 99 (by decide)) (show h391 99 = h351 99 from E399)
                                have fr418 : ∀ a : Int, a ≠ 90 ∧ (a < 92 ∨ 94 < a) ∧ (a < 96 ∨ 100 < a) ∧ (a < 103 ∨ 104 < a) → h406 a = h a := fun a ca => Eq.trans (y408 a (by omega)) (fr401 a ca)
                                have y409_ : ∀ j : Int, 0 ≤ j → j < 4 → (h406 104) j = 0 := y409
                                have y410_ : ∀ k : Int, k ≠ 20 → k ≠ 22 → (h406 90) k = (h391 90) k := y410
                                have rk419 : ∀ k : Int, k ≠ 0 → k ≠ 2 → k ≠ 3 → k ≠ 7 → k ≠ 8 → k ≠ 13 → k ≠ 15 → k ≠ 20 → k ≠ 22 → h406 90 k = h 90 k := fun k n0 n1 n2 n3 n4 n5 n6 n7 n8 => Eq.trans (y410_ k n7 n8) (rkl90 k n0 n1 n2 n3 n4 n5 n6 n7 n8)
                                have g420 : h406 90 2 = (h391 90 2) := y410_ 2 (by decide) (by decide)
                                have g421 : h406 90 3 = (h391 90 3) := y410_ 3 (by decide) (by decide)
                                have g422 : h406 90 7 = (h391 90 7) := y410_ 7 (by decide) (by decide)
                                have g423 : h406 90 8 = (h391 90 8) := y410_ 8 (by decide) (by decide)
                                have g424 : h406 90 13 = (h391 90 13) := y410_ 13 (by decide) (by decide)
                                have g425 : h406 90 15 = (h391 90 15) := y410_ 15 (by decide) (by decide)
                                show ov_R u d ov_m205 194 [(0, ov_r 90), (1, ov_i x1_)] [] z405 h406 (P_fMo_town_90 F z h t m)
                                refine ov_blk (ls2 := [(0, ov_r 90), (1, ov_i x1_)]) (st2 := [ov_i 0]) (pc2 := 195) b_205_194_1 rfl rfl ?_
                                exact ov_reti (st := []) d_205_195 rfl ⟨_, rfl, I407, (fun a ca => (fr418 a ca)), (fun k n0 n1 n2 n3 n4 n5 n6 n7 n8 => (rk419 k n0 n1 n2 n3 n4 n5 n6 n7 n8)), (Or.inr ⟨A, (by show 0 = 0; omega), (cg 0 A (pt_EG_e (by omega))), y409_, (fun j a b => by rw [show h406 96 = h374 96 from E416]; exact xc j a (by omega) b)⟩)⟩
                              · skip
                                refine ov_blk (ls2 := [(0, ov_r 90), (1, ov_i x1_)]) (st2 := [ov_r 90]) (pc2 := 153) b_205_152_1 rfl rfl ?_
                                refine ov_getf (v := ov_r 97) d_205_153 fl_Mo_84 (zb_90 I392) (zs_90 I392) (congrArg ov_r (rg_90_11 I392)) ?_
                                refine ov_blk (ls2 := [(0, ov_r 90), (1, ov_i x1_)]) (st2 := [ov_r 90, ov_i x1_, ov_r 97]) (pc2 := 158) b_205_156_2 rfl rfl ?_
                                refine ov_getf (v := ov_r 97) d_205_158 fl_Mo_84 (zb_90 I392) (zs_90 I392) (congrArg ov_r (rg_90_11 I392)) ?_
                                refine ov_blk (ls2 := [(0, ov_r 90), (1, ov_i x1_)]) (st2 := [ov_i (1100 + x1_), ov_r 97, ov_i x1_, ov_r 97]) (pc2 := 166) b_205_161_3 rfl rfl ?_
                                refine ov_iald d_205_166 (zb_97 I392) (zs_97 I392) (by omega) ?_
                                have g426 := ra_97 I392 (1100 + x1_)
                                refine ov_iast d_205_167 (zb_97 I392) (zs_97 I392) (by omega) ?_
                                have I427 := ua_97 (k := x1_) (x := (h391 97 (1100 + x1_))) I392 (by omega)
                                refine ov_blk (ls2 := [(0, ov_r 90), (1, ov_i x1_)]) (st2 := [ov_r 90]) (pc2 := 169) b_205_168_1 rfl rfl ?_
                                refine ov_getf (v := ov_r 98) d_205_169 fl_Mo_87 (zb_90 I427) (zs_90 I427) (congrArg ov_r (rg_90_12 I427)) ?_
                                refine ov_blk (ls2 := [(0, ov_r 90), (1, ov_i x1_)]) (st2 := [ov_r 90, ov_i x1_, ov_r 98]) (pc2 := 174) b_205_172_2 rfl rfl ?_
                                refine ov_getf (v := ov_r 98) d_205_174 fl_Mo_87 (zb_90 I427) (zs_90 I427) (congrArg ov_r (rg_90_12 I427)) ?_
                                refine ov_blk (ls2 := [(0, ov_r 90), (1, ov_i x1_)]) (st2 := [ov_i (1100 + x1_), ov_r 98, ov_i x1_, ov_r 98]) (pc2 := 182) b_205_177_3 rfl rfl ?_
                                refine ov_iald d_205_182 (zb_98 I427) (zs_98 I427) (by omega) ?_
                                show ov_R u d ov_m205 183 [(0, ov_r 90), (1, ov_i x1_)] [ov_i (h391 98 (1100 + x1_)), ov_i x1_, ov_r 98] z390 (ov_up h391 97 x1_ (h391 97 (1100 + x1_))) (P_fMo_town_90 F z h t m)
                                have g428 := ra_98 I392 (1100 + x1_)
                                refine ov_iast d_205_183 (zb_98 I427) (zs_98 I427) (by omega) ?_
                                have I429 := ua_98 (k := x1_) (x := (h391 98 (1100 + x1_))) I427 (by omega)
                                refine ov_blk (ls2 := [(0, ov_r 90), (1, ov_i (x1_ + 1))]) (st2 := []) (pc2 := 187) b_205_184_1 rfl rfl ?_
                                refine ov_goto (tgt := 144) d_205_187 (by decide) ?_
                                exact ih387 (x1_ + 1) _ _ I429 E393 E394 E395 E396 E397 E398 E399 E400 (fun a ca => Eq.trans (by show (ov_up (ov_up h391 97 x1_ (h391 97 (1100 + x1_))) 98 x1_ (h391 98 (1100 + x1_))) a = h391 a; rw [ov_up_ne (by omega), ov_up_ne (by omega)]) (fr401 a ca)) (fun k n0 n1 n2 n3 n4 n5 n6 n7 n8 => (Eq.trans (by show (ov_up (ov_up h391 97 x1_ (h391 97 (1100 + x1_))) 98 x1_ (h391 98 (1100 + x1_))) 90 k = h391 90 k; rw [ov_up_ne (by decide), ov_up_ne (by decide)]) (rkl90 k n0 n1 n2 n3 n4 n5 n6 n7 n8))) (by show 0 ≤ (x1_ + 1) ∧ (x1_ + 1) ≤ 1000; omega) (by omega)
                          exact L389 1001 0 _ _ I375 E376 E377 E378 E379 E380 rfl E381 E382 (fun a ca => (fr383 a ca)) (fun k n0 n1 n2 n3 n4 n5 n6 n7 n8 => (rkl90 k n0 n1 n2 n3 n4 n5 n6 n7 n8)) (by show 0 ≤ 0 ∧ 0 ≤ 1000; omega) (by omega)
                        · skip
                          have xe0 : x1 = 0 → h374 96 (340 + x1) = A 0 := fun e => by rw [xl _ (by omega), e]; exact pt_MR_c mr (j := 0) (by omega)
                          have xe1 : x1 = 1 → h374 96 (340 + x1) = A 1 := fun e => by rw [xl _ (by omega), e]; exact pt_MR_c mr (j := 1) (by omega)
                          have xe2 : x1 = 2 → h374 96 (340 + x1) = A 2 := fun e => by rw [xl _ (by omega), e]; exact pt_MR_c mr (j := 2) (by omega)
                          have xe9 : x1 = 9 → h374 96 (340 + x1) = A 9 := fun e => by rw [xl _ (by omega), e]; exact pt_MR_c mr (j := 9) (by omega)
                          refine ov_blk (ls2 := [(0, ov_r 90), (1, ov_i x1)]) (st2 := [ov_r 90]) (pc2 := 121) b_205_120_1 rfl rfl ?_
                          refine ov_getf (v := ov_r 96) d_205_121 fl_Mo_81 (zb_90 I375) (zs_90 I375) (congrArg ov_r (rg_90_10 I375)) ?_
                          refine ov_blk (ls2 := [(0, ov_r 90), (1, ov_i x1)]) (st2 := [ov_r 90, ov_i x1, ov_r 96]) (pc2 := 126) b_205_124_2 rfl rfl ?_
                          refine ov_getf (v := ov_r 96) d_205_126 fl_Mo_81 (zb_90 I375) (zs_90 I375) (congrArg ov_r (rg_90_10 I375)) ?_
                          refine ov_blk (ls2 := [(0, ov_r 90), (1, ov_i x1)]) (st2 := [ov_i (340 + x1), ov_r 96, ov_i x1, ov_r 96]) (pc2 := 134) b_205_129_3 rfl rfl ?_
                          refine ov_iald d_205_134 (zb_96 I375) (zs_96 I375) (by omega) ?_
                          show ov_R u d ov_m205 135 [(0, ov_r 90), (1, ov_i x1)] [ov_i (h374 96 (340 + x1)), ov_i x1, ov_r 96] z373 h374 (P_fMo_town_90 F z h t m)
                          refine ov_iast d_205_135 (zb_96 I375) (zs_96 I375) (by omega) ?_
                          have I430 := ov_cp96 (k := x1) I375 (by omega) (by omega)
                          refine ov_blk (ls2 := [(0, ov_r 90), (1, ov_i (x1 + 1))]) (st2 := []) (pc2 := 139) b_205_136_1 rfl rfl ?_
                          refine ov_goto (tgt := 113) d_205_139 (by decide) ?_
                          exact ih370 (x1 + 1) _ _ I430 E376 E377 E378 E379 E380 E381 E382 (fun a ca => Eq.trans (by show (ov_up h374 96 x1 (h374 96 (340 + x1))) a = h374 a; rw [ov_up_ne (by omega)]) (fr383 a ca)) (fun j a => by rw [ov_up_j (by omega)]; exact xl j a) (fun j a b c => if e : j = x1 then (by rw [e]; show ov_up _ 96 _ _ 96 _ = _; rw [ov_up_row, ov_rs_eq, xl _ (by omega)]; exact pt_MR_c mr (j := x1) (by omega)) else (by show ov_up _ 96 _ _ 96 j = _; rw [ov_up_row, ov_rs_ne e]; exact xc j a (by omega) c)) (fun k n0 n1 n2 n3 n4 n5 n6 n7 n8 => (Eq.trans (by show (ov_up h374 96 x1 (h374 96 (340 + x1))) 90 k = h374 90 k; rw [ov_up_ne (by decide)]) (rkl90 k n0 n1 n2 n3 n4 n5 n6 n7 n8))) (by show 0 ≤ (x1 + 1) ∧ (x1 + 1) ≤ 340; omega) (by omega)
                    exact L372 341 0 _ _ I352 E353 E354 E355 E356 E357 rfl E358 (fun a ca => (fr359 a ca)) (fun j a => rfl) (fun j a b c => by omega) (fun k n0 n1 n2 n3 n4 n5 n6 n7 n8 => (rkl90 k n0 n1 n2 n3 n4 n5 n6 n7 n8)) (by show 0 ≤ 0 ∧ 0 ≤ 340; omega) (by omega)
                  · omega
                · skip
                  refine ov_blk (ls2 := [(0, ov_r 90)]) (st2 := [ov_r 90]) (pc2 := 87) b_205_86_1 rfl rfl ?_
                  have cf431 : h351 93 ((h351 90 7)) = h3 93 ((h351 90 7)) := congrFun E355 ((h351 90 7))
                  refine ov_cV (as := []) (st := []) (d2 := d - 1) d_205_87 lk_Mo_217 rfl (Nat.le_of_ble_eq_true rfl) (c := 1) (zb_90 I352) (zs_90 I352) ⟨by decide, rfl⟩ (by omega) (c_fMo_readLine_90 t m N (h3 93 (h351 90 7)) A (d - 1) (by omega) U I352 (by show 0 ≤ (h351 90 7) ∧ (h351 90 7) ≤ N; omega) (by show (h351 93 ((h351 90 7))) = (h3 93 (h351 90 7)); omega) (by show 0 ≤ (h351 90 8); omega) (by show (h351 90 8) = 0; omega) (by show 0 ≤ (h351 90 13) ∧ (h351 90 13) ≤ (h351 90 7); omega) (by rw [show h351 92 = h3 92 from E354, show h351 93 = h3 93 from E355, show h351 94 = h3 94 from E356]; exact mt) (by rw [show h351 95 = h 95 from E357]; exact wd) mr) ?_
                  rintro _ z432 h433 ⟨rfl, I434, y435, y436, y437⟩
                  have E438 : h433 91 = h 91 := Eq.trans (y435 91 (by decide)) (show h351 91 = h 91 from E353)
                  have E439 : h433 92 = h3 92 := Eq.trans (y435 92 (by decide)) (show h351 92 = h3 92 from E354)
                  have E440 : h433 93 = h3 93 := Eq.trans (y435 93 (by decide)) (show h351 93 = h3 93 from E355)
                  have E441 : h433 94 = h3 94 := Eq.trans (y435 94 (by decide)) (show h351 94 = h3 94 from E356)
                  have E442 : h433 95 = h 95 := Eq.trans (y435 95 (by decide)) (show h351 95 = h 95 from E357)
                  have E443 : h433 104 = h 104 := Eq.trans (y435 104 (by decide)) (show h351 104 = h 104 from E358)
                  have fr444 : ∀ a : Int, a ≠ 90 ∧ (a < 92 ∨ 94 < a) ∧ (a < 96 ∨ 100 < a) ∧ (a < 103 ∨ 104 < a) → h433 a = h a := fun a ca => Eq.trans (y435 a (by omega)) (fr359 a ca)
                  have y436_ : ∀ k : Int, k ≠ 7 → k ≠ 8 → k ≠ 13 → k ≠ 15 → (h433 90) k = (h351 90) k := y436
                  have rk445 : ∀ k : Int, k ≠ 0 → k ≠ 2 → k ≠ 3 → k ≠ 7 → k ≠ 8 → k ≠ 13 → k ≠ 15 → k ≠ 20 → k ≠ 22 → h433 90 k = h 90 k := fun k n0 n1 n2 n3 n4 n5 n6 n7 n8 => Eq.trans (y436_ k n3 n4 n5 n6) (rkl90 k n0 n1 n2 n3 n4 n5 n6 n7 n8)
                  have g446 : h433 90 2 = (h351 90 2) := y436_ 2 (by decide) (by decide) (by decide) (by decide)
                  have g447 : h433 90 3 = (h351 90 3) := y436_ 3 (by decide) (by decide) (by decide) (by decide)
                  have g448 : h433 90 22 = (h351 90 22) := y436_ 22 (by decide) (by decide) (by decide) (by decide)
                  rcases y437 with ⟨w449, w450, f451, y452⟩ | ⟨w453, f454, y455, y456⟩
                  · skip
                    show ov_R u d ov_m205 90 [(0, ov_r 90)] [] z432 h433 (P_fMo_town_90 F z h t m)
                    have f457 : (h433 90 8) = w449 ∧ 1 ≤ w449 ∧ (h351 90 7) ≤ (h433 90 7) ∧ (h433 90 7) ≤ N := f451
                    clear f451
                    have y452_ : pt_EL t m A (h3 93 (h351 90 7)) w449 w450 := y452
                    refine ov_blk (ls2 := [(0, ov_r 90)]) (st2 := [ov_i 59, ov_r 90]) (pc2 := 93) b_205_90_2 rfl rfl ?_
                    have cf458 : h433 93 ((h433 90 7)) = h3 93 ((h433 90 7)) := congrFun E440 ((h433 90 7))
                    refine ov_cV (as := [ov_i 59]) (st := []) (d2 := d - 1) d_205_93 lk_Mo_214 rfl (Nat.le_of_ble_eq_true rfl) (c := 1) (zb_90 I434) (zs_90 I434) ⟨by decide, rfl⟩ (by omega) (c_fMo_takeSign_90 t m N (h433 93 (h433 90 7)) (d - 1) (by omega) U I434 59 (by omega) (by show 0 ≤ (h433 90 7) ∧ (h433 90 7) ≤ N; omega) (by show (h433 93 ((h433 90 7))) = (h433 93 (h433 90 7)); omega) (by show 0 ≤ (h433 90 8); omega) (by show 0 ≤ (59 : Int) ∧ (59 : Int) ≤ 65535; omega) (by rw [show h433 92 = h3 92 from E439, show h433 93 = h3 93 from E440, show h433 94 = h3 94 from E441]; exact mt)) ?_
                    rintro _ z459 h460 ⟨rfl, I461, y462, y463, y464⟩
                    have E465 : h460 91 = h 91 := Eq.trans (y462 91 (by decide)) (show h433 91 = h 91 from E438)
                    have E466 : h460 92 = h3 92 := Eq.trans (y462 92 (by decide)) (show h433 92 = h3 92 from E439)
                    have E467 : h460 93 = h3 93 := Eq.trans (y462 93 (by decide)) (show h433 93 = h3 93 from E440)
                    have E468 : h460 94 = h3 94 := Eq.trans (y462 94 (by decide)) (show h433 94 = h3 94 from E441)
                    have E469 : h460 95 = h 95 := Eq.trans (y462 95 (by decide)) (show h433 95 = h 95 from E442)
                    have E470 : h460 96 = h433 96 := Eq.trans (y462 96 (by decide)) (show h433 96 = h433 96 from rfl)
                    have E471 : h460 99 = h433 99 := Eq.trans (y462 99 (by decide)) (show h433 99 = h433 99 from rfl)
                    have E472 : h460 104 = h 104 := Eq.trans (y462 104 (by decide)) (show h433 104 = h 104 from E443)
                    have fr473 : ∀ a : Int, a ≠ 90 ∧ (a < 92 ∨ 94 < a) ∧ (a < 96 ∨ 100 < a) ∧ (a < 103 ∨ 104 < a) → h460 a = h a := fun a ca => Eq.trans (y462 a (by omega)) (fr444 a ca)
                    have y463_ : ∀ k : Int, k ≠ 7 → k ≠ 8 → (h460 90) k = (h433 90) k := y463
                    have rk474 : ∀ k : Int, k ≠ 0 → k ≠ 2 → k ≠ 3 → k ≠ 7 → k ≠ 8 → k ≠ 13 → k ≠ 15 → k ≠ 20 → k ≠ 22 → h460 90 k = h 90 k := fun k n0 n1 n2 n3 n4 n5 n6 n7 n8 => Eq.trans (y463_ k n3 n4) (rk445 k n0 n1 n2 n3 n4 n5 n6 n7 n8)
                    have g475 : h460 90 2 = (h433 90 2) := y463_ 2 (by decide) (by decide)
                    have g476 : h460 90 3 = (h433 90 3) := y463_ 3 (by decide) (by decide)
                    have g477 : h460 90 13 = (h433 90 13) := y463_ 13 (by decide) (by decide)
                    have g478 : h460 90 15 = (h433 90 15) := y463_ 15 (by decide) (by decide)
                    have g479 : h460 90 22 = (h433 90 22) := y463_ 22 (by decide) (by decide)
                    rcases y464 with f480 | f481 | f482
                    · skip
                      show ov_R u d ov_m205 96 [(0, ov_r 90)] [] z459 h460 (P_fMo_town_90 F z h t m)
                      have f483 : (h433 90 8) ≠ 0 ∧ (h460 90 8) = (h433 90 8) ∧ (h460 90 7) = (h433 90 7) ∧ (h460 93 ((h460 90 7))) = (h433 93 (h433 90 7)) := f480
                      clear f480
                      refine ov_goto (tgt := 67) d_205_96 (by decide) ?_
                      refine ov_blk (ls2 := [(0, ov_r 90)]) (st2 := [ov_r 90]) (pc2 := 68) b_205_67_1 rfl rfl ?_
                      refine ov_getf (v := ov_i (h460 90 8)) d_205_68 fl_Mo_180 (zb_90 I461) (zs_90 I461) rfl ?_
                      have g484 := rg_90_8 I461
                      refine ov_ifne (tgt := 99) d_205_71 (by decide) (by omega) (fun c485 => ?_) (fun c485 => ?_)
                      · skip
                        refine ov_blk (ls2 := [(0, ov_r 90)]) (st2 := [ov_r 90]) (pc2 := 100) b_205_99_1 rfl rfl ?_
                        refine ov_getf (v := ov_i (h460 90 8)) d_205_100 fl_Mo_180 (zb_90 I461) (zs_90 I461) rfl ?_
                        refine ov_ifle (tgt := 111) d_205_103 (by decide) (by omega) (fun c487 => ?_) (fun c487 => ?_)
                        · omega
                        · skip
                          refine ov_blk (ls2 := [(0, ov_r 90)]) (st2 := [ov_r 90]) (pc2 := 107) b_205_106_1 rfl rfl ?_
                          refine ov_getf (v := ov_i (h460 90 8)) d_205_107 fl_Mo_180 (zb_90 I461) (zs_90 I461) rfl ?_
                          exact ov_reti (st := []) d_205_110 rfl ⟨_, rfl, I461, (fun a ca => (fr473 a ca)), (fun k n0 n1 n2 n3 n4 n5 n6 n7 n8 => (rk474 k n0 n1 n2 n3 n4 n5 n6 n7 n8)), (Or.inl ⟨(fun _ => 0), (by show 1 ≤ (h460 90 8) ∧ (h460 90 8) ≤ 16005 ∧ (h460 90 22) = (h 90 22); omega), (by show pt_ET t m (h460 90 8) _; rw [show (h460 90 8) = w449 by omega]; exact cg _ _ (pt_EG_f (by omega) y452_ (by omega))), E472⟩)⟩
                      · omega
                    · omega
                    · omega
                  · skip
                    show ov_R u d ov_m205 90 [(0, ov_r 90)] [] z432 h433 (P_fMo_town_90 F z h t m)
                    have f489 : (h433 90 8) = 0 ∧ (h351 90 7) ≤ (h433 90 7) ∧ (h433 90 7) ≤ N ∧ 0 ≤ (h433 90 13) ∧ (h433 90 13) ≤ (h433 90 7) ∧ (h433 93 ((h433 90 7))) = w453 := f454
                    clear f454
                    have y455_ : pt_EL t m A (h3 93 (h351 90 7)) 0 w453 := y455
                    have y456_ : pt_MR t m (pt_LA t m A (h3 93 (h351 90 7))) (h433 96) (h433 90 15) (h433 99) := y456
                    refine ov_blk (ls2 := [(0, ov_r 90)]) (st2 := [ov_i 59, ov_r 90]) (pc2 := 93) b_205_90_2 rfl rfl ?_
                    have cf490 : h433 93 ((h433 90 7)) = h3 93 ((h433 90 7)) := congrFun E440 ((h433 90 7))
                    refine ov_cV (as := [ov_i 59]) (st := []) (d2 := d - 1) d_205_93 lk_Mo_214 rfl (Nat.le_of_ble_eq_true rfl) (c := 1) (zb_90 I434) (zs_90 I434) ⟨by decide, rfl⟩ (by omega) (c_fMo_takeSign_90 t m N w453 (d - 1) (by omega) U I434 59 (by omega) (by show 0 ≤ (h433 90 7) ∧ (h433 90 7) ≤ N; omega) (by show (h433 93 ((h433 90 7))) = w453; omega) (by show 0 ≤ (h433 90 8); omega) (by show 0 ≤ (59 : Int) ∧ (59 : Int) ≤ 65535; omega) (by rw [show h433 92 = h3 92 from E439, show h433 93 = h3 93 from E440, show h433 94 = h3 94 from E441]; exact mt)) ?_
                    rintro _ z491 h492 ⟨rfl, I493, y494, y495, y496⟩
                    have E497 : h492 91 = h 91 := Eq.trans (y494 91 (by decide)) (show h433 91 = h 91 from E438)
                    have E498 : h492 92 = h3 92 := Eq.trans (y494 92 (by decide)) (show h433 92 = h3 92 from E439)
                    have E499 : h492 93 = h3 93 := Eq.trans (y494 93 (by decide)) (show h433 93 = h3 93 from E440)
                    have E500 : h492 94 = h3 94 := Eq.trans (y494 94 (by decide)) (show h433 94 = h3 94 from E441)
                    have E501 : h492 95 = h 95 := Eq.trans (y494 95 (by decide)) (show h433 95 = h 95 from E442)
                    have E502 : h492 96 = h433 96 := Eq.trans (y494 96 (by decide)) (show h433 96 = h433 96 from rfl)
                    have E503 : h492 99 = h433 99 := Eq.trans (y494 99 (by decide)) (show h433 99 = h433 99 from rfl)
                    have E504 : h492 104 = h 104 := Eq.trans (y494 104 (by decide)) (show h433 104 = h 104 from E443)
                    have fr505 : ∀ a : Int, a ≠ 90 ∧ (a < 92 ∨ 94 < a) ∧ (a < 96 ∨ 100 < a) ∧ (a < 103 ∨ 104 < a) → h492 a = h a := fun a ca => Eq.trans (y494 a (by omega)) (fr444 a ca)
                    have y495_ : ∀ k : Int, k ≠ 7 → k ≠ 8 → (h492 90) k = (h433 90) k := y495
                    have rk506 : ∀ k : Int, k ≠ 0 → k ≠ 2 → k ≠ 3 → k ≠ 7 → k ≠ 8 → k ≠ 13 → k ≠ 15 → k ≠ 20 → k ≠ 22 → h492 90 k = h 90 k := fun k n0 n1 n2 n3 n4 n5 n6 n7 n8 => Eq.trans (y495_ k n3 n4) (rk445 k n0 n1 n2 n3 n4 n5 n6 n7 n8)
                    have g507 : h492 90 2 = (h433 90 2) := y495_ 2 (by decide) (by decide)
                    have g508 : h492 90 3 = (h433 90 3) := y495_ 3 (by decide) (by decide)
                    have g509 : h492 90 13 = (h433 90 13) := y495_ 13 (by decide) (by decide)
                    have g510 : h492 90 15 = (h433 90 15) := y495_ 15 (by decide) (by decide)
                    have g511 : h492 90 22 = (h433 90 22) := y495_ 22 (by decide) (by decide)
                    rcases y496 with f512 | f513 | f514
                    · omega
                    · skip
                      show ov_R u d ov_m205 96 [(0, ov_r 90)] [] z491 h492 (P_fMo_town_90 F z h t m)
                      have f515 : (h433 90 8) = 0 ∧ pt_is t m w453 (59 : Int) = 0 ∧ (h492 90 8) = 1 + 16 * w453 ∧ 1 ≤ (h492 90 8) ∧ (h492 90 7) = (h433 90 7) ∧ (h492 93 ((h492 90 7))) = w453 := f513
                      clear f513
                      refine ov_goto (tgt := 67) d_205_96 (by decide) ?_
                      refine ov_blk (ls2 := [(0, ov_r 90)]) (st2 := [ov_r 90]) (pc2 := 68) b_205_67_1 rfl rfl ?_
                      refine ov_getf (v := ov_i (h492 90 8)) d_205_68 fl_Mo_180 (zb_90 I493) (zs_90 I493) rfl ?_
                      have g516 := rg_90_8 I493
                      refine ov_ifne (tgt := 99) d_205_71 (by decide) (by omega) (fun c517 => ?_) (fun c517 => ?_)
                      · skip
                        refine ov_blk (ls2 := [(0, ov_r 90)]) (st2 := [ov_r 90]) (pc2 := 100) b_205_99_1 rfl rfl ?_
                        refine ov_getf (v := ov_i (h492 90 8)) d_205_100 fl_Mo_180 (zb_90 I493) (zs_90 I493) rfl ?_
                        refine ov_ifle (tgt := 111) d_205_103 (by decide) (by omega) (fun c519 => ?_) (fun c519 => ?_)
                        · omega
                        · skip
                          refine ov_blk (ls2 := [(0, ov_r 90)]) (st2 := [ov_r 90]) (pc2 := 107) b_205_106_1 rfl rfl ?_
                          refine ov_getf (v := ov_i (h492 90 8)) d_205_107 fl_Mo_180 (zb_90 I493) (zs_90 I493) rfl ?_
                          exact ov_reti (st := []) d_205_110 rfl ⟨_, rfl, I493, (fun a ca => (fr505 a ca)), (fun k n0 n1 n2 n3 n4 n5 n6 n7 n8 => (rk506 k n0 n1 n2 n3 n4 n5 n6 n7 n8)), (Or.inl ⟨(fun _ => 0), (by show 1 ≤ (h492 90 8) ∧ (h492 90 8) ≤ 16005 ∧ (h492 90 22) = (h 90 22); omega), (by show pt_ET t m (h492 90 8) _; rw [show (h492 90 8) = 1 + 16 * w453 by omega]; exact cg _ _ (pt_EG_s (by omega) y455_ (by omega) (by omega))), E504⟩)⟩
                      · omega
                    · skip
                      show ov_R u d ov_m205 96 [(0, ov_r 90)] [] z491 h492 (P_fMo_town_90 F z h t m)
                      have f521 : (h433 90 8) = 0 ∧ pt_is t m w453 (59 : Int) = 1 ∧ (h492 90 8) = 0 ∧ (h492 90 7) = (h433 90 7) + 1 ∧ (h492 90 7) ≤ N ∧ (h492 93 ((h492 90 7))) = pt_nt t m w453 := f514
                      clear f514
                      refine ov_goto (tgt := 67) d_205_96 (by decide) ?_
                      have pq : h3 93 (h492 90 7) = pt_nt t m w453 := Eq.trans (congrFun (show h3 93 = h492 93 from (E499).symm) _) (by show h492 93 (h492 90 7) = pt_nt t m w453; omega)
                      exact ih347  _ _ I493 E497 E498 E499 E500 E501 E504 (fun a ca => (fr505 a ca)) (⟨pt_LA t m A (h3 93 (h351 90 7)), (by rw [show (h492 90 15) = (h433 90 15) by omega, show h492 96 = h433 96 from E502, show h492 99 = h433 99 from E503]; exact y456_), fun f B e => cg f B (pt_EG_n (by omega) y455_ (by omega) (by rw [pq] at e; exact e))⟩) (fun k n0 n1 n2 n3 n4 n5 n6 n7 n8 => (rk506 k n0 n1 n2 n3 n4 n5 n6 n7 n8)) (by show (h492 90 8) = 0 ∧ 0 ≤ (h492 90 7) ∧ (h492 90 7) ≤ N ∧ 0 ≤ (h492 90 13) ∧ (h492 90 13) ≤ (h492 90 7) ∧ (h492 90 22) = (h 90 22); omega) (by show N - (h492 90 7) < _; omega)
          have m96 : h315 96 = ov_rs (ov_rs ((h23 96)) 340 (pt_nm t m (pt_nt t m (pt_rn pt_bB t m 0)))) 341 (pt_nm t m (pt_nt t m (pt_nt t m (pt_rn pt_bB t m 0)))) := by rw [show h315 96 = (ov_rs (ov_rs (h23 96) 340 v160) 341 v251) from R326, show v160 = (pt_nm t m (pt_nt t m (pt_rn pt_bB t m 0))) by omega, show v251 = (pt_nm t m (pt_nt t m (pt_nt t m (pt_rn pt_bB t m 0)))) by omega]
          have m15 : (h315 90 15) = 0 := by omega
          have hz : (pt_szF t m (pt_rn pt_bB t m 0)) = 0 := by unfold pt_szF pt_fW pt_fS; (repeat' split) <;> omega
          have pq : h3 93 (h315 90 7) = (pt_nt t m (pt_nt t m (pt_nt t m (pt_nt t m (pt_rn pt_bB t m 0))))) := Eq.trans (congrFun (show h3 93 = h315 93 from (E322).symm) _) (by show h315 93 (h315 90 7) = (pt_nt t m (pt_nt t m (pt_nt t m (pt_nt t m (pt_rn pt_bB t m 0))))); omega)
          exact L349 1001  _ _ I316 E320 E321 E322 E323 E324 E328 (fun a ca => (fr329 a ca)) (⟨pt_A0 (pt_nm t m (pt_nt t m (pt_rn pt_bB t m 0))) (pt_nm t m (pt_nt t m (pt_nt t m (pt_rn pt_bB t m 0)))), by rw [m96, m15]; exact pt_MR_first (by omega) (by omega) y26_, fun f B e => Or.inr ⟨hz, by rw [pq] at e; exact e⟩⟩) (fun k n0 n1 n2 n3 n4 n5 n6 n7 n8 => (rk330 k n0 n1 n2 n3 n4 n5 n6 n7 n8)) (by show (h315 90 8) = 0 ∧ 0 ≤ (h315 90 7) ∧ (h315 90 7) ≤ N ∧ 0 ≤ (h315 90 13) ∧ (h315 90 13) ≤ (h315 90 7) ∧ (h315 90 22) = (h 90 22); omega) (by show N - (h315 90 7) < _; omega)

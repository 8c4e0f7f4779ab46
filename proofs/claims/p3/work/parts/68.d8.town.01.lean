abbrev P_fMo_town_90 (F : ov_H × ov_Z) (z : ov_Z) (h : ov_H) (t : Int → Int) (m : Int) : Option ov_V → ov_Z → ov_H → Prop := fun r0 z' h' => ∃ r : Int, r0 = some (ov_i r) ∧ ov_N F z' h' ∧ (∀ a : Int, a ≠ 90 ∧ (a < 92 ∨ 94 < a) ∧ (a < 96 ∨ 100 < a) ∧ (a < 103 ∨ 104 < a) → h' a = h a) ∧ (∀ k : Int, k ≠ 0 → k ≠ 2 → k ≠ 3 → k ≠ 7 → k ≠ 8 → k ≠ 13 → k ≠ 15 → k ≠ 20 → k ≠ 22 → (h' 90) k = (h 90) k) ∧ ((∃ B : Int → Int, (0 ≤ r ∧ r ≤ 16005) ∧ (pt_ET t m r B)))
set_option maxHeartbeats 4000000 in
theorem c_fMo_town_90 {u : ov_U} {F : ov_H × ov_Z} (t : Int → Int) (m : Int) {z : ov_Z} {h : ov_H} (d : Nat) (hd : 42 ≤ d) (U : ov_cap u) (I : ov_N F z h) (p0 : (h 90 2) = m) (p1 : 0 ≤ m ∧ m ≤ 1000) (p2 : 0 ≤ ov_bd F) (e91 : (h 91) = t) (wd : pt_WD (h 95)) : ov_T u d ov_m205 [ov_r 90] z h (P_fMo_town_90 F z h t m) := by
  refine ov_en rfl (Nat.le_of_ble_eq_true rfl) ?_
  show ov_R u d ov_m205 0 [(0, ov_r 90)] [] z h (P_fMo_town_90 F z h t m)
  refine ov_blk (ls2 := [(0, ov_r 90)]) (st2 := [ov_i 0, ov_r 90]) (pc2 := 2) b_205_0_2 rfl rfl ?_
  refine ov_putf (x := 0) d_205_2 fl_Mo_1 (zb_90 I) (zs_90 I) rfl nk_0 rfl ?_
  have I1 := up_90_0 (x := 0) I (by omega)
  show ov_R u d ov_m205 5 [(0, ov_r 90)] [] z (ov_up h 90 0 0) (P_fMo_town_90 F z h t m)
  refine ov_blk (ls2 := [(0, ov_r 90)]) (st2 := [ov_r 90]) (pc2 := 6) b_205_5_1 rfl rfl ?_
  refine ov_cV (as := []) (st := []) (d2 := d - 1) d_205_6 lk_Mo_205 rfl (Nat.le_of_ble_eq_true rfl) (c := 1) (zb_90 I1) (zs_90 I1) ⟨by decide, rfl⟩ (by omega) (c_fMo_cutAll_90 t m (d - 1) (by omega) U I1 (by show (h 90 2) = m; omega) (by show 0 ≤ m ∧ m ≤ 1000; omega) e91) ?_
  rintro _ z2 h3 ⟨rfl, I4, y5, f6, y7, y8⟩
  have E9 : h3 91 = h 91 := Eq.trans (y5 91 (by decide)) (show (ov_up h 90 0 0) 91 = h 91 from rfl)
  have E10 : h3 95 = h 95 := Eq.trans (y5 95 (by decide)) (show (ov_up h 90 0 0) 95 = h 95 from rfl)
  have E11 : h3 96 = h 96 := Eq.trans (y5 96 (by decide)) (show (ov_up h 90 0 0) 96 = h 96 from rfl)
  have E12 : h3 99 = h 99 := Eq.trans (y5 99 (by decide)) (show (ov_up h 90 0 0) 99 = h 99 from rfl)
  have fr13 : ∀ a : Int, a ≠ 90 ∧ (a < 92 ∨ 94 < a) ∧ (a < 96 ∨ 100 < a) ∧ (a < 103 ∨ 104 < a) → h3 a = h a := fun a ca => Eq.trans (y5 a (by omega)) (Eq.trans (by show (ov_up h 90 0 0) a = h a; rw [ov_up_ne (by omega)]) rfl)
  have f15 : (h3 90 2) = 0 ∧ (h3 90 3) = m ∧ (h3 90 7) = 0 ∧ (h3 90 8) = 0 := f6
  clear f6
  have y7_ : ∃ N : Int, pt_MT t m (h3 92) (h3 93) (h3 94) N := y7
  have y8_ : ∀ k : Int, k ≠ 2 → k ≠ 3 → k ≠ 7 → k ≠ 8 → (h3 90) k = ((ov_up h 90 0 0) 90) k := y8
  have rk14 : ∀ k : Int, k ≠ 0 → k ≠ 2 → k ≠ 3 → k ≠ 7 → k ≠ 8 → k ≠ 13 → k ≠ 15 → k ≠ 20 → k ≠ 22 → h3 90 k = h 90 k := fun k n0 n1 n2 n3 n4 n5 n6 n7 n8 => Eq.trans (y8_ k n1 n2 n3 n4) (Eq.trans (by show (ov_up h 90 0 0) 90 k = h 90 k; rw [ov_up_j n0]) rfl)
  have g16 : h3 90 13 = (h 90 13) := y8_ 13 (by decide) (by decide) (by decide) (by decide)
  have g17 : h3 90 15 = (h 90 15) := y8_ 15 (by decide) (by decide) (by decide) (by decide)
  show ov_R u d ov_m205 9 [(0, ov_r 90)] [] z2 h3 (P_fMo_town_90 F z h t m)
  obtain ⟨N, mt⟩ := y7_
  have pz := pt_MT_0 mt
  have mN := mt.1.2.1
  have mN0 := mt.1.1
  have zp : h3 93 (h3 90 7) = (pt_rn pt_bB t m 0) := by rw [show h3 90 7 = 0 by omega]; exact pz
  have nb0 := pt_rn_b (P := pt_bB) (t := t) (n := m) (p := 0)
  refine ov_blk (ls2 := [(0, ov_r 90)]) (st2 := [ov_i 0, ov_r 90]) (pc2 := 11) b_205_9_2 rfl rfl ?_
  refine ov_putf (x := 0) d_205_11 fl_Mo_208 (zb_90 I4) (zs_90 I4) rfl nk_0 rfl ?_
  have I18 := up_90_13 (x := 0) I4 (by omega)
  show ov_R u d ov_m205 14 [(0, ov_r 90)] [] z2 (ov_up h3 90 13 0) (P_fMo_town_90 F z h t m)
  refine ov_blk (ls2 := [(0, ov_r 90)]) (st2 := [ov_i 0, ov_r 90]) (pc2 := 16) b_205_14_2 rfl rfl ?_
  refine ov_putf (x := 0) d_205_16 fl_Mo_211 (zb_90 I18) (zs_90 I18) rfl nk_0 rfl ?_
  have I19 := up_90_15 (x := 0) I18 (by omega)
  show ov_R u d ov_m205 19 [(0, ov_r 90)] [] z2 (ov_up (ov_up h3 90 13 0) 90 15 0) (P_fMo_town_90 F z h t m)
  refine ov_blk (ls2 := [(0, ov_r 90)]) (st2 := [ov_i 340, ov_r 90]) (pc2 := 23) b_205_19_2 rfl rfl ?_
  refine ov_cV (as := [ov_i 340]) (st := []) (d2 := d - 1) d_205_23 lk_Mo_147 rfl (Nat.le_of_ble_eq_true rfl) (c := 1) (zb_90 I19) (zs_90 I19) ⟨by decide, rfl⟩ (by omega) (c_fMo_standsAsAlways_90 (d - 1) (by omega) U I19 340 (by omega) (by show (340 : Int) = 340; omega)) ?_
  rintro _ z20 h21 ⟨rfl, I22, y23, y24⟩
  have E25 : h21 91 = h 91 := Eq.trans (y23 91 (by decide)) (show (ov_up (ov_up h3 90 13 0) 90 15 0) 91 = h 91 from E9)
  have E26 : h21 92 = h3 92 := Eq.trans (y23 92 (by decide)) (show (ov_up (ov_up h3 90 13 0) 90 15 0) 92 = h3 92 from rfl)
  have E27 : h21 93 = h3 93 := Eq.trans (y23 93 (by decide)) (show (ov_up (ov_up h3 90 13 0) 90 15 0) 93 = h3 93 from rfl)
  have E28 : h21 94 = h3 94 := Eq.trans (y23 94 (by decide)) (show (ov_up (ov_up h3 90 13 0) 90 15 0) 94 = h3 94 from rfl)
  have E29 : h21 95 = h 95 := Eq.trans (y23 95 (by decide)) (show (ov_up (ov_up h3 90 13 0) 90 15 0) 95 = h 95 from E10)
  have E30 : h21 99 = h 99 := Eq.trans (y23 99 (by decide)) (show (ov_up (ov_up h3 90 13 0) 90 15 0) 99 = h 99 from E12)
  have fr31 : ∀ a : Int, a ≠ 90 ∧ (a < 92 ∨ 94 < a) ∧ (a < 96 ∨ 100 < a) ∧ (a < 103 ∨ 104 < a) → h21 a = h a := fun a ca => Eq.trans (y23 a (by omega)) (Eq.trans (by show (ov_up (ov_up h3 90 13 0) 90 15 0) a = h3 a; rw [ov_up_ne (by omega), ov_up_ne (by omega)]) (fr13 a ca))
  have rk32 : ∀ k : Int, k ≠ 0 → k ≠ 2 → k ≠ 3 → k ≠ 7 → k ≠ 8 → k ≠ 13 → k ≠ 15 → k ≠ 20 → k ≠ 22 → h21 90 k = h 90 k := fun k n0 n1 n2 n3 n4 n5 n6 n7 n8 => Eq.trans (congrFun (y23 90 (by decide)) k) (Eq.trans (by show (ov_up (ov_up h3 90 13 0) 90 15 0) 90 k = h3 90 k; rw [ov_up_j n6, ov_up_j n5]) (rk14 k n0 n1 n2 n3 n4 n5 n6 n7 n8))
  have g33 : h21 90 2 = (h3 90 2) := congrFun (y23 90 (by decide)) 2
  have g34 : h21 90 3 = (h3 90 3) := congrFun (y23 90 (by decide)) 3
  have g35 : h21 90 7 = (h3 90 7) := congrFun (y23 90 (by decide)) 7
  have g36 : h21 90 8 = (h3 90 8) := congrFun (y23 90 (by decide)) 8
  have g37 : h21 90 13 = 0 := congrFun (y23 90 (by decide)) 13
  have g38 : h21 90 15 = 0 := congrFun (y23 90 (by decide)) 15
  have y24_ : ∀ j : Int, 0 ≤ j → j < 340 → (h21 96) (340 + j) = pt_A0 0 0 j := y24
  show ov_R u d ov_m205 26 [(0, ov_r 90)] [] z20 h21 (P_fMo_town_90 F z h t m)
  have zp2 : h3 93 (h21 90 7) = (pt_rn pt_bB t m 0) := by rw [show h21 90 7 = 0 by omega]; exact pz
  refine ov_blk (ls2 := [(0, ov_r 90)]) (st2 := [ov_i 0, ov_r 90]) (pc2 := 28) b_205_26_2 rfl rfl ?_
  have cf39 : h21 93 ((h21 90 7)) = h3 93 ((h21 90 7)) := congrFun E27 ((h21 90 7))
  refine ov_cV (as := [ov_i 0]) (st := []) (d2 := d - 1) d_205_28 lk_Mo_195 rfl (Nat.le_of_ble_eq_true rfl) (c := 1) (zb_90 I22) (zs_90 I22) ⟨by decide, rfl⟩ (by omega) (c_fMo_takeWord_90 t m N (pt_rn pt_bB t m 0) 1953462126 (d - 1) (by omega) U I22 0 (by omega) (by show 0 ≤ (h21 90 7) ∧ (h21 90 7) ≤ N; omega) (by show (h21 93 ((h21 90 7))) = (pt_rn pt_bB t m 0); omega) (by show 0 ≤ (h21 90 8); omega) (by show 0 ≤ (0 : Int) ∧ (0 : Int) ≤ 21; omega) (by rw [show h21 92 = h3 92 from E26, show h21 93 = h3 93 from E27, show h21 94 = h3 94 from E28]; exact mt) (by rw [show h21 95 = h 95 from E29]; exact wd) (by decide +kernel)) ?_
  rintro _ z40 h41 ⟨rfl, I42, y43, y44, y45⟩
  have E46 : h41 91 = h 91 := Eq.trans (y43 91 (by decide)) (show h21 91 = h 91 from E25)
  have E47 : h41 92 = h3 92 := Eq.trans (y43 92 (by decide)) (show h21 92 = h3 92 from E26)
  have E48 : h41 93 = h3 93 := Eq.trans (y43 93 (by decide)) (show h21 93 = h3 93 from E27)
  have E49 : h41 94 = h3 94 := Eq.trans (y43 94 (by decide)) (show h21 94 = h3 94 from E28)
  have E50 : h41 95 = h 95 := Eq.trans (y43 95 (by decide)) (show h21 95 = h 95 from E29)
  have E51 : h41 96 = h21 96 := Eq.trans (y43 96 (by decide)) (show h21 96 = h21 96 from rfl)
  have E52 : h41 99 = h 99 := Eq.trans (y43 99 (by decide)) (show h21 99 = h 99 from E30)
  have fr53 : ∀ a : Int, a ≠ 90 ∧ (a < 92 ∨ 94 < a) ∧ (a < 96 ∨ 100 < a) ∧ (a < 103 ∨ 104 < a) → h41 a = h a := fun a ca => Eq.trans (y43 a (by omega)) (fr31 a ca)
  have y44_ : ∀ k : Int, k ≠ 7 → k ≠ 8 → (h41 90) k = (h21 90) k := y44
  have rk54 : ∀ k : Int, k ≠ 0 → k ≠ 2 → k ≠ 3 → k ≠ 7 → k ≠ 8 → k ≠ 13 → k ≠ 15 → k ≠ 20 → k ≠ 22 → h41 90 k = h 90 k := fun k n0 n1 n2 n3 n4 n5 n6 n7 n8 => Eq.trans (y44_ k n3 n4) (rk32 k n0 n1 n2 n3 n4 n5 n6 n7 n8)
  have g55 : h41 90 2 = (h21 90 2) := y44_ 2 (by decide) (by decide)
  have g56 : h41 90 3 = (h21 90 3) := y44_ 3 (by decide) (by decide)
  have g57 : h41 90 13 = (h21 90 13) := y44_ 13 (by decide) (by decide)
  have g58 : h41 90 15 = (h21 90 15) := y44_ 15 (by decide) (by decide)
  rcases y45 with f59 | f60 | f61
  · omega
  · skip
    show ov_R u d ov_m205 31 [(0, ov_r 90)] [] z40 h41 (P_fMo_town_90 F z h t m)
    have f62 : (h21 90 8) = 0 ∧ pt_iw t m (pt_rn pt_bB t m 0) (1953462126 : Int) = 0 ∧ (h41 90 8) = 1 + 16 * (pt_rn pt_bB t m 0) ∧ 1 ≤ (h41 90 8) ∧ (h41 90 7) = (h21 90 7) ∧ (h41 93 ((h41 90 7))) = (pt_rn pt_bB t m 0) := f60
    clear f60
    refine ov_blk (ls2 := [(0, ov_r 90)]) (st2 := [ov_r 90]) (pc2 := 32) b_205_31_1 rfl rfl ?_
    refine ov_getf (v := ov_r 96) d_205_32 fl_Mo_81 (zb_90 I42) (zs_90 I42) (congrArg ov_r (rg_90_10 I42)) ?_
    refine ov_blk (ls2 := [(0, ov_r 90)]) (st2 := [ov_i 6, ov_i 1, ov_r 90, ov_i 340, ov_r 96]) (pc2 := 42) b_205_35_4 rfl rfl ?_
    have cf63 : h41 93 ((h41 90 7)) = h3 93 ((h41 90 7)) := congrFun E48 ((h41 90 7))
    refine ov_cV (as := [ov_i 1, ov_i 6]) (st := [ov_i 340, ov_r 96]) (d2 := d - 1) d_205_42 lk_Mo_198 rfl (Nat.le_of_ble_eq_true rfl) (c := 1) (zb_90 I42) (zs_90 I42) ⟨by decide, rfl⟩ (by omega) (c_fMo_takeNumber_90 t m N (pt_rn pt_bB t m 0) (d - 1) (by omega) U I42 1 6 (by omega) (by omega) (by show 0 ≤ (h41 90 7) ∧ (h41 90 7) ≤ N; omega) (by show (h41 93 ((h41 90 7))) = (pt_rn pt_bB t m 0); omega) (by show 0 ≤ (h41 90 8); omega) (by rw [show h41 92 = h3 92 from E47, show h41 93 = h3 93 from E48, show h41 94 = h3 94 from E49]; exact mt)) ?_
    rintro _ z65 h66 ⟨v64, rfl, I67, y68, y69, y70⟩
    have E71 : h66 91 = h 91 := Eq.trans (y68 91 (by decide)) (show h41 91 = h 91 from E46)
    have E72 : h66 92 = h3 92 := Eq.trans (y68 92 (by decide)) (show h41 92 = h3 92 from E47)
    have E73 : h66 93 = h3 93 := Eq.trans (y68 93 (by decide)) (show h41 93 = h3 93 from E48)
    have E74 : h66 94 = h3 94 := Eq.trans (y68 94 (by decide)) (show h41 94 = h3 94 from E49)
    have E75 : h66 95 = h 95 := Eq.trans (y68 95 (by decide)) (show h41 95 = h 95 from E50)
    have E76 : h66 96 = h21 96 := Eq.trans (y68 96 (by decide)) (show h41 96 = h21 96 from E51)
    have E77 : h66 99 = h 99 := Eq.trans (y68 99 (by decide)) (show h41 99 = h 99 from E52)
    have fr78 : ∀ a : Int, a ≠ 90 ∧ (a < 92 ∨ 94 < a) ∧ (a < 96 ∨ 100 < a) ∧ (a < 103 ∨ 104 < a) → h66 a = h a := fun a ca => Eq.trans (y68 a (by omega)) (fr53 a ca)
    have y69_ : ∀ k : Int, k ≠ 7 → k ≠ 8 → (h66 90) k = (h41 90) k := y69
    have rk79 : ∀ k : Int, k ≠ 0 → k ≠ 2 → k ≠ 3 → k ≠ 7 → k ≠ 8 → k ≠ 13 → k ≠ 15 → k ≠ 20 → k ≠ 22 → h66 90 k = h 90 k := fun k n0 n1 n2 n3 n4 n5 n6 n7 n8 => Eq.trans (y69_ k n3 n4) (rk54 k n0 n1 n2 n3 n4 n5 n6 n7 n8)
    have g80 : h66 90 2 = (h41 90 2) := y69_ 2 (by decide) (by decide)
    have g81 : h66 90 3 = (h41 90 3) := y69_ 3 (by decide) (by decide)
    have g82 : h66 90 13 = (h41 90 13) := y69_ 13 (by decide) (by decide)
    have g83 : h66 90 15 = (h41 90 15) := y69_ 15 (by decide) (by decide)
    rcases y70 with f84 | f85 | f86
    · skip
      show ov_R u d ov_m205 45 [(0, ov_r 90)] [ov_i v64, ov_i 340, ov_r 96] z65 h66 (P_fMo_town_90 F z h t m)
      have f87 : v64 = 0 ∧ (h41 90 8) ≠ 0 ∧ (h66 90 8) = (h41 90 8) ∧ (h66 90 7) = (h41 90 7) ∧ (h66 93 ((h66 90 7))) = (pt_rn pt_bB t m 0) := f84
      clear f84
      refine ov_iast d_205_45 (zb_96 I67) (zs_96 I67) (by omega) ?_
      have I88 := ua_96 (k := 340) (x := v64) I67 (by refine ⟨?_, ?_, ?_, ?_, ?_, ?_, ?_, ?_, ?_, ?_, ?_, ?_, ?_, ?_, ?_, ?_, ?_, ?_, ?_, ?_, ?_, ?_, ?_, ?_, ?_, ?_, ?_, ?_, ?_⟩ <;> omega)
      refine ov_blk (ls2 := [(0, ov_r 90)]) (st2 := [ov_r 90]) (pc2 := 47) b_205_46_1 rfl rfl ?_
      refine ov_getf (v := ov_r 96) d_205_47 fl_Mo_81 (zb_90 I88) (zs_90 I88) (congrArg ov_r (rg_90_10 I88)) ?_
      refine ov_blk (ls2 := [(0, ov_r 90)]) (st2 := [ov_i 9, ov_i 1, ov_r 90, ov_i 341, ov_r 96]) (pc2 := 57) b_205_50_4 rfl rfl ?_
      have cf89 : h66 93 ((h66 90 7)) = h3 93 ((h66 90 7)) := congrFun E73 ((h66 90 7))
      refine ov_cV (as := [ov_i 1, ov_i 9]) (st := [ov_i 341, ov_r 96]) (d2 := d - 1) d_205_57 lk_Mo_198 rfl (Nat.le_of_ble_eq_true rfl) (c := 1) (zb_90 I88) (zs_90 I88) ⟨by decide, rfl⟩ (by omega) (c_fMo_takeNumber_90 t m N (pt_rn pt_bB t m 0) (d - 1) (by omega) U I88 1 9 (by omega) (by omega) (by show 0 ≤ (h66 90 7) ∧ (h66 90 7) ≤ N; omega) (by show (h66 93 ((h66 90 7))) = (pt_rn pt_bB t m 0); omega) (by show 0 ≤ (h66 90 8); omega) (by rw [show (ov_up h66 96 340 v64) 92 = h3 92 from E72, show (ov_up h66 96 340 v64) 93 = h3 93 from E73, show (ov_up h66 96 340 v64) 94 = h3 94 from E74]; exact mt)) ?_
      rintro _ z91 h92 ⟨v90, rfl, I93, y94, y95, y96⟩
      have E97 : h92 91 = h 91 := Eq.trans (y94 91 (by decide)) (show (ov_up h66 96 340 v64) 91 = h 91 from E71)
      have E98 : h92 92 = h3 92 := Eq.trans (y94 92 (by decide)) (show (ov_up h66 96 340 v64) 92 = h3 92 from E72)
      have E99 : h92 93 = h3 93 := Eq.trans (y94 93 (by decide)) (show (ov_up h66 96 340 v64) 93 = h3 93 from E73)
      have E100 : h92 94 = h3 94 := Eq.trans (y94 94 (by decide)) (show (ov_up h66 96 340 v64) 94 = h3 94 from E74)
      have E101 : h92 95 = h 95 := Eq.trans (y94 95 (by decide)) (show (ov_up h66 96 340 v64) 95 = h 95 from E75)
      have R103 : h92 96 = (ov_rs (h21 96) 340 v64) := Eq.trans (y94 96 (by decide)) (Eq.trans (ov_up_row h66 96 340 v64) (congrArg (fun f => ov_rs f 340 v64) E76))
      have E104 : h92 99 = h 99 := Eq.trans (y94 99 (by decide)) (show (ov_up h66 96 340 v64) 99 = h 99 from E77)
      have fr105 : ∀ a : Int, a ≠ 90 ∧ (a < 92 ∨ 94 < a) ∧ (a < 96 ∨ 100 < a) ∧ (a < 103 ∨ 104 < a) → h92 a = h a := fun a ca => Eq.trans (y94 a (by omega)) (Eq.trans (by show (ov_up h66 96 340 v64) a = h66 a; rw [ov_up_ne (by omega)]) (fr78 a ca))
      have y95_ : ∀ k : Int, k ≠ 7 → k ≠ 8 → (h92 90) k = (h66 90) k := y95
      have rk106 : ∀ k : Int, k ≠ 0 → k ≠ 2 → k ≠ 3 → k ≠ 7 → k ≠ 8 → k ≠ 13 → k ≠ 15 → k ≠ 20 → k ≠ 22 → h92 90 k = h 90 k := fun k n0 n1 n2 n3 n4 n5 n6 n7 n8 => Eq.trans (y95_ k n3 n4) (Eq.trans (by show (ov_up h66 96 340 v64) 90 k = h66 90 k; rw [ov_up_ne (by decide)]) (rk79 k n0 n1 n2 n3 n4 n5 n6 n7 n8))
      have g107 : h92 90 2 = (h66 90 2) := y95_ 2 (by decide) (by decide)
      have g108 : h92 90 3 = (h66 90 3) := y95_ 3 (by decide) (by decide)
      have g109 : h92 90 13 = (h66 90 13) := y95_ 13 (by decide) (by decide)
      have g110 : h92 90 15 = (h66 90 15) := y95_ 15 (by decide) (by decide)
      rcases y96 with f111 | f112 | f113
      · skip
        show ov_R u d ov_m205 60 [(0, ov_r 90)] [ov_i v90, ov_i 341, ov_r 96] z91 h92 (P_fMo_town_90 F z h t m)
        have f114 : v90 = 0 ∧ (h66 90 8) ≠ 0 ∧ (h92 90 8) = (h66 90 8) ∧ (h92 90 7) = (h66 90 7) ∧ (h92 93 ((h92 90 7))) = (pt_rn pt_bB t m 0) := f111
        clear f111
        refine ov_iast d_205_60 (zb_96 I93) (zs_96 I93) (by omega) ?_
        have I115 := ua_96 (k := 341) (x := v90) I93 (by refine ⟨?_, ?_, ?_, ?_, ?_, ?_, ?_, ?_, ?_, ?_, ?_, ?_, ?_, ?_, ?_, ?_, ?_, ?_, ?_, ?_, ?_, ?_, ?_, ?_, ?_, ?_, ?_, ?_, ?_⟩ <;> omega)
        refine ov_blk (ls2 := [(0, ov_r 90)]) (st2 := [ov_i 59, ov_r 90]) (pc2 := 64) b_205_61_2 rfl rfl ?_
        have cf116 : h92 93 ((h92 90 7)) = h3 93 ((h92 90 7)) := congrFun E99 ((h92 90 7))
        refine ov_cV (as := [ov_i 59]) (st := []) (d2 := d - 1) d_205_64 lk_Mo_214 rfl (Nat.le_of_ble_eq_true rfl) (c := 1) (zb_90 I115) (zs_90 I115) ⟨by decide, rfl⟩ (by omega) (c_fMo_takeSign_90 t m N (pt_rn pt_bB t m 0) (d - 1) (by omega) U I115 59 (by omega) (by show 0 ≤ (h92 90 7) ∧ (h92 90 7) ≤ N; omega) (by show (h92 93 ((h92 90 7))) = (pt_rn pt_bB t m 0); omega) (by show 0 ≤ (h92 90 8); omega) (by show 0 ≤ (59 : Int) ∧ (59 : Int) ≤ 65535; omega) (by rw [show (ov_up h92 96 341 v90) 92 = h3 92 from E98, show (ov_up h92 96 341 v90) 93 = h3 93 from E99, show (ov_up h92 96 341 v90) 94 = h3 94 from E100]; exact mt)) ?_
        rintro _ z117 h118 ⟨rfl, I119, y120, y121, y122⟩
        have E123 : h118 91 = h 91 := Eq.trans (y120 91 (by decide)) (show (ov_up h92 96 341 v90) 91 = h 91 from E97)
        have E124 : h118 92 = h3 92 := Eq.trans (y120 92 (by decide)) (show (ov_up h92 96 341 v90) 92 = h3 92 from E98)
        have E125 : h118 93 = h3 93 := Eq.trans (y120 93 (by decide)) (show (ov_up h92 96 341 v90) 93 = h3 93 from E99)
        have E126 : h118 94 = h3 94 := Eq.trans (y120 94 (by decide)) (show (ov_up h92 96 341 v90) 94 = h3 94 from E100)
        have E127 : h118 95 = h 95 := Eq.trans (y120 95 (by decide)) (show (ov_up h92 96 341 v90) 95 = h 95 from E101)
        have R129 : h118 96 = (ov_rs (ov_rs (h21 96) 340 v64) 341 v90) := Eq.trans (y120 96 (by decide)) (Eq.trans (ov_up_row h92 96 341 v90) (congrArg (fun f => ov_rs f 341 v90) R103))
        have E130 : h118 99 = h 99 := Eq.trans (y120 99 (by decide)) (show (ov_up h92 96 341 v90) 99 = h 99 from E104)
        have fr131 : ∀ a : Int, a ≠ 90 ∧ (a < 92 ∨ 94 < a) ∧ (a < 96 ∨ 100 < a) ∧ (a < 103 ∨ 104 < a) → h118 a = h a := fun a ca => Eq.trans (y120 a (by omega)) (Eq.trans (by show (ov_up h92 96 341 v90) a = h92 a; rw [ov_up_ne (by omega)]) (fr105 a ca))
        have y121_ : ∀ k : Int, k ≠ 7 → k ≠ 8 → (h118 90) k = (h92 90) k := y121
        have rk132 : ∀ k : Int, k ≠ 0 → k ≠ 2 → k ≠ 3 → k ≠ 7 → k ≠ 8 → k ≠ 13 → k ≠ 15 → k ≠ 20 → k ≠ 22 → h118 90 k = h 90 k := fun k n0 n1 n2 n3 n4 n5 n6 n7 n8 => Eq.trans (y121_ k n3 n4) (Eq.trans (by show (ov_up h92 96 341 v90) 90 k = h92 90 k; rw [ov_up_ne (by decide)]) (rk106 k n0 n1 n2 n3 n4 n5 n6 n7 n8))
        have g133 : h118 90 2 = (h92 90 2) := y121_ 2 (by decide) (by decide)
        have g134 : h118 90 3 = (h92 90 3) := y121_ 3 (by decide) (by decide)
        have g135 : h118 90 13 = (h92 90 13) := y121_ 13 (by decide) (by decide)
        have g136 : h118 90 15 = (h92 90 15) := y121_ 15 (by decide) (by decide)
        rcases y122 with f137 | f138 | f139
        · skip
          show ov_R u d ov_m205 67 [(0, ov_r 90)] [] z117 h118 (P_fMo_town_90 F z h t m)
          have f140 : (h92 90 8) ≠ 0 ∧ (h118 90 8) = (h92 90 8) ∧ (h118 90 7) = (h92 90 7) ∧ (h118 93 ((h118 90 7))) = (pt_rn pt_bB t m 0) := f137
          clear f137
          refine ov_blk (ls2 := [(0, ov_r 90)]) (st2 := [ov_r 90]) (pc2 := 68) b_205_67_1 rfl rfl ?_
          refine ov_getf (v := ov_i (h118 90 8)) d_205_68 fl_Mo_180 (zb_90 I119) (zs_90 I119) rfl ?_
          have g141 := rg_90_8 I119
          refine ov_ifne (tgt := 99) d_205_71 (by decide) (by omega) (fun c142 => ?_) (fun c142 => ?_)
          · skip
            refine ov_blk (ls2 := [(0, ov_r 90)]) (st2 := [ov_r 90]) (pc2 := 100) b_205_99_1 rfl rfl ?_
            refine ov_getf (v := ov_i (h118 90 8)) d_205_100 fl_Mo_180 (zb_90 I119) (zs_90 I119) rfl ?_
            refine ov_ifle (tgt := 111) d_205_103 (by decide) (by omega) (fun c144 => ?_) (fun c144 => ?_)
            · omega
            · skip
              refine ov_blk (ls2 := [(0, ov_r 90)]) (st2 := [ov_r 90]) (pc2 := 107) b_205_106_1 rfl rfl ?_
              refine ov_getf (v := ov_i (h118 90 8)) d_205_107 fl_Mo_180 (zb_90 I119) (zs_90 I119) rfl ?_
              have hz : (pt_szF t m (pt_rn pt_bB t m 0)) = (h118 90 8) := by unfold pt_szF pt_fW pt_fS; (repeat' split) <;> omega
              exact ov_reti (st := []) d_205_110 rfl ⟨_, rfl, I119, (fun a ca => (fr131 a ca)), (fun k n0 n1 n2 n3 n4 n5 n6 n7 n8 => (rk132 k n0 n1 n2 n3 n4 n5 n6 n7 n8)), ⟨(fun _ => 0), (by show 0 ≤ (h118 90 8) ∧ (h118 90 8) ≤ 16005; omega), (Or.inl ⟨by omega, hz.symm⟩)⟩⟩
          · omega
        · have q9 : (h92 90 8) = 0 ∧ pt_is t m (pt_rn pt_bB t m 0) (59 : Int) = 0 ∧ (h118 90 8) = 1 + 16 * (pt_rn pt_bB t m 0) ∧ 1 ≤ (h118 90 8) ∧ (h118 90 7) = (h92 90 7) ∧ (h118 93 ((h118 90 7))) = (pt_rn pt_bB t m 0) := f138
          omega
        · have q9 : (h92 90 8) = 0 ∧ pt_is t m (pt_rn pt_bB t m 0) (59 : Int) = 1 ∧ (h118 90 8) = 0 ∧ (h118 90 7) = (h92 90 7) + 1 ∧ (h118 90 7) ≤ N ∧ (h118 93 ((h118 90 7))) = pt_nt t m (pt_rn pt_bB t m 0) := f139
          omega
      · have q9 : v90 = 0 ∧ (h66 90 8) = 0 ∧ (h92 90 8) = pt_fN t m (1 : Int) (9 : Int) (pt_rn pt_bB t m 0) ∧ 1 ≤ (h92 90 8) ∧ (h92 90 7) = (h66 90 7) ∧ (h92 93 ((h92 90 7))) = (pt_rn pt_bB t m 0) := f112
        omega
      · have q9 : (h66 90 8) = 0 ∧ (h92 90 8) = 0 ∧ pt_fN t m (1 : Int) (9 : Int) (pt_rn pt_bB t m 0) = 0 ∧ pt_ty t m (pt_rn pt_bB t m 0) = 3 ∧ (1 : Int) ≤ v90 ∧ v90 ≤ (9 : Int) ∧ v90 = pt_nm t m (pt_rn pt_bB t m 0) ∧ 0 ≤ v90 ∧ v90 ≤ 9999 ∧ (h92 90 7) = (h66 90 7) + 1 ∧ (h92 90 7) ≤ N ∧ (h92 93 ((h92 90 7))) = pt_nt t m (pt_rn pt_bB t m 0) := f113
        omega
    · omega
    · omega
  · skip
    show ov_R u d ov_m205 31 [(0, ov_r 90)] [] z40 h41 (P_fMo_town_90 F z h t m)
    have f146 : (h21 90 8) = 0 ∧ pt_iw t m (pt_rn pt_bB t m 0) (1953462126 : Int) = 1 ∧ (h41 90 8) = 0 ∧ (h41 90 7) = (h21 90 7) + 1 ∧ (h41 90 7) ≤ N ∧ (h41 93 ((h41 90 7))) = pt_nt t m (pt_rn pt_bB t m 0) := f61
    clear f61
    refine ov_blk (ls2 := [(0, ov_r 90)]) (st2 := [ov_r 90]) (pc2 := 32) b_205_31_1 rfl rfl ?_
    refine ov_getf (v := ov_r 96) d_205_32 fl_Mo_81 (zb_90 I42) (zs_90 I42) (congrArg ov_r (rg_90_10 I42)) ?_
    refine ov_blk (ls2 := [(0, ov_r 90)]) (st2 := [ov_i 6, ov_i 1, ov_r 90, ov_i 340, ov_r 96]) (pc2 := 42) b_205_35_4 rfl rfl ?_
    have cf147 : h41 93 ((h41 90 7)) = h3 93 ((h41 90 7)) := congrFun E48 ((h41 90 7))
    refine ov_cV (as := [ov_i 1, ov_i 6]) (st := [ov_i 340, ov_r 96]) (d2 := d - 1) d_205_42 lk_Mo_198 rfl (Nat.le_of_ble_eq_true rfl) (c := 1) (zb_90 I42) (zs_90 I42) ⟨by decide, rfl⟩ (by omega) (c_fMo_takeNumber_90 t m N (pt_nt t m (pt_rn pt_bB t m 0)) (d - 1) (by omega) U I42 1 6 (by omega) (by omega) (by show 0 ≤ (h41 90 7) ∧ (h41 90 7) ≤ N; omega) (by show (h41 93 ((h41 90 7))) = (pt_nt t m (pt_rn pt_bB t m 0)); omega) (by show 0 ≤ (h41 90 8); omega) (by rw [show h41 92 = h3 92 from E47, show h41 93 = h3 93 from E48, show h41 94 = h3 94 from E49]; exact mt)) ?_
    rintro _ z149 h150 ⟨v148, rfl, I151, y152, y153, y154⟩
    have E155 : h150 91 = h 91 := Eq.trans (y152 91 (by decide)) (show h41 91 = h 91 from E46)
    have E156 : h150 92 = h3 92 := Eq.trans (y152 92 (by decide)) (show h41 92 = h3 92 from E47)
    have E157 : h150 93 = h3 93 := Eq.trans (y152 93 (by decide)) (show h41 93 = h3 93 from E48)
    have E158 : h150 94 = h3 94 := Eq.trans (y152 94 (by decide)) (show h41 94 = h3 94 from E49)
    have E159 : h150 95 = h 95 := Eq.trans (y152 95 (by decide)) (show h41 95 = h 95 from E50)
    have E160 : h150 96 = h21 96 := Eq.trans (y152 96 (by decide)) (show h41 96 = h21 96 from E51)
    have E161 : h150 99 = h 99 := Eq.trans (y152 99 (by decide)) (show h41 99 = h 99 from E52)
    have fr162 : ∀ a : Int, a ≠ 90 ∧ (a < 92 ∨ 94 < a) ∧ (a < 96 ∨ 100 < a) ∧ (a < 103 ∨ 104 < a) → h150 a = h a := fun a ca => Eq.trans (y152 a (by omega)) (fr53 a ca)
    have y153_ : ∀ k : Int, k ≠ 7 → k ≠ 8 → (h150 90) k = (h41 90) k := y153
    have rk163 : ∀ k : Int, k ≠ 0 → k ≠ 2 → k ≠ 3 → k ≠ 7 → k ≠ 8 → k ≠ 13 → k ≠ 15 → k ≠ 20 → k ≠ 22 → h150 90 k = h 90 k := fun k n0 n1 n2 n3 n4 n5 n6 n7 n8 => Eq.trans (y153_ k n3 n4) (rk54 k n0 n1 n2 n3 n4 n5 n6 n7 n8)
    have g164 : h150 90 2 = (h41 90 2) := y153_ 2 (by decide) (by decide)
    have g165 : h150 90 3 = (h41 90 3) := y153_ 3 (by decide) (by decide)
    have g166 : h150 90 13 = (h41 90 13) := y153_ 13 (by decide) (by decide)
    have g167 : h150 90 15 = (h41 90 15) := y153_ 15 (by decide) (by decide)
    rcases y154 with f168 | f169 | f170
    · omega
    · skip
      show ov_R u d ov_m205 45 [(0, ov_r 90)] [ov_i v148, ov_i 340, ov_r 96] z149 h150 (P_fMo_town_90 F z h t m)
      have f171 : v148 = 0 ∧ (h41 90 8) = 0 ∧ (h150 90 8) = pt_fN t m (1 : Int) (6 : Int) (pt_nt t m (pt_rn pt_bB t m 0)) ∧ 1 ≤ (h150 90 8) ∧ (h150 90 7) = (h41 90 7) ∧ (h150 93 ((h150 90 7))) = (pt_nt t m (pt_rn pt_bB t m 0)) := f169
      clear f169
      refine ov_iast d_205_45 (zb_96 I151) (zs_96 I151) (by omega) ?_
      have I172 := ua_96 (k := 340) (x := v148) I151 (by refine ⟨?_, ?_, ?_, ?_, ?_, ?_, ?_, ?_, ?_, ?_, ?_, ?_, ?_, ?_, ?_, ?_, ?_, ?_, ?_, ?_, ?_, ?_, ?_, ?_, ?_, ?_, ?_, ?_, ?_⟩ <;> omega)
      refine ov_blk (ls2 := [(0, ov_r 90)]) (st2 := [ov_r 90]) (pc2 := 47) b_205_46_1 rfl rfl ?_
      refine ov_getf (v := ov_r 96) d_205_47 fl_Mo_81 (zb_90 I172) (zs_90 I172) (congrArg ov_r (rg_90_10 I172)) ?_
      refine ov_blk (ls2 := [(0, ov_r 90)]) (st2 := [ov_i 9, ov_i 1, ov_r 90, ov_i 341, ov_r 96]) (pc2 := 57) b_205_50_4 rfl rfl ?_
      have cf173 : h150 93 ((h150 90 7)) = h3 93 ((h150 90 7)) := congrFun E157 ((h150 90 7))
      refine ov_cV (as := [ov_i 1, ov_i 9]) (st := [ov_i 341, ov_r 96]) (d2 := d - 1) d_205_57 lk_Mo_198 rfl (Nat.le_of_ble_eq_true rfl) (c := 1) (zb_90 I172) (zs_90 I172) ⟨by decide, rfl⟩ (by omega) (c_fMo_takeNumber_90 t m N (pt_nt t m (pt_rn pt_bB t m 0)) (d - 1) (by omega) U I172 1 9 (by omega) (by omega) (by show 0 ≤ (h150 90 7) ∧ (h150 90 7) ≤ N; omega) (by show (h150 93 ((h150 90 7))) = (pt_nt t m (pt_rn pt_bB t m 0)); omega) (by show 0 ≤ (h150 90 8); omega) (by rw [show (ov_up h150 96 340 v148) 92 = h3 92 from E156, show (ov_up h150 96 340 v148) 93 = h3 93 from E157, show (ov_up h150 96 340 v148) 94 = h3 94 from E158]; exact mt)) ?_
      rintro _ z175 h176 ⟨v174, rfl, I177, y178, y179, y180⟩
      have E181 : h176 91 = h 91 := Eq.trans (y178 91 (by decide)) (show (ov_up h150 96 340 v148) 91 = h 91 from E155)
      have E182 : h176 92 = h3 92 := Eq.trans (y178 92 (by decide)) (show (ov_up h150 96 340 v148) 92 = h3 92 from E156)
      have E183 : h176 93 = h3 93 := Eq.trans (y178 93 (by decide)) (show (ov_up h150 96 340 v148) 93 = h3 93 from E157)
      have E184 : h176 94 = h3 94 := Eq.trans (y178 94 (by decide)) (show (ov_up h150 96 340 v148) 94 = h3 94 from E158)
      have E185 : h176 95 = h 95 := Eq.trans (y178 95 (by decide)) (show (ov_up h150 96 340 v148) 95 = h 95 from E159)
      have R187 : h176 96 = (ov_rs (h21 96) 340 v148) := Eq.trans (y178 96 (by decide)) (Eq.trans (ov_up_row h150 96 340 v148) (congrArg (fun f => ov_rs f 340 v148) E160))
      have E188 : h176 99 = h 99 := Eq.trans (y178 99 (by decide)) (show (ov_up h150 96 340 v148) 99 = h 99 from E161)
      have fr189 : ∀ a : Int, a ≠ 90 ∧ (a < 92 ∨ 94 < a) ∧ (a < 96 ∨ 100 < a) ∧ (a < 103 ∨ 104 < a) → h176 a = h a := fun a ca => Eq.trans (y178 a (by omega)) (Eq.trans (by show (ov_up h150 96 340 v148) a = h150 a; rw [ov_up_ne (by omega)]) (fr162 a ca))
      have y179_ : ∀ k : Int, k ≠ 7 → k ≠ 8 → (h176 90) k = (h150 90) k := y179
      have rk190 : ∀ k : Int, k ≠ 0 → k ≠ 2 → k ≠ 3 → k ≠ 7 → k ≠ 8 → k ≠ 13 → k ≠ 15 → k ≠ 20 → k ≠ 22 → h176 90 k = h 90 k := fun k n0 n1 n2 n3 n4 n5 n6 n7 n8 => Eq.trans (y179_ k n3 n4) (Eq.trans (by show (ov_up h150 96 340 v148) 90 k = h150 90 k; rw [ov_up_ne (by decide)]) (rk163 k n0 n1 n2 n3 n4 n5 n6 n7 n8))
      have g191 : h176 90 2 = (h150 90 2) := y179_ 2 (by decide) (by decide)
      have g192 : h176 90 3 = (h150 90 3) := y179_ 3 (by decide) (by decide)
      have g193 : h176 90 13 = (h150 90 13) := y179_ 13 (by decide) (by decide)
      have g194 : h176 90 15 = (h150 90 15) := y179_ 15 (by decide) (by decide)
      rcases y180 with f195 | f196 | f197
      · skip
        show ov_R u d ov_m205 60 [(0, ov_r 90)] [ov_i v174, ov_i 341, ov_r 96] z175 h176 (P_fMo_town_90 F z h t m)
        have f198 : v174 = 0 ∧ (h150 90 8) ≠ 0 ∧ (h176 90 8) = (h150 90 8) ∧ (h176 90 7) = (h150 90 7) ∧ (h176 93 ((h176 90 7))) = (pt_nt t m (pt_rn pt_bB t m 0)) := f195
        clear f195
        refine ov_iast d_205_60 (zb_96 I177) (zs_96 I177) (by omega) ?_
        have I199 := ua_96 (k := 341) (x := v174) I177 (by refine ⟨?_, ?_, ?_, ?_, ?_, ?_, ?_, ?_, ?_, ?_, ?_, ?_, ?_, ?_, ?_, ?_, ?_, ?_, ?_, ?_, ?_, ?_, ?_, ?_, ?_, ?_, ?_, ?_, ?_⟩ <;> omega)
        refine ov_blk (ls2 := [(0, ov_r 90)]) (st2 := [ov_i 59, ov_r 90]) (pc2 := 64) b_205_61_2 rfl rfl ?_
        have cf200 : h176 93 ((h176 90 7)) = h3 93 ((h176 90 7)) := congrFun E183 ((h176 90 7))
        refine ov_cV (as := [ov_i 59]) (st := []) (d2 := d - 1) d_205_64 lk_Mo_214 rfl (Nat.le_of_ble_eq_true rfl) (c := 1) (zb_90 I199) (zs_90 I199) ⟨by decide, rfl⟩ (by omega) (c_fMo_takeSign_90 t m N (pt_nt t m (pt_rn pt_bB t m 0)) (d - 1) (by omega) U I199 59 (by omega) (by show 0 ≤ (h176 90 7) ∧ (h176 90 7) ≤ N; omega) (by show (h176 93 ((h176 90 7))) = (pt_nt t m (pt_rn pt_bB t m 0)); omega) (by show 0 ≤ (h176 90 8); omega) (by show 0 ≤ (59 : Int) ∧ (59 : Int) ≤ 65535; omega) (by rw [show (ov_up h176 96 341 v174) 92 = h3 92 from E182, show (ov_up h176 96 341 v174) 93 = h3 93 from E183, show (ov_up h176 96 341 v174) 94 = h3 94 from E184]; exact mt)) ?_
        rintro _ z201 h202 ⟨rfl, I203, y204, y205, y206⟩
        have E207 : h202 91 = h 91 := Eq.trans (y204 91 (by decide)) (show (ov_up h176 96 341 v174) 91 = h 91 from E181)
        have E208 : h202 92 = h3 92 := Eq.trans (y204 92 (by decide)) (show (ov_up h176 96 341 v174) 92 = h3 92 from E182)
        have E209 : h202 93 = h3 93 := Eq.trans (y204 93 (by decide)) (show (ov_up h176 96 341 v174) 93 = h3 93 from E183)
        have E210 : h202 94 = h3 94 := Eq.trans (y204 94 (by decide)) (show (ov_up h176 96 341 v174) 94 = h3 94 from E184)
        have E211 : h202 95 = h 95 := Eq.trans (y204 95 (by decide)) (show (ov_up h176 96 341 v174) 95 = h 95 from E185)
        have R213 : h202 96 = (ov_rs (ov_rs (h21 96) 340 v148) 341 v174) := Eq.trans (y204 96 (by decide)) (Eq.trans (ov_up_row h176 96 341 v174) (congrArg (fun f => ov_rs f 341 v174) R187))
        have E214 : h202 99 = h 99 := Eq.trans (y204 99 (by decide)) (show (ov_up h176 96 341 v174) 99 = h 99 from E188)
        have fr215 : ∀ a : Int, a ≠ 90 ∧ (a < 92 ∨ 94 < a) ∧ (a < 96 ∨ 100 < a) ∧ (a < 103 ∨ 104 < a) → h202 a = h a := fun a ca => Eq.trans (y204 a (by omega)) (Eq.trans (by show (ov_up h176 96 341 v174) a = h176 a; rw [ov_up_ne (by omega)]) (fr189 a ca))
        have y205_ : ∀ k : Int, k ≠ 7 → k ≠ 8 → (h202 90) k = (h176 90) k := y205
        have rk216 : ∀ k : Int, k ≠ 0 → k ≠ 2 → k ≠ 3 → k ≠ 7 → k ≠ 8 → k ≠ 13 → k ≠ 15 → k ≠ 20 → k ≠ 22 → h202 90 k = h 90 k := fun k n0 n1 n2 n3 n4 n5 n6 n7 n8 => Eq.trans (y205_ k n3 n4) (Eq.trans (by show (ov_up h176 96 341 v174) 90 k = h176 90 k; rw [ov_up_ne (by decide)]) (rk190 k n0 n1 n2 n3 n4 n5 n6 n7 n8))
        have g217 : h202 90 2 = (h176 90 2) := y205_ 2 (by decide) (by decide)
        have g218 : h202 90 3 = (h176 90 3) := y205_ 3 (by decide) (by decide)
        have g219 : h202 90 13 = (h176 90 13) := y205_ 13 (by decide) (by decide)
        have g220 : h202 90 15 = (h176 90 15) := y205_ 15 (by decide) (by decide)
        rcases y206 with f221 | f222 | f223
        · skip
          show ov_R u d ov_m205 67 [(0, ov_r 90)] [] z201 h202 (P_fMo_town_90 F z h t m)
          have f224 : (h176 90 8) ≠ 0 ∧ (h202 90 8) = (h176 90 8) ∧ (h202 90 7) = (h176 90 7) ∧ (h202 93 ((h202 90 7))) = (pt_nt t m (pt_rn pt_bB t m 0)) := f221
          clear f221
          refine ov_blk (ls2 := [(0, ov_r 90)]) (st2 := [ov_r 90]) (pc2 := 68) b_205_67_1 rfl rfl ?_
          refine ov_getf (v := ov_i (h202 90 8)) d_205_68 fl_Mo_180 (zb_90 I203) (zs_90 I203) rfl ?_
          have g225 := rg_90_8 I203
          refine ov_ifne (tgt := 99) d_205_71 (by decide) (by omega) (fun c226 => ?_) (fun c226 => ?_)
          · skip
            refine ov_blk (ls2 := [(0, ov_r 90)]) (st2 := [ov_r 90]) (pc2 := 100) b_205_99_1 rfl rfl ?_
            refine ov_getf (v := ov_i (h202 90 8)) d_205_100 fl_Mo_180 (zb_90 I203) (zs_90 I203) rfl ?_
            refine ov_ifle (tgt := 111) d_205_103 (by decide) (by omega) (fun c228 => ?_) (fun c228 => ?_)
            · omega
            · skip
              refine ov_blk (ls2 := [(0, ov_r 90)]) (st2 := [ov_r 90]) (pc2 := 107) b_205_106_1 rfl rfl ?_
              refine ov_getf (v := ov_i (h202 90 8)) d_205_107 fl_Mo_180 (zb_90 I203) (zs_90 I203) rfl ?_
              have hz : (pt_szF t m (pt_rn pt_bB t m 0)) = (h202 90 8) := by unfold pt_szF pt_fW pt_fS; (repeat' split) <;> omega
              exact ov_reti (st := []) d_205_110 rfl ⟨_, rfl, I203, (fun a ca => (fr215 a ca)), (fun k n0 n1 n2 n3 n4 n5 n6 n7 n8 => (rk216 k n0 n1 n2 n3 n4 n5 n6 n7 n8)), ⟨(fun _ => 0), (by show 0 ≤ (h202 90 8) ∧ (h202 90 8) ≤ 16005; omega), (Or.inl ⟨by omega, hz.symm⟩)⟩⟩
          · omega
        · have q9 : (h176 90 8) = 0 ∧ pt_is t m (pt_nt t m (pt_rn pt_bB t m 0)) (59 : Int) = 0 ∧ (h202 90 8) = 1 + 16 * (pt_nt t m (pt_rn pt_bB t m 0)) ∧ 1 ≤ (h202 90 8) ∧ (h202 90 7) = (h176 90 7) ∧ (h202 93 ((h202 90 7))) = (pt_nt t m (pt_rn pt_bB t m 0)) := f222
          omega
        · have q9 : (h176 90 8) = 0 ∧ pt_is t m (pt_nt t m (pt_rn pt_bB t m 0)) (59 : Int) = 1 ∧ (h202 90 8) = 0 ∧ (h202 90 7) = (h176 90 7) + 1 ∧ (h202 90 7) ≤ N ∧ (h202 93 ((h202 90 7))) = pt_nt t m (pt_nt t m (pt_rn pt_bB t m 0)) := f223
          omega
      · have q9 : v174 = 0 ∧ (h150 90 8) = 0 ∧ (h176 90 8) = pt_fN t m (1 : Int) (9 : Int) (pt_nt t m (pt_rn pt_bB t m 0)) ∧ 1 ≤ (h176 90 8) ∧ (h176 90 7) = (h150 90 7) ∧ (h176 93 ((h176 90 7))) = (pt_nt t m (pt_rn pt_bB t m 0)) := f196
        omega
      · have q9 : (h150 90 8) = 0 ∧ (h176 90 8) = 0 ∧ pt_fN t m (1 : Int) (9 : Int) (pt_nt t m (pt_rn pt_bB t m 0)) = 0 ∧ pt_ty t m (pt_nt t m (pt_rn pt_bB t m 0)) = 3 ∧ (1 : Int) ≤ v174 ∧ v174 ≤ (9 : Int) ∧ v174 = pt_nm t m (pt_nt t m (pt_rn pt_bB t m 0)) ∧ 0 ≤ v174 ∧ v174 ≤ 9999 ∧ (h176 90 7) = (h150 90 7) + 1 ∧ (h176 90 7) ≤ N ∧ (h176 93 ((h176 90 7))) = pt_nt t m (pt_nt t m (pt_rn pt_bB t m 0)) := f197
        omega
    · skip
      show ov_R u d ov_m205 45 [(0, ov_r 90)] [ov_i v148, ov_i 340, ov_r 96] z149 h150 (P_fMo_town_90 F z h t m)
      have f230 : (h41 90 8) = 0 ∧ (h150 90 8) = 0 ∧ pt_fN t m (1 : Int) (6 : Int) (pt_nt t m (pt_rn pt_bB t m 0)) = 0 ∧ pt_ty t m (pt_nt t m (pt_rn pt_bB t m 0)) = 3 ∧ (1 : Int) ≤ v148 ∧ v148 ≤ (6 : Int) ∧ v148 = pt_nm t m (pt_nt t m (pt_rn pt_bB t m 0)) ∧ 0 ≤ v148 ∧ v148 ≤ 9999 ∧ (h150 90 7) = (h41 90 7) + 1 ∧ (h150 90 7) ≤ N ∧ (h150 93 ((h150 90 7))) = pt_nt t m (pt_nt t m (pt_rn pt_bB t m 0)) := f170
      clear f170
      refine ov_iast d_205_45 (zb_96 I151) (zs_96 I151) (by omega) ?_
      have I231 := ua_96 (k := 340) (x := v148) I151 (by refine ⟨?_, ?_, ?_, ?_, ?_, ?_, ?_, ?_, ?_, ?_, ?_, ?_, ?_, ?_, ?_, ?_, ?_, ?_, ?_, ?_, ?_, ?_, ?_, ?_, ?_, ?_, ?_, ?_, ?_⟩ <;> omega)
      refine ov_blk (ls2 := [(0, ov_r 90)]) (st2 := [ov_r 90]) (pc2 := 47) b_205_46_1 rfl rfl ?_
      refine ov_getf (v := ov_r 96) d_205_47 fl_Mo_81 (zb_90 I231) (zs_90 I231) (congrArg ov_r (rg_90_10 I231)) ?_
      refine ov_blk (ls2 := [(0, ov_r 90)]) (st2 := [ov_i 9, ov_i 1, ov_r 90, ov_i 341, ov_r 96]) (pc2 := 57) b_205_50_4 rfl rfl ?_
      have cf232 : h150 93 ((h150 90 7)) = h3 93 ((h150 90 7)) := congrFun E157 ((h150 90 7))
      refine ov_cV (as := [ov_i 1, ov_i 9]) (st := [ov_i 341, ov_r 96]) (d2 := d - 1) d_205_57 lk_Mo_198 rfl (Nat.le_of_ble_eq_true rfl) (c := 1) (zb_90 I231) (zs_90 I231) ⟨by decide, rfl⟩ (by omega) (c_fMo_takeNumber_90 t m N (pt_nt t m (pt_nt t m (pt_rn pt_bB t m 0))) (d - 1) (by omega) U I231 1 9 (by omega) (by omega) (by show 0 ≤ (h150 90 7) ∧ (h150 90 7) ≤ N; omega) (by show (h150 93 ((h150 90 7))) = (pt_nt t m (pt_nt t m (pt_rn pt_bB t m 0))); omega) (by show 0 ≤ (h150 90 8); omega) (by rw [show (ov_up h150 96 340 v148) 92 = h3 92 from E156, show (ov_up h150 96 340 v148) 93 = h3 93 from E157, show (ov_up h150 96 340 v148) 94 = h3 94 from E158]; exact mt)) ?_
      rintro _ z234 h235 ⟨v233, rfl, I236, y237, y238, y239⟩
      have E240 : h235 91 = h 91 := Eq.trans (y237 91 (by decide)) (show (ov_up h150 96 340 v148) 91 = h 91 from E155)
      have E241 : h235 92 = h3 92 := Eq.trans (y237 92 (by decide)) (show (ov_up h150 96 340 v148) 92 = h3 92 from E156)
      have E242 : h235 93 = h3 93 := Eq.trans (y237 93 (by decide)) (show (ov_up h150 96 340 v148) 93 = h3 93 from E157)
      have E243 : h235 94 = h3 94 := Eq.trans (y237 94 (by decide)) (show (ov_up h150 96 340 v148) 94 = h3 94 from E158)
      have E244 : h235 95 = h 95 := Eq.trans (y237 95 (by decide)) (show (ov_up h150 96 340 v148) 95 = h 95 from E159)
      have R246 : h235 96 = (ov_rs (h21 96) 340 v148) := Eq.trans (y237 96 (by decide)) (Eq.trans (ov_up_row h150 96 340 v148) (congrArg (fun f => ov_rs f 340 v148) E160))
      have E247 : h235 99 = h 99 := Eq.trans (y237 99 (by decide)) (show (ov_up h150 96 340 v148) 99 = h 99 from E161)
      have fr248 : ∀ a : Int, a ≠ 90 ∧ (a < 92 ∨ 94 < a) ∧ (a < 96 ∨ 100 < a) ∧ (a < 103 ∨ 104 < a) → h235 a = h a := fun a ca => Eq.trans (y237 a (by omega)) (Eq.trans (by show (ov_up h150 96 340 v148) a = h150 a; rw [ov_up_ne (by omega)]) (fr162 a ca))
      have y238_ : ∀ k : Int, k ≠ 7 → k ≠ 8 → (h235 90) k = (h150 90) k := y238
      have rk249 : ∀ k : Int, k ≠ 0 → k ≠ 2 → k ≠ 3 → k ≠ 7 → k ≠ 8 → k ≠ 13 → k ≠ 15 → k ≠ 20 → k ≠ 22 → h235 90 k = h 90 k := fun k n0 n1 n2 n3 n4 n5 n6 n7 n8 => Eq.trans (y238_ k n3 n4) (Eq.trans (by show (ov_up h150 96 340 v148) 90 k = h150 90 k; rw [ov_up_ne (by decide)]) (rk163 k n0 n1 n2 n3 n4 n5 n6 n7 n8))
      have g250 : h235 90 2 = (h150 90 2) := y238_ 2 (by decide) (by decide)
      have g251 : h235 90 3 = (h150 90 3) := y238_ 3 (by decide) (by decide)
      have g252 : h235 90 13 = (h150 90 13) := y238_ 13 (by decide) (by decide)
      have g253 : h235 90 15 = (h150 90 15) := y238_ 15 (by decide) (by decide)
      rcases y239 with f254 | f255 | f256
      · have q9 : v233 = 0 ∧ (h150 90 8) ≠ 0 ∧ (h235 90 8) = (h150 90 8) ∧ (h235 90 7) = (h150 90 7) ∧ (h235 93 ((h235 90 7))) = (pt_nt t m (pt_nt t m (pt_rn pt_bB t m 0))) := f254
        omega
      · skip
        show ov_R u d ov_m205 60 [(0, ov_r 90)] [ov_i v233, ov_i 341, ov_r 96] z234 h235 (P_fMo_town_90 F z h t m)
        have f257 : v233 = 0 ∧ (h150 90 8) = 0 ∧ (h235 90 8) = pt_fN t m (1 : Int) (9 : Int) (pt_nt t m (pt_nt t m (pt_rn pt_bB t m 0))) ∧ 1 ≤ (h235 90 8) ∧ (h235 90 7) = (h150 90 7) ∧ (h235 93 ((h235 90 7))) = (pt_nt t m (pt_nt t m (pt_rn pt_bB t m 0))) := f255
        clear f255
        refine ov_iast d_205_60 (zb_96 I236) (zs_96 I236) (by omega) ?_
        have I258 := ua_96 (k := 341) (x := v233) I236 (by refine ⟨?_, ?_, ?_, ?_, ?_, ?_, ?_, ?_, ?_, ?_, ?_, ?_, ?_, ?_, ?_, ?_, ?_, ?_, ?_, ?_, ?_, ?_, ?_, ?_, ?_, ?_, ?_, ?_, ?_⟩ <;> omega)
        refine ov_blk (ls2 := [(0, ov_r 90)]) (st2 := [ov_i 59, ov_r 90]) (pc2 := 64) b_205_61_2 rfl rfl ?_
        have cf259 : h235 93 ((h235 90 7)) = h3 93 ((h235 90 7)) := congrFun E242 ((h235 90 7))
        refine ov_cV (as := [ov_i 59]) (st := []) (d2 := d - 1) d_205_64 lk_Mo_214 rfl (Nat.le_of_ble_eq_true rfl) (c := 1) (zb_90 I258) (zs_90 I258) ⟨by decide, rfl⟩ (by omega) (c_fMo_takeSign_90 t m N (pt_nt t m (pt_nt t m (pt_rn pt_bB t m 0))) (d - 1) (by omega) U I258 59 (by omega) (by show 0 ≤ (h235 90 7) ∧ (h235 90 7) ≤ N; omega) (by show (h235 93 ((h235 90 7))) = (pt_nt t m (pt_nt t m (pt_rn pt_bB t m 0))); omega) (by show 0 ≤ (h235 90 8); omega) (by show 0 ≤ (59 : Int) ∧ (59 : Int) ≤ 65535; omega) (by rw [show (ov_up h235 96 341 v233) 92 = h3 92 from E241, show (ov_up h235 96 341 v233) 93 = h3 93 from E242, show (ov_up h235 96 341 v233) 94 = h3 94 from E243]; exact mt)) ?_
        rintro _ z260 h261 ⟨rfl, I262, y263, y264, y265⟩
        have E266 : h261 91 = h 91 := Eq.trans (y263 91 (by decide)) (show (ov_up h235 96 341 v233) 91 = h 91 from E240)
        have E267 : h261 92 = h3 92 := Eq.trans (y263 92 (by decide)) (show (ov_up h235 96 341 v233) 92 = h3 92 from E241)
        have E268 : h261 93 = h3 93 := Eq.trans (y263 93 (by decide)) (show (ov_up h235 96 341 v233) 93 = h3 93 from E242)
        have E269 : h261 94 = h3 94 := Eq.trans (y263 94 (by decide)) (show (ov_up h235 96 341 v233) 94 = h3 94 from E243)
        have E270 : h261 95 = h 95 := Eq.trans (y263 95 (by decide)) (show (ov_up h235 96 341 v233) 95 = h 95 from E244)
        have R272 : h261 96 = (ov_rs (ov_rs (h21 96) 340 v148) 341 v233) := Eq.trans (y263 96 (by decide)) (Eq.trans (ov_up_row h235 96 341 v233) (congrArg (fun f => ov_rs f 341 v233) R246))
        have E273 : h261 99 = h 99 := Eq.trans (y263 99 (by decide)) (show (ov_up h235 96 341 v233) 99 = h 99 from E247)
        have fr274 : ∀ a : Int, a ≠ 90 ∧ (a < 92 ∨ 94 < a) ∧ (a < 96 ∨ 100 < a) ∧ (a < 103 ∨ 104 < a) → h261 a = h a := fun a ca => Eq.trans (y263 a (by omega)) (Eq.trans (by show (ov_up h235 96 341 v233) a = h235 a; rw [ov_up_ne (by omega)]) (fr248 a ca))
        have y264_ : ∀ k : Int, k ≠ 7 → k ≠ 8 → (h261 90) k = (h235 90) k := y264
        have rk275 : ∀ k : Int, k ≠ 0 → k ≠ 2 → k ≠ 3 → k ≠ 7 → k ≠ 8 → k ≠ 13 → k ≠ 15 → k ≠ 20 → k ≠ 22 → h261 90 k = h 90 k := fun k n0 n1 n2 n3 n4 n5 n6 n7 n8 => Eq.trans (y264_ k n3 n4) (Eq.trans (by show (ov_up h235 96 341 v233) 90 k = h235 90 k; rw [ov_up_ne (by decide)]) (rk249 k n0 n1 n2 n3 n4 n5 n6 n7 n8))
        have g276 : h261 90 2 = (h235 90 2) := y264_ 2 (by decide) (by decide)
        have g277 : h261 90 3 = (h235 90 3) := y264_ 3 (by decide) (by decide)
        have g278 : h261 90 13 = (h235 90 13) := y264_ 13 (by decide) (by decide)
        have g279 : h261 90 15 = (h235 90 15) := y264_ 15 (by decide) (by decide)
        rcases y265 with f280 | f281 | f282
        · skip
          show ov_R u d ov_m205 67 [(0, ov_r 90)] [] z260 h261 (P_fMo_town_90 F z h t m)
          have f283 : (h235 90 8) ≠ 0 ∧ (h261 90 8) = (h235 90 8) ∧ (h261 90 7) = (h235 90 7) ∧ (h261 93 ((h261 90 7))) = (pt_nt t m (pt_nt t m (pt_rn pt_bB t m 0))) := f280
          clear f280
          refine ov_blk (ls2 := [(0, ov_r 90)]) (st2 := [ov_r 90]) (pc2 := 68) b_205_67_1 rfl rfl ?_
          refine ov_getf (v := ov_i (h261 90 8)) d_205_68 fl_Mo_180 (zb_90 I262) (zs_90 I262) rfl ?_
          have g284 := rg_90_8 I262
          refine ov_ifne (tgt := 99) d_205_71 (by decide) (by omega) (fun c285 => ?_) (fun c285 => ?_)
          · skip
            refine ov_blk (ls2 := [(0, ov_r 90)]) (st2 := [ov_r 90]) (pc2 := 100) b_205_99_1 rfl rfl ?_
            refine ov_getf (v := ov_i (h261 90 8)) d_205_100 fl_Mo_180 (zb_90 I262) (zs_90 I262) rfl ?_
            refine ov_ifle (tgt := 111) d_205_103 (by decide) (by omega) (fun c287 => ?_) (fun c287 => ?_)
            · omega
            · skip
              refine ov_blk (ls2 := [(0, ov_r 90)]) (st2 := [ov_r 90]) (pc2 := 107) b_205_106_1 rfl rfl ?_
              refine ov_getf (v := ov_i (h261 90 8)) d_205_107 fl_Mo_180 (zb_90 I262) (zs_90 I262) rfl ?_
              have hz : (pt_szF t m (pt_rn pt_bB t m 0)) = (h261 90 8) := by unfold pt_szF pt_fW pt_fS; (repeat' split) <;> omega
              exact ov_reti (st := []) d_205_110 rfl ⟨_, rfl, I262, (fun a ca => (fr274 a ca)), (fun k n0 n1 n2 n3 n4 n5 n6 n7 n8 => (rk275 k n0 n1 n2 n3 n4 n5 n6 n7 n8)), ⟨(fun _ => 0), (by show 0 ≤ (h261 90 8) ∧ (h261 90 8) ≤ 16005; omega), (Or.inl ⟨by omega, hz.symm⟩)⟩⟩
          · omega
        · have q9 : (h235 90 8) = 0 ∧ pt_is t m (pt_nt t m (pt_nt t m (pt_rn pt_bB t m 0))) (59 : Int) = 0 ∧ (h261 90 8) = 1 + 16 * (pt_nt t m (pt_nt t m (pt_rn pt_bB t m 0))) ∧ 1 ≤ (h261 90 8) ∧ (h261 90 7) = (h235 90 7) ∧ (h261 93 ((h261 90 7))) = (pt_nt t m (pt_nt t m (pt_rn pt_bB t m 0))) := f281
          omega
        · have q9 : (h235 90 8) = 0 ∧ pt_is t m (pt_nt t m (pt_nt t m (pt_rn pt_bB t m 0))) (59 : Int) = 1 ∧ (h261 90 8) = 0 ∧ (h261 90 7) = (h235 90 7) + 1 ∧ (h261 90 7) ≤ N ∧ (h261 93 ((h261 90 7))) = pt_nt t m (pt_nt t m (pt_nt t m (pt_rn pt_bB t m 0))) := f282
          omega
      · skip
        show ov_R u d ov_m205 60 [(0, ov_r 90)] [ov_i v233, ov_i 341, ov_r 96] z234 h235 (P_fMo_town_90 F z h t m)
        have f289 : (h150 90 8) = 0 ∧ (h235 90 8) = 0 ∧ pt_fN t m (1 : Int) (9 : Int) (pt_nt t m (pt_nt t m (pt_rn pt_bB t m 0))) = 0 ∧ pt_ty t m (pt_nt t m (pt_nt t m (pt_rn pt_bB t m 0))) = 3 ∧ (1 : Int) ≤ v233 ∧ v233 ≤ (9 : Int) ∧ v233 = pt_nm t m (pt_nt t m (pt_nt t m (pt_rn pt_bB t m 0))) ∧ 0 ≤ v233 ∧ v233 ≤ 9999 ∧ (h235 90 7) = (h150 90 7) + 1 ∧ (h235 90 7) ≤ N ∧ (h235 93 ((h235 90 7))) = pt_nt t m (pt_nt t m (pt_nt t m (pt_rn pt_bB t m 0))) := f256
        clear f256
        refine ov_iast d_205_60 (zb_96 I236) (zs_96 I236) (by omega) ?_
        have I290 := ua_96 (k := 341) (x := v233) I236 (by refine ⟨?_, ?_, ?_, ?_, ?_, ?_, ?_, ?_, ?_, ?_, ?_, ?_, ?_, ?_, ?_, ?_, ?_, ?_, ?_, ?_, ?_, ?_, ?_, ?_, ?_, ?_, ?_, ?_, ?_⟩ <;> omega)
        refine ov_blk (ls2 := [(0, ov_r 90)]) (st2 := [ov_i 59, ov_r 90]) (pc2 := 64) b_205_61_2 rfl rfl ?_
        have cf291 : h235 93 ((h235 90 7)) = h3 93 ((h235 90 7)) := congrFun E242 ((h235 90 7))
        refine ov_cV (as := [ov_i 59]) (st := []) (d2 := d - 1) d_205_64 lk_Mo_214 rfl (Nat.le_of_ble_eq_true rfl) (c := 1) (zb_90 I290) (zs_90 I290) ⟨by decide, rfl⟩ (by omega) (c_fMo_takeSign_90 t m N (pt_nt t m (pt_nt t m (pt_nt t m (pt_rn pt_bB t m 0)))) (d - 1) (by omega) U I290 59 (by omega) (by show 0 ≤ (h235 90 7) ∧ (h235 90 7) ≤ N; omega) (by show (h235 93 ((h235 90 7))) = (pt_nt t m (pt_nt t m (pt_nt t m (pt_rn pt_bB t m 0)))); omega) (by show 0 ≤ (h235 90 8); omega) (by show 0 ≤ (59 : Int) ∧ (59 : Int) ≤ 65535; omega) (by rw [show (ov_up h235 96 341 v233) 92 = h3 92 from E241, show (ov_up h235 96 341 v233) 93 = h3 93 from E242, show (ov_up h235 96 341 v233) 94 = h3 94 from E243]; exact mt)) ?_
        rintro _ z292 h293 ⟨rfl, I294, y295, y296, y297⟩
        have E298 : h293 91 = h 91 := Eq.trans (y295 91 (by decide)) (show (ov_up h235 96 341 v233) 91 = h 91 from E240)
        have E299 : h293 92 = h3 92 := Eq.trans (y295 92 (by decide)) (show (ov_up h235 96 341 v233) 92 = h3 92 from E241)
        have E300 : h293 93 = h3 93 := Eq.trans (y295 93 (by decide)) (show (ov_up h235 96 341 v233) 93 = h3 93 from E242)
        have E301 : h293 94 = h3 94 := Eq.trans (y295 94 (by decide)) (show (ov_up h235 96 341 v233) 94 = h3 94 from E243)
        have E302 : h293 95 = h 95 := Eq.trans (y295 95 (by decide)) (show (ov_up h235 96 341 v233) 95 = h 95 from E244)
        have R304 : h293 96 = (ov_rs (ov_rs (h21 96) 340 v148) 341 v233) := Eq.trans (y295 96 (by decide)) (Eq.trans (ov_up_row h235 96 341 v233) (congrArg (fun f => ov_rs f 341 v233) R246))
        have E305 : h293 99 = h 99 := Eq.trans (y295 99 (by decide)) (show (ov_up h235 96 341 v233) 99 = h 99 from E247)
        have fr306 : ∀ a : Int, a ≠ 90 ∧ (a < 92 ∨ 94 < a) ∧ (a < 96 ∨ 100 < a) ∧ (a < 103 ∨ 104 < a) → h293 a = h a := fun a ca => Eq.trans (y295 a (by omega)) (Eq.trans (by show (ov_up h235 96 341 v233) a = h235 a; rw [ov_up_ne (by omega)]) (fr248 a ca))
        have y296_ : ∀ k : Int, k ≠ 7 → k ≠ 8 → (h293 90) k = (h235 90) k := y296
        have rk307 : ∀ k : Int, k ≠ 0 → k ≠ 2 → k ≠ 3 → k ≠ 7 → k ≠ 8 → k ≠ 13 → k ≠ 15 → k ≠ 20 → k ≠ 22 → h293 90 k = h 90 k := fun k n0 n1 n2 n3 n4 n5 n6 n7 n8 => Eq.trans (y296_ k n3 n4) (Eq.trans (by show (ov_up h235 96 341 v233) 90 k = h235 90 k; rw [ov_up_ne (by decide)]) (rk249 k n0 n1 n2 n3 n4 n5 n6 n7 n8))
        have g308 : h293 90 2 = (h235 90 2) := y296_ 2 (by decide) (by decide)
        have g309 : h293 90 3 = (h235 90 3) := y296_ 3 (by decide) (by decide)
        have g310 : h293 90 13 = (h235 90 13) := y296_ 13 (by decide) (by decide)
        have g311 : h293 90 15 = (h235 90 15) := y296_ 15 (by decide) (by decide)
        rcases y297 with f312 | f313 | f314
        · have q9 : (h235 90 8) ≠ 0 ∧ (h293 90 8) = (h235 90 8) ∧ (h293 90 7) = (h235 90 7) ∧ (h293 93 ((h293 90 7))) = (pt_nt t m (pt_nt t m (pt_nt t m (pt_rn pt_bB t m 0)))) := f312
          omega
        · skip
          show ov_R u d ov_m205 67 [(0, ov_r 90)] [] z292 h293 (P_fMo_town_90 F z h t m)
          have f315 : (h235 90 8) = 0 ∧ pt_is t m (pt_nt t m (pt_nt t m (pt_nt t m (pt_rn pt_bB t m 0)))) (59 : Int) = 0 ∧ (h293 90 8) = 1 + 16 * (pt_nt t m (pt_nt t m (pt_nt t m (pt_rn pt_bB t m 0)))) ∧ 1 ≤ (h293 90 8) ∧ (h293 90 7) = (h235 90 7) ∧ (h293 93 ((h293 90 7))) = (pt_nt t m (pt_nt t m (pt_nt t m (pt_rn pt_bB t m 0)))) := f313
          clear f313
          refine ov_blk (ls2 := [(0, ov_r 90)]) (st2 := [ov_r 90]) (pc2 := 68) b_205_67_1 rfl rfl ?_
          refine ov_getf (v := ov_i (h293 90 8)) d_205_68 fl_Mo_180 (zb_90 I294) (zs_90 I294) rfl ?_
          have g316 := rg_90_8 I294
          refine ov_ifne (tgt := 99) d_205_71 (by decide) (by omega) (fun c317 => ?_) (fun c317 => ?_)
          · skip
            refine ov_blk (ls2 := [(0, ov_r 90)]) (st2 := [ov_r 90]) (pc2 := 100) b_205_99_1 rfl rfl ?_
            refine ov_getf (v := ov_i (h293 90 8)) d_205_100 fl_Mo_180 (zb_90 I294) (zs_90 I294) rfl ?_
            refine ov_ifle (tgt := 111) d_205_103 (by decide) (by omega) (fun c319 => ?_) (fun c319 => ?_)
            · omega
            · skip
              refine ov_blk (ls2 := [(0, ov_r 90)]) (st2 := [ov_r 90]) (pc2 := 107) b_205_106_1 rfl rfl ?_
              refine ov_getf (v := ov_i (h293 90 8)) d_205_107 fl_Mo_180 (zb_90 I294) (zs_90 I294) rfl ?_
              have hz : (pt_szF t m (pt_rn pt_bB t m 0)) = (h293 90 8) := by unfold pt_szF pt_fW pt_fS; (repeat' split) <;> omega
              exact ov_reti (st := []) d_205_110 rfl ⟨_, rfl, I294, (fun a ca => (fr306 a ca)), (fun k n0 n1 n2 n3 n4 n5 n6 n7 n8 => (rk307 k n0 n1 n2 n3 n4 n5 n6 n7 n8)), ⟨(fun _ => 0), (by show 0 ≤ (h293 90 8) ∧ (h293 90 8) ≤ 16005; omega), (Or.inl ⟨by omega, hz.symm⟩)⟩⟩
          · omega
        · skip
          show ov_R u d ov_m205 67 [(0, ov_r 90)] [] z292 h293 (P_fMo_town_90 F z h t m)
          have f321 : (h235 90 8) = 0 ∧ pt_is t m (pt_nt t m (pt_nt t m (pt_nt t m (pt_rn pt_bB t m 0)))) (59 : Int) = 1 ∧ (h293 90 8) = 0 ∧ (h293 90 7) = (h235 90 7) + 1 ∧ (h293 90 7) ≤ N ∧ (h293 93 ((h293 90 7))) = pt_nt t m (pt_nt t m (pt_nt t m (pt_nt t m (pt_rn pt_bB t m 0)))) := f314
          clear f314
          have L325 : ∀ (n322 : Nat) (z326 : ov_Z) (h327 : ov_H) (I328 : ov_N F z326 h327) (E329 : h327 91 = h 91) (E330 : h327 92 = h3 92) (E331 : h327 93 = h3 93) (E332 : h327 94 = h3 94) (E333 : h327 95 = h 95) (fr334 : ∀ a : Int, a ≠ 90 ∧ (a < 92 ∨ 94 < a) ∧ (a < 96 ∨ 100 < a) ∧ (a < 103 ∨ 104 < a) → h327 a = h a) (xg : ∃ A : Int → Int, pt_MR t m A (h327 96) (h327 90 15) (h327 99) ∧ ∀ (f : Int) (B : Int → Int), pt_EG t m A (h3 93 ((h327 90 7))) f B → pt_ET t m f B) (rkl90 : ∀ k : Int, k ≠ 0 → k ≠ 2 → k ≠ 3 → k ≠ 7 → k ≠ 8 → k ≠ 13 → k ≠ 15 → k ≠ 20 → k ≠ 22 → (h327 90) k = h 90 k) (q324 : (h327 90 8) = 0 ∧ 0 ≤ (h327 90 7) ∧ (h327 90 7) ≤ N ∧ 0 ≤ (h327 90 13) ∧ (h327 90 13) ≤ (h327 90 7)), N - (h327 90 7) < (n322 : Int) → ov_R u d ov_m205 67 [(0, ov_r 90)] [] z326 h327 (P_fMo_town_90 F z h t m) := by
            intro n322
            induction n322 with
            | zero =>
              intro  z326 h327 I328 E329 E330 E331 E332 E333 fr334 xg rkl90 q324 hn335
              exact absurd hn335 (by omega)
            | succ n322 ih323 =>
              intro  z326 h327 I328 E329 E330 E331 E332 E333 fr334 xg rkl90 q324 hn335
              obtain ⟨A, mr, cg⟩ := xg
              have cz : h327 93 (h327 90 7) = h3 93 (h327 90 7) := congrFun (show h327 93 = h3 93 from E331) _
              have mz := pt_MT_at mt (k := h327 90 7) (by omega)
              have mz3 := mz.2.2.1
              have mz2 := mz.2.1
              clear mz
              have mzc := pt_cm_f (t := t) (m := m) (p := h3 93 (h327 90 7))
              have gA := pt_MR_r mr
              refine ov_blk (ls2 := [(0, ov_r 90)]) (st2 := [ov_r 90]) (pc2 := 68) b_205_67_1 rfl rfl ?_
              refine ov_getf (v := ov_i (h327 90 8)) d_205_68 fl_Mo_180 (zb_90 I328) (zs_90 I328) rfl ?_
              have g336 := rg_90_8 I328
              refine ov_ifne (tgt := 99) d_205_71 (by decide) (by omega) (fun c337 => ?_) (fun c337 => ?_)
              · omega
              · skip
                refine ov_blk (ls2 := [(0, ov_r 90)]) (st2 := [ov_r 90]) (pc2 := 75) b_205_74_1 rfl rfl ?_
                refine ov_getf (v := ov_r 92) d_205_75 fl_Mo_24 (zb_90 I328) (zs_90 I328) (congrArg ov_r (rg_90_4 I328)) ?_
                refine ov_blk (ls2 := [(0, ov_r 90)]) (st2 := [ov_r 90, ov_r 92]) (pc2 := 79) b_205_78_1 rfl rfl ?_
                refine ov_getf (v := ov_i (h327 90 7)) d_205_79 fl_Mo_177 (zb_90 I328) (zs_90 I328) rfl ?_
                have g338 := rg_90_7 I328
                refine ov_iald d_205_82 (zb_92 I328) (zs_92 I328) (by omega) ?_
                have e339 : h327 92 (h327 90 7) = (h3 92 (h327 90 7)) := congrFun (show h327 92 = h3 92 from E330) (h327 90 7)
                have g340 := ra_92 I328 (h327 90 7)
                rw [e339] at g340
                rw [e339]
                show ov_R u d ov_m205 83 [(0, ov_r 90)] [ov_i (h3 92 (h327 90 7))] z326 h327 (P_fMo_town_90 F z h t m)
                refine ov_ifeq (tgt := 99) d_205_83 (by decide) (by omega) (fun c341 => ?_) (fun c341 => ?_)
                · skip
                  refine ov_blk (ls2 := [(0, ov_r 90)]) (st2 := [ov_r 90]) (pc2 := 100) b_205_99_1 rfl rfl ?_
                  refine ov_getf (v := ov_i (h327 90 8)) d_205_100 fl_Mo_180 (zb_90 I328) (zs_90 I328) rfl ?_
                  refine ov_ifle (tgt := 111) d_205_103 (by decide) (by omega) (fun c343 => ?_) (fun c343 => ?_)
                  · skip
                    refine ov_blk (ls2 := [(0, ov_r 90), (1, ov_i 0)]) (st2 := []) (pc2 := 113) b_205_111_2 rfl rfl ?_
                    have L347 : ∀ (n344 : Nat) (x1 : Int) (z348 : ov_Z) (h349 : ov_H) (I350 : ov_N F z348 h349) (E351 : h349 91 = h 91) (E352 : h349 92 = h3 92) (E353 : h349 93 = h3 93) (E354 : h349 94 = h3 94) (E355 : h349 95 = h 95) (E356 : h349 99 = h327 99) (fr357 : ∀ a : Int, a ≠ 90 ∧ (a < 92 ∨ 94 < a) ∧ (a < 96 ∨ 100 < a) ∧ (a < 103 ∨ 104 < a) → h349 a = h a) (xl : ∀ j : Int, 340 ≤ j → (h349 96) j = h327 96 j) (rkl90 : ∀ k : Int, k ≠ 0 → k ≠ 2 → k ≠ 3 → k ≠ 7 → k ≠ 8 → k ≠ 13 → k ≠ 15 → k ≠ 20 → k ≠ 22 → (h349 90) k = h 90 k) (q346 : 0 ≤ x1 ∧ x1 ≤ 340), 340 - x1 < (n344 : Int) → ov_R u d ov_m205 113 [(0, ov_r 90), (1, ov_i x1)] [] z348 h349 (P_fMo_town_90 F z h t m) := by
                      intro n344
                      induction n344 with
                      | zero =>
                        intro x1 z348 h349 I350 E351 E352 E353 E354 E355 E356 fr357 xl rkl90 q346 hn358
                        exact absurd hn358 (by omega)
                      | succ n344 ih345 =>
                        intro x1 z348 h349 I350 E351 E352 E353 E354 E355 E356 fr357 xl rkl90 q346 hn358
                        refine ov_blk (ls2 := [(0, ov_r 90), (1, ov_i x1)]) (st2 := [ov_i 340, ov_i x1]) (pc2 := 117) b_205_113_2 rfl rfl ?_
                        refine ov_icge (tgt := 142) d_205_117 (by decide) (by omega) (by omega) (fun c359 => ?_) (fun c359 => ?_)
                        · skip
                          refine ov_blk (ls2 := [(0, ov_r 90), (1, ov_i 0)]) (st2 := []) (pc2 := 144) b_205_142_2 rfl rfl ?_
                          have L363 : ∀ (n360 : Nat) (x1_ : Int) (z364 : ov_Z) (h365 : ov_H) (I366 : ov_N F z364 h365) (E367 : h365 91 = h 91) (E368 : h365 92 = h3 92) (E369 : h365 93 = h3 93) (E370 : h365 94 = h3 94) (E371 : h365 95 = h 95) (E372 : h365 96 = h349 96) (E373 : h365 99 = h327 99) (fr374 : ∀ a : Int, a ≠ 90 ∧ (a < 92 ∨ 94 < a) ∧ (a < 96 ∨ 100 < a) ∧ (a < 103 ∨ 104 < a) → h365 a = h a) (rkl90 : ∀ k : Int, k ≠ 0 → k ≠ 2 → k ≠ 3 → k ≠ 7 → k ≠ 8 → k ≠ 13 → k ≠ 15 → k ≠ 20 → k ≠ 22 → (h365 90) k = h 90 k) (q362 : 0 ≤ x1_ ∧ x1_ ≤ 1000), 1000 - x1_ < (n360 : Int) → ov_R u d ov_m205 144 [(0, ov_r 90), (1, ov_i x1_)] [] z364 h365 (P_fMo_town_90 F z h t m) := by
                            intro n360
                            induction n360 with
                            | zero =>
                              intro x1_ z364 h365 I366 E367 E368 E369 E370 E371 E372 E373 fr374 rkl90 q362 hn375
                              exact absurd hn375 (by omega)
                            | succ n360 ih361 =>
                              intro x1_ z364 h365 I366 E367 E368 E369 E370 E371 E372 E373 fr374 rkl90 q362 hn375
                              refine ov_blk (ls2 := [(0, ov_r 90), (1, ov_i x1_)]) (st2 := [ov_r 90, ov_i x1_]) (pc2 := 146) b_205_144_2 rfl rfl ?_
                              refine ov_getf (v := ov_i (h365 90 13)) d_205_146 fl_Mo_208 (zb_90 I366) (zs_90 I366) rfl ?_
                              have g376 := rg_90_13 I366
                              refine ov_icge (tgt := 190) d_205_149 (by decide) (by omega) (by omega) (fun c377 => ?_) (fun c377 => ?_)
                              · skip
                                refine ov_blk (ls2 := [(0, ov_r 90), (1, ov_i x1_)]) (st2 := [ov_r 90]) (pc2 := 191) b_205_190_1 rfl rfl ?_
                                refine ov_cV (as := []) (st := []) (d2 := d - 1) d_205_191 lk_Mo_151 rfl (Nat.le_of_ble_eq_true rfl) (c := 1) (zb_90 I366) (zs_90 I366) ⟨by decide, rfl⟩ (by omega) (c_fMo_begins_90 (d - 1) (by omega) U I366 (by show 0 ≤ ov_bd F; omega)) ?_
                                rintro _ z378 h379 ⟨rfl, I380, y381, y382⟩
                                have E383 : h379 91 = h 91 := Eq.trans (y381 91 (by decide)) (show h365 91 = h 91 from E367)
                                have E384 : h379 92 = h3 92 := Eq.trans (y381 92 (by decide)) (show h365 92 = h3 92 from E368)
                                have E385 : h379 93 = h3 93 := Eq.trans (y381 93 (by decide)) (show h365 93 = h3 93 from E369)
                                have E386 : h379 94 = h3 94 := Eq.trans (y381 94 (by decide)) (show h365 94 = h3 94 from E370)
                                have E387 : h379 95 = h 95 := Eq.trans (y381 95 (by decide)) (show h365 95 = h 95 from E371)
                                have E388 : h379 96 = h349 96 := Eq.trans (y381 96 (by decide)) (show h365 96 = h349 96 from E372)
                                have E389 : h379 99 = h327 99 := Eq.trans (y381 99 (by decide)) (show h365 99 = h327 99 from E373)
                                have fr390 : ∀ a : Int, a ≠ 90 ∧ (a < 92 ∨ 94 < a) ∧ (a < 96 ∨ 100 < a) ∧ (a < 103 ∨ 104 < a) → h379 a = h a := fun a ca => Eq.trans (y381 a (by omega)) (fr374 a ca)
                                have y382_ : ∀ k : Int, k ≠ 20 → k ≠ 22 → (h379 90) k = (h365 90) k := y382
                                have rk391 : ∀ k : Int, k ≠ 0 → k ≠ 2 → k ≠ 3 → k ≠ 7 → k ≠ 8 → k ≠ 13 → k ≠ 15 → k ≠ 20 → k ≠ 22 → h379 90 k = h 90 k := fun k n0 n1 n2 n3 n4 n5 n6 n7 n8 => Eq.trans (y382_ k n7 n8) (rkl90 k n0 n1 n2 n3 n4 n5 n6 n7 n8)
                                have g392 : h379 90 2 = (h365 90 2) := y382_ 2 (by decide) (by decide)
                                have g393 : h379 90 3 = (h365 90 3) := y382_ 3 (by decide) (by decide)
                                have g394 : h379 90 7 = (h365 90 7) := y382_ 7 (by decide) (by decide)
                                have g395 : h379 90 8 = (h365 90 8) := y382_ 8 (by decide) (by decide)
                                have g396 : h379 90 13 = (h365 90 13) := y382_ 13 (by decide) (by decide)
                                have g397 : h379 90 15 = (h365 90 15) := y382_ 15 (by decide) (by decide)
                                show ov_R u d ov_m205 194 [(0, ov_r 90), (1, ov_i x1_)] [] z378 h379 (P_fMo_town_90 F z h t m)
                                refine ov_blk (ls2 := [(0, ov_r 90), (1, ov_i x1_)]) (st2 := [ov_i 0]) (pc2 := 195) b_205_194_1 rfl rfl ?_
                                exact ov_reti (st := []) d_205_195 rfl ⟨_, rfl, I380, (fun a ca => (fr390 a ca)), (fun k n0 n1 n2 n3 n4 n5 n6 n7 n8 => (rk391 k n0 n1 n2 n3 n4 n5 n6 n7 n8)), ⟨A, (by show 0 ≤ 0 ∧ 0 ≤ 16005; omega), (cg 0 A (pt_EG_e (by omega)))⟩⟩
                              · skip
                                refine ov_blk (ls2 := [(0, ov_r 90), (1, ov_i x1_)]) (st2 := [ov_r 90]) (pc2 := 153) b_205_152_1 rfl rfl ?_
                                refine ov_getf (v := ov_r 97) d_205_153 fl_Mo_84 (zb_90 I366) (zs_90 I366) (congrArg ov_r (rg_90_11 I366)) ?_
                                refine ov_blk (ls2 := [(0, ov_r 90), (1, ov_i x1_)]) (st2 := [ov_r 90, ov_i x1_, ov_r 97]) (pc2 := 158) b_205_156_2 rfl rfl ?_
                                refine ov_getf (v := ov_r 97) d_205_158 fl_Mo_84 (zb_90 I366) (zs_90 I366) (congrArg ov_r (rg_90_11 I366)) ?_
                                refine ov_blk (ls2 := [(0, ov_r 90), (1, ov_i x1_)]) (st2 := [ov_i (1100 + x1_), ov_r 97, ov_i x1_, ov_r 97]) (pc2 := 166) b_205_161_3 rfl rfl ?_
                                refine ov_iald d_205_166 (zb_97 I366) (zs_97 I366) (by omega) ?_
                                have g398 := ra_97 I366 (1100 + x1_)
                                refine ov_iast d_205_167 (zb_97 I366) (zs_97 I366) (by omega) ?_
                                have I399 := ua_97 (k := x1_) (x := (h365 97 (1100 + x1_))) I366 (by omega)
                                refine ov_blk (ls2 := [(0, ov_r 90), (1, ov_i x1_)]) (st2 := [ov_r 90]) (pc2 := 169) b_205_168_1 rfl rfl ?_
                                refine ov_getf (v := ov_r 98) d_205_169 fl_Mo_87 (zb_90 I399) (zs_90 I399) (congrArg ov_r (rg_90_12 I399)) ?_
                                refine ov_blk (ls2 := [(0, ov_r 90), (1, ov_i x1_)]) (st2 := [ov_r 90, ov_i x1_, ov_r 98]) (pc2 := 174) b_205_172_2 rfl rfl ?_
                                refine ov_getf (v := ov_r 98) d_205_174 fl_Mo_87 (zb_90 I399) (zs_90 I399) (congrArg ov_r (rg_90_12 I399)) ?_
                                refine ov_blk (ls2 := [(0, ov_r 90), (1, ov_i x1_)]) (st2 := [ov_i (1100 + x1_), ov_r 98, ov_i x1_, ov_r 98]) (pc2 := 182) b_205_177_3 rfl rfl ?_
                                refine ov_iald d_205_182 (zb_98 I399) (zs_98 I399) (by omega) ?_
                                show ov_R u d ov_m205 183 [(0, ov_r 90), (1, ov_i x1_)] [ov_i (h365 98 (1100 + x1_)), ov_i x1_, ov_r 98] z364 (ov_up h365 97 x1_ (h365 97 (1100 + x1_))) (P_fMo_town_90 F z h t m)
                                have g400 := ra_98 I366 (1100 + x1_)
                                refine ov_iast d_205_183 (zb_98 I399) (zs_98 I399) (by omega) ?_
                                have I401 := ua_98 (k := x1_) (x := (h365 98 (1100 + x1_))) I399 (by omega)
                                refine ov_blk (ls2 := [(0, ov_r 90), (1, ov_i (x1_ + 1))]) (st2 := []) (pc2 := 187) b_205_184_1 rfl rfl ?_
                                refine ov_goto (tgt := 144) d_205_187 (by decide) ?_
                                exact ih361 (x1_ + 1) _ _ I401 E367 E368 E369 E370 E371 E372 E373 (fun a ca => Eq.trans (by show (ov_up (ov_up h365 97 x1_ (h365 97 (1100 + x1_))) 98 x1_ (h365 98 (1100 + x1_))) a = h365 a; rw [ov_up_ne (by omega), ov_up_ne (by omega)]) (fr374 a ca)) (fun k n0 n1 n2 n3 n4 n5 n6 n7 n8 => (Eq.trans (by show (ov_up (ov_up h365 97 x1_ (h365 97 (1100 + x1_))) 98 x1_ (h365 98 (1100 + x1_))) 90 k = h365 90 k; rw [ov_up_ne (by decide), ov_up_ne (by decide)]) (rkl90 k n0 n1 n2 n3 n4 n5 n6 n7 n8))) (by show 0 ≤ (x1_ + 1) ∧ (x1_ + 1) ≤ 1000; omega) (by omega)
                          exact L363 1001 0 _ _ I350 E351 E352 E353 E354 E355 rfl E356 (fun a ca => (fr357 a ca)) (fun k n0 n1 n2 n3 n4 n5 n6 n7 n8 => (rkl90 k n0 n1 n2 n3 n4 n5 n6 n7 n8)) (by show 0 ≤ 0 ∧ 0 ≤ 1000; omega) (by omega)
                        · skip
                          have xe0 : x1 = 0 → h349 96 (340 + x1) = A 0 := fun e => by rw [xl _ (by omega), e]; exact pt_MR_c mr (j := 0) (by omega)
                          have xe1 : x1 = 1 → h349 96 (340 + x1) = A 1 := fun e => by rw [xl _ (by omega), e]; exact pt_MR_c mr (j := 1) (by omega)
                          have xe2 : x1 = 2 → h349 96 (340 + x1) = A 2 := fun e => by rw [xl _ (by omega), e]; exact pt_MR_c mr (j := 2) (by omega)
                          have xe9 : x1 = 9 → h349 96 (340 + x1) = A 9 := fun e => by rw [xl _ (by omega), e]; exact pt_MR_c mr (j := 9) (by omega)
                          refine ov_blk (ls2 := [(0, ov_r 90), (1, ov_i x1)]) (st2 := [ov_r 90]) (pc2 := 121) b_205_120_1 rfl rfl ?_
                          refine ov_getf (v := ov_r 96) d_205_121 fl_Mo_81 (zb_90 I350) (zs_90 I350) (congrArg ov_r (rg_90_10 I350)) ?_
                          refine ov_blk (ls2 := [(0, ov_r 90), (1, ov_i x1)]) (st2 := [ov_r 90, ov_i x1, ov_r 96]) (pc2 := 126) b_205_124_2 rfl rfl ?_
                          refine ov_getf (v := ov_r 96) d_205_126 fl_Mo_81 (zb_90 I350) (zs_90 I350) (congrArg ov_r (rg_90_10 I350)) ?_
                          refine ov_blk (ls2 := [(0, ov_r 90), (1, ov_i x1)]) (st2 := [ov_i (340 + x1), ov_r 96, ov_i x1, ov_r 96]) (pc2 := 134) b_205_129_3 rfl rfl ?_
                          refine ov_iald d_205_134 (zb_96 I350) (zs_96 I350) (by omega) ?_
                          show ov_R u d ov_m205 135 [(0, ov_r 90), (1, ov_i x1)] [ov_i (h349 96 (340 + x1)), ov_i x1, ov_r 96] z348 h349 (P_fMo_town_90 F z h t m)
                          refine ov_iast d_205_135 (zb_96 I350) (zs_96 I350) (by omega) ?_
                          have I402 := ov_cp96 (k := x1) I350 (by omega) (by omega)
                          refine ov_blk (ls2 := [(0, ov_r 90), (1, ov_i (x1 + 1))]) (st2 := []) (pc2 := 139) b_205_136_1 rfl rfl ?_
                          refine ov_goto (tgt := 113) d_205_139 (by decide) ?_
                          exact ih345 (x1 + 1) _ _ I402 E351 E352 E353 E354 E355 E356 (fun a ca => Eq.trans (by show (ov_up h349 96 x1 (h349 96 (340 + x1))) a = h349 a; rw [ov_up_ne (by omega)]) (fr357 a ca)) (fun j a => by rw [ov_up_j (by omega)]; exact xl j a) (fun k n0 n1 n2 n3 n4 n5 n6 n7 n8 => (Eq.trans (by show (ov_up h349 96 x1 (h349 96 (340 + x1))) 90 k = h349 90 k; rw [ov_up_ne (by decide)]) (rkl90 k n0 n1 n2 n3 n4 n5 n6 n7 n8))) (by show 0 ≤ (x1 + 1) ∧ (x1 + 1) ≤ 340; omega) (by omega)
                    exact L347 341 0 _ _ I328 E329 E330 E331 E332 E333 rfl (fun a ca => (fr334 a ca)) (fun j a => rfl) (fun k n0 n1 n2 n3 n4 n5 n6 n7 n8 => (rkl90 k n0 n1 n2 n3 n4 n5 n6 n7 n8)) (by show 0 ≤ 0 ∧ 0 ≤ 340; omega) (by omega)
                  · omega
                · skip
                  refine ov_blk (ls2 := [(0, ov_r 90)]) (st2 := [ov_r 90]) (pc2 := 87) b_205_86_1 rfl rfl ?_
                  have cf403 : h327 93 ((h327 90 7)) = h3 93 ((h327 90 7)) := congrFun E331 ((h327 90 7))
                  refine ov_cV (as := []) (st := []) (d2 := d - 1) d_205_87 lk_Mo_217 rfl (Nat.le_of_ble_eq_true rfl) (c := 1) (zb_90 I328) (zs_90 I328) ⟨by decide, rfl⟩ (by omega) (c_fMo_readLine_90 t m N (h3 93 (h327 90 7)) A (d - 1) (by omega) U I328 (by show 0 ≤ (h327 90 7) ∧ (h327 90 7) ≤ N; omega) (by show (h327 93 ((h327 90 7))) = (h3 93 (h327 90 7)); omega) (by show 0 ≤ (h327 90 8); omega) (by show (h327 90 8) = 0; omega) (by show 0 ≤ (h327 90 13) ∧ (h327 90 13) ≤ (h327 90 7); omega) (by rw [show h327 92 = h3 92 from E330, show h327 93 = h3 93 from E331, show h327 94 = h3 94 from E332]; exact mt) (by rw [show h327 95 = h 95 from E333]; exact wd) mr) ?_
                  rintro _ z404 h405 ⟨rfl, I406, y407, y408, y409⟩
                  have E410 : h405 91 = h 91 := Eq.trans (y407 91 (by decide)) (show h327 91 = h 91 from E329)
                  have E411 : h405 92 = h3 92 := Eq.trans (y407 92 (by decide)) (show h327 92 = h3 92 from E330)
                  have E412 : h405 93 = h3 93 := Eq.trans (y407 93 (by decide)) (show h327 93 = h3 93 from E331)
                  have E413 : h405 94 = h3 94 := Eq.trans (y407 94 (by decide)) (show h327 94 = h3 94 from E332)
                  have E414 : h405 95 = h 95 := Eq.trans (y407 95 (by decide)) (show h327 95 = h 95 from E333)
                  have fr415 : ∀ a : Int, a ≠ 90 ∧ (a < 92 ∨ 94 < a) ∧ (a < 96 ∨ 100 < a) ∧ (a < 103 ∨ 104 < a) → h405 a = h a := fun a ca => Eq.trans (y407 a (by omega)) (fr334 a ca)
                  have y408_ : ∀ k : Int, k ≠ 7 → k ≠ 8 → k ≠ 13 → k ≠ 15 → (h405 90) k = (h327 90) k := y408
                  have rk416 : ∀ k : Int, k ≠ 0 → k ≠ 2 → k ≠ 3 → k ≠ 7 → k ≠ 8 → k ≠ 13 → k ≠ 15 → k ≠ 20 → k ≠ 22 → h405 90 k = h 90 k := fun k n0 n1 n2 n3 n4 n5 n6 n7 n8 => Eq.trans (y408_ k n3 n4 n5 n6) (rkl90 k n0 n1 n2 n3 n4 n5 n6 n7 n8)
                  have g417 : h405 90 2 = (h327 90 2) := y408_ 2 (by decide) (by decide) (by decide) (by decide)
                  have g418 : h405 90 3 = (h327 90 3) := y408_ 3 (by decide) (by decide) (by decide) (by decide)
                  rcases y409 with ⟨w419, w420, f421, y422⟩ | ⟨w423, f424, y425, y426⟩
                  · skip
                    show ov_R u d ov_m205 90 [(0, ov_r 90)] [] z404 h405 (P_fMo_town_90 F z h t m)
                    have f427 : (h405 90 8) = w419 ∧ 1 ≤ w419 ∧ (h327 90 7) ≤ (h405 90 7) ∧ (h405 90 7) ≤ N := f421
                    clear f421
                    have y422_ : pt_EL t m A (h3 93 (h327 90 7)) w419 w420 := y422
                    refine ov_blk (ls2 := [(0, ov_r 90)]) (st2 := [ov_i 59, ov_r 90]) (pc2 := 93) b_205_90_2 rfl rfl ?_
                    have cf428 : h405 93 ((h405 90 7)) = h3 93 ((h405 90 7)) := congrFun E412 ((h405 90 7))
                    refine ov_cV (as := [ov_i 59]) (st := []) (d2 := d - 1) d_205_93 lk_Mo_214 rfl (Nat.le_of_ble_eq_true rfl) (c := 1) (zb_90 I406) (zs_90 I406) ⟨by decide, rfl⟩ (by omega) (c_fMo_takeSign_90 t m N (h405 93 (h405 90 7)) (d - 1) (by omega) U I406 59 (by omega) (by show 0 ≤ (h405 90 7) ∧ (h405 90 7) ≤ N; omega) (by show (h405 93 ((h405 90 7))) = (h405 93 (h405 90 7)); omega) (by show 0 ≤ (h405 90 8); omega) (by show 0 ≤ (59 : Int) ∧ (59 : Int) ≤ 65535; omega) (by rw [show h405 92 = h3 92 from E411, show h405 93 = h3 93 from E412, show h405 94 = h3 94 from E413]; exact mt)) ?_
                    rintro _ z429 h430 ⟨rfl, I431, y432, y433, y434⟩
                    have E435 : h430 91 = h 91 := Eq.trans (y432 91 (by decide)) (show h405 91 = h 91 from E410)
                    have E436 : h430 92 = h3 92 := Eq.trans (y432 92 (by decide)) (show h405 92 = h3 92 from E411)
                    have E437 : h430 93 = h3 93 := Eq.trans (y432 93 (by decide)) (show h405 93 = h3 93 from E412)
                    have E438 : h430 94 = h3 94 := Eq.trans (y432 94 (by decide)) (show h405 94 = h3 94 from E413)
                    have E439 : h430 95 = h 95 := Eq.trans (y432 95 (by decide)) (show h405 95 = h 95 from E414)
                    have E440 : h430 96 = h405 96 := Eq.trans (y432 96 (by decide)) (show h405 96 = h405 96 from rfl)
                    have E441 : h430 99 = h405 99 := Eq.trans (y432 99 (by decide)) (show h405 99 = h405 99 from rfl)
                    have fr442 : ∀ a : Int, a ≠ 90 ∧ (a < 92 ∨ 94 < a) ∧ (a < 96 ∨ 100 < a) ∧ (a < 103 ∨ 104 < a) → h430 a = h a := fun a ca => Eq.trans (y432 a (by omega)) (fr415 a ca)
                    have y433_ : ∀ k : Int, k ≠ 7 → k ≠ 8 → (h430 90) k = (h405 90) k := y433
                    have rk443 : ∀ k : Int, k ≠ 0 → k ≠ 2 → k ≠ 3 → k ≠ 7 → k ≠ 8 → k ≠ 13 → k ≠ 15 → k ≠ 20 → k ≠ 22 → h430 90 k = h 90 k := fun k n0 n1 n2 n3 n4 n5 n6 n7 n8 => Eq.trans (y433_ k n3 n4) (rk416 k n0 n1 n2 n3 n4 n5 n6 n7 n8)
                    have g444 : h430 90 2 = (h405 90 2) := y433_ 2 (by decide) (by decide)
                    have g445 : h430 90 3 = (h405 90 3) := y433_ 3 (by decide) (by decide)
                    have g446 : h430 90 13 = (h405 90 13) := y433_ 13 (by decide) (by decide)
                    have g447 : h430 90 15 = (h405 90 15) := y433_ 15 (by decide) (by decide)
                    rcases y434 with f448 | f449 | f450
                    · skip
                      show ov_R u d ov_m205 96 [(0, ov_r 90)] [] z429 h430 (P_fMo_town_90 F z h t m)
                      have f451 : (h405 90 8) ≠ 0 ∧ (h430 90 8) = (h405 90 8) ∧ (h430 90 7) = (h405 90 7) ∧ (h430 93 ((h430 90 7))) = (h405 93 (h405 90 7)) := f448
                      clear f448
                      refine ov_goto (tgt := 67) d_205_96 (by decide) ?_
                      refine ov_blk (ls2 := [(0, ov_r 90)]) (st2 := [ov_r 90]) (pc2 := 68) b_205_67_1 rfl rfl ?_
                      refine ov_getf (v := ov_i (h430 90 8)) d_205_68 fl_Mo_180 (zb_90 I431) (zs_90 I431) rfl ?_
                      have g452 := rg_90_8 I431
                      refine ov_ifne (tgt := 99) d_205_71 (by decide) (by omega) (fun c453 => ?_) (fun c453 => ?_)
                      · skip
                        refine ov_blk (ls2 := [(0, ov_r 90)]) (st2 := [ov_r 90]) (pc2 := 100) b_205_99_1 rfl rfl ?_
                        refine ov_getf (v := ov_i (h430 90 8)) d_205_100 fl_Mo_180 (zb_90 I431) (zs_90 I431) rfl ?_
                        refine ov_ifle (tgt := 111) d_205_103 (by decide) (by omega) (fun c455 => ?_) (fun c455 => ?_)
                        · omega
                        · skip
                          refine ov_blk (ls2 := [(0, ov_r 90)]) (st2 := [ov_r 90]) (pc2 := 107) b_205_106_1 rfl rfl ?_
                          refine ov_getf (v := ov_i (h430 90 8)) d_205_107 fl_Mo_180 (zb_90 I431) (zs_90 I431) rfl ?_
                          exact ov_reti (st := []) d_205_110 rfl ⟨_, rfl, I431, (fun a ca => (fr442 a ca)), (fun k n0 n1 n2 n3 n4 n5 n6 n7 n8 => (rk443 k n0 n1 n2 n3 n4 n5 n6 n7 n8)), ⟨(fun _ => 0), (by show 0 ≤ (h430 90 8) ∧ (h430 90 8) ≤ 16005; omega), (by show pt_ET t m (h430 90 8) _; rw [show (h430 90 8) = w419 by omega]; exact cg _ _ (pt_EG_f (by omega) y422_ (by omega)))⟩⟩
                      · omega
                    · omega
                    · omega
                  · skip
                    show ov_R u d ov_m205 90 [(0, ov_r 90)] [] z404 h405 (P_fMo_town_90 F z h t m)
                    have f457 : (h405 90 8) = 0 ∧ (h327 90 7) ≤ (h405 90 7) ∧ (h405 90 7) ≤ N ∧ 0 ≤ (h405 90 13) ∧ (h405 90 13) ≤ (h405 90 7) ∧ (h405 93 ((h405 90 7))) = w423 := f424
                    clear f424
                    have y425_ : pt_EL t m A (h3 93 (h327 90 7)) 0 w423 := y425
                    have y426_ : pt_MR t m (pt_LA t m A (h3 93 (h327 90 7))) (h405 96) (h405 90 15) (h405 99) := y426
                    refine ov_blk (ls2 := [(0, ov_r 90)]) (st2 := [ov_i 59, ov_r 90]) (pc2 := 93) b_205_90_2 rfl rfl ?_
                    have cf458 : h405 93 ((h405 90 7)) = h3 93 ((h405 90 7)) := congrFun E412 ((h405 90 7))
                    refine ov_cV (as := [ov_i 59]) (st := []) (d2 := d - 1) d_205_93 lk_Mo_214 rfl (Nat.le_of_ble_eq_true rfl) (c := 1) (zb_90 I406) (zs_90 I406) ⟨by decide, rfl⟩ (by omega) (c_fMo_takeSign_90 t m N w423 (d - 1) (by omega) U I406 59 (by omega) (by show 0 ≤ (h405 90 7) ∧ (h405 90 7) ≤ N; omega) (by show (h405 93 ((h405 90 7))) = w423; omega) (by show 0 ≤ (h405 90 8); omega) (by show 0 ≤ (59 : Int) ∧ (59 : Int) ≤ 65535; omega) (by rw [show h405 92 = h3 92 from E411, show h405 93 = h3 93 from E412, show h405 94 = h3 94 from E413]; exact mt)) ?_
                    rintro _ z459 h460 ⟨rfl, I461, y462, y463, y464⟩
                    have E465 : h460 91 = h 91 := Eq.trans (y462 91 (by decide)) (show h405 91 = h 91 from E410)
                    have E466 : h460 92 = h3 92 := Eq.trans (y462 92 (by decide)) (show h405 92 = h3 92 from E411)
                    have E467 : h460 93 = h3 93 := Eq.trans (y462 93 (by decide)) (show h405 93 = h3 93 from E412)
                    have E468 : h460 94 = h3 94 := Eq.trans (y462 94 (by decide)) (show h405 94 = h3 94 from E413)
                    have E469 : h460 95 = h 95 := Eq.trans (y462 95 (by decide)) (show h405 95 = h 95 from E414)
                    have E470 : h460 96 = h405 96 := Eq.trans (y462 96 (by decide)) (show h405 96 = h405 96 from rfl)
                    have E471 : h460 99 = h405 99 := Eq.trans (y462 99 (by decide)) (show h405 99 = h405 99 from rfl)
                    have fr472 : ∀ a : Int, a ≠ 90 ∧ (a < 92 ∨ 94 < a) ∧ (a < 96 ∨ 100 < a) ∧ (a < 103 ∨ 104 < a) → h460 a = h a := fun a ca => Eq.trans (y462 a (by omega)) (fr415 a ca)
                    have y463_ : ∀ k : Int, k ≠ 7 → k ≠ 8 → (h460 90) k = (h405 90) k := y463
                    have rk473 : ∀ k : Int, k ≠ 0 → k ≠ 2 → k ≠ 3 → k ≠ 7 → k ≠ 8 → k ≠ 13 → k ≠ 15 → k ≠ 20 → k ≠ 22 → h460 90 k = h 90 k := fun k n0 n1 n2 n3 n4 n5 n6 n7 n8 => Eq.trans (y463_ k n3 n4) (rk416 k n0 n1 n2 n3 n4 n5 n6 n7 n8)
                    have g474 : h460 90 2 = (h405 90 2) := y463_ 2 (by decide) (by decide)
                    have g475 : h460 90 3 = (h405 90 3) := y463_ 3 (by decide) (by decide)
                    have g476 : h460 90 13 = (h405 90 13) := y463_ 13 (by decide) (by decide)
                    have g477 : h460 90 15 = (h405 90 15) := y463_ 15 (by decide) (by decide)
                    rcases y464 with f478 | f479 | f480
                    · omega
                    · skip
                      show ov_R u d ov_m205 96 [(0, ov_r 90)] [] z459 h460 (P_fMo_town_90 F z h t m)
                      have f481 : (h405 90 8) = 0 ∧ pt_is t m w423 (59 : Int) = 0 ∧ (h460 90 8) = 1 + 16 * w423 ∧ 1 ≤ (h460 90 8) ∧ (h460 90 7) = (h405 90 7) ∧ (h460 93 ((h460 90 7))) = w423 := f479
                      clear f479
                      refine ov_goto (tgt := 67) d_205_96 (by decide) ?_
                      refine ov_blk (ls2 := [(0, ov_r 90)]) (st2 := [ov_r 90]) (pc2 := 68) b_205_67_1 rfl rfl ?_
                      refine ov_getf (v := ov_i (h460 90 8)) d_205_68 fl_Mo_180 (zb_90 I461) (zs_90 I461) rfl ?_
                      have g482 := rg_90_8 I461
                      refine ov_ifne (tgt := 99) d_205_71 (by decide) (by omega) (fun c483 => ?_) (fun c483 => ?_)
                      · skip
                        refine ov_blk (ls2 := [(0, ov_r 90)]) (st2 := [ov_r 90]) (pc2 := 100) b_205_99_1 rfl rfl ?_
                        refine ov_getf (v := ov_i (h460 90 8)) d_205_100 fl_Mo_180 (zb_90 I461) (zs_90 I461) rfl ?_
                        refine ov_ifle (tgt := 111) d_205_103 (by decide) (by omega) (fun c485 => ?_) (fun c485 => ?_)
                        · omega
                        · skip
                          refine ov_blk (ls2 := [(0, ov_r 90)]) (st2 := [ov_r 90]) (pc2 := 107) b_205_106_1 rfl rfl ?_
                          refine ov_getf (v := ov_i (h460 90 8)) d_205_107 fl_Mo_180 (zb_90 I461) (zs_90 I461) rfl ?_
                          exact ov_reti (st := []) d_205_110 rfl ⟨_, rfl, I461, (fun a ca => (fr472 a ca)), (fun k n0 n1 n2 n3 n4 n5 n6 n7 n8 => (rk473 k n0 n1 n2 n3 n4 n5 n6 n7 n8)), ⟨(fun _ => 0), (by show 0 ≤ (h460 90 8) ∧ (h460 90 8) ≤ 16005; omega), (by show pt_ET t m (h460 90 8) _; rw [show (h460 90 8) = 1 + 16 * w423 by omega]; exact cg _ _ (pt_EG_s (by omega) y425_ (by omega) (by omega)))⟩⟩
                      · omega
                    · skip
                      show ov_R u d ov_m205 96 [(0, ov_r 90)] [] z459 h460 (P_fMo_town_90 F z h t m)
                      have f487 : (h405 90 8) = 0 ∧ pt_is t m w423 (59 : Int) = 1 ∧ (h460 90 8) = 0 ∧ (h460 90 7) = (h405 90 7) + 1 ∧ (h460 90 7) ≤ N ∧ (h460 93 ((h460 90 7))) = pt_nt t m w423 := f480
                      clear f480
                      refine ov_goto (tgt := 67) d_205_96 (by decide) ?_
                      have pq : h3 93 (h460 90 7) = pt_nt t m w423 := Eq.trans (congrFun (show h3 93 = h460 93 from (E467).symm) _) (by show h460 93 (h460 90 7) = pt_nt t m w423; omega)
                      exact ih323  _ _ I461 E465 E466 E467 E468 E469 (fun a ca => (fr472 a ca)) (⟨pt_LA t m A (h3 93 (h327 90 7)), (by rw [show (h460 90 15) = (h405 90 15) by omega, show h460 96 = h405 96 from E470, show h460 99 = h405 99 from E471]; exact y426_), fun f B e => cg f B (pt_EG_n (by omega) y425_ (by omega) (by rw [pq] at e; exact e))⟩) (fun k n0 n1 n2 n3 n4 n5 n6 n7 n8 => (rk473 k n0 n1 n2 n3 n4 n5 n6 n7 n8)) (by show (h460 90 8) = 0 ∧ 0 ≤ (h460 90 7) ∧ (h460 90 7) ≤ N ∧ 0 ≤ (h460 90 13) ∧ (h460 90 13) ≤ (h460 90 7); omega) (by show N - (h460 90 7) < _; omega)
          have m96 : h293 96 = ov_rs (ov_rs ((h21 96)) 340 (pt_nm t m (pt_nt t m (pt_rn pt_bB t m 0)))) 341 (pt_nm t m (pt_nt t m (pt_nt t m (pt_rn pt_bB t m 0)))) := by rw [show h293 96 = (ov_rs (ov_rs (h21 96) 340 v148) 341 v233) from R304, show v148 = (pt_nm t m (pt_nt t m (pt_rn pt_bB t m 0))) by omega, show v233 = (pt_nm t m (pt_nt t m (pt_nt t m (pt_rn pt_bB t m 0)))) by omega]
          have m15 : (h293 90 15) = 0 := by omega
          have hz : (pt_szF t m (pt_rn pt_bB t m 0)) = 0 := by unfold pt_szF pt_fW pt_fS; (repeat' split) <;> omega
          have pq : h3 93 (h293 90 7) = (pt_nt t m (pt_nt t m (pt_nt t m (pt_nt t m (pt_rn pt_bB t m 0))))) := Eq.trans (congrFun (show h3 93 = h293 93 from (E300).symm) _) (by show h293 93 (h293 90 7) = (pt_nt t m (pt_nt t m (pt_nt t m (pt_nt t m (pt_rn pt_bB t m 0))))); omega)
          exact L325 1001  _ _ I294 E298 E299 E300 E301 E302 (fun a ca => (fr306 a ca)) (⟨pt_A0 (pt_nm t m (pt_nt t m (pt_rn pt_bB t m 0))) (pt_nm t m (pt_nt t m (pt_nt t m (pt_rn pt_bB t m 0)))), by rw [m96, m15]; exact pt_MR_first (by omega) (by omega) y24_, fun f B e => Or.inr ⟨hz, by rw [pq] at e; exact e⟩⟩) (fun k n0 n1 n2 n3 n4 n5 n6 n7 n8 => (rk307 k n0 n1 n2 n3 n4 n5 n6 n7 n8)) (by show (h293 90 8) = 0 ∧ 0 ≤ (h293 90 7) ∧ (h293 90 7) ≤ N ∧ 0 ≤ (h293 90 13) ∧ (h293 90 13) ≤ (h293 90 7); omega) (by show N - (h293 90 7) < _; omega)

abbrev P_fMo_town_90 (F : ov_H × ov_Z) (z : ov_Z) (h : ov_H) (t : Int → Int) (m : Int) : Option ov_V → ov_Z → ov_H → Prop := fun r0 z' h' => ∃ r : Int, r0 = some (ov_i r) ∧ ov_N F z' h' ∧ (∀ a : Int, a ≠ 90 ∧ (a < 92 ∨ 94 < a) ∧ (a < 96 ∨ 100 < a) ∧ (a < 103 ∨ 104 < a) → h' a = h a) ∧ ((∃ B : Int → Int, (0 ≤ r ∧ r ≤ 16005) ∧ (pt_ET t m r B)))
set_option maxHeartbeats 4000000 in
theorem c_fMo_town_90 {u : ov_U} {F : ov_H × ov_Z} (t : Int → Int) (m : Int) {z : ov_Z} {h : ov_H} (d : Nat) (hd : 42 ≤ d) (U : ov_cap u) (I : ov_N F z h) (p0 : (h 90 2) = m) (p1 : 0 ≤ m ∧ m ≤ 1000) (p2 : 0 ≤ ov_bd F) (e91 : (h 91) = t) (wd : pt_WD (h 95)) : ov_T u d ov_m205 [ov_r 90] z h (P_fMo_town_90 F z h t m) := by
  refine ov_en rfl (Nat.le_of_ble_eq_true rfl) ?_
  show ov_R u d ov_m205 0 [(0, ov_r 90)] [] z h (P_fMo_town_90 F z h t m)
  refine ov_blk (ls2 := [(0, ov_r 90)]) (st2 := [ov_i 0, ov_r 90]) (pc2 := 2) b_205_0_2 rfl rfl ?_
  refine ov_putf (x := 0) d_205_2 fl_Mo_1 (zb_90 I) (zs_90 I) rfl nk_0 rfl ?_
  have I1 := up_90_0 (x := 0) I (by omega)
  show ov_R u d ov_m205 5 [(0, ov_r 90)] [] z (ov_up h 90 0 0) (P_fMo_town_90 F z h t m)
  refine ov_blk (ls2 := [(0, ov_r 90)]) (st2 := [ov_r 90]) (pc2 := 6) b_205_5_1 rfl rfl ?_
  refine ov_cV (as := []) (st := []) (d2 := d - 1) d_205_6 lk_Mo_205 rfl (Nat.le_of_ble_eq_true rfl) (c := 1) (zb_90 I1) (zs_90 I1) ⟨by decide, rfl⟩ (by omega) (c_fMo_cutAll_90 t m (d - 1) (by omega) U I1 (by show (h 90 2) = m; omega) (by show 0 ≤ m ∧ m ≤ 1000; omega) e91) ?_
  rintro _ z2 h3 ⟨rfl, I4, y5, f6, y7, y8⟩
  have E9 : h3 91 = h 91 := Eq.trans (y5 91 (by decide)) (show (ov_up h 90 0 0) 91 = h 91 from rfl)
  have E10 : h3 95 = h 95 := Eq.trans (y5 95 (by decide)) (show (ov_up h 90 0 0) 95 = h 95 from rfl)
  have E11 : h3 96 = h 96 := Eq.trans (y5 96 (by decide)) (show (ov_up h 90 0 0) 96 = h 96 from rfl)
  have E12 : h3 99 = h 99 := Eq.trans (y5 99 (by decide)) (show (ov_up h 90 0 0) 99 = h 99 from rfl)
  have fr13 : ∀ a : Int, a ≠ 90 ∧ (a < 92 ∨ 94 < a) ∧ (a < 96 ∨ 100 < a) ∧ (a < 103 ∨ 104 < a) → h3 a = h a := fun a ca => Eq.trans (y5 a (by omega)) (Eq.trans (by show (ov_up h 90 0 0) a = h a; rw [ov_up_ne (by omega)]) rfl)
  have f14 : (h3 90 2) = 0 ∧ (h3 90 3) = m ∧ (h3 90 7) = 0 ∧ (h3 90 8) = 0 := f6
  clear f6
  have y7_ : ∃ N : Int, pt_MT t m (h3 92) (h3 93) (h3 94) N := y7
  have y8_ : ∀ k : Int, k ≠ 2 → k ≠ 3 → k ≠ 7 → k ≠ 8 → (h3 90) k = ((ov_up h 90 0 0) 90) k := y8
  have g15 : h3 90 13 = (h 90 13) := y8_ 13 (by decide) (by decide) (by decide) (by decide)
  have g16 : h3 90 15 = (h 90 15) := y8_ 15 (by decide) (by decide) (by decide) (by decide)
  show ov_R u d ov_m205 9 [(0, ov_r 90)] [] z2 h3 (P_fMo_town_90 F z h t m)
  obtain ⟨N, mt⟩ := y7_
  have pz := pt_MT_0 mt
  have mN := mt.1.2.1
  have zp : h3 93 (h3 90 7) = (pt_rn pt_bB t m 0) := by rw [show h3 90 7 = 0 by omega]; exact pz
  have nb0 := pt_rn_b (P := pt_bB) (t := t) (n := m) (p := 0)
  refine ov_blk (ls2 := [(0, ov_r 90)]) (st2 := [ov_i 0, ov_r 90]) (pc2 := 11) b_205_9_2 rfl rfl ?_
  refine ov_putf (x := 0) d_205_11 fl_Mo_208 (zb_90 I4) (zs_90 I4) rfl nk_0 rfl ?_
  have I17 := up_90_13 (x := 0) I4 (by omega)
  show ov_R u d ov_m205 14 [(0, ov_r 90)] [] z2 (ov_up h3 90 13 0) (P_fMo_town_90 F z h t m)
  refine ov_blk (ls2 := [(0, ov_r 90)]) (st2 := [ov_i 0, ov_r 90]) (pc2 := 16) b_205_14_2 rfl rfl ?_
  refine ov_putf (x := 0) d_205_16 fl_Mo_211 (zb_90 I17) (zs_90 I17) rfl nk_0 rfl ?_
  have I18 := up_90_15 (x := 0) I17 (by omega)
  show ov_R u d ov_m205 19 [(0, ov_r 90)] [] z2 (ov_up (ov_up h3 90 13 0) 90 15 0) (P_fMo_town_90 F z h t m)
  refine ov_blk (ls2 := [(0, ov_r 90)]) (st2 := [ov_i 340, ov_r 90]) (pc2 := 23) b_205_19_2 rfl rfl ?_
  refine ov_cV (as := [ov_i 340]) (st := []) (d2 := d - 1) d_205_23 lk_Mo_147 rfl (Nat.le_of_ble_eq_true rfl) (c := 1) (zb_90 I18) (zs_90 I18) ⟨by decide, rfl⟩ (by omega) (c_fMo_standsAsAlways_90 (d - 1) (by omega) U I18 340 (by omega) (by show (340 : Int) = 340; omega)) ?_
  rintro _ z19 h20 ⟨rfl, I21, y22, y23⟩
  have E24 : h20 91 = h 91 := Eq.trans (y22 91 (by decide)) (show (ov_up (ov_up h3 90 13 0) 90 15 0) 91 = h 91 from E9)
  have E25 : h20 92 = h3 92 := Eq.trans (y22 92 (by decide)) (show (ov_up (ov_up h3 90 13 0) 90 15 0) 92 = h3 92 from rfl)
  have E26 : h20 93 = h3 93 := Eq.trans (y22 93 (by decide)) (show (ov_up (ov_up h3 90 13 0) 90 15 0) 93 = h3 93 from rfl)
  have E27 : h20 94 = h3 94 := Eq.trans (y22 94 (by decide)) (show (ov_up (ov_up h3 90 13 0) 90 15 0) 94 = h3 94 from rfl)
  have E28 : h20 95 = h 95 := Eq.trans (y22 95 (by decide)) (show (ov_up (ov_up h3 90 13 0) 90 15 0) 95 = h 95 from E10)
  have E29 : h20 99 = h 99 := Eq.trans (y22 99 (by decide)) (show (ov_up (ov_up h3 90 13 0) 90 15 0) 99 = h 99 from E12)
  have fr30 : ∀ a : Int, a ≠ 90 ∧ (a < 92 ∨ 94 < a) ∧ (a < 96 ∨ 100 < a) ∧ (a < 103 ∨ 104 < a) → h20 a = h a := fun a ca => Eq.trans (y22 a (by omega)) (Eq.trans (by show (ov_up (ov_up h3 90 13 0) 90 15 0) a = h3 a; rw [ov_up_ne (by omega), ov_up_ne (by omega)]) (fr13 a ca))
  have y23_ : ∀ j : Int, 0 ≤ j → j < 340 → (h20 96) (340 + j) = pt_A0 0 0 j := y23
  show ov_R u d ov_m205 26 [(0, ov_r 90)] [] z19 h20 (P_fMo_town_90 F z h t m)
  refine ov_blk (ls2 := [(0, ov_r 90)]) (st2 := [ov_i 0, ov_r 90]) (pc2 := 28) b_205_26_2 rfl rfl ?_
  have cf31 : h20 93 ((h20 90 7)) = h3 93 ((h20 90 7)) := congrFun E26 ((h20 90 7))
  refine ov_cV (as := [ov_i 0]) (st := []) (d2 := d - 1) d_205_28 lk_Mo_195 rfl (Nat.le_of_ble_eq_true rfl) (c := 1) (zb_90 I21) (zs_90 I21) ⟨by decide, rfl⟩ (by omega) (c_fMo_takeWord_90 t m N (pt_rn pt_bB t m 0) 1953462126 (d - 1) (by omega) U I21 0 (by omega) (by show 0 ≤ (h20 90 7) ∧ (h20 90 7) ≤ N; omega) (by show (h20 93 ((h20 90 7))) = (pt_rn pt_bB t m 0); omega) (by show 0 ≤ (h20 90 8); omega) (by show 0 ≤ (0 : Int) ∧ (0 : Int) ≤ 21; omega) (by rw [show h20 92 = h3 92 from E25, show h20 93 = h3 93 from E26, show h20 94 = h3 94 from E27]; exact mt) (by rw [show h20 95 = h 95 from E28]; exact wd) (by decide +kernel)) ?_
  rintro _ z32 h33 ⟨rfl, I34, y35, y36, y37⟩
  have E38 : h33 91 = h 91 := Eq.trans (y35 91 (by decide)) (show h20 91 = h 91 from E24)
  have E39 : h33 92 = h3 92 := Eq.trans (y35 92 (by decide)) (show h20 92 = h3 92 from E25)
  have E40 : h33 93 = h3 93 := Eq.trans (y35 93 (by decide)) (show h20 93 = h3 93 from E26)
  have E41 : h33 94 = h3 94 := Eq.trans (y35 94 (by decide)) (show h20 94 = h3 94 from E27)
  have E42 : h33 95 = h 95 := Eq.trans (y35 95 (by decide)) (show h20 95 = h 95 from E28)
  have E43 : h33 96 = h20 96 := Eq.trans (y35 96 (by decide)) (show h20 96 = h20 96 from rfl)
  have E44 : h33 99 = h 99 := Eq.trans (y35 99 (by decide)) (show h20 99 = h 99 from E29)
  have fr45 : ∀ a : Int, a ≠ 90 ∧ (a < 92 ∨ 94 < a) ∧ (a < 96 ∨ 100 < a) ∧ (a < 103 ∨ 104 < a) → h33 a = h a := fun a ca => Eq.trans (y35 a (by omega)) (fr30 a ca)
  have y36_ : ∀ k : Int, k ≠ 7 → k ≠ 8 → (h33 90) k = (h20 90) k := y36
  have g46 : h33 90 2 = (h20 90 2) := y36_ 2 (by decide) (by decide)
  have g47 : h33 90 3 = (h20 90 3) := y36_ 3 (by decide) (by decide)
  have g48 : h33 90 13 = (h20 90 13) := y36_ 13 (by decide) (by decide)
  have g49 : h33 90 15 = (h20 90 15) := y36_ 15 (by decide) (by decide)
  rcases y37 with f50 | f51 | f52
  · omega
  · skip
    show ov_R u d ov_m205 31 [(0, ov_r 90)] [] z32 h33 (P_fMo_town_90 F z h t m)
    have f53 : (h20 90 8) = 0 ∧ pt_iw t m (pt_rn pt_bB t m 0) (1953462126 : Int) = 0 ∧ (h33 90 8) = 1 + 16 * (pt_rn pt_bB t m 0) ∧ 1 ≤ (h33 90 8) ∧ (h33 90 7) = (h20 90 7) ∧ (h33 93 ((h33 90 7))) = (pt_rn pt_bB t m 0) := f51
    clear f51
    refine ov_blk (ls2 := [(0, ov_r 90)]) (st2 := [ov_r 90]) (pc2 := 32) b_205_31_1 rfl rfl ?_
    refine ov_getf (v := ov_r 96) d_205_32 fl_Mo_81 (zb_90 I34) (zs_90 I34) (congrArg ov_r (rg_90_10 I34)) ?_
    refine ov_blk (ls2 := [(0, ov_r 90)]) (st2 := [ov_i 6, ov_i 1, ov_r 90, ov_i 340, ov_r 96]) (pc2 := 42) b_205_35_4 rfl rfl ?_
    have cf54 : h33 93 ((h33 90 7)) = h3 93 ((h33 90 7)) := congrFun E40 ((h33 90 7))
    refine ov_cV (as := [ov_i 1, ov_i 6]) (st := [ov_i 340, ov_r 96]) (d2 := d - 1) d_205_42 lk_Mo_198 rfl (Nat.le_of_ble_eq_true rfl) (c := 1) (zb_90 I34) (zs_90 I34) ⟨by decide, rfl⟩ (by omega) (c_fMo_takeNumber_90 t m N (pt_rn pt_bB t m 0) (d - 1) (by omega) U I34 1 6 (by omega) (by omega) (by show 0 ≤ (h33 90 7) ∧ (h33 90 7) ≤ N; omega) (by show (h33 93 ((h33 90 7))) = (pt_rn pt_bB t m 0); omega) (by show 0 ≤ (h33 90 8); omega) (by rw [show h33 92 = h3 92 from E39, show h33 93 = h3 93 from E40, show h33 94 = h3 94 from E41]; exact mt)) ?_
    rintro _ z56 h57 ⟨v55, rfl, I58, y59, y60, y61⟩
    have E62 : h57 91 = h 91 := Eq.trans (y59 91 (by decide)) (show h33 91 = h 91 from E38)
    have E63 : h57 92 = h3 92 := Eq.trans (y59 92 (by decide)) (show h33 92 = h3 92 from E39)
    have E64 : h57 93 = h3 93 := Eq.trans (y59 93 (by decide)) (show h33 93 = h3 93 from E40)
    have E65 : h57 94 = h3 94 := Eq.trans (y59 94 (by decide)) (show h33 94 = h3 94 from E41)
    have E66 : h57 95 = h 95 := Eq.trans (y59 95 (by decide)) (show h33 95 = h 95 from E42)
    have E67 : h57 96 = h20 96 := Eq.trans (y59 96 (by decide)) (show h33 96 = h20 96 from E43)
    have E68 : h57 99 = h 99 := Eq.trans (y59 99 (by decide)) (show h33 99 = h 99 from E44)
    have fr69 : ∀ a : Int, a ≠ 90 ∧ (a < 92 ∨ 94 < a) ∧ (a < 96 ∨ 100 < a) ∧ (a < 103 ∨ 104 < a) → h57 a = h a := fun a ca => Eq.trans (y59 a (by omega)) (fr45 a ca)
    have y60_ : ∀ k : Int, k ≠ 7 → k ≠ 8 → (h57 90) k = (h33 90) k := y60
    have g70 : h57 90 2 = (h33 90 2) := y60_ 2 (by decide) (by decide)
    have g71 : h57 90 3 = (h33 90 3) := y60_ 3 (by decide) (by decide)
    have g72 : h57 90 13 = (h33 90 13) := y60_ 13 (by decide) (by decide)
    have g73 : h57 90 15 = (h33 90 15) := y60_ 15 (by decide) (by decide)
    rcases y61 with f74 | f75 | f76
    · skip
      show ov_R u d ov_m205 45 [(0, ov_r 90)] [ov_i v55, ov_i 340, ov_r 96] z56 h57 (P_fMo_town_90 F z h t m)
      have f77 : v55 = 0 ∧ (h33 90 8) ≠ 0 ∧ (h57 90 8) = (h33 90 8) ∧ (h57 90 7) = (h33 90 7) ∧ (h57 93 ((h57 90 7))) = (pt_rn pt_bB t m 0) := f74
      clear f74
      refine ov_iast d_205_45 (zb_96 I58) (zs_96 I58) (by omega) ?_
      have I78 := ua_96 (k := 340) (x := v55) I58 (by refine ⟨?_, ?_, ?_, ?_, ?_, ?_, ?_, ?_, ?_, ?_, ?_, ?_, ?_, ?_, ?_, ?_, ?_, ?_, ?_, ?_, ?_, ?_, ?_, ?_, ?_, ?_, ?_, ?_, ?_⟩ <;> omega)
      refine ov_blk (ls2 := [(0, ov_r 90)]) (st2 := [ov_r 90]) (pc2 := 47) b_205_46_1 rfl rfl ?_
      refine ov_getf (v := ov_r 96) d_205_47 fl_Mo_81 (zb_90 I78) (zs_90 I78) (congrArg ov_r (rg_90_10 I78)) ?_
      refine ov_blk (ls2 := [(0, ov_r 90)]) (st2 := [ov_i 9, ov_i 1, ov_r 90, ov_i 341, ov_r 96]) (pc2 := 57) b_205_50_4 rfl rfl ?_
      have cf79 : h57 93 ((h57 90 7)) = h3 93 ((h57 90 7)) := congrFun E64 ((h57 90 7))
      refine ov_cV (as := [ov_i 1, ov_i 9]) (st := [ov_i 341, ov_r 96]) (d2 := d - 1) d_205_57 lk_Mo_198 rfl (Nat.le_of_ble_eq_true rfl) (c := 1) (zb_90 I78) (zs_90 I78) ⟨by decide, rfl⟩ (by omega) (c_fMo_takeNumber_90 t m N (pt_rn pt_bB t m 0) (d - 1) (by omega) U I78 1 9 (by omega) (by omega) (by show 0 ≤ (h57 90 7) ∧ (h57 90 7) ≤ N; omega) (by show (h57 93 ((h57 90 7))) = (pt_rn pt_bB t m 0); omega) (by show 0 ≤ (h57 90 8); omega) (by rw [show (ov_up h57 96 340 v55) 92 = h3 92 from E63, show (ov_up h57 96 340 v55) 93 = h3 93 from E64, show (ov_up h57 96 340 v55) 94 = h3 94 from E65]; exact mt)) ?_
      rintro _ z81 h82 ⟨v80, rfl, I83, y84, y85, y86⟩
      have E87 : h82 91 = h 91 := Eq.trans (y84 91 (by decide)) (show (ov_up h57 96 340 v55) 91 = h 91 from E62)
      have E88 : h82 92 = h3 92 := Eq.trans (y84 92 (by decide)) (show (ov_up h57 96 340 v55) 92 = h3 92 from E63)
      have E89 : h82 93 = h3 93 := Eq.trans (y84 93 (by decide)) (show (ov_up h57 96 340 v55) 93 = h3 93 from E64)
      have E90 : h82 94 = h3 94 := Eq.trans (y84 94 (by decide)) (show (ov_up h57 96 340 v55) 94 = h3 94 from E65)
      have E91 : h82 95 = h 95 := Eq.trans (y84 95 (by decide)) (show (ov_up h57 96 340 v55) 95 = h 95 from E66)
      have R93 : h82 96 = (ov_rs (h20 96) 340 v55) := Eq.trans (y84 96 (by decide)) (Eq.trans (ov_up_row h57 96 340 v55) (congrArg (fun f => ov_rs f 340 v55) E67))
      have E94 : h82 99 = h 99 := Eq.trans (y84 99 (by decide)) (show (ov_up h57 96 340 v55) 99 = h 99 from E68)
      have fr95 : ∀ a : Int, a ≠ 90 ∧ (a < 92 ∨ 94 < a) ∧ (a < 96 ∨ 100 < a) ∧ (a < 103 ∨ 104 < a) → h82 a = h a := fun a ca => Eq.trans (y84 a (by omega)) (Eq.trans (by show (ov_up h57 96 340 v55) a = h57 a; rw [ov_up_ne (by omega)]) (fr69 a ca))
      have y85_ : ∀ k : Int, k ≠ 7 → k ≠ 8 → (h82 90) k = (h57 90) k := y85
      have g96 : h82 90 2 = (h57 90 2) := y85_ 2 (by decide) (by decide)
      have g97 : h82 90 3 = (h57 90 3) := y85_ 3 (by decide) (by decide)
      have g98 : h82 90 13 = (h57 90 13) := y85_ 13 (by decide) (by decide)
      have g99 : h82 90 15 = (h57 90 15) := y85_ 15 (by decide) (by decide)
      rcases y86 with f100 | f101 | f102
      · skip
        show ov_R u d ov_m205 60 [(0, ov_r 90)] [ov_i v80, ov_i 341, ov_r 96] z81 h82 (P_fMo_town_90 F z h t m)
        have f103 : v80 = 0 ∧ (h57 90 8) ≠ 0 ∧ (h82 90 8) = (h57 90 8) ∧ (h82 90 7) = (h57 90 7) ∧ (h82 93 ((h82 90 7))) = (pt_rn pt_bB t m 0) := f100
        clear f100
        refine ov_iast d_205_60 (zb_96 I83) (zs_96 I83) (by omega) ?_
        have I104 := ua_96 (k := 341) (x := v80) I83 (by refine ⟨?_, ?_, ?_, ?_, ?_, ?_, ?_, ?_, ?_, ?_, ?_, ?_, ?_, ?_, ?_, ?_, ?_, ?_, ?_, ?_, ?_, ?_, ?_, ?_, ?_, ?_, ?_, ?_, ?_⟩ <;> omega)
        refine ov_blk (ls2 := [(0, ov_r 90)]) (st2 := [ov_i 59, ov_r 90]) (pc2 := 64) b_205_61_2 rfl rfl ?_
        have cf105 : h82 93 ((h82 90 7)) = h3 93 ((h82 90 7)) := congrFun E89 ((h82 90 7))
        refine ov_cV (as := [ov_i 59]) (st := []) (d2 := d - 1) d_205_64 lk_Mo_214 rfl (Nat.le_of_ble_eq_true rfl) (c := 1) (zb_90 I104) (zs_90 I104) ⟨by decide, rfl⟩ (by omega) (c_fMo_takeSign_90 t m N (pt_rn pt_bB t m 0) (d - 1) (by omega) U I104 59 (by omega) (by show 0 ≤ (h82 90 7) ∧ (h82 90 7) ≤ N; omega) (by show (h82 93 ((h82 90 7))) = (pt_rn pt_bB t m 0); omega) (by show 0 ≤ (h82 90 8); omega) (by show 0 ≤ (59 : Int) ∧ (59 : Int) ≤ 65535; omega) (by rw [show (ov_up h82 96 341 v80) 92 = h3 92 from E88, show (ov_up h82 96 341 v80) 93 = h3 93 from E89, show (ov_up h82 96 341 v80) 94 = h3 94 from E90]; exact mt)) ?_
        rintro _ z106 h107 ⟨rfl, I108, y109, y110, y111⟩
        have E112 : h107 91 = h 91 := Eq.trans (y109 91 (by decide)) (show (ov_up h82 96 341 v80) 91 = h 91 from E87)
        have E113 : h107 92 = h3 92 := Eq.trans (y109 92 (by decide)) (show (ov_up h82 96 341 v80) 92 = h3 92 from E88)
        have E114 : h107 93 = h3 93 := Eq.trans (y109 93 (by decide)) (show (ov_up h82 96 341 v80) 93 = h3 93 from E89)
        have E115 : h107 94 = h3 94 := Eq.trans (y109 94 (by decide)) (show (ov_up h82 96 341 v80) 94 = h3 94 from E90)
        have E116 : h107 95 = h 95 := Eq.trans (y109 95 (by decide)) (show (ov_up h82 96 341 v80) 95 = h 95 from E91)
        have R118 : h107 96 = (ov_rs (ov_rs (h20 96) 340 v55) 341 v80) := Eq.trans (y109 96 (by decide)) (Eq.trans (ov_up_row h82 96 341 v80) (congrArg (fun f => ov_rs f 341 v80) R93))
        have E119 : h107 99 = h 99 := Eq.trans (y109 99 (by decide)) (show (ov_up h82 96 341 v80) 99 = h 99 from E94)
        have fr120 : ∀ a : Int, a ≠ 90 ∧ (a < 92 ∨ 94 < a) ∧ (a < 96 ∨ 100 < a) ∧ (a < 103 ∨ 104 < a) → h107 a = h a := fun a ca => Eq.trans (y109 a (by omega)) (Eq.trans (by show (ov_up h82 96 341 v80) a = h82 a; rw [ov_up_ne (by omega)]) (fr95 a ca))
        have y110_ : ∀ k : Int, k ≠ 7 → k ≠ 8 → (h107 90) k = (h82 90) k := y110
        have g121 : h107 90 2 = (h82 90 2) := y110_ 2 (by decide) (by decide)
        have g122 : h107 90 3 = (h82 90 3) := y110_ 3 (by decide) (by decide)
        have g123 : h107 90 13 = (h82 90 13) := y110_ 13 (by decide) (by decide)
        have g124 : h107 90 15 = (h82 90 15) := y110_ 15 (by decide) (by decide)
        rcases y111 with f125 | f126 | f127
        · skip
          show ov_R u d ov_m205 67 [(0, ov_r 90)] [] z106 h107 (P_fMo_town_90 F z h t m)
          have f128 : (h82 90 8) ≠ 0 ∧ (h107 90 8) = (h82 90 8) ∧ (h107 90 7) = (h82 90 7) ∧ (h107 93 ((h107 90 7))) = (pt_rn pt_bB t m 0) := f125
          clear f125
          refine ov_blk (ls2 := [(0, ov_r 90)]) (st2 := [ov_r 90]) (pc2 := 68) b_205_67_1 rfl rfl ?_
          refine ov_getf (v := ov_i (h107 90 8)) d_205_68 fl_Mo_180 (zb_90 I108) (zs_90 I108) rfl ?_
          have g129 := rg_90_8 I108
          refine ov_ifne (tgt := 99) d_205_71 (by decide) (by omega) (fun c130 => ?_) (fun c130 => ?_)
          · skip
            refine ov_blk (ls2 := [(0, ov_r 90)]) (st2 := [ov_r 90]) (pc2 := 100) b_205_99_1 rfl rfl ?_
            refine ov_getf (v := ov_i (h107 90 8)) d_205_100 fl_Mo_180 (zb_90 I108) (zs_90 I108) rfl ?_
            refine ov_ifle (tgt := 111) d_205_103 (by decide) (by omega) (fun c132 => ?_) (fun c132 => ?_)
            · omega
            · skip
              refine ov_blk (ls2 := [(0, ov_r 90)]) (st2 := [ov_r 90]) (pc2 := 107) b_205_106_1 rfl rfl ?_
              refine ov_getf (v := ov_i (h107 90 8)) d_205_107 fl_Mo_180 (zb_90 I108) (zs_90 I108) rfl ?_
              have hz : (pt_szF t m (pt_rn pt_bB t m 0)) = (h107 90 8) := by unfold pt_szF pt_fW pt_fS; (repeat' split) <;> omega
              exact ov_reti (st := []) d_205_110 rfl ⟨_, rfl, I108, (fun a ca => (fr120 a ca)), ⟨(fun _ => 0), (by show 0 ≤ (h107 90 8) ∧ (h107 90 8) ≤ 16005; omega), (Or.inl ⟨by omega, hz.symm⟩)⟩⟩
          · omega
        · have q9 : (h82 90 8) = 0 ∧ pt_is t m (pt_rn pt_bB t m 0) (59 : Int) = 0 ∧ (h107 90 8) = 1 + 16 * (pt_rn pt_bB t m 0) ∧ 1 ≤ (h107 90 8) ∧ (h107 90 7) = (h82 90 7) ∧ (h107 93 ((h107 90 7))) = (pt_rn pt_bB t m 0) := f126
          omega
        · have q9 : (h82 90 8) = 0 ∧ pt_is t m (pt_rn pt_bB t m 0) (59 : Int) = 1 ∧ (h107 90 8) = 0 ∧ (h107 90 7) = (h82 90 7) + 1 ∧ (h107 90 7) ≤ N ∧ (h107 93 ((h107 90 7))) = pt_nt t m (pt_rn pt_bB t m 0) := f127
          omega
      · have q9 : v80 = 0 ∧ (h57 90 8) = 0 ∧ (h82 90 8) = pt_fN t m (1 : Int) (9 : Int) (pt_rn pt_bB t m 0) ∧ 1 ≤ (h82 90 8) ∧ (h82 90 7) = (h57 90 7) ∧ (h82 93 ((h82 90 7))) = (pt_rn pt_bB t m 0) := f101
        omega
      · have q9 : (h57 90 8) = 0 ∧ (h82 90 8) = 0 ∧ pt_fN t m (1 : Int) (9 : Int) (pt_rn pt_bB t m 0) = 0 ∧ pt_ty t m (pt_rn pt_bB t m 0) = 3 ∧ (1 : Int) ≤ v80 ∧ v80 ≤ (9 : Int) ∧ v80 = pt_nm t m (pt_rn pt_bB t m 0) ∧ 0 ≤ v80 ∧ v80 ≤ 9999 ∧ (h82 90 7) = (h57 90 7) + 1 ∧ (h82 90 7) ≤ N ∧ (h82 93 ((h82 90 7))) = pt_nt t m (pt_rn pt_bB t m 0) := f102
        omega
    · omega
    · omega
  · skip
    show ov_R u d ov_m205 31 [(0, ov_r 90)] [] z32 h33 (P_fMo_town_90 F z h t m)
    have f134 : (h20 90 8) = 0 ∧ pt_iw t m (pt_rn pt_bB t m 0) (1953462126 : Int) = 1 ∧ (h33 90 8) = 0 ∧ (h33 90 7) = (h20 90 7) + 1 ∧ (h33 90 7) ≤ N ∧ (h33 93 ((h33 90 7))) = pt_nt t m (pt_rn pt_bB t m 0) := f52
    clear f52
    refine ov_blk (ls2 := [(0, ov_r 90)]) (st2 := [ov_r 90]) (pc2 := 32) b_205_31_1 rfl rfl ?_
    refine ov_getf (v := ov_r 96) d_205_32 fl_Mo_81 (zb_90 I34) (zs_90 I34) (congrArg ov_r (rg_90_10 I34)) ?_
    refine ov_blk (ls2 := [(0, ov_r 90)]) (st2 := [ov_i 6, ov_i 1, ov_r 90, ov_i 340, ov_r 96]) (pc2 := 42) b_205_35_4 rfl rfl ?_
    have cf135 : h33 93 ((h33 90 7)) = h3 93 ((h33 90 7)) := congrFun E40 ((h33 90 7))
    refine ov_cV (as := [ov_i 1, ov_i 6]) (st := [ov_i 340, ov_r 96]) (d2 := d - 1) d_205_42 lk_Mo_198 rfl (Nat.le_of_ble_eq_true rfl) (c := 1) (zb_90 I34) (zs_90 I34) ⟨by decide, rfl⟩ (by omega) (c_fMo_takeNumber_90 t m N (pt_nt t m (pt_rn pt_bB t m 0)) (d - 1) (by omega) U I34 1 6 (by omega) (by omega) (by show 0 ≤ (h33 90 7) ∧ (h33 90 7) ≤ N; omega) (by show (h33 93 ((h33 90 7))) = (pt_nt t m (pt_rn pt_bB t m 0)); omega) (by show 0 ≤ (h33 90 8); omega) (by rw [show h33 92 = h3 92 from E39, show h33 93 = h3 93 from E40, show h33 94 = h3 94 from E41]; exact mt)) ?_
    rintro _ z137 h138 ⟨v136, rfl, I139, y140, y141, y142⟩
    have E143 : h138 91 = h 91 := Eq.trans (y140 91 (by decide)) (show h33 91 = h 91 from E38)
    have E144 : h138 92 = h3 92 := Eq.trans (y140 92 (by decide)) (show h33 92 = h3 92 from E39)
    have E145 : h138 93 = h3 93 := Eq.trans (y140 93 (by decide)) (show h33 93 = h3 93 from E40)
    have E146 : h138 94 = h3 94 := Eq.trans (y140 94 (by decide)) (show h33 94 = h3 94 from E41)
    have E147 : h138 95 = h 95 := Eq.trans (y140 95 (by decide)) (show h33 95 = h 95 from E42)
    have E148 : h138 96 = h20 96 := Eq.trans (y140 96 (by decide)) (show h33 96 = h20 96 from E43)
    have E149 : h138 99 = h 99 := Eq.trans (y140 99 (by decide)) (show h33 99 = h 99 from E44)
    have fr150 : ∀ a : Int, a ≠ 90 ∧ (a < 92 ∨ 94 < a) ∧ (a < 96 ∨ 100 < a) ∧ (a < 103 ∨ 104 < a) → h138 a = h a := fun a ca => Eq.trans (y140 a (by omega)) (fr45 a ca)
    have y141_ : ∀ k : Int, k ≠ 7 → k ≠ 8 → (h138 90) k = (h33 90) k := y141
    have g151 : h138 90 2 = (h33 90 2) := y141_ 2 (by decide) (by decide)
    have g152 : h138 90 3 = (h33 90 3) := y141_ 3 (by decide) (by decide)
    have g153 : h138 90 13 = (h33 90 13) := y141_ 13 (by decide) (by decide)
    have g154 : h138 90 15 = (h33 90 15) := y141_ 15 (by decide) (by decide)
    rcases y142 with f155 | f156 | f157
    · omega
    · skip
      show ov_R u d ov_m205 45 [(0, ov_r 90)] [ov_i v136, ov_i 340, ov_r 96] z137 h138 (P_fMo_town_90 F z h t m)
      have f158 : v136 = 0 ∧ (h33 90 8) = 0 ∧ (h138 90 8) = pt_fN t m (1 : Int) (6 : Int) (pt_nt t m (pt_rn pt_bB t m 0)) ∧ 1 ≤ (h138 90 8) ∧ (h138 90 7) = (h33 90 7) ∧ (h138 93 ((h138 90 7))) = (pt_nt t m (pt_rn pt_bB t m 0)) := f156
      clear f156
      refine ov_iast d_205_45 (zb_96 I139) (zs_96 I139) (by omega) ?_
      have I159 := ua_96 (k := 340) (x := v136) I139 (by refine ⟨?_, ?_, ?_, ?_, ?_, ?_, ?_, ?_, ?_, ?_, ?_, ?_, ?_, ?_, ?_, ?_, ?_, ?_, ?_, ?_, ?_, ?_, ?_, ?_, ?_, ?_, ?_, ?_, ?_⟩ <;> omega)
      refine ov_blk (ls2 := [(0, ov_r 90)]) (st2 := [ov_r 90]) (pc2 := 47) b_205_46_1 rfl rfl ?_
      refine ov_getf (v := ov_r 96) d_205_47 fl_Mo_81 (zb_90 I159) (zs_90 I159) (congrArg ov_r (rg_90_10 I159)) ?_
      refine ov_blk (ls2 := [(0, ov_r 90)]) (st2 := [ov_i 9, ov_i 1, ov_r 90, ov_i 341, ov_r 96]) (pc2 := 57) b_205_50_4 rfl rfl ?_
      have cf160 : h138 93 ((h138 90 7)) = h3 93 ((h138 90 7)) := congrFun E145 ((h138 90 7))
      refine ov_cV (as := [ov_i 1, ov_i 9]) (st := [ov_i 341, ov_r 96]) (d2 := d - 1) d_205_57 lk_Mo_198 rfl (Nat.le_of_ble_eq_true rfl) (c := 1) (zb_90 I159) (zs_90 I159) ⟨by decide, rfl⟩ (by omega) (c_fMo_takeNumber_90 t m N (pt_nt t m (pt_rn pt_bB t m 0)) (d - 1) (by omega) U I159 1 9 (by omega) (by omega) (by show 0 ≤ (h138 90 7) ∧ (h138 90 7) ≤ N; omega) (by show (h138 93 ((h138 90 7))) = (pt_nt t m (pt_rn pt_bB t m 0)); omega) (by show 0 ≤ (h138 90 8); omega) (by rw [show (ov_up h138 96 340 v136) 92 = h3 92 from E144, show (ov_up h138 96 340 v136) 93 = h3 93 from E145, show (ov_up h138 96 340 v136) 94 = h3 94 from E146]; exact mt)) ?_
      rintro _ z162 h163 ⟨v161, rfl, I164, y165, y166, y167⟩
      have E168 : h163 91 = h 91 := Eq.trans (y165 91 (by decide)) (show (ov_up h138 96 340 v136) 91 = h 91 from E143)
      have E169 : h163 92 = h3 92 := Eq.trans (y165 92 (by decide)) (show (ov_up h138 96 340 v136) 92 = h3 92 from E144)
      have E170 : h163 93 = h3 93 := Eq.trans (y165 93 (by decide)) (show (ov_up h138 96 340 v136) 93 = h3 93 from E145)
      have E171 : h163 94 = h3 94 := Eq.trans (y165 94 (by decide)) (show (ov_up h138 96 340 v136) 94 = h3 94 from E146)
      have E172 : h163 95 = h 95 := Eq.trans (y165 95 (by decide)) (show (ov_up h138 96 340 v136) 95 = h 95 from E147)
      have R174 : h163 96 = (ov_rs (h20 96) 340 v136) := Eq.trans (y165 96 (by decide)) (Eq.trans (ov_up_row h138 96 340 v136) (congrArg (fun f => ov_rs f 340 v136) E148))
      have E175 : h163 99 = h 99 := Eq.trans (y165 99 (by decide)) (show (ov_up h138 96 340 v136) 99 = h 99 from E149)
      have fr176 : ∀ a : Int, a ≠ 90 ∧ (a < 92 ∨ 94 < a) ∧ (a < 96 ∨ 100 < a) ∧ (a < 103 ∨ 104 < a) → h163 a = h a := fun a ca => Eq.trans (y165 a (by omega)) (Eq.trans (by show (ov_up h138 96 340 v136) a = h138 a; rw [ov_up_ne (by omega)]) (fr150 a ca))
      have y166_ : ∀ k : Int, k ≠ 7 → k ≠ 8 → (h163 90) k = (h138 90) k := y166
      have g177 : h163 90 2 = (h138 90 2) := y166_ 2 (by decide) (by decide)
      have g178 : h163 90 3 = (h138 90 3) := y166_ 3 (by decide) (by decide)
      have g179 : h163 90 13 = (h138 90 13) := y166_ 13 (by decide) (by decide)
      have g180 : h163 90 15 = (h138 90 15) := y166_ 15 (by decide) (by decide)
      rcases y167 with f181 | f182 | f183
      · skip
        show ov_R u d ov_m205 60 [(0, ov_r 90)] [ov_i v161, ov_i 341, ov_r 96] z162 h163 (P_fMo_town_90 F z h t m)
        have f184 : v161 = 0 ∧ (h138 90 8) ≠ 0 ∧ (h163 90 8) = (h138 90 8) ∧ (h163 90 7) = (h138 90 7) ∧ (h163 93 ((h163 90 7))) = (pt_nt t m (pt_rn pt_bB t m 0)) := f181
        clear f181
        refine ov_iast d_205_60 (zb_96 I164) (zs_96 I164) (by omega) ?_
        have I185 := ua_96 (k := 341) (x := v161) I164 (by refine ⟨?_, ?_, ?_, ?_, ?_, ?_, ?_, ?_, ?_, ?_, ?_, ?_, ?_, ?_, ?_, ?_, ?_, ?_, ?_, ?_, ?_, ?_, ?_, ?_, ?_, ?_, ?_, ?_, ?_⟩ <;> omega)
        refine ov_blk (ls2 := [(0, ov_r 90)]) (st2 := [ov_i 59, ov_r 90]) (pc2 := 64) b_205_61_2 rfl rfl ?_
        have cf186 : h163 93 ((h163 90 7)) = h3 93 ((h163 90 7)) := congrFun E170 ((h163 90 7))
        refine ov_cV (as := [ov_i 59]) (st := []) (d2 := d - 1) d_205_64 lk_Mo_214 rfl (Nat.le_of_ble_eq_true rfl) (c := 1) (zb_90 I185) (zs_90 I185) ⟨by decide, rfl⟩ (by omega) (c_fMo_takeSign_90 t m N (pt_nt t m (pt_rn pt_bB t m 0)) (d - 1) (by omega) U I185 59 (by omega) (by show 0 ≤ (h163 90 7) ∧ (h163 90 7) ≤ N; omega) (by show (h163 93 ((h163 90 7))) = (pt_nt t m (pt_rn pt_bB t m 0)); omega) (by show 0 ≤ (h163 90 8); omega) (by show 0 ≤ (59 : Int) ∧ (59 : Int) ≤ 65535; omega) (by rw [show (ov_up h163 96 341 v161) 92 = h3 92 from E169, show (ov_up h163 96 341 v161) 93 = h3 93 from E170, show (ov_up h163 96 341 v161) 94 = h3 94 from E171]; exact mt)) ?_
        rintro _ z187 h188 ⟨rfl, I189, y190, y191, y192⟩
        have E193 : h188 91 = h 91 := Eq.trans (y190 91 (by decide)) (show (ov_up h163 96 341 v161) 91 = h 91 from E168)
        have E194 : h188 92 = h3 92 := Eq.trans (y190 92 (by decide)) (show (ov_up h163 96 341 v161) 92 = h3 92 from E169)
        have E195 : h188 93 = h3 93 := Eq.trans (y190 93 (by decide)) (show (ov_up h163 96 341 v161) 93 = h3 93 from E170)
        have E196 : h188 94 = h3 94 := Eq.trans (y190 94 (by decide)) (show (ov_up h163 96 341 v161) 94 = h3 94 from E171)
        have E197 : h188 95 = h 95 := Eq.trans (y190 95 (by decide)) (show (ov_up h163 96 341 v161) 95 = h 95 from E172)
        have R199 : h188 96 = (ov_rs (ov_rs (h20 96) 340 v136) 341 v161) := Eq.trans (y190 96 (by decide)) (Eq.trans (ov_up_row h163 96 341 v161) (congrArg (fun f => ov_rs f 341 v161) R174))
        have E200 : h188 99 = h 99 := Eq.trans (y190 99 (by decide)) (show (ov_up h163 96 341 v161) 99 = h 99 from E175)
        have fr201 : ∀ a : Int, a ≠ 90 ∧ (a < 92 ∨ 94 < a) ∧ (a < 96 ∨ 100 < a) ∧ (a < 103 ∨ 104 < a) → h188 a = h a := fun a ca => Eq.trans (y190 a (by omega)) (Eq.trans (by show (ov_up h163 96 341 v161) a = h163 a; rw [ov_up_ne (by omega)]) (fr176 a ca))
        have y191_ : ∀ k : Int, k ≠ 7 → k ≠ 8 → (h188 90) k = (h163 90) k := y191
        have g202 : h188 90 2 = (h163 90 2) := y191_ 2 (by decide) (by decide)
        have g203 : h188 90 3 = (h163 90 3) := y191_ 3 (by decide) (by decide)
        have g204 : h188 90 13 = (h163 90 13) := y191_ 13 (by decide) (by decide)
        have g205 : h188 90 15 = (h163 90 15) := y191_ 15 (by decide) (by decide)
        rcases y192 with f206 | f207 | f208
        · skip
          show ov_R u d ov_m205 67 [(0, ov_r 90)] [] z187 h188 (P_fMo_town_90 F z h t m)
          have f209 : (h163 90 8) ≠ 0 ∧ (h188 90 8) = (h163 90 8) ∧ (h188 90 7) = (h163 90 7) ∧ (h188 93 ((h188 90 7))) = (pt_nt t m (pt_rn pt_bB t m 0)) := f206
          clear f206
          refine ov_blk (ls2 := [(0, ov_r 90)]) (st2 := [ov_r 90]) (pc2 := 68) b_205_67_1 rfl rfl ?_
          refine ov_getf (v := ov_i (h188 90 8)) d_205_68 fl_Mo_180 (zb_90 I189) (zs_90 I189) rfl ?_
          have g210 := rg_90_8 I189
          refine ov_ifne (tgt := 99) d_205_71 (by decide) (by omega) (fun c211 => ?_) (fun c211 => ?_)
          · skip
            refine ov_blk (ls2 := [(0, ov_r 90)]) (st2 := [ov_r 90]) (pc2 := 100) b_205_99_1 rfl rfl ?_
            refine ov_getf (v := ov_i (h188 90 8)) d_205_100 fl_Mo_180 (zb_90 I189) (zs_90 I189) rfl ?_
            refine ov_ifle (tgt := 111) d_205_103 (by decide) (by omega) (fun c213 => ?_) (fun c213 => ?_)
            · omega
            · skip
              refine ov_blk (ls2 := [(0, ov_r 90)]) (st2 := [ov_r 90]) (pc2 := 107) b_205_106_1 rfl rfl ?_
              refine ov_getf (v := ov_i (h188 90 8)) d_205_107 fl_Mo_180 (zb_90 I189) (zs_90 I189) rfl ?_
              have hz : (pt_szF t m (pt_rn pt_bB t m 0)) = (h188 90 8) := by unfold pt_szF pt_fW pt_fS; (repeat' split) <;> omega
              exact ov_reti (st := []) d_205_110 rfl ⟨_, rfl, I189, (fun a ca => (fr201 a ca)), ⟨(fun _ => 0), (by show 0 ≤ (h188 90 8) ∧ (h188 90 8) ≤ 16005; omega), (Or.inl ⟨by omega, hz.symm⟩)⟩⟩
          · omega
        · have q9 : (h163 90 8) = 0 ∧ pt_is t m (pt_nt t m (pt_rn pt_bB t m 0)) (59 : Int) = 0 ∧ (h188 90 8) = 1 + 16 * (pt_nt t m (pt_rn pt_bB t m 0)) ∧ 1 ≤ (h188 90 8) ∧ (h188 90 7) = (h163 90 7) ∧ (h188 93 ((h188 90 7))) = (pt_nt t m (pt_rn pt_bB t m 0)) := f207
          omega
        · have q9 : (h163 90 8) = 0 ∧ pt_is t m (pt_nt t m (pt_rn pt_bB t m 0)) (59 : Int) = 1 ∧ (h188 90 8) = 0 ∧ (h188 90 7) = (h163 90 7) + 1 ∧ (h188 90 7) ≤ N ∧ (h188 93 ((h188 90 7))) = pt_nt t m (pt_nt t m (pt_rn pt_bB t m 0)) := f208
          omega
      · have q9 : v161 = 0 ∧ (h138 90 8) = 0 ∧ (h163 90 8) = pt_fN t m (1 : Int) (9 : Int) (pt_nt t m (pt_rn pt_bB t m 0)) ∧ 1 ≤ (h163 90 8) ∧ (h163 90 7) = (h138 90 7) ∧ (h163 93 ((h163 90 7))) = (pt_nt t m (pt_rn pt_bB t m 0)) := f182
        omega
      · have q9 : (h138 90 8) = 0 ∧ (h163 90 8) = 0 ∧ pt_fN t m (1 : Int) (9 : Int) (pt_nt t m (pt_rn pt_bB t m 0)) = 0 ∧ pt_ty t m (pt_nt t m (pt_rn pt_bB t m 0)) = 3 ∧ (1 : Int) ≤ v161 ∧ v161 ≤ (9 : Int) ∧ v161 = pt_nm t m (pt_nt t m (pt_rn pt_bB t m 0)) ∧ 0 ≤ v161 ∧ v161 ≤ 9999 ∧ (h163 90 7) = (h138 90 7) + 1 ∧ (h163 90 7) ≤ N ∧ (h163 93 ((h163 90 7))) = pt_nt t m (pt_nt t m (pt_rn pt_bB t m 0)) := f183
        omega
    · skip
      show ov_R u d ov_m205 45 [(0, ov_r 90)] [ov_i v136, ov_i 340, ov_r 96] z137 h138 (P_fMo_town_90 F z h t m)
      have f215 : (h33 90 8) = 0 ∧ (h138 90 8) = 0 ∧ pt_fN t m (1 : Int) (6 : Int) (pt_nt t m (pt_rn pt_bB t m 0)) = 0 ∧ pt_ty t m (pt_nt t m (pt_rn pt_bB t m 0)) = 3 ∧ (1 : Int) ≤ v136 ∧ v136 ≤ (6 : Int) ∧ v136 = pt_nm t m (pt_nt t m (pt_rn pt_bB t m 0)) ∧ 0 ≤ v136 ∧ v136 ≤ 9999 ∧ (h138 90 7) = (h33 90 7) + 1 ∧ (h138 90 7) ≤ N ∧ (h138 93 ((h138 90 7))) = pt_nt t m (pt_nt t m (pt_rn pt_bB t m 0)) := f157
      clear f157
      refine ov_iast d_205_45 (zb_96 I139) (zs_96 I139) (by omega) ?_
      have I216 := ua_96 (k := 340) (x := v136) I139 (by refine ⟨?_, ?_, ?_, ?_, ?_, ?_, ?_, ?_, ?_, ?_, ?_, ?_, ?_, ?_, ?_, ?_, ?_, ?_, ?_, ?_, ?_, ?_, ?_, ?_, ?_, ?_, ?_, ?_, ?_⟩ <;> omega)
      refine ov_blk (ls2 := [(0, ov_r 90)]) (st2 := [ov_r 90]) (pc2 := 47) b_205_46_1 rfl rfl ?_
      refine ov_getf (v := ov_r 96) d_205_47 fl_Mo_81 (zb_90 I216) (zs_90 I216) (congrArg ov_r (rg_90_10 I216)) ?_
      refine ov_blk (ls2 := [(0, ov_r 90)]) (st2 := [ov_i 9, ov_i 1, ov_r 90, ov_i 341, ov_r 96]) (pc2 := 57) b_205_50_4 rfl rfl ?_
      have cf217 : h138 93 ((h138 90 7)) = h3 93 ((h138 90 7)) := congrFun E145 ((h138 90 7))
      refine ov_cV (as := [ov_i 1, ov_i 9]) (st := [ov_i 341, ov_r 96]) (d2 := d - 1) d_205_57 lk_Mo_198 rfl (Nat.le_of_ble_eq_true rfl) (c := 1) (zb_90 I216) (zs_90 I216) ⟨by decide, rfl⟩ (by omega) (c_fMo_takeNumber_90 t m N (pt_nt t m (pt_nt t m (pt_rn pt_bB t m 0))) (d - 1) (by omega) U I216 1 9 (by omega) (by omega) (by show 0 ≤ (h138 90 7) ∧ (h138 90 7) ≤ N; omega) (by show (h138 93 ((h138 90 7))) = (pt_nt t m (pt_nt t m (pt_rn pt_bB t m 0))); omega) (by show 0 ≤ (h138 90 8); omega) (by rw [show (ov_up h138 96 340 v136) 92 = h3 92 from E144, show (ov_up h138 96 340 v136) 93 = h3 93 from E145, show (ov_up h138 96 340 v136) 94 = h3 94 from E146]; exact mt)) ?_
      rintro _ z219 h220 ⟨v218, rfl, I221, y222, y223, y224⟩
      have E225 : h220 91 = h 91 := Eq.trans (y222 91 (by decide)) (show (ov_up h138 96 340 v136) 91 = h 91 from E143)
      have E226 : h220 92 = h3 92 := Eq.trans (y222 92 (by decide)) (show (ov_up h138 96 340 v136) 92 = h3 92 from E144)
      have E227 : h220 93 = h3 93 := Eq.trans (y222 93 (by decide)) (show (ov_up h138 96 340 v136) 93 = h3 93 from E145)
      have E228 : h220 94 = h3 94 := Eq.trans (y222 94 (by decide)) (show (ov_up h138 96 340 v136) 94 = h3 94 from E146)
      have E229 : h220 95 = h 95 := Eq.trans (y222 95 (by decide)) (show (ov_up h138 96 340 v136) 95 = h 95 from E147)
      have R231 : h220 96 = (ov_rs (h20 96) 340 v136) := Eq.trans (y222 96 (by decide)) (Eq.trans (ov_up_row h138 96 340 v136) (congrArg (fun f => ov_rs f 340 v136) E148))
      have E232 : h220 99 = h 99 := Eq.trans (y222 99 (by decide)) (show (ov_up h138 96 340 v136) 99 = h 99 from E149)
      have fr233 : ∀ a : Int, a ≠ 90 ∧ (a < 92 ∨ 94 < a) ∧ (a < 96 ∨ 100 < a) ∧ (a < 103 ∨ 104 < a) → h220 a = h a := fun a ca => Eq.trans (y222 a (by omega)) (Eq.trans (by show (ov_up h138 96 340 v136) a = h138 a; rw [ov_up_ne (by omega)]) (fr150 a ca))
      have y223_ : ∀ k : Int, k ≠ 7 → k ≠ 8 → (h220 90) k = (h138 90) k := y223
      have g234 : h220 90 2 = (h138 90 2) := y223_ 2 (by decide) (by decide)
      have g235 : h220 90 3 = (h138 90 3) := y223_ 3 (by decide) (by decide)
      have g236 : h220 90 13 = (h138 90 13) := y223_ 13 (by decide) (by decide)
      have g237 : h220 90 15 = (h138 90 15) := y223_ 15 (by decide) (by decide)
      rcases y224 with f238 | f239 | f240
      · have q9 : v218 = 0 ∧ (h138 90 8) ≠ 0 ∧ (h220 90 8) = (h138 90 8) ∧ (h220 90 7) = (h138 90 7) ∧ (h220 93 ((h220 90 7))) = (pt_nt t m (pt_nt t m (pt_rn pt_bB t m 0))) := f238
        omega
      · skip
        show ov_R u d ov_m205 60 [(0, ov_r 90)] [ov_i v218, ov_i 341, ov_r 96] z219 h220 (P_fMo_town_90 F z h t m)
        have f241 : v218 = 0 ∧ (h138 90 8) = 0 ∧ (h220 90 8) = pt_fN t m (1 : Int) (9 : Int) (pt_nt t m (pt_nt t m (pt_rn pt_bB t m 0))) ∧ 1 ≤ (h220 90 8) ∧ (h220 90 7) = (h138 90 7) ∧ (h220 93 ((h220 90 7))) = (pt_nt t m (pt_nt t m (pt_rn pt_bB t m 0))) := f239
        clear f239
        refine ov_iast d_205_60 (zb_96 I221) (zs_96 I221) (by omega) ?_
        have I242 := ua_96 (k := 341) (x := v218) I221 (by refine ⟨?_, ?_, ?_, ?_, ?_, ?_, ?_, ?_, ?_, ?_, ?_, ?_, ?_, ?_, ?_, ?_, ?_, ?_, ?_, ?_, ?_, ?_, ?_, ?_, ?_, ?_, ?_, ?_, ?_⟩ <;> omega)
        refine ov_blk (ls2 := [(0, ov_r 90)]) (st2 := [ov_i 59, ov_r 90]) (pc2 := 64) b_205_61_2 rfl rfl ?_
        have cf243 : h220 93 ((h220 90 7)) = h3 93 ((h220 90 7)) := congrFun E227 ((h220 90 7))
        refine ov_cV (as := [ov_i 59]) (st := []) (d2 := d - 1) d_205_64 lk_Mo_214 rfl (Nat.le_of_ble_eq_true rfl) (c := 1) (zb_90 I242) (zs_90 I242) ⟨by decide, rfl⟩ (by omega) (c_fMo_takeSign_90 t m N (pt_nt t m (pt_nt t m (pt_rn pt_bB t m 0))) (d - 1) (by omega) U I242 59 (by omega) (by show 0 ≤ (h220 90 7) ∧ (h220 90 7) ≤ N; omega) (by show (h220 93 ((h220 90 7))) = (pt_nt t m (pt_nt t m (pt_rn pt_bB t m 0))); omega) (by show 0 ≤ (h220 90 8); omega) (by show 0 ≤ (59 : Int) ∧ (59 : Int) ≤ 65535; omega) (by rw [show (ov_up h220 96 341 v218) 92 = h3 92 from E226, show (ov_up h220 96 341 v218) 93 = h3 93 from E227, show (ov_up h220 96 341 v218) 94 = h3 94 from E228]; exact mt)) ?_
        rintro _ z244 h245 ⟨rfl, I246, y247, y248, y249⟩
        have E250 : h245 91 = h 91 := Eq.trans (y247 91 (by decide)) (show (ov_up h220 96 341 v218) 91 = h 91 from E225)
        have E251 : h245 92 = h3 92 := Eq.trans (y247 92 (by decide)) (show (ov_up h220 96 341 v218) 92 = h3 92 from E226)
        have E252 : h245 93 = h3 93 := Eq.trans (y247 93 (by decide)) (show (ov_up h220 96 341 v218) 93 = h3 93 from E227)
        have E253 : h245 94 = h3 94 := Eq.trans (y247 94 (by decide)) (show (ov_up h220 96 341 v218) 94 = h3 94 from E228)
        have E254 : h245 95 = h 95 := Eq.trans (y247 95 (by decide)) (show (ov_up h220 96 341 v218) 95 = h 95 from E229)
        have R256 : h245 96 = (ov_rs (ov_rs (h20 96) 340 v136) 341 v218) := Eq.trans (y247 96 (by decide)) (Eq.trans (ov_up_row h220 96 341 v218) (congrArg (fun f => ov_rs f 341 v218) R231))
        have E257 : h245 99 = h 99 := Eq.trans (y247 99 (by decide)) (show (ov_up h220 96 341 v218) 99 = h 99 from E232)
        have fr258 : ∀ a : Int, a ≠ 90 ∧ (a < 92 ∨ 94 < a) ∧ (a < 96 ∨ 100 < a) ∧ (a < 103 ∨ 104 < a) → h245 a = h a := fun a ca => Eq.trans (y247 a (by omega)) (Eq.trans (by show (ov_up h220 96 341 v218) a = h220 a; rw [ov_up_ne (by omega)]) (fr233 a ca))
        have y248_ : ∀ k : Int, k ≠ 7 → k ≠ 8 → (h245 90) k = (h220 90) k := y248
        have g259 : h245 90 2 = (h220 90 2) := y248_ 2 (by decide) (by decide)
        have g260 : h245 90 3 = (h220 90 3) := y248_ 3 (by decide) (by decide)
        have g261 : h245 90 13 = (h220 90 13) := y248_ 13 (by decide) (by decide)
        have g262 : h245 90 15 = (h220 90 15) := y248_ 15 (by decide) (by decide)
        rcases y249 with f263 | f264 | f265
        · skip
          show ov_R u d ov_m205 67 [(0, ov_r 90)] [] z244 h245 (P_fMo_town_90 F z h t m)
          have f266 : (h220 90 8) ≠ 0 ∧ (h245 90 8) = (h220 90 8) ∧ (h245 90 7) = (h220 90 7) ∧ (h245 93 ((h245 90 7))) = (pt_nt t m (pt_nt t m (pt_rn pt_bB t m 0))) := f263
          clear f263
          refine ov_blk (ls2 := [(0, ov_r 90)]) (st2 := [ov_r 90]) (pc2 := 68) b_205_67_1 rfl rfl ?_
          refine ov_getf (v := ov_i (h245 90 8)) d_205_68 fl_Mo_180 (zb_90 I246) (zs_90 I246) rfl ?_
          have g267 := rg_90_8 I246
          refine ov_ifne (tgt := 99) d_205_71 (by decide) (by omega) (fun c268 => ?_) (fun c268 => ?_)
          · skip
            refine ov_blk (ls2 := [(0, ov_r 90)]) (st2 := [ov_r 90]) (pc2 := 100) b_205_99_1 rfl rfl ?_
            refine ov_getf (v := ov_i (h245 90 8)) d_205_100 fl_Mo_180 (zb_90 I246) (zs_90 I246) rfl ?_
            refine ov_ifle (tgt := 111) d_205_103 (by decide) (by omega) (fun c270 => ?_) (fun c270 => ?_)
            · omega
            · skip
              refine ov_blk (ls2 := [(0, ov_r 90)]) (st2 := [ov_r 90]) (pc2 := 107) b_205_106_1 rfl rfl ?_
              refine ov_getf (v := ov_i (h245 90 8)) d_205_107 fl_Mo_180 (zb_90 I246) (zs_90 I246) rfl ?_
              have hz : (pt_szF t m (pt_rn pt_bB t m 0)) = (h245 90 8) := by unfold pt_szF pt_fW pt_fS; (repeat' split) <;> omega
              exact ov_reti (st := []) d_205_110 rfl ⟨_, rfl, I246, (fun a ca => (fr258 a ca)), ⟨(fun _ => 0), (by show 0 ≤ (h245 90 8) ∧ (h245 90 8) ≤ 16005; omega), (Or.inl ⟨by omega, hz.symm⟩)⟩⟩
          · omega
        · have q9 : (h220 90 8) = 0 ∧ pt_is t m (pt_nt t m (pt_nt t m (pt_rn pt_bB t m 0))) (59 : Int) = 0 ∧ (h245 90 8) = 1 + 16 * (pt_nt t m (pt_nt t m (pt_rn pt_bB t m 0))) ∧ 1 ≤ (h245 90 8) ∧ (h245 90 7) = (h220 90 7) ∧ (h245 93 ((h245 90 7))) = (pt_nt t m (pt_nt t m (pt_rn pt_bB t m 0))) := f264
          omega
        · have q9 : (h220 90 8) = 0 ∧ pt_is t m (pt_nt t m (pt_nt t m (pt_rn pt_bB t m 0))) (59 : Int) = 1 ∧ (h245 90 8) = 0 ∧ (h245 90 7) = (h220 90 7) + 1 ∧ (h245 90 7) ≤ N ∧ (h245 93 ((h245 90 7))) = pt_nt t m (pt_nt t m (pt_nt t m (pt_rn pt_bB t m 0))) := f265
          omega
      · skip
        show ov_R u d ov_m205 60 [(0, ov_r 90)] [ov_i v218, ov_i 341, ov_r 96] z219 h220 (P_fMo_town_90 F z h t m)
        have f272 : (h138 90 8) = 0 ∧ (h220 90 8) = 0 ∧ pt_fN t m (1 : Int) (9 : Int) (pt_nt t m (pt_nt t m (pt_rn pt_bB t m 0))) = 0 ∧ pt_ty t m (pt_nt t m (pt_nt t m (pt_rn pt_bB t m 0))) = 3 ∧ (1 : Int) ≤ v218 ∧ v218 ≤ (9 : Int) ∧ v218 = pt_nm t m (pt_nt t m (pt_nt t m (pt_rn pt_bB t m 0))) ∧ 0 ≤ v218 ∧ v218 ≤ 9999 ∧ (h220 90 7) = (h138 90 7) + 1 ∧ (h220 90 7) ≤ N ∧ (h220 93 ((h220 90 7))) = pt_nt t m (pt_nt t m (pt_nt t m (pt_rn pt_bB t m 0))) := f240
        clear f240
        refine ov_iast d_205_60 (zb_96 I221) (zs_96 I221) (by omega) ?_
        have I273 := ua_96 (k := 341) (x := v218) I221 (by refine ⟨?_, ?_, ?_, ?_, ?_, ?_, ?_, ?_, ?_, ?_, ?_, ?_, ?_, ?_, ?_, ?_, ?_, ?_, ?_, ?_, ?_, ?_, ?_, ?_, ?_, ?_, ?_, ?_, ?_⟩ <;> omega)
        refine ov_blk (ls2 := [(0, ov_r 90)]) (st2 := [ov_i 59, ov_r 90]) (pc2 := 64) b_205_61_2 rfl rfl ?_
        have cf274 : h220 93 ((h220 90 7)) = h3 93 ((h220 90 7)) := congrFun E227 ((h220 90 7))
        refine ov_cV (as := [ov_i 59]) (st := []) (d2 := d - 1) d_205_64 lk_Mo_214 rfl (Nat.le_of_ble_eq_true rfl) (c := 1) (zb_90 I273) (zs_90 I273) ⟨by decide, rfl⟩ (by omega) (c_fMo_takeSign_90 t m N (pt_nt t m (pt_nt t m (pt_nt t m (pt_rn pt_bB t m 0)))) (d - 1) (by omega) U I273 59 (by omega) (by show 0 ≤ (h220 90 7) ∧ (h220 90 7) ≤ N; omega) (by show (h220 93 ((h220 90 7))) = (pt_nt t m (pt_nt t m (pt_nt t m (pt_rn pt_bB t m 0)))); omega) (by show 0 ≤ (h220 90 8); omega) (by show 0 ≤ (59 : Int) ∧ (59 : Int) ≤ 65535; omega) (by rw [show (ov_up h220 96 341 v218) 92 = h3 92 from E226, show (ov_up h220 96 341 v218) 93 = h3 93 from E227, show (ov_up h220 96 341 v218) 94 = h3 94 from E228]; exact mt)) ?_
        rintro _ z275 h276 ⟨rfl, I277, y278, y279, y280⟩
        have E281 : h276 91 = h 91 := Eq.trans (y278 91 (by decide)) (show (ov_up h220 96 341 v218) 91 = h 91 from E225)
        have E282 : h276 92 = h3 92 := Eq.trans (y278 92 (by decide)) (show (ov_up h220 96 341 v218) 92 = h3 92 from E226)
        have E283 : h276 93 = h3 93 := Eq.trans (y278 93 (by decide)) (show (ov_up h220 96 341 v218) 93 = h3 93 from E227)
        have E284 : h276 94 = h3 94 := Eq.trans (y278 94 (by decide)) (show (ov_up h220 96 341 v218) 94 = h3 94 from E228)
        have E285 : h276 95 = h 95 := Eq.trans (y278 95 (by decide)) (show (ov_up h220 96 341 v218) 95 = h 95 from E229)
        have R287 : h276 96 = (ov_rs (ov_rs (h20 96) 340 v136) 341 v218) := Eq.trans (y278 96 (by decide)) (Eq.trans (ov_up_row h220 96 341 v218) (congrArg (fun f => ov_rs f 341 v218) R231))
        have E288 : h276 99 = h 99 := Eq.trans (y278 99 (by decide)) (show (ov_up h220 96 341 v218) 99 = h 99 from E232)
        have fr289 : ∀ a : Int, a ≠ 90 ∧ (a < 92 ∨ 94 < a) ∧ (a < 96 ∨ 100 < a) ∧ (a < 103 ∨ 104 < a) → h276 a = h a := fun a ca => Eq.trans (y278 a (by omega)) (Eq.trans (by show (ov_up h220 96 341 v218) a = h220 a; rw [ov_up_ne (by omega)]) (fr233 a ca))
        have y279_ : ∀ k : Int, k ≠ 7 → k ≠ 8 → (h276 90) k = (h220 90) k := y279
        have g290 : h276 90 2 = (h220 90 2) := y279_ 2 (by decide) (by decide)
        have g291 : h276 90 3 = (h220 90 3) := y279_ 3 (by decide) (by decide)
        have g292 : h276 90 13 = (h220 90 13) := y279_ 13 (by decide) (by decide)
        have g293 : h276 90 15 = (h220 90 15) := y279_ 15 (by decide) (by decide)
        rcases y280 with f294 | f295 | f296
        · have q9 : (h220 90 8) ≠ 0 ∧ (h276 90 8) = (h220 90 8) ∧ (h276 90 7) = (h220 90 7) ∧ (h276 93 ((h276 90 7))) = (pt_nt t m (pt_nt t m (pt_nt t m (pt_rn pt_bB t m 0)))) := f294
          omega
        · skip
          show ov_R u d ov_m205 67 [(0, ov_r 90)] [] z275 h276 (P_fMo_town_90 F z h t m)
          have f297 : (h220 90 8) = 0 ∧ pt_is t m (pt_nt t m (pt_nt t m (pt_nt t m (pt_rn pt_bB t m 0)))) (59 : Int) = 0 ∧ (h276 90 8) = 1 + 16 * (pt_nt t m (pt_nt t m (pt_nt t m (pt_rn pt_bB t m 0)))) ∧ 1 ≤ (h276 90 8) ∧ (h276 90 7) = (h220 90 7) ∧ (h276 93 ((h276 90 7))) = (pt_nt t m (pt_nt t m (pt_nt t m (pt_rn pt_bB t m 0)))) := f295
          clear f295
          refine ov_blk (ls2 := [(0, ov_r 90)]) (st2 := [ov_r 90]) (pc2 := 68) b_205_67_1 rfl rfl ?_
          refine ov_getf (v := ov_i (h276 90 8)) d_205_68 fl_Mo_180 (zb_90 I277) (zs_90 I277) rfl ?_
          have g298 := rg_90_8 I277
          refine ov_ifne (tgt := 99) d_205_71 (by decide) (by omega) (fun c299 => ?_) (fun c299 => ?_)
          · skip
            refine ov_blk (ls2 := [(0, ov_r 90)]) (st2 := [ov_r 90]) (pc2 := 100) b_205_99_1 rfl rfl ?_
            refine ov_getf (v := ov_i (h276 90 8)) d_205_100 fl_Mo_180 (zb_90 I277) (zs_90 I277) rfl ?_
            refine ov_ifle (tgt := 111) d_205_103 (by decide) (by omega) (fun c301 => ?_) (fun c301 => ?_)
            · omega
            · skip
              refine ov_blk (ls2 := [(0, ov_r 90)]) (st2 := [ov_r 90]) (pc2 := 107) b_205_106_1 rfl rfl ?_
              refine ov_getf (v := ov_i (h276 90 8)) d_205_107 fl_Mo_180 (zb_90 I277) (zs_90 I277) rfl ?_
              have hz : (pt_szF t m (pt_rn pt_bB t m 0)) = (h276 90 8) := by unfold pt_szF pt_fW pt_fS; (repeat' split) <;> omega
              exact ov_reti (st := []) d_205_110 rfl ⟨_, rfl, I277, (fun a ca => (fr289 a ca)), ⟨(fun _ => 0), (by show 0 ≤ (h276 90 8) ∧ (h276 90 8) ≤ 16005; omega), (Or.inl ⟨by omega, hz.symm⟩)⟩⟩
          · omega
        · skip
          show ov_R u d ov_m205 67 [(0, ov_r 90)] [] z275 h276 (P_fMo_town_90 F z h t m)
          have f303 : (h220 90 8) = 0 ∧ pt_is t m (pt_nt t m (pt_nt t m (pt_nt t m (pt_rn pt_bB t m 0)))) (59 : Int) = 1 ∧ (h276 90 8) = 0 ∧ (h276 90 7) = (h220 90 7) + 1 ∧ (h276 90 7) ≤ N ∧ (h276 93 ((h276 90 7))) = pt_nt t m (pt_nt t m (pt_nt t m (pt_nt t m (pt_rn pt_bB t m 0)))) := f296
          clear f296
          have L307 : ∀ (n304 : Nat) (z308 : ov_Z) (h309 : ov_H) (I310 : ov_N F z308 h309) (E311 : h309 91 = h 91) (E312 : h309 92 = h3 92) (E313 : h309 93 = h3 93) (E314 : h309 94 = h3 94) (E315 : h309 95 = h 95) (fr316 : ∀ a : Int, a ≠ 90 ∧ (a < 92 ∨ 94 < a) ∧ (a < 96 ∨ 100 < a) ∧ (a < 103 ∨ 104 < a) → h309 a = h a) (xg : ∃ A : Int → Int, pt_MR t m A (h309 96) (h309 90 15) (h309 99) ∧ ∀ (f : Int) (B : Int → Int), pt_EG t m A (h3 93 ((h309 90 7))) f B → pt_ET t m f B) (q306 : (h309 90 8) = 0 ∧ 0 ≤ (h309 90 7) ∧ (h309 90 7) ≤ N ∧ 0 ≤ (h309 90 13) ∧ (h309 90 13) ≤ (h309 90 7)), N - (h309 90 7) < (n304 : Int) → ov_R u d ov_m205 67 [(0, ov_r 90)] [] z308 h309 (P_fMo_town_90 F z h t m) := by
            intro n304
            induction n304 with
            | zero =>
              intro  z308 h309 I310 E311 E312 E313 E314 E315 fr316 xg q306 hn317
              exact absurd hn317 (by omega)
            | succ n304 ih305 =>
              intro  z308 h309 I310 E311 E312 E313 E314 E315 fr316 xg q306 hn317
              obtain ⟨A, mr, cg⟩ := xg
              have cz : h309 93 (h309 90 7) = h3 93 (h309 90 7) := congrFun (show h309 93 = h3 93 from E313) _
              have mz := pt_MT_at mt (k := h309 90 7) (by omega)
              have mz3 := mz.2.2.1
              have mz2 := mz.2.1
              clear mz
              have mzc := pt_cm_f (t := t) (m := m) (p := h3 93 (h309 90 7))
              have gA := pt_MR_r mr
              refine ov_blk (ls2 := [(0, ov_r 90)]) (st2 := [ov_r 90]) (pc2 := 68) b_205_67_1 rfl rfl ?_
              refine ov_getf (v := ov_i (h309 90 8)) d_205_68 fl_Mo_180 (zb_90 I310) (zs_90 I310) rfl ?_
              have g318 := rg_90_8 I310
              refine ov_ifne (tgt := 99) d_205_71 (by decide) (by omega) (fun c319 => ?_) (fun c319 => ?_)
              · omega
              · skip
                refine ov_blk (ls2 := [(0, ov_r 90)]) (st2 := [ov_r 90]) (pc2 := 75) b_205_74_1 rfl rfl ?_
                refine ov_getf (v := ov_r 92) d_205_75 fl_Mo_24 (zb_90 I310) (zs_90 I310) (congrArg ov_r (rg_90_4 I310)) ?_
                refine ov_blk (ls2 := [(0, ov_r 90)]) (st2 := [ov_r 90, ov_r 92]) (pc2 := 79) b_205_78_1 rfl rfl ?_
                refine ov_getf (v := ov_i (h309 90 7)) d_205_79 fl_Mo_177 (zb_90 I310) (zs_90 I310) rfl ?_
                have g320 := rg_90_7 I310
                refine ov_iald d_205_82 (zb_92 I310) (zs_92 I310) (by omega) ?_
                have e321 : h309 92 (h309 90 7) = (h3 92 (h309 90 7)) := congrFun (show h309 92 = h3 92 from E312) (h309 90 7)
                have g322 := ra_92 I310 (h309 90 7)
                rw [e321] at g322
                rw [e321]
                show ov_R u d ov_m205 83 [(0, ov_r 90)] [ov_i (h3 92 (h309 90 7))] z308 h309 (P_fMo_town_90 F z h t m)
                refine ov_ifeq (tgt := 99) d_205_83 (by decide) (by omega) (fun c323 => ?_) (fun c323 => ?_)
                · skip
                  refine ov_blk (ls2 := [(0, ov_r 90)]) (st2 := [ov_r 90]) (pc2 := 100) b_205_99_1 rfl rfl ?_
                  refine ov_getf (v := ov_i (h309 90 8)) d_205_100 fl_Mo_180 (zb_90 I310) (zs_90 I310) rfl ?_
                  refine ov_ifle (tgt := 111) d_205_103 (by decide) (by omega) (fun c325 => ?_) (fun c325 => ?_)
                  · skip
                    refine ov_blk (ls2 := [(0, ov_r 90), (1, ov_i 0)]) (st2 := []) (pc2 := 113) b_205_111_2 rfl rfl ?_
                    have L329 : ∀ (n326 : Nat) (x1 : Int) (z330 : ov_Z) (h331 : ov_H) (I332 : ov_N F z330 h331) (E333 : h331 91 = h 91) (E334 : h331 92 = h3 92) (E335 : h331 93 = h3 93) (E336 : h331 94 = h3 94) (E337 : h331 95 = h 95) (E338 : h331 99 = h309 99) (fr339 : ∀ a : Int, a ≠ 90 ∧ (a < 92 ∨ 94 < a) ∧ (a < 96 ∨ 100 < a) ∧ (a < 103 ∨ 104 < a) → h331 a = h a) (xl : ∀ j : Int, 340 ≤ j → (h331 96) j = h309 96 j) (q328 : 0 ≤ x1 ∧ x1 ≤ 340), 340 - x1 < (n326 : Int) → ov_R u d ov_m205 113 [(0, ov_r 90), (1, ov_i x1)] [] z330 h331 (P_fMo_town_90 F z h t m) := by
                      intro n326
                      induction n326 with
                      | zero =>
                        intro x1 z330 h331 I332 E333 E334 E335 E336 E337 E338 fr339 xl q328 hn340
                        exact absurd hn340 (by omega)
                      | succ n326 ih327 =>
                        intro x1 z330 h331 I332 E333 E334 E335 E336 E337 E338 fr339 xl q328 hn340
                        refine ov_blk (ls2 := [(0, ov_r 90), (1, ov_i x1)]) (st2 := [ov_i 340, ov_i x1]) (pc2 := 117) b_205_113_2 rfl rfl ?_
                        refine ov_icge (tgt := 142) d_205_117 (by decide) (by omega) (by omega) (fun c341 => ?_) (fun c341 => ?_)
                        · skip
                          refine ov_blk (ls2 := [(0, ov_r 90), (1, ov_i 0)]) (st2 := []) (pc2 := 144) b_205_142_2 rfl rfl ?_
                          have L345 : ∀ (n342 : Nat) (x1_ : Int) (z346 : ov_Z) (h347 : ov_H) (I348 : ov_N F z346 h347) (E349 : h347 91 = h 91) (E350 : h347 92 = h3 92) (E351 : h347 93 = h3 93) (E352 : h347 94 = h3 94) (E353 : h347 95 = h 95) (E354 : h347 96 = h331 96) (E355 : h347 99 = h309 99) (fr356 : ∀ a : Int, a ≠ 90 ∧ (a < 92 ∨ 94 < a) ∧ (a < 96 ∨ 100 < a) ∧ (a < 103 ∨ 104 < a) → h347 a = h a) (q344 : 0 ≤ x1_ ∧ x1_ ≤ 1000), 1000 - x1_ < (n342 : Int) → ov_R u d ov_m205 144 [(0, ov_r 90), (1, ov_i x1_)] [] z346 h347 (P_fMo_town_90 F z h t m) := by
                            intro n342
                            induction n342 with
                            | zero =>
                              intro x1_ z346 h347 I348 E349 E350 E351 E352 E353 E354 E355 fr356 q344 hn357
                              exact absurd hn357 (by omega)
                            | succ n342 ih343 =>
                              intro x1_ z346 h347 I348 E349 E350 E351 E352 E353 E354 E355 fr356 q344 hn357
                              refine ov_blk (ls2 := [(0, ov_r 90), (1, ov_i x1_)]) (st2 := [ov_r 90, ov_i x1_]) (pc2 := 146) b_205_144_2 rfl rfl ?_
                              refine ov_getf (v := ov_i (h347 90 13)) d_205_146 fl_Mo_208 (zb_90 I348) (zs_90 I348) rfl ?_
                              have g358 := rg_90_13 I348
                              refine ov_icge (tgt := 190) d_205_149 (by decide) (by omega) (by omega) (fun c359 => ?_) (fun c359 => ?_)
                              · skip
                                refine ov_blk (ls2 := [(0, ov_r 90), (1, ov_i x1_)]) (st2 := [ov_r 90]) (pc2 := 191) b_205_190_1 rfl rfl ?_
                                refine ov_cV (as := []) (st := []) (d2 := d - 1) d_205_191 lk_Mo_151 rfl (Nat.le_of_ble_eq_true rfl) (c := 1) (zb_90 I348) (zs_90 I348) ⟨by decide, rfl⟩ (by omega) (c_fMo_begins_90 (d - 1) (by omega) U I348 (by show 0 ≤ ov_bd F; omega)) ?_
                                rintro _ z360 h361 ⟨rfl, I362, y363⟩
                                have E364 : h361 91 = h 91 := Eq.trans (y363 91 (by decide)) (show h347 91 = h 91 from E349)
                                have E365 : h361 92 = h3 92 := Eq.trans (y363 92 (by decide)) (show h347 92 = h3 92 from E350)
                                have E366 : h361 93 = h3 93 := Eq.trans (y363 93 (by decide)) (show h347 93 = h3 93 from E351)
                                have E367 : h361 94 = h3 94 := Eq.trans (y363 94 (by decide)) (show h347 94 = h3 94 from E352)
                                have E368 : h361 95 = h 95 := Eq.trans (y363 95 (by decide)) (show h347 95 = h 95 from E353)
                                have E369 : h361 96 = h331 96 := Eq.trans (y363 96 (by decide)) (show h347 96 = h331 96 from E354)
                                have E370 : h361 99 = h309 99 := Eq.trans (y363 99 (by decide)) (show h347 99 = h309 99 from E355)
                                have fr371 : ∀ a : Int, a ≠ 90 ∧ (a < 92 ∨ 94 < a) ∧ (a < 96 ∨ 100 < a) ∧ (a < 103 ∨ 104 < a) → h361 a = h a := fun a ca => Eq.trans (y363 a (by omega)) (fr356 a ca)
                                show ov_R u d ov_m205 194 [(0, ov_r 90), (1, ov_i x1_)] [] z360 h361 (P_fMo_town_90 F z h t m)
                                refine ov_blk (ls2 := [(0, ov_r 90), (1, ov_i x1_)]) (st2 := [ov_i 0]) (pc2 := 195) b_205_194_1 rfl rfl ?_
                                exact ov_reti (st := []) d_205_195 rfl ⟨_, rfl, I362, (fun a ca => (fr371 a ca)), ⟨A, (by show 0 ≤ 0 ∧ 0 ≤ 16005; omega), (cg 0 A (pt_EG_e (by omega)))⟩⟩
                              · skip
                                refine ov_blk (ls2 := [(0, ov_r 90), (1, ov_i x1_)]) (st2 := [ov_r 90]) (pc2 := 153) b_205_152_1 rfl rfl ?_
                                refine ov_getf (v := ov_r 97) d_205_153 fl_Mo_84 (zb_90 I348) (zs_90 I348) (congrArg ov_r (rg_90_11 I348)) ?_
                                refine ov_blk (ls2 := [(0, ov_r 90), (1, ov_i x1_)]) (st2 := [ov_r 90, ov_i x1_, ov_r 97]) (pc2 := 158) b_205_156_2 rfl rfl ?_
                                refine ov_getf (v := ov_r 97) d_205_158 fl_Mo_84 (zb_90 I348) (zs_90 I348) (congrArg ov_r (rg_90_11 I348)) ?_
                                refine ov_blk (ls2 := [(0, ov_r 90), (1, ov_i x1_)]) (st2 := [ov_i (1100 + x1_), ov_r 97, ov_i x1_, ov_r 97]) (pc2 := 166) b_205_161_3 rfl rfl ?_
                                refine ov_iald d_205_166 (zb_97 I348) (zs_97 I348) (by omega) ?_
                                have g372 := ra_97 I348 (1100 + x1_)
                                refine ov_iast d_205_167 (zb_97 I348) (zs_97 I348) (by omega) ?_
                                have I373 := ua_97 (k := x1_) (x := (h347 97 (1100 + x1_))) I348 (by omega)
                                refine ov_blk (ls2 := [(0, ov_r 90), (1, ov_i x1_)]) (st2 := [ov_r 90]) (pc2 := 169) b_205_168_1 rfl rfl ?_
                                refine ov_getf (v := ov_r 98) d_205_169 fl_Mo_87 (zb_90 I373) (zs_90 I373) (congrArg ov_r (rg_90_12 I373)) ?_
                                refine ov_blk (ls2 := [(0, ov_r 90), (1, ov_i x1_)]) (st2 := [ov_r 90, ov_i x1_, ov_r 98]) (pc2 := 174) b_205_172_2 rfl rfl ?_
                                refine ov_getf (v := ov_r 98) d_205_174 fl_Mo_87 (zb_90 I373) (zs_90 I373) (congrArg ov_r (rg_90_12 I373)) ?_
                                refine ov_blk (ls2 := [(0, ov_r 90), (1, ov_i x1_)]) (st2 := [ov_i (1100 + x1_), ov_r 98, ov_i x1_, ov_r 98]) (pc2 := 182) b_205_177_3 rfl rfl ?_
                                refine ov_iald d_205_182 (zb_98 I373) (zs_98 I373) (by omega) ?_
                                show ov_R u d ov_m205 183 [(0, ov_r 90), (1, ov_i x1_)] [ov_i (h347 98 (1100 + x1_)), ov_i x1_, ov_r 98] z346 (ov_up h347 97 x1_ (h347 97 (1100 + x1_))) (P_fMo_town_90 F z h t m)
                                have g374 := ra_98 I348 (1100 + x1_)
                                refine ov_iast d_205_183 (zb_98 I373) (zs_98 I373) (by omega) ?_
                                have I375 := ua_98 (k := x1_) (x := (h347 98 (1100 + x1_))) I373 (by omega)
                                refine ov_blk (ls2 := [(0, ov_r 90), (1, ov_i (x1_ + 1))]) (st2 := []) (pc2 := 187) b_205_184_1 rfl rfl ?_
                                refine ov_goto (tgt := 144) d_205_187 (by decide) ?_
                                exact ih343 (x1_ + 1) _ _ I375 E349 E350 E351 E352 E353 E354 E355 (fun a ca => Eq.trans (by show (ov_up (ov_up h347 97 x1_ (h347 97 (1100 + x1_))) 98 x1_ (h347 98 (1100 + x1_))) a = h347 a; rw [ov_up_ne (by omega), ov_up_ne (by omega)]) (fr356 a ca)) (by show 0 ≤ (x1_ + 1) ∧ (x1_ + 1) ≤ 1000; omega) (by omega)
                          exact L345 1001 0 _ _ I332 E333 E334 E335 E336 E337 rfl E338 (fun a ca => (fr339 a ca)) (by show 0 ≤ 0 ∧ 0 ≤ 1000; omega) (by omega)
                        · skip
                          have xe0 : x1 = 0 → h331 96 (340 + x1) = A 0 := fun e => by rw [xl _ (by omega), e]; exact pt_MR_c mr (j := 0) (by omega)
                          have xe1 : x1 = 1 → h331 96 (340 + x1) = A 1 := fun e => by rw [xl _ (by omega), e]; exact pt_MR_c mr (j := 1) (by omega)
                          have xe2 : x1 = 2 → h331 96 (340 + x1) = A 2 := fun e => by rw [xl _ (by omega), e]; exact pt_MR_c mr (j := 2) (by omega)
                          have xe9 : x1 = 9 → h331 96 (340 + x1) = A 9 := fun e => by rw [xl _ (by omega), e]; exact pt_MR_c mr (j := 9) (by omega)
                          refine ov_blk (ls2 := [(0, ov_r 90), (1, ov_i x1)]) (st2 := [ov_r 90]) (pc2 := 121) b_205_120_1 rfl rfl ?_
                          refine ov_getf (v := ov_r 96) d_205_121 fl_Mo_81 (zb_90 I332) (zs_90 I332) (congrArg ov_r (rg_90_10 I332)) ?_
                          refine ov_blk (ls2 := [(0, ov_r 90), (1, ov_i x1)]) (st2 := [ov_r 90, ov_i x1, ov_r 96]) (pc2 := 126) b_205_124_2 rfl rfl ?_
                          refine ov_getf (v := ov_r 96) d_205_126 fl_Mo_81 (zb_90 I332) (zs_90 I332) (congrArg ov_r (rg_90_10 I332)) ?_
                          refine ov_blk (ls2 := [(0, ov_r 90), (1, ov_i x1)]) (st2 := [ov_i (340 + x1), ov_r 96, ov_i x1, ov_r 96]) (pc2 := 134) b_205_129_3 rfl rfl ?_
                          refine ov_iald d_205_134 (zb_96 I332) (zs_96 I332) (by omega) ?_
                          show ov_R u d ov_m205 135 [(0, ov_r 90), (1, ov_i x1)] [ov_i (h331 96 (340 + x1)), ov_i x1, ov_r 96] z330 h331 (P_fMo_town_90 F z h t m)
                          refine ov_iast d_205_135 (zb_96 I332) (zs_96 I332) (by omega) ?_
                          have I376 := ov_cp96 (k := x1) I332 (by omega) (by omega)
                          refine ov_blk (ls2 := [(0, ov_r 90), (1, ov_i (x1 + 1))]) (st2 := []) (pc2 := 139) b_205_136_1 rfl rfl ?_
                          refine ov_goto (tgt := 113) d_205_139 (by decide) ?_
                          exact ih327 (x1 + 1) _ _ I376 E333 E334 E335 E336 E337 E338 (fun a ca => Eq.trans (by show (ov_up h331 96 x1 (h331 96 (340 + x1))) a = h331 a; rw [ov_up_ne (by omega)]) (fr339 a ca)) (fun j a => by rw [ov_up_j (by omega)]; exact xl j a) (by show 0 ≤ (x1 + 1) ∧ (x1 + 1) ≤ 340; omega) (by omega)
                    exact L329 341 0 _ _ I310 E311 E312 E313 E314 E315 rfl (fun a ca => (fr316 a ca)) (fun j a => rfl) (by show 0 ≤ 0 ∧ 0 ≤ 340; omega) (by omega)
                  · omega
                · skip
                  refine ov_blk (ls2 := [(0, ov_r 90)]) (st2 := [ov_r 90]) (pc2 := 87) b_205_86_1 rfl rfl ?_
                  have cf377 : h309 93 ((h309 90 7)) = h3 93 ((h309 90 7)) := congrFun E313 ((h309 90 7))
                  refine ov_cV (as := []) (st := []) (d2 := d - 1) d_205_87 lk_Mo_217 rfl (Nat.le_of_ble_eq_true rfl) (c := 1) (zb_90 I310) (zs_90 I310) ⟨by decide, rfl⟩ (by omega) (c_fMo_readLine_90 t m N (h3 93 (h309 90 7)) A (d - 1) (by omega) U I310 (by show 0 ≤ (h309 90 7) ∧ (h309 90 7) ≤ N; omega) (by show (h309 93 ((h309 90 7))) = (h3 93 (h309 90 7)); omega) (by show 0 ≤ (h309 90 8); omega) (by show (h309 90 8) = 0; omega) (by show 0 ≤ (h309 90 13) ∧ (h309 90 13) ≤ (h309 90 7); omega) (by rw [show h309 92 = h3 92 from E312, show h309 93 = h3 93 from E313, show h309 94 = h3 94 from E314]; exact mt) (by rw [show h309 95 = h 95 from E315]; exact wd) mr) ?_
                  rintro _ z378 h379 ⟨rfl, I380, y381, y382, y383⟩
                  have E384 : h379 91 = h 91 := Eq.trans (y381 91 (by decide)) (show h309 91 = h 91 from E311)
                  have E385 : h379 92 = h3 92 := Eq.trans (y381 92 (by decide)) (show h309 92 = h3 92 from E312)
                  have E386 : h379 93 = h3 93 := Eq.trans (y381 93 (by decide)) (show h309 93 = h3 93 from E313)
                  have E387 : h379 94 = h3 94 := Eq.trans (y381 94 (by decide)) (show h309 94 = h3 94 from E314)
                  have E388 : h379 95 = h 95 := Eq.trans (y381 95 (by decide)) (show h309 95 = h 95 from E315)
                  have fr389 : ∀ a : Int, a ≠ 90 ∧ (a < 92 ∨ 94 < a) ∧ (a < 96 ∨ 100 < a) ∧ (a < 103 ∨ 104 < a) → h379 a = h a := fun a ca => Eq.trans (y381 a (by omega)) (fr316 a ca)
                  have y382_ : ∀ k : Int, k ≠ 7 → k ≠ 8 → k ≠ 13 → k ≠ 15 → (h379 90) k = (h309 90) k := y382
                  have g390 : h379 90 2 = (h309 90 2) := y382_ 2 (by decide) (by decide) (by decide) (by decide)
                  have g391 : h379 90 3 = (h309 90 3) := y382_ 3 (by decide) (by decide) (by decide) (by decide)
                  rcases y383 with ⟨w392, w393, f394, y395⟩ | ⟨w396, f397, y398, y399⟩
                  · skip
                    show ov_R u d ov_m205 90 [(0, ov_r 90)] [] z378 h379 (P_fMo_town_90 F z h t m)
                    have f400 : (h379 90 8) = w392 ∧ 1 ≤ w392 ∧ (h309 90 7) ≤ (h379 90 7) ∧ (h379 90 7) ≤ N := f394
                    clear f394
                    have y395_ : pt_EL t m A (h3 93 (h309 90 7)) w392 w393 := y395
                    refine ov_blk (ls2 := [(0, ov_r 90)]) (st2 := [ov_i 59, ov_r 90]) (pc2 := 93) b_205_90_2 rfl rfl ?_
                    have cf401 : h379 93 ((h379 90 7)) = h3 93 ((h379 90 7)) := congrFun E386 ((h379 90 7))
                    refine ov_cV (as := [ov_i 59]) (st := []) (d2 := d - 1) d_205_93 lk_Mo_214 rfl (Nat.le_of_ble_eq_true rfl) (c := 1) (zb_90 I380) (zs_90 I380) ⟨by decide, rfl⟩ (by omega) (c_fMo_takeSign_90 t m N (h379 93 (h379 90 7)) (d - 1) (by omega) U I380 59 (by omega) (by show 0 ≤ (h379 90 7) ∧ (h379 90 7) ≤ N; omega) (by show (h379 93 ((h379 90 7))) = (h379 93 (h379 90 7)); omega) (by show 0 ≤ (h379 90 8); omega) (by show 0 ≤ (59 : Int) ∧ (59 : Int) ≤ 65535; omega) (by rw [show h379 92 = h3 92 from E385, show h379 93 = h3 93 from E386, show h379 94 = h3 94 from E387]; exact mt)) ?_
                    rintro _ z402 h403 ⟨rfl, I404, y405, y406, y407⟩
                    have E408 : h403 91 = h 91 := Eq.trans (y405 91 (by decide)) (show h379 91 = h 91 from E384)
                    have E409 : h403 92 = h3 92 := Eq.trans (y405 92 (by decide)) (show h379 92 = h3 92 from E385)
                    have E410 : h403 93 = h3 93 := Eq.trans (y405 93 (by decide)) (show h379 93 = h3 93 from E386)
                    have E411 : h403 94 = h3 94 := Eq.trans (y405 94 (by decide)) (show h379 94 = h3 94 from E387)
                    have E412 : h403 95 = h 95 := Eq.trans (y405 95 (by decide)) (show h379 95 = h 95 from E388)
                    have E413 : h403 96 = h379 96 := Eq.trans (y405 96 (by decide)) (show h379 96 = h379 96 from rfl)
                    have E414 : h403 99 = h379 99 := Eq.trans (y405 99 (by decide)) (show h379 99 = h379 99 from rfl)
                    have fr415 : ∀ a : Int, a ≠ 90 ∧ (a < 92 ∨ 94 < a) ∧ (a < 96 ∨ 100 < a) ∧ (a < 103 ∨ 104 < a) → h403 a = h a := fun a ca => Eq.trans (y405 a (by omega)) (fr389 a ca)
                    have y406_ : ∀ k : Int, k ≠ 7 → k ≠ 8 → (h403 90) k = (h379 90) k := y406
                    have g416 : h403 90 2 = (h379 90 2) := y406_ 2 (by decide) (by decide)
                    have g417 : h403 90 3 = (h379 90 3) := y406_ 3 (by decide) (by decide)
                    have g418 : h403 90 13 = (h379 90 13) := y406_ 13 (by decide) (by decide)
                    have g419 : h403 90 15 = (h379 90 15) := y406_ 15 (by decide) (by decide)
                    rcases y407 with f420 | f421 | f422
                    · skip
                      show ov_R u d ov_m205 96 [(0, ov_r 90)] [] z402 h403 (P_fMo_town_90 F z h t m)
                      have f423 : (h379 90 8) ≠ 0 ∧ (h403 90 8) = (h379 90 8) ∧ (h403 90 7) = (h379 90 7) ∧ (h403 93 ((h403 90 7))) = (h379 93 (h379 90 7)) := f420
                      clear f420
                      refine ov_goto (tgt := 67) d_205_96 (by decide) ?_
                      refine ov_blk (ls2 := [(0, ov_r 90)]) (st2 := [ov_r 90]) (pc2 := 68) b_205_67_1 rfl rfl ?_
                      refine ov_getf (v := ov_i (h403 90 8)) d_205_68 fl_Mo_180 (zb_90 I404) (zs_90 I404) rfl ?_
                      have g424 := rg_90_8 I404
                      refine ov_ifne (tgt := 99) d_205_71 (by decide) (by omega) (fun c425 => ?_) (fun c425 => ?_)
                      · skip
                        refine ov_blk (ls2 := [(0, ov_r 90)]) (st2 := [ov_r 90]) (pc2 := 100) b_205_99_1 rfl rfl ?_
                        refine ov_getf (v := ov_i (h403 90 8)) d_205_100 fl_Mo_180 (zb_90 I404) (zs_90 I404) rfl ?_
                        refine ov_ifle (tgt := 111) d_205_103 (by decide) (by omega) (fun c427 => ?_) (fun c427 => ?_)
                        · omega
                        · skip
                          refine ov_blk (ls2 := [(0, ov_r 90)]) (st2 := [ov_r 90]) (pc2 := 107) b_205_106_1 rfl rfl ?_
                          refine ov_getf (v := ov_i (h403 90 8)) d_205_107 fl_Mo_180 (zb_90 I404) (zs_90 I404) rfl ?_
                          exact ov_reti (st := []) d_205_110 rfl ⟨_, rfl, I404, (fun a ca => (fr415 a ca)), ⟨(fun _ => 0), (by show 0 ≤ (h403 90 8) ∧ (h403 90 8) ≤ 16005; omega), (by show pt_ET t m (h403 90 8) _; rw [show (h403 90 8) = w392 by omega]; exact cg _ _ (pt_EG_f (by omega) y395_ (by omega)))⟩⟩
                      · omega
                    · omega
                    · omega
                  · skip
                    show ov_R u d ov_m205 90 [(0, ov_r 90)] [] z378 h379 (P_fMo_town_90 F z h t m)
                    have f429 : (h379 90 8) = 0 ∧ (h309 90 7) ≤ (h379 90 7) ∧ (h379 90 7) ≤ N ∧ 0 ≤ (h379 90 13) ∧ (h379 90 13) ≤ (h379 90 7) ∧ (h379 93 ((h379 90 7))) = w396 := f397
                    clear f397
                    have y398_ : pt_EL t m A (h3 93 (h309 90 7)) 0 w396 := y398
                    have y399_ : pt_MR t m (pt_LA t m A (h3 93 (h309 90 7))) (h379 96) (h379 90 15) (h379 99) := y399
                    refine ov_blk (ls2 := [(0, ov_r 90)]) (st2 := [ov_i 59, ov_r 90]) (pc2 := 93) b_205_90_2 rfl rfl ?_
                    have cf430 : h379 93 ((h379 90 7)) = h3 93 ((h379 90 7)) := congrFun E386 ((h379 90 7))
                    refine ov_cV (as := [ov_i 59]) (st := []) (d2 := d - 1) d_205_93 lk_Mo_214 rfl (Nat.le_of_ble_eq_true rfl) (c := 1) (zb_90 I380) (zs_90 I380) ⟨by decide, rfl⟩ (by omega) (c_fMo_takeSign_90 t m N w396 (d - 1) (by omega) U I380 59 (by omega) (by show 0 ≤ (h379 90 7) ∧ (h379 90 7) ≤ N; omega) (by show (h379 93 ((h379 90 7))) = w396; omega) (by show 0 ≤ (h379 90 8); omega) (by show 0 ≤ (59 : Int) ∧ (59 : Int) ≤ 65535; omega) (by rw [show h379 92 = h3 92 from E385, show h379 93 = h3 93 from E386, show h379 94 = h3 94 from E387]; exact mt)) ?_
                    rintro _ z431 h432 ⟨rfl, I433, y434, y435, y436⟩
                    have E437 : h432 91 = h 91 := Eq.trans (y434 91 (by decide)) (show h379 91 = h 91 from E384)
                    have E438 : h432 92 = h3 92 := Eq.trans (y434 92 (by decide)) (show h379 92 = h3 92 from E385)
                    have E439 : h432 93 = h3 93 := Eq.trans (y434 93 (by decide)) (show h379 93 = h3 93 from E386)
                    have E440 : h432 94 = h3 94 := Eq.trans (y434 94 (by decide)) (show h379 94 = h3 94 from E387)
                    have E441 : h432 95 = h 95 := Eq.trans (y434 95 (by decide)) (show h379 95 = h 95 from E388)
                    have E442 : h432 96 = h379 96 := Eq.trans (y434 96 (by decide)) (show h379 96 = h379 96 from rfl)
                    have E443 : h432 99 = h379 99 := Eq.trans (y434 99 (by decide)) (show h379 99 = h379 99 from rfl)
                    have fr444 : ∀ a : Int, a ≠ 90 ∧ (a < 92 ∨ 94 < a) ∧ (a < 96 ∨ 100 < a) ∧ (a < 103 ∨ 104 < a) → h432 a = h a := fun a ca => Eq.trans (y434 a (by omega)) (fr389 a ca)
                    have y435_ : ∀ k : Int, k ≠ 7 → k ≠ 8 → (h432 90) k = (h379 90) k := y435
                    have g445 : h432 90 2 = (h379 90 2) := y435_ 2 (by decide) (by decide)
                    have g446 : h432 90 3 = (h379 90 3) := y435_ 3 (by decide) (by decide)
                    have g447 : h432 90 13 = (h379 90 13) := y435_ 13 (by decide) (by decide)
                    have g448 : h432 90 15 = (h379 90 15) := y435_ 15 (by decide) (by decide)
                    rcases y436 with f449 | f450 | f451
                    · omega
                    · skip
                      show ov_R u d ov_m205 96 [(0, ov_r 90)] [] z431 h432 (P_fMo_town_90 F z h t m)
                      have f452 : (h379 90 8) = 0 ∧ pt_is t m w396 (59 : Int) = 0 ∧ (h432 90 8) = 1 + 16 * w396 ∧ 1 ≤ (h432 90 8) ∧ (h432 90 7) = (h379 90 7) ∧ (h432 93 ((h432 90 7))) = w396 := f450
                      clear f450
                      refine ov_goto (tgt := 67) d_205_96 (by decide) ?_
                      refine ov_blk (ls2 := [(0, ov_r 90)]) (st2 := [ov_r 90]) (pc2 := 68) b_205_67_1 rfl rfl ?_
                      refine ov_getf (v := ov_i (h432 90 8)) d_205_68 fl_Mo_180 (zb_90 I433) (zs_90 I433) rfl ?_
                      have g453 := rg_90_8 I433
                      refine ov_ifne (tgt := 99) d_205_71 (by decide) (by omega) (fun c454 => ?_) (fun c454 => ?_)
                      · skip
                        refine ov_blk (ls2 := [(0, ov_r 90)]) (st2 := [ov_r 90]) (pc2 := 100) b_205_99_1 rfl rfl ?_
                        refine ov_getf (v := ov_i (h432 90 8)) d_205_100 fl_Mo_180 (zb_90 I433) (zs_90 I433) rfl ?_
                        refine ov_ifle (tgt := 111) d_205_103 (by decide) (by omega) (fun c456 => ?_) (fun c456 => ?_)
                        · omega
                        · skip
                          refine ov_blk (ls2 := [(0, ov_r 90)]) (st2 := [ov_r 90]) (pc2 := 107) b_205_106_1 rfl rfl ?_
                          refine ov_getf (v := ov_i (h432 90 8)) d_205_107 fl_Mo_180 (zb_90 I433) (zs_90 I433) rfl ?_
                          exact ov_reti (st := []) d_205_110 rfl ⟨_, rfl, I433, (fun a ca => (fr444 a ca)), ⟨(fun _ => 0), (by show 0 ≤ (h432 90 8) ∧ (h432 90 8) ≤ 16005; omega), (by show pt_ET t m (h432 90 8) _; rw [show (h432 90 8) = 1 + 16 * w396 by omega]; exact cg _ _ (pt_EG_s (by omega) y398_ (by omega) (by omega)))⟩⟩
                      · omega
                    · skip
                      show ov_R u d ov_m205 96 [(0, ov_r 90)] [] z431 h432 (P_fMo_town_90 F z h t m)
                      have f458 : (h379 90 8) = 0 ∧ pt_is t m w396 (59 : Int) = 1 ∧ (h432 90 8) = 0 ∧ (h432 90 7) = (h379 90 7) + 1 ∧ (h432 90 7) ≤ N ∧ (h432 93 ((h432 90 7))) = pt_nt t m w396 := f451
                      clear f451
                      refine ov_goto (tgt := 67) d_205_96 (by decide) ?_
                      have pq : h3 93 (h432 90 7) = pt_nt t m w396 := Eq.trans (congrFun (show h3 93 = h432 93 from (E439).symm) _) (by show h432 93 (h432 90 7) = pt_nt t m w396; omega)
                      exact ih305  _ _ I433 E437 E438 E439 E440 E441 (fun a ca => (fr444 a ca)) (⟨pt_LA t m A (h3 93 (h309 90 7)), (by rw [show h432 96 = h379 96 from E442, show h432 99 = h379 99 from E443]; exact y399_), fun f B e => cg f B (pt_EG_n (by omega) y398_ (by omega) (by rw [pq] at e; exact e))⟩) (by show (h432 90 8) = 0 ∧ 0 ≤ (h432 90 7) ∧ (h432 90 7) ≤ N ∧ 0 ≤ (h432 90 13) ∧ (h432 90 13) ≤ (h432 90 7); omega) (by show N - (h432 90 7) < _; omega)
          have m96 : h276 96 = ov_rs (ov_rs ((h20 96)) 340 (pt_nm t m (pt_nt t m (pt_rn pt_bB t m 0)))) 341 (pt_nm t m (pt_nt t m (pt_nt t m (pt_rn pt_bB t m 0)))) := by rw [show h276 96 = (ov_rs (ov_rs (h20 96) 340 v136) 341 v218) from R287, show v136 = (pt_nm t m (pt_nt t m (pt_rn pt_bB t m 0))) by omega, show v218 = (pt_nm t m (pt_nt t m (pt_nt t m (pt_rn pt_bB t m 0)))) by omega]
          have m15 : (h276 90 15) = 0 := by omega
          have hz : (pt_szF t m (pt_rn pt_bB t m 0)) = 0 := by unfold pt_szF pt_fW pt_fS; (repeat' split) <;> omega
          have pq : h3 93 (h276 90 7) = (pt_nt t m (pt_nt t m (pt_nt t m (pt_nt t m (pt_rn pt_bB t m 0))))) := Eq.trans (congrFun (show h3 93 = h276 93 from (E283).symm) _) (by show h276 93 (h276 90 7) = (pt_nt t m (pt_nt t m (pt_nt t m (pt_nt t m (pt_rn pt_bB t m 0))))); omega)
          exact L307 1001  _ _ I277 E281 E282 E283 E284 E285 (fun a ca => (fr289 a ca)) (⟨pt_A0 (pt_nm t m (pt_nt t m (pt_rn pt_bB t m 0))) (pt_nm t m (pt_nt t m (pt_nt t m (pt_rn pt_bB t m 0)))), by rw [m96, m15]; exact pt_MR_first (by omega) (by omega) y23_, fun f B e => Or.inr ⟨hz, by rw [pq] at e; exact e⟩⟩) (by show (h276 90 8) = 0 ∧ 0 ≤ (h276 90 7) ∧ (h276 90 7) ≤ N ∧ 0 ≤ (h276 90 13) ∧ (h276 90 13) ≤ (h276 90 7); omega) (by show N - (h276 90 7) < _; omega)

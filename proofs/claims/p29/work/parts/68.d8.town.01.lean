abbrev P_fMo_town_90 (F : ov_H × ov_Z) (z : ov_Z) (h : ov_H) (t : Int → Int) (m : Int) : Option ov_V → ov_Z → ov_H → Prop := fun r0 z' h' => ∃ r : Int, r0 = some (ov_i r) ∧ ov_N F z' h' ∧ (∀ a : Int, a ≠ 90 ∧ (a < 92 ∨ 94 < a) ∧ (a < 96 ∨ 100 < a) ∧ (a < 103 ∨ 104 < a) → h' a = h a) ∧ (∀ k : Int, k ≠ 0 → k ≠ 2 → k ≠ 3 → k ≠ 7 → k ≠ 8 → k ≠ 13 → k ≠ 15 → k ≠ 20 → k ≠ 22 → (h' 90) k = (h 90) k) ∧ ((∃ B : Int → Int, (1 ≤ r ∧ r ≤ 16005 ∧ (h' 90 22) = (h 90 22) ∧ (h' 90 20) = (h 90 20)) ∧ (pt_ET t m r B) ∧ ((h' 104) = (h 104))) ∨ (∃ B : Int → Int, (r = 0 ∧ (h' 90 20) = 0 ∧ (h' 100 0) = 0) ∧ (pt_ET t m r B) ∧ (∀ j : Int, 0 ≤ j → j < 4 → (h' 104) j = 0) ∧ (∀ j : Int, 0 ≤ j → j < 280 → (h' 96) j = B j) ∧ (∀ j : Int, 0 ≤ j → j < 120 → (h' 103) j = 0)))
set_option maxHeartbeats 4000000 in
theorem c_fMo_town_90 {u : ov_U} {F : ov_H × ov_Z} (t : Int → Int) (m : Int) {z : ov_Z} {h : ov_H} (d : Nat) (hd : 42 ≤ d) (U : ov_cap u) (I : ov_N F z h) (p0 : (h 90 2) = m) (p1 : 0 ≤ m ∧ m ≤ 1000) (p2 : 0 ≤ ov_bd F) (e91 : (h 91) = t) (wd : pt_WD (h 95)) : ov_T u d ov_m205 [ov_r 90] z h (P_fMo_town_90 F z h t m) := by
  refine ov_en rfl (Nat.le_of_ble_eq_true rfl) ?_
  show ov_R u d ov_m205 0 [(0, ov_r 90)] [] z h (P_fMo_town_90 F z h t m)
  refine ov_blk (ls2 := [(0, ov_r 90)]) (st2 := [ov_i 0, ov_r 90]) (pc2 := 2) b_205_0_2 rfl rfl ?_
  refine ov_putf (x := 0) d_205_2 fl_Mo_1 (zb_90 I) (zs_90 I) rfl nk_0 rfl ?_
  have I1 := up_90_0 (x := 0) I (by omega)
  show ov_R u d ov_m205 5 [(0, ov_r 90)] [] z (ov_up h 90 0 0) (P_fMo_town_90 F z h t m)
  refine ov_blk (ls2 := [(0, ov_r 90)]) (st2 := [ov_r 90]) (pc2 := 6) b_205_5_1 rfl rfl ?_
  refine ov_cV (as := []) (st := []) (d2 := d - 1) d_205_6 lk_Mo_205 rfl (Nat.le_of_ble_eq_true rfl) (c := 1) (zb_90 I1) (zs_90 I1) ⟨by decide, rfl⟩ (by omega) (c_fMo_cutAll_90 t m (d - 1) (by omega) U I1 (by show (h 90 2) = m; omega) (by show 0 ≤ m ∧ m ≤ 1000; omega) e91) ?_
  rintro _ z2 h3 ⟨rfl, I4, y5, f6, y7, y8⟩
  have E9 : h3 91 = h 91 := Eq.trans (y5 91 (by decide)) (show (ov_up h 90 0 0) 91 = h 91 from rfl)
  have E10 : h3 95 = h 95 := Eq.trans (y5 95 (by decide)) (show (ov_up h 90 0 0) 95 = h 95 from rfl)
  have E11 : h3 96 = h 96 := Eq.trans (y5 96 (by decide)) (show (ov_up h 90 0 0) 96 = h 96 from rfl)
  have E12 : h3 99 = h 99 := Eq.trans (y5 99 (by decide)) (show (ov_up h 90 0 0) 99 = h 99 from rfl)
  have E13 : h3 103 = h 103 := Eq.trans (y5 103 (by decide)) (show (ov_up h 90 0 0) 103 = h 103 from rfl)
  have E14 : h3 104 = h 104 := Eq.trans (y5 104 (by decide)) (show (ov_up h 90 0 0) 104 = h 104 from rfl)
  have fr15 : ∀ a : Int, a ≠ 90 ∧ (a < 92 ∨ 94 < a) ∧ (a < 96 ∨ 100 < a) ∧ (a < 103 ∨ 104 < a) → h3 a = h a := fun a ca => Eq.trans (y5 a (by omega)) (Eq.trans (by show (ov_up h 90 0 0) a = h a; rw [ov_up_ne (by omega)]) rfl)
  have f17 : (h3 90 2) = 0 ∧ (h3 90 3) = m ∧ (h3 90 7) = 0 ∧ (h3 90 8) = 0 := f6
  clear f6
  have y7_ : ∃ N : Int, pt_MT t m (h3 92) (h3 93) (h3 94) N := y7
  have y8_ : ∀ k : Int, k ≠ 2 → k ≠ 3 → k ≠ 7 → k ≠ 8 → (h3 90) k = ((ov_up h 90 0 0) 90) k := y8
  have rk16 : ∀ k : Int, k ≠ 0 → k ≠ 2 → k ≠ 3 → k ≠ 7 → k ≠ 8 → k ≠ 13 → k ≠ 15 → k ≠ 20 → k ≠ 22 → h3 90 k = h 90 k := fun k n0 n1 n2 n3 n4 n5 n6 n7 n8 => Eq.trans (y8_ k n1 n2 n3 n4) (Eq.trans (by show (ov_up h 90 0 0) 90 k = h 90 k; rw [ov_up_j n0]) rfl)
  have g18 : h3 90 13 = (h 90 13) := y8_ 13 (by decide) (by decide) (by decide) (by decide)
  have g19 : h3 90 15 = (h 90 15) := y8_ 15 (by decide) (by decide) (by decide) (by decide)
  have g20 : h3 90 20 = (h 90 20) := y8_ 20 (by decide) (by decide) (by decide) (by decide)
  have g21 : h3 90 22 = (h 90 22) := y8_ 22 (by decide) (by decide) (by decide) (by decide)
  show ov_R u d ov_m205 9 [(0, ov_r 90)] [] z2 h3 (P_fMo_town_90 F z h t m)
  obtain ⟨N, mt⟩ := y7_
  have pz := pt_MT_0 mt
  have mN := mt.1.2.1
  have mN0 := mt.1.1
  have zp : h3 93 (h3 90 7) = (pt_rn pt_bB t m 0) := by rw [show h3 90 7 = 0 by omega]; exact pz
  have nb0 := pt_rn_b (P := pt_bB) (t := t) (n := m) (p := 0)
  refine ov_blk (ls2 := [(0, ov_r 90)]) (st2 := [ov_i 0, ov_r 90]) (pc2 := 11) b_205_9_2 rfl rfl ?_
  refine ov_putf (x := 0) d_205_11 fl_Mo_208 (zb_90 I4) (zs_90 I4) rfl nk_0 rfl ?_
  have I22 := up_90_13 (x := 0) I4 (by omega)
  show ov_R u d ov_m205 14 [(0, ov_r 90)] [] z2 (ov_up h3 90 13 0) (P_fMo_town_90 F z h t m)
  refine ov_blk (ls2 := [(0, ov_r 90)]) (st2 := [ov_i 0, ov_r 90]) (pc2 := 16) b_205_14_2 rfl rfl ?_
  refine ov_putf (x := 0) d_205_16 fl_Mo_211 (zb_90 I22) (zs_90 I22) rfl nk_0 rfl ?_
  have I23 := up_90_15 (x := 0) I22 (by omega)
  show ov_R u d ov_m205 19 [(0, ov_r 90)] [] z2 (ov_up (ov_up h3 90 13 0) 90 15 0) (P_fMo_town_90 F z h t m)
  refine ov_blk (ls2 := [(0, ov_r 90)]) (st2 := [ov_i 340, ov_r 90]) (pc2 := 23) b_205_19_2 rfl rfl ?_
  refine ov_cV (as := [ov_i 340]) (st := []) (d2 := d - 1) d_205_23 lk_Mo_147 rfl (Nat.le_of_ble_eq_true rfl) (c := 1) (zb_90 I23) (zs_90 I23) ⟨by decide, rfl⟩ (by omega) (c_fMo_standsAsAlways_90 (d - 1) (by omega) U I23 340 (by omega) (by show (340 : Int) = 340; omega)) ?_
  rintro _ z24 h25 ⟨rfl, I26, y27, y28⟩
  have E29 : h25 91 = h 91 := Eq.trans (y27 91 (by decide)) (show (ov_up (ov_up h3 90 13 0) 90 15 0) 91 = h 91 from E9)
  have E30 : h25 92 = h3 92 := Eq.trans (y27 92 (by decide)) (show (ov_up (ov_up h3 90 13 0) 90 15 0) 92 = h3 92 from rfl)
  have E31 : h25 93 = h3 93 := Eq.trans (y27 93 (by decide)) (show (ov_up (ov_up h3 90 13 0) 90 15 0) 93 = h3 93 from rfl)
  have E32 : h25 94 = h3 94 := Eq.trans (y27 94 (by decide)) (show (ov_up (ov_up h3 90 13 0) 90 15 0) 94 = h3 94 from rfl)
  have E33 : h25 95 = h 95 := Eq.trans (y27 95 (by decide)) (show (ov_up (ov_up h3 90 13 0) 90 15 0) 95 = h 95 from E10)
  have E34 : h25 99 = h 99 := Eq.trans (y27 99 (by decide)) (show (ov_up (ov_up h3 90 13 0) 90 15 0) 99 = h 99 from E12)
  have E35 : h25 103 = h 103 := Eq.trans (y27 103 (by decide)) (show (ov_up (ov_up h3 90 13 0) 90 15 0) 103 = h 103 from E13)
  have E36 : h25 104 = h 104 := Eq.trans (y27 104 (by decide)) (show (ov_up (ov_up h3 90 13 0) 90 15 0) 104 = h 104 from E14)
  have fr37 : ∀ a : Int, a ≠ 90 ∧ (a < 92 ∨ 94 < a) ∧ (a < 96 ∨ 100 < a) ∧ (a < 103 ∨ 104 < a) → h25 a = h a := fun a ca => Eq.trans (y27 a (by omega)) (Eq.trans (by show (ov_up (ov_up h3 90 13 0) 90 15 0) a = h3 a; rw [ov_up_ne (by omega), ov_up_ne (by omega)]) (fr15 a ca))
  have rk38 : ∀ k : Int, k ≠ 0 → k ≠ 2 → k ≠ 3 → k ≠ 7 → k ≠ 8 → k ≠ 13 → k ≠ 15 → k ≠ 20 → k ≠ 22 → h25 90 k = h 90 k := fun k n0 n1 n2 n3 n4 n5 n6 n7 n8 => Eq.trans (congrFun (y27 90 (by decide)) k) (Eq.trans (by show (ov_up (ov_up h3 90 13 0) 90 15 0) 90 k = h3 90 k; rw [ov_up_j n6, ov_up_j n5]) (rk16 k n0 n1 n2 n3 n4 n5 n6 n7 n8))
  have g39 : h25 90 2 = (h3 90 2) := congrFun (y27 90 (by decide)) 2
  have g40 : h25 90 3 = (h3 90 3) := congrFun (y27 90 (by decide)) 3
  have g41 : h25 90 7 = (h3 90 7) := congrFun (y27 90 (by decide)) 7
  have g42 : h25 90 8 = (h3 90 8) := congrFun (y27 90 (by decide)) 8
  have g43 : h25 90 13 = 0 := congrFun (y27 90 (by decide)) 13
  have g44 : h25 90 15 = 0 := congrFun (y27 90 (by decide)) 15
  have g45 : h25 90 20 = (h3 90 20) := congrFun (y27 90 (by decide)) 20
  have g46 : h25 90 22 = (h3 90 22) := congrFun (y27 90 (by decide)) 22
  have y28_ : ∀ j : Int, 0 ≤ j → j < 340 → (h25 96) (340 + j) = pt_A0 0 0 j := y28
  show ov_R u d ov_m205 26 [(0, ov_r 90)] [] z24 h25 (P_fMo_town_90 F z h t m)
  have zp2 : h3 93 (h25 90 7) = (pt_rn pt_bB t m 0) := by rw [show h25 90 7 = 0 by omega]; exact pz
  refine ov_blk (ls2 := [(0, ov_r 90)]) (st2 := [ov_i 0, ov_r 90]) (pc2 := 28) b_205_26_2 rfl rfl ?_
  have cf47 : h25 93 ((h25 90 7)) = h3 93 ((h25 90 7)) := congrFun E31 ((h25 90 7))
  refine ov_cV (as := [ov_i 0]) (st := []) (d2 := d - 1) d_205_28 lk_Mo_195 rfl (Nat.le_of_ble_eq_true rfl) (c := 1) (zb_90 I26) (zs_90 I26) ⟨by decide, rfl⟩ (by omega) (c_fMo_takeWord_90 t m N (pt_rn pt_bB t m 0) 1953462126 (d - 1) (by omega) U I26 0 (by omega) (by show 0 ≤ (h25 90 7) ∧ (h25 90 7) ≤ N; omega) (by show (h25 93 ((h25 90 7))) = (pt_rn pt_bB t m 0); omega) (by show 0 ≤ (h25 90 8); omega) (by show 0 ≤ (0 : Int) ∧ (0 : Int) ≤ 21; omega) (by rw [show h25 92 = h3 92 from E30, show h25 93 = h3 93 from E31, show h25 94 = h3 94 from E32]; exact mt) (by rw [show h25 95 = h 95 from E33]; exact wd) (by decide +kernel)) ?_
  rintro _ z48 h49 ⟨rfl, I50, y51, y52, y53⟩
  have E54 : h49 91 = h 91 := Eq.trans (y51 91 (by decide)) (show h25 91 = h 91 from E29)
  have E55 : h49 92 = h3 92 := Eq.trans (y51 92 (by decide)) (show h25 92 = h3 92 from E30)
  have E56 : h49 93 = h3 93 := Eq.trans (y51 93 (by decide)) (show h25 93 = h3 93 from E31)
  have E57 : h49 94 = h3 94 := Eq.trans (y51 94 (by decide)) (show h25 94 = h3 94 from E32)
  have E58 : h49 95 = h 95 := Eq.trans (y51 95 (by decide)) (show h25 95 = h 95 from E33)
  have E59 : h49 96 = h25 96 := Eq.trans (y51 96 (by decide)) (show h25 96 = h25 96 from rfl)
  have E60 : h49 99 = h 99 := Eq.trans (y51 99 (by decide)) (show h25 99 = h 99 from E34)
  have E61 : h49 103 = h 103 := Eq.trans (y51 103 (by decide)) (show h25 103 = h 103 from E35)
  have E62 : h49 104 = h 104 := Eq.trans (y51 104 (by decide)) (show h25 104 = h 104 from E36)
  have fr63 : ∀ a : Int, a ≠ 90 ∧ (a < 92 ∨ 94 < a) ∧ (a < 96 ∨ 100 < a) ∧ (a < 103 ∨ 104 < a) → h49 a = h a := fun a ca => Eq.trans (y51 a (by omega)) (fr37 a ca)
  have y52_ : ∀ k : Int, k ≠ 7 → k ≠ 8 → (h49 90) k = (h25 90) k := y52
  have rk64 : ∀ k : Int, k ≠ 0 → k ≠ 2 → k ≠ 3 → k ≠ 7 → k ≠ 8 → k ≠ 13 → k ≠ 15 → k ≠ 20 → k ≠ 22 → h49 90 k = h 90 k := fun k n0 n1 n2 n3 n4 n5 n6 n7 n8 => Eq.trans (y52_ k n3 n4) (rk38 k n0 n1 n2 n3 n4 n5 n6 n7 n8)
  have g65 : h49 90 2 = (h25 90 2) := y52_ 2 (by decide) (by decide)
  have g66 : h49 90 3 = (h25 90 3) := y52_ 3 (by decide) (by decide)
  have g67 : h49 90 13 = (h25 90 13) := y52_ 13 (by decide) (by decide)
  have g68 : h49 90 15 = (h25 90 15) := y52_ 15 (by decide) (by decide)
  have g69 : h49 90 20 = (h25 90 20) := y52_ 20 (by decide) (by decide)
  have g70 : h49 90 22 = (h25 90 22) := y52_ 22 (by decide) (by decide)
  rcases y53 with f71 | f72 | f73
  · omega
  · skip
    show ov_R u d ov_m205 31 [(0, ov_r 90)] [] z48 h49 (P_fMo_town_90 F z h t m)
    have f74 : (h25 90 8) = 0 ∧ pt_iw t m (pt_rn pt_bB t m 0) (1953462126 : Int) = 0 ∧ (h49 90 8) = 1 + 16 * (pt_rn pt_bB t m 0) ∧ 1 ≤ (h49 90 8) ∧ (h49 90 7) = (h25 90 7) ∧ (h49 93 ((h49 90 7))) = (pt_rn pt_bB t m 0) := f72
    clear f72
    refine ov_blk (ls2 := [(0, ov_r 90)]) (st2 := [ov_r 90]) (pc2 := 32) b_205_31_1 rfl rfl ?_
    refine ov_getf (v := ov_r 96) d_205_32 fl_Mo_81 (zb_90 I50) (zs_90 I50) (congrArg ov_r (rg_90_10 I50)) ?_
    refine ov_blk (ls2 := [(0, ov_r 90)]) (st2 := [ov_i 6, ov_i 1, ov_r 90, ov_i 340, ov_r 96]) (pc2 := 42) b_205_35_4 rfl rfl ?_
    have cf75 : h49 93 ((h49 90 7)) = h3 93 ((h49 90 7)) := congrFun E56 ((h49 90 7))
    refine ov_cV (as := [ov_i 1, ov_i 6]) (st := [ov_i 340, ov_r 96]) (d2 := d - 1) d_205_42 lk_Mo_198 rfl (Nat.le_of_ble_eq_true rfl) (c := 1) (zb_90 I50) (zs_90 I50) ⟨by decide, rfl⟩ (by omega) (c_fMo_takeNumber_90 t m N (pt_rn pt_bB t m 0) (d - 1) (by omega) U I50 1 6 (by omega) (by omega) (by show 0 ≤ (h49 90 7) ∧ (h49 90 7) ≤ N; omega) (by show (h49 93 ((h49 90 7))) = (pt_rn pt_bB t m 0); omega) (by show 0 ≤ (h49 90 8); omega) (by rw [show h49 92 = h3 92 from E55, show h49 93 = h3 93 from E56, show h49 94 = h3 94 from E57]; exact mt)) ?_
    rintro _ z77 h78 ⟨v76, rfl, I79, y80, y81, y82⟩
    have E83 : h78 91 = h 91 := Eq.trans (y80 91 (by decide)) (show h49 91 = h 91 from E54)
    have E84 : h78 92 = h3 92 := Eq.trans (y80 92 (by decide)) (show h49 92 = h3 92 from E55)
    have E85 : h78 93 = h3 93 := Eq.trans (y80 93 (by decide)) (show h49 93 = h3 93 from E56)
    have E86 : h78 94 = h3 94 := Eq.trans (y80 94 (by decide)) (show h49 94 = h3 94 from E57)
    have E87 : h78 95 = h 95 := Eq.trans (y80 95 (by decide)) (show h49 95 = h 95 from E58)
    have E88 : h78 96 = h25 96 := Eq.trans (y80 96 (by decide)) (show h49 96 = h25 96 from E59)
    have E89 : h78 99 = h 99 := Eq.trans (y80 99 (by decide)) (show h49 99 = h 99 from E60)
    have E90 : h78 103 = h 103 := Eq.trans (y80 103 (by decide)) (show h49 103 = h 103 from E61)
    have E91 : h78 104 = h 104 := Eq.trans (y80 104 (by decide)) (show h49 104 = h 104 from E62)
    have fr92 : ∀ a : Int, a ≠ 90 ∧ (a < 92 ∨ 94 < a) ∧ (a < 96 ∨ 100 < a) ∧ (a < 103 ∨ 104 < a) → h78 a = h a := fun a ca => Eq.trans (y80 a (by omega)) (fr63 a ca)
    have y81_ : ∀ k : Int, k ≠ 7 → k ≠ 8 → (h78 90) k = (h49 90) k := y81
    have rk93 : ∀ k : Int, k ≠ 0 → k ≠ 2 → k ≠ 3 → k ≠ 7 → k ≠ 8 → k ≠ 13 → k ≠ 15 → k ≠ 20 → k ≠ 22 → h78 90 k = h 90 k := fun k n0 n1 n2 n3 n4 n5 n6 n7 n8 => Eq.trans (y81_ k n3 n4) (rk64 k n0 n1 n2 n3 n4 n5 n6 n7 n8)
    have g94 : h78 90 2 = (h49 90 2) := y81_ 2 (by decide) (by decide)
    have g95 : h78 90 3 = (h49 90 3) := y81_ 3 (by decide) (by decide)
    have g96 : h78 90 13 = (h49 90 13) := y81_ 13 (by decide) (by decide)
    have g97 : h78 90 15 = (h49 90 15) := y81_ 15 (by decide) (by decide)
    have g98 : h78 90 20 = (h49 90 20) := y81_ 20 (by decide) (by decide)
    have g99 : h78 90 22 = (h49 90 22) := y81_ 22 (by decide) (by decide)
    rcases y82 with f100 | f101 | f102
    · skip
      show ov_R u d ov_m205 45 [(0, ov_r 90)] [ov_i v76, ov_i 340, ov_r 96] z77 h78 (P_fMo_town_90 F z h t m)
      have f103 : v76 = 0 ∧ (h49 90 8) ≠ 0 ∧ (h78 90 8) = (h49 90 8) ∧ (h78 90 7) = (h49 90 7) ∧ (h78 93 ((h78 90 7))) = (pt_rn pt_bB t m 0) := f100
      clear f100
      refine ov_iast d_205_45 (zb_96 I79) (zs_96 I79) (by omega) ?_
      have I104 := ua_96 (k := 340) (x := v76) I79 (by refine ⟨?_, ?_, ?_, ?_, ?_, ?_, ?_, ?_, ?_, ?_, ?_, ?_, ?_, ?_, ?_, ?_, ?_, ?_, ?_, ?_, ?_, ?_, ?_, ?_, ?_, ?_, ?_, ?_, ?_⟩ <;> omega)
      refine ov_blk (ls2 := [(0, ov_r 90)]) (st2 := [ov_r 90]) (pc2 := 47) b_205_46_1 rfl rfl ?_
      refine ov_getf (v := ov_r 96) d_205_47 fl_Mo_81 (zb_90 I104) (zs_90 I104) (congrArg ov_r (rg_90_10 I104)) ?_
      refine ov_blk (ls2 := [(0, ov_r 90)]) (st2 := [ov_i 9, ov_i 1, ov_r 90, ov_i 341, ov_r 96]) (pc2 := 57) b_205_50_4 rfl rfl ?_
      have cf105 : h78 93 ((h78 90 7)) = h3 93 ((h78 90 7)) := congrFun E85 ((h78 90 7))
      refine ov_cV (as := [ov_i 1, ov_i 9]) (st := [ov_i 341, ov_r 96]) (d2 := d - 1) d_205_57 lk_Mo_198 rfl (Nat.le_of_ble_eq_true rfl) (c := 1) (zb_90 I104) (zs_90 I104) ⟨by decide, rfl⟩ (by omega) (c_fMo_takeNumber_90 t m N (pt_rn pt_bB t m 0) (d - 1) (by omega) U I104 1 9 (by omega) (by omega) (by show 0 ≤ (h78 90 7) ∧ (h78 90 7) ≤ N; omega) (by show (h78 93 ((h78 90 7))) = (pt_rn pt_bB t m 0); omega) (by show 0 ≤ (h78 90 8); omega) (by rw [show (ov_up h78 96 340 v76) 92 = h3 92 from E84, show (ov_up h78 96 340 v76) 93 = h3 93 from E85, show (ov_up h78 96 340 v76) 94 = h3 94 from E86]; exact mt)) ?_
      rintro _ z107 h108 ⟨v106, rfl, I109, y110, y111, y112⟩
      have E113 : h108 91 = h 91 := Eq.trans (y110 91 (by decide)) (show (ov_up h78 96 340 v76) 91 = h 91 from E83)
      have E114 : h108 92 = h3 92 := Eq.trans (y110 92 (by decide)) (show (ov_up h78 96 340 v76) 92 = h3 92 from E84)
      have E115 : h108 93 = h3 93 := Eq.trans (y110 93 (by decide)) (show (ov_up h78 96 340 v76) 93 = h3 93 from E85)
      have E116 : h108 94 = h3 94 := Eq.trans (y110 94 (by decide)) (show (ov_up h78 96 340 v76) 94 = h3 94 from E86)
      have E117 : h108 95 = h 95 := Eq.trans (y110 95 (by decide)) (show (ov_up h78 96 340 v76) 95 = h 95 from E87)
      have R119 : h108 96 = (ov_rs (h25 96) 340 v76) := Eq.trans (y110 96 (by decide)) (Eq.trans (ov_up_row h78 96 340 v76) (congrArg (fun f => ov_rs f 340 v76) E88))
      have E120 : h108 99 = h 99 := Eq.trans (y110 99 (by decide)) (show (ov_up h78 96 340 v76) 99 = h 99 from E89)
      have E121 : h108 103 = h 103 := Eq.trans (y110 103 (by decide)) (show (ov_up h78 96 340 v76) 103 = h 103 from E90)
      have E122 : h108 104 = h 104 := Eq.trans (y110 104 (by decide)) (show (ov_up h78 96 340 v76) 104 = h 104 from E91)
      have fr123 : ∀ a : Int, a ≠ 90 ∧ (a < 92 ∨ 94 < a) ∧ (a < 96 ∨ 100 < a) ∧ (a < 103 ∨ 104 < a) → h108 a = h a := fun a ca => Eq.trans (y110 a (by omega)) (Eq.trans (by show (ov_up h78 96 340 v76) a = h78 a; rw [ov_up_ne (by omega)]) (fr92 a ca))
      have y111_ : ∀ k : Int, k ≠ 7 → k ≠ 8 → (h108 90) k = (h78 90) k := y111
      have rk124 : ∀ k : Int, k ≠ 0 → k ≠ 2 → k ≠ 3 → k ≠ 7 → k ≠ 8 → k ≠ 13 → k ≠ 15 → k ≠ 20 → k ≠ 22 → h108 90 k = h 90 k := fun k n0 n1 n2 n3 n4 n5 n6 n7 n8 => Eq.trans (y111_ k n3 n4) (Eq.trans (by show (ov_up h78 96 340 v76) 90 k = h78 90 k; rw [ov_up_ne (by decide)]) (rk93 k n0 n1 n2 n3 n4 n5 n6 n7 n8))
      have g125 : h108 90 2 = (h78 90 2) := y111_ 2 (by decide) (by decide)
      have g126 : h108 90 3 = (h78 90 3) := y111_ 3 (by decide) (by decide)
      have g127 : h108 90 13 = (h78 90 13) := y111_ 13 (by decide) (by decide)
      have g128 : h108 90 15 = (h78 90 15) := y111_ 15 (by decide) (by decide)
      have g129 : h108 90 20 = (h78 90 20) := y111_ 20 (by decide) (by decide)
      have g130 : h108 90 22 = (h78 90 22) := y111_ 22 (by decide) (by decide)
      rcases y112 with f131 | f132 | f133
      · skip
        show ov_R u d ov_m205 60 [(0, ov_r 90)] [ov_i v106, ov_i 341, ov_r 96] z107 h108 (P_fMo_town_90 F z h t m)
        have f134 : v106 = 0 ∧ (h78 90 8) ≠ 0 ∧ (h108 90 8) = (h78 90 8) ∧ (h108 90 7) = (h78 90 7) ∧ (h108 93 ((h108 90 7))) = (pt_rn pt_bB t m 0) := f131
        clear f131
        refine ov_iast d_205_60 (zb_96 I109) (zs_96 I109) (by omega) ?_
        have I135 := ua_96 (k := 341) (x := v106) I109 (by refine ⟨?_, ?_, ?_, ?_, ?_, ?_, ?_, ?_, ?_, ?_, ?_, ?_, ?_, ?_, ?_, ?_, ?_, ?_, ?_, ?_, ?_, ?_, ?_, ?_, ?_, ?_, ?_, ?_, ?_⟩ <;> omega)
        refine ov_blk (ls2 := [(0, ov_r 90)]) (st2 := [ov_i 59, ov_r 90]) (pc2 := 64) b_205_61_2 rfl rfl ?_
        have cf136 : h108 93 ((h108 90 7)) = h3 93 ((h108 90 7)) := congrFun E115 ((h108 90 7))
        refine ov_cV (as := [ov_i 59]) (st := []) (d2 := d - 1) d_205_64 lk_Mo_214 rfl (Nat.le_of_ble_eq_true rfl) (c := 1) (zb_90 I135) (zs_90 I135) ⟨by decide, rfl⟩ (by omega) (c_fMo_takeSign_90 t m N (pt_rn pt_bB t m 0) (d - 1) (by omega) U I135 59 (by omega) (by show 0 ≤ (h108 90 7) ∧ (h108 90 7) ≤ N; omega) (by show (h108 93 ((h108 90 7))) = (pt_rn pt_bB t m 0); omega) (by show 0 ≤ (h108 90 8); omega) (by show 0 ≤ (59 : Int) ∧ (59 : Int) ≤ 65535; omega) (by rw [show (ov_up h108 96 341 v106) 92 = h3 92 from E114, show (ov_up h108 96 341 v106) 93 = h3 93 from E115, show (ov_up h108 96 341 v106) 94 = h3 94 from E116]; exact mt)) ?_
        rintro _ z137 h138 ⟨rfl, I139, y140, y141, y142⟩
        have E143 : h138 91 = h 91 := Eq.trans (y140 91 (by decide)) (show (ov_up h108 96 341 v106) 91 = h 91 from E113)
        have E144 : h138 92 = h3 92 := Eq.trans (y140 92 (by decide)) (show (ov_up h108 96 341 v106) 92 = h3 92 from E114)
        have E145 : h138 93 = h3 93 := Eq.trans (y140 93 (by decide)) (show (ov_up h108 96 341 v106) 93 = h3 93 from E115)
        have E146 : h138 94 = h3 94 := Eq.trans (y140 94 (by decide)) (show (ov_up h108 96 341 v106) 94 = h3 94 from E116)
        have E147 : h138 95 = h 95 := Eq.trans (y140 95 (by decide)) (show (ov_up h108 96 341 v106) 95 = h 95 from E117)
        have R149 : h138 96 = (ov_rs (ov_rs (h25 96) 340 v76) 341 v106) := Eq.trans (y140 96 (by decide)) (Eq.trans (ov_up_row h108 96 341 v106) (congrArg (fun f => ov_rs f 341 v106) R119))
        have E150 : h138 99 = h 99 := Eq.trans (y140 99 (by decide)) (show (ov_up h108 96 341 v106) 99 = h 99 from E120)
        have E151 : h138 103 = h 103 := Eq.trans (y140 103 (by decide)) (show (ov_up h108 96 341 v106) 103 = h 103 from E121)
        have E152 : h138 104 = h 104 := Eq.trans (y140 104 (by decide)) (show (ov_up h108 96 341 v106) 104 = h 104 from E122)
        have fr153 : ∀ a : Int, a ≠ 90 ∧ (a < 92 ∨ 94 < a) ∧ (a < 96 ∨ 100 < a) ∧ (a < 103 ∨ 104 < a) → h138 a = h a := fun a ca => Eq.trans (y140 a (by omega)) (Eq.trans (by show (ov_up h108 96 341 v106) a = h108 a; rw [ov_up_ne (by omega)]) (fr123 a ca))
        have y141_ : ∀ k : Int, k ≠ 7 → k ≠ 8 → (h138 90) k = (h108 90) k := y141
        have rk154 : ∀ k : Int, k ≠ 0 → k ≠ 2 → k ≠ 3 → k ≠ 7 → k ≠ 8 → k ≠ 13 → k ≠ 15 → k ≠ 20 → k ≠ 22 → h138 90 k = h 90 k := fun k n0 n1 n2 n3 n4 n5 n6 n7 n8 => Eq.trans (y141_ k n3 n4) (Eq.trans (by show (ov_up h108 96 341 v106) 90 k = h108 90 k; rw [ov_up_ne (by decide)]) (rk124 k n0 n1 n2 n3 n4 n5 n6 n7 n8))
        have g155 : h138 90 2 = (h108 90 2) := y141_ 2 (by decide) (by decide)
        have g156 : h138 90 3 = (h108 90 3) := y141_ 3 (by decide) (by decide)
        have g157 : h138 90 13 = (h108 90 13) := y141_ 13 (by decide) (by decide)
        have g158 : h138 90 15 = (h108 90 15) := y141_ 15 (by decide) (by decide)
        have g159 : h138 90 20 = (h108 90 20) := y141_ 20 (by decide) (by decide)
        have g160 : h138 90 22 = (h108 90 22) := y141_ 22 (by decide) (by decide)
        rcases y142 with f161 | f162 | f163
        · skip
          show ov_R u d ov_m205 67 [(0, ov_r 90)] [] z137 h138 (P_fMo_town_90 F z h t m)
          have f164 : (h108 90 8) ≠ 0 ∧ (h138 90 8) = (h108 90 8) ∧ (h138 90 7) = (h108 90 7) ∧ (h138 93 ((h138 90 7))) = (pt_rn pt_bB t m 0) := f161
          clear f161
          refine ov_blk (ls2 := [(0, ov_r 90)]) (st2 := [ov_r 90]) (pc2 := 68) b_205_67_1 rfl rfl ?_
          refine ov_getf (v := ov_i (h138 90 8)) d_205_68 fl_Mo_180 (zb_90 I139) (zs_90 I139) rfl ?_
          have g165 := rg_90_8 I139
          refine ov_ifne (tgt := 99) d_205_71 (by decide) (by omega) (fun c166 => ?_) (fun c166 => ?_)
          · skip
            refine ov_blk (ls2 := [(0, ov_r 90)]) (st2 := [ov_r 90]) (pc2 := 100) b_205_99_1 rfl rfl ?_
            refine ov_getf (v := ov_i (h138 90 8)) d_205_100 fl_Mo_180 (zb_90 I139) (zs_90 I139) rfl ?_
            refine ov_ifle (tgt := 111) d_205_103 (by decide) (by omega) (fun c168 => ?_) (fun c168 => ?_)
            · omega
            · skip
              refine ov_blk (ls2 := [(0, ov_r 90)]) (st2 := [ov_r 90]) (pc2 := 107) b_205_106_1 rfl rfl ?_
              refine ov_getf (v := ov_i (h138 90 8)) d_205_107 fl_Mo_180 (zb_90 I139) (zs_90 I139) rfl ?_
              have hz : (pt_szF t m (pt_rn pt_bB t m 0)) = (h138 90 8) := by unfold pt_szF pt_fW pt_fS; (repeat' split) <;> omega
              exact ov_reti (st := []) d_205_110 rfl ⟨_, rfl, I139, (fun a ca => (fr153 a ca)), (fun k n0 n1 n2 n3 n4 n5 n6 n7 n8 => (rk154 k n0 n1 n2 n3 n4 n5 n6 n7 n8)), (Or.inl ⟨(fun _ => 0), (by show 1 ≤ (h138 90 8) ∧ (h138 90 8) ≤ 16005 ∧ (h138 90 22) = (h 90 22) ∧ (h138 90 20) = (h 90 20); omega), (Or.inl ⟨by omega, hz.symm⟩), E152⟩)⟩
          · omega
        · have q9 : (h108 90 8) = 0 ∧ pt_is t m (pt_rn pt_bB t m 0) (59 : Int) = 0 ∧ (h138 90 8) = 1 + 16 * (pt_rn pt_bB t m 0) ∧ 1 ≤ (h138 90 8) ∧ (h138 90 7) = (h108 90 7) ∧ (h138 93 ((h138 90 7))) = (pt_rn pt_bB t m 0) := f162
          omega
        · have q9 : (h108 90 8) = 0 ∧ pt_is t m (pt_rn pt_bB t m 0) (59 : Int) = 1 ∧ (h138 90 8) = 0 ∧ (h138 90 7) = (h108 90 7) + 1 ∧ (h138 90 7) ≤ N ∧ (h138 93 ((h138 90 7))) = pt_nt t m (pt_rn pt_bB t m 0) := f163
          omega
      · have q9 : v106 = 0 ∧ (h78 90 8) = 0 ∧ (h108 90 8) = pt_fN t m (1 : Int) (9 : Int) (pt_rn pt_bB t m 0) ∧ 1 ≤ (h108 90 8) ∧ (h108 90 7) = (h78 90 7) ∧ (h108 93 ((h108 90 7))) = (pt_rn pt_bB t m 0) := f132
        omega
      · have q9 : (h78 90 8) = 0 ∧ (h108 90 8) = 0 ∧ pt_fN t m (1 : Int) (9 : Int) (pt_rn pt_bB t m 0) = 0 ∧ pt_ty t m (pt_rn pt_bB t m 0) = 3 ∧ (1 : Int) ≤ v106 ∧ v106 ≤ (9 : Int) ∧ v106 = pt_nm t m (pt_rn pt_bB t m 0) ∧ 0 ≤ v106 ∧ v106 ≤ 9999 ∧ (h108 90 7) = (h78 90 7) + 1 ∧ (h108 90 7) ≤ N ∧ (h108 93 ((h108 90 7))) = pt_nt t m (pt_rn pt_bB t m 0) := f133
        omega
    · omega
    · omega
  · skip
    show ov_R u d ov_m205 31 [(0, ov_r 90)] [] z48 h49 (P_fMo_town_90 F z h t m)
    have f170 : (h25 90 8) = 0 ∧ pt_iw t m (pt_rn pt_bB t m 0) (1953462126 : Int) = 1 ∧ (h49 90 8) = 0 ∧ (h49 90 7) = (h25 90 7) + 1 ∧ (h49 90 7) ≤ N ∧ (h49 93 ((h49 90 7))) = pt_nt t m (pt_rn pt_bB t m 0) := f73
    clear f73
    refine ov_blk (ls2 := [(0, ov_r 90)]) (st2 := [ov_r 90]) (pc2 := 32) b_205_31_1 rfl rfl ?_
    refine ov_getf (v := ov_r 96) d_205_32 fl_Mo_81 (zb_90 I50) (zs_90 I50) (congrArg ov_r (rg_90_10 I50)) ?_
    refine ov_blk (ls2 := [(0, ov_r 90)]) (st2 := [ov_i 6, ov_i 1, ov_r 90, ov_i 340, ov_r 96]) (pc2 := 42) b_205_35_4 rfl rfl ?_
    have cf171 : h49 93 ((h49 90 7)) = h3 93 ((h49 90 7)) := congrFun E56 ((h49 90 7))
    refine ov_cV (as := [ov_i 1, ov_i 6]) (st := [ov_i 340, ov_r 96]) (d2 := d - 1) d_205_42 lk_Mo_198 rfl (Nat.le_of_ble_eq_true rfl) (c := 1) (zb_90 I50) (zs_90 I50) ⟨by decide, rfl⟩ (by omega) (c_fMo_takeNumber_90 t m N (pt_nt t m (pt_rn pt_bB t m 0)) (d - 1) (by omega) U I50 1 6 (by omega) (by omega) (by show 0 ≤ (h49 90 7) ∧ (h49 90 7) ≤ N; omega) (by show (h49 93 ((h49 90 7))) = (pt_nt t m (pt_rn pt_bB t m 0)); omega) (by show 0 ≤ (h49 90 8); omega) (by rw [show h49 92 = h3 92 from E55, show h49 93 = h3 93 from E56, show h49 94 = h3 94 from E57]; exact mt)) ?_
    rintro _ z173 h174 ⟨v172, rfl, I175, y176, y177, y178⟩
    have E179 : h174 91 = h 91 := Eq.trans (y176 91 (by decide)) (show h49 91 = h 91 from E54)
    have E180 : h174 92 = h3 92 := Eq.trans (y176 92 (by decide)) (show h49 92 = h3 92 from E55)
    have E181 : h174 93 = h3 93 := Eq.trans (y176 93 (by decide)) (show h49 93 = h3 93 from E56)
    have E182 : h174 94 = h3 94 := Eq.trans (y176 94 (by decide)) (show h49 94 = h3 94 from E57)
    have E183 : h174 95 = h 95 := Eq.trans (y176 95 (by decide)) (show h49 95 = h 95 from E58)
    have E184 : h174 96 = h25 96 := Eq.trans (y176 96 (by decide)) (show h49 96 = h25 96 from E59)
    have E185 : h174 99 = h 99 := Eq.trans (y176 99 (by decide)) (show h49 99 = h 99 from E60)
    have E186 : h174 103 = h 103 := Eq.trans (y176 103 (by decide)) (show h49 103 = h 103 from E61)
    have E187 : h174 104 = h 104 := Eq.trans (y176 104 (by decide)) (show h49 104 = h 104 from E62)
    have fr188 : ∀ a : Int, a ≠ 90 ∧ (a < 92 ∨ 94 < a) ∧ (a < 96 ∨ 100 < a) ∧ (a < 103 ∨ 104 < a) → h174 a = h a := fun a ca => Eq.trans (y176 a (by omega)) (fr63 a ca)
    have y177_ : ∀ k : Int, k ≠ 7 → k ≠ 8 → (h174 90) k = (h49 90) k := y177
    have rk189 : ∀ k : Int, k ≠ 0 → k ≠ 2 → k ≠ 3 → k ≠ 7 → k ≠ 8 → k ≠ 13 → k ≠ 15 → k ≠ 20 → k ≠ 22 → h174 90 k = h 90 k := fun k n0 n1 n2 n3 n4 n5 n6 n7 n8 => Eq.trans (y177_ k n3 n4) (rk64 k n0 n1 n2 n3 n4 n5 n6 n7 n8)
    have g190 : h174 90 2 = (h49 90 2) := y177_ 2 (by decide) (by decide)
    have g191 : h174 90 3 = (h49 90 3) := y177_ 3 (by decide) (by decide)
    have g192 : h174 90 13 = (h49 90 13) := y177_ 13 (by decide) (by decide)
    have g193 : h174 90 15 = (h49 90 15) := y177_ 15 (by decide) (by decide)
    have g194 : h174 90 20 = (h49 90 20) := y177_ 20 (by decide) (by decide)
    have g195 : h174 90 22 = (h49 90 22) := y177_ 22 (by decide) (by decide)
    rcases y178 with f196 | f197 | f198
    · omega
    · skip
      show ov_R u d ov_m205 45 [(0, ov_r 90)] [ov_i v172, ov_i 340, ov_r 96] z173 h174 (P_fMo_town_90 F z h t m)
      have f199 : v172 = 0 ∧ (h49 90 8) = 0 ∧ (h174 90 8) = pt_fN t m (1 : Int) (6 : Int) (pt_nt t m (pt_rn pt_bB t m 0)) ∧ 1 ≤ (h174 90 8) ∧ (h174 90 7) = (h49 90 7) ∧ (h174 93 ((h174 90 7))) = (pt_nt t m (pt_rn pt_bB t m 0)) := f197
      clear f197
      refine ov_iast d_205_45 (zb_96 I175) (zs_96 I175) (by omega) ?_
      have I200 := ua_96 (k := 340) (x := v172) I175 (by refine ⟨?_, ?_, ?_, ?_, ?_, ?_, ?_, ?_, ?_, ?_, ?_, ?_, ?_, ?_, ?_, ?_, ?_, ?_, ?_, ?_, ?_, ?_, ?_, ?_, ?_, ?_, ?_, ?_, ?_⟩ <;> omega)
      refine ov_blk (ls2 := [(0, ov_r 90)]) (st2 := [ov_r 90]) (pc2 := 47) b_205_46_1 rfl rfl ?_
      refine ov_getf (v := ov_r 96) d_205_47 fl_Mo_81 (zb_90 I200) (zs_90 I200) (congrArg ov_r (rg_90_10 I200)) ?_
      refine ov_blk (ls2 := [(0, ov_r 90)]) (st2 := [ov_i 9, ov_i 1, ov_r 90, ov_i 341, ov_r 96]) (pc2 := 57) b_205_50_4 rfl rfl ?_
      have cf201 : h174 93 ((h174 90 7)) = h3 93 ((h174 90 7)) := congrFun E181 ((h174 90 7))
      refine ov_cV (as := [ov_i 1, ov_i 9]) (st := [ov_i 341, ov_r 96]) (d2 := d - 1) d_205_57 lk_Mo_198 rfl (Nat.le_of_ble_eq_true rfl) (c := 1) (zb_90 I200) (zs_90 I200) ⟨by decide, rfl⟩ (by omega) (c_fMo_takeNumber_90 t m N (pt_nt t m (pt_rn pt_bB t m 0)) (d - 1) (by omega) U I200 1 9 (by omega) (by omega) (by show 0 ≤ (h174 90 7) ∧ (h174 90 7) ≤ N; omega) (by show (h174 93 ((h174 90 7))) = (pt_nt t m (pt_rn pt_bB t m 0)); omega) (by show 0 ≤ (h174 90 8); omega) (by rw [show (ov_up h174 96 340 v172) 92 = h3 92 from E180, show (ov_up h174 96 340 v172) 93 = h3 93 from E181, show (ov_up h174 96 340 v172) 94 = h3 94 from E182]; exact mt)) ?_
      rintro _ z203 h204 ⟨v202, rfl, I205, y206, y207, y208⟩
      have E209 : h204 91 = h 91 := Eq.trans (y206 91 (by decide)) (show (ov_up h174 96 340 v172) 91 = h 91 from E179)
      have E210 : h204 92 = h3 92 := Eq.trans (y206 92 (by decide)) (show (ov_up h174 96 340 v172) 92 = h3 92 from E180)
      have E211 : h204 93 = h3 93 := Eq.trans (y206 93 (by decide)) (show (ov_up h174 96 340 v172) 93 = h3 93 from E181)
      have E212 : h204 94 = h3 94 := Eq.trans (y206 94 (by decide)) (show (ov_up h174 96 340 v172) 94 = h3 94 from E182)
      have E213 : h204 95 = h 95 := Eq.trans (y206 95 (by decide)) (show (ov_up h174 96 340 v172) 95 = h 95 from E183)
      have R215 : h204 96 = (ov_rs (h25 96) 340 v172) := Eq.trans (y206 96 (by decide)) (Eq.trans (ov_up_row h174 96 340 v172) (congrArg (fun f => ov_rs f 340 v172) E184))
      have E216 : h204 99 = h 99 := Eq.trans (y206 99 (by decide)) (show (ov_up h174 96 340 v172) 99 = h 99 from E185)
      have E217 : h204 103 = h 103 := Eq.trans (y206 103 (by decide)) (show (ov_up h174 96 340 v172) 103 = h 103 from E186)
      have E218 : h204 104 = h 104 := Eq.trans (y206 104 (by decide)) (show (ov_up h174 96 340 v172) 104 = h 104 from E187)
      have fr219 : ∀ a : Int, a ≠ 90 ∧ (a < 92 ∨ 94 < a) ∧ (a < 96 ∨ 100 < a) ∧ (a < 103 ∨ 104 < a) → h204 a = h a := fun a ca => Eq.trans (y206 a (by omega)) (Eq.trans (by show (ov_up h174 96 340 v172) a = h174 a; rw [ov_up_ne (by omega)]) (fr188 a ca))
      have y207_ : ∀ k : Int, k ≠ 7 → k ≠ 8 → (h204 90) k = (h174 90) k := y207
      have rk220 : ∀ k : Int, k ≠ 0 → k ≠ 2 → k ≠ 3 → k ≠ 7 → k ≠ 8 → k ≠ 13 → k ≠ 15 → k ≠ 20 → k ≠ 22 → h204 90 k = h 90 k := fun k n0 n1 n2 n3 n4 n5 n6 n7 n8 => Eq.trans (y207_ k n3 n4) (Eq.trans (by show (ov_up h174 96 340 v172) 90 k = h174 90 k; rw [ov_up_ne (by decide)]) (rk189 k n0 n1 n2 n3 n4 n5 n6 n7 n8))
      have g221 : h204 90 2 = (h174 90 2) := y207_ 2 (by decide) (by decide)
      have g222 : h204 90 3 = (h174 90 3) := y207_ 3 (by decide) (by decide)
      have g223 : h204 90 13 = (h174 90 13) := y207_ 13 (by decide) (by decide)
      have g224 : h204 90 15 = (h174 90 15) := y207_ 15 (by decide) (by decide)
      have g225 : h204 90 20 = (h174 90 20) := y207_ 20 (by decide) (by decide)
      have g226 : h204 90 22 = (h174 90 22) := y207_ 22 (by decide) (by decide)
      rcases y208 with f227 | f228 | f229
      · skip
        show ov_R u d ov_m205 60 [(0, ov_r 90)] [ov_i v202, ov_i 341, ov_r 96] z203 h204 (P_fMo_town_90 F z h t m)
        have f230 : v202 = 0 ∧ (h174 90 8) ≠ 0 ∧ (h204 90 8) = (h174 90 8) ∧ (h204 90 7) = (h174 90 7) ∧ (h204 93 ((h204 90 7))) = (pt_nt t m (pt_rn pt_bB t m 0)) := f227
        clear f227
        refine ov_iast d_205_60 (zb_96 I205) (zs_96 I205) (by omega) ?_
        have I231 := ua_96 (k := 341) (x := v202) I205 (by refine ⟨?_, ?_, ?_, ?_, ?_, ?_, ?_, ?_, ?_, ?_, ?_, ?_, ?_, ?_, ?_, ?_, ?_, ?_, ?_, ?_, ?_, ?_, ?_, ?_, ?_, ?_, ?_, ?_, ?_⟩ <;> omega)
        refine ov_blk (ls2 := [(0, ov_r 90)]) (st2 := [ov_i 59, ov_r 90]) (pc2 := 64) b_205_61_2 rfl rfl ?_
        have cf232 : h204 93 ((h204 90 7)) = h3 93 ((h204 90 7)) := congrFun E211 ((h204 90 7))
        refine ov_cV (as := [ov_i 59]) (st := []) (d2 := d - 1) d_205_64 lk_Mo_214 rfl (Nat.le_of_ble_eq_true rfl) (c := 1) (zb_90 I231) (zs_90 I231) ⟨by decide, rfl⟩ (by omega) (c_fMo_takeSign_90 t m N (pt_nt t m (pt_rn pt_bB t m 0)) (d - 1) (by omega) U I231 59 (by omega) (by show 0 ≤ (h204 90 7) ∧ (h204 90 7) ≤ N; omega) (by show (h204 93 ((h204 90 7))) = (pt_nt t m (pt_rn pt_bB t m 0)); omega) (by show 0 ≤ (h204 90 8); omega) (by show 0 ≤ (59 : Int) ∧ (59 : Int) ≤ 65535; omega) (by rw [show (ov_up h204 96 341 v202) 92 = h3 92 from E210, show (ov_up h204 96 341 v202) 93 = h3 93 from E211, show (ov_up h204 96 341 v202) 94 = h3 94 from E212]; exact mt)) ?_
        rintro _ z233 h234 ⟨rfl, I235, y236, y237, y238⟩
        have E239 : h234 91 = h 91 := Eq.trans (y236 91 (by decide)) (show (ov_up h204 96 341 v202) 91 = h 91 from E209)
        have E240 : h234 92 = h3 92 := Eq.trans (y236 92 (by decide)) (show (ov_up h204 96 341 v202) 92 = h3 92 from E210)
        have E241 : h234 93 = h3 93 := Eq.trans (y236 93 (by decide)) (show (ov_up h204 96 341 v202) 93 = h3 93 from E211)
        have E242 : h234 94 = h3 94 := Eq.trans (y236 94 (by decide)) (show (ov_up h204 96 341 v202) 94 = h3 94 from E212)
        have E243 : h234 95 = h 95 := Eq.trans (y236 95 (by decide)) (show (ov_up h204 96 341 v202) 95 = h 95 from E213)
        have R245 : h234 96 = (ov_rs (ov_rs (h25 96) 340 v172) 341 v202) := Eq.trans (y236 96 (by decide)) (Eq.trans (ov_up_row h204 96 341 v202) (congrArg (fun f => ov_rs f 341 v202) R215))
        have E246 : h234 99 = h 99 := Eq.trans (y236 99 (by decide)) (show (ov_up h204 96 341 v202) 99 = h 99 from E216)
        have E247 : h234 103 = h 103 := Eq.trans (y236 103 (by decide)) (show (ov_up h204 96 341 v202) 103 = h 103 from E217)
        have E248 : h234 104 = h 104 := Eq.trans (y236 104 (by decide)) (show (ov_up h204 96 341 v202) 104 = h 104 from E218)
        have fr249 : ∀ a : Int, a ≠ 90 ∧ (a < 92 ∨ 94 < a) ∧ (a < 96 ∨ 100 < a) ∧ (a < 103 ∨ 104 < a) → h234 a = h a := fun a ca => Eq.trans (y236 a (by omega)) (Eq.trans (by show (ov_up h204 96 341 v202) a = h204 a; rw [ov_up_ne (by omega)]) (fr219 a ca))
        have y237_ : ∀ k : Int, k ≠ 7 → k ≠ 8 → (h234 90) k = (h204 90) k := y237
        have rk250 : ∀ k : Int, k ≠ 0 → k ≠ 2 → k ≠ 3 → k ≠ 7 → k ≠ 8 → k ≠ 13 → k ≠ 15 → k ≠ 20 → k ≠ 22 → h234 90 k = h 90 k := fun k n0 n1 n2 n3 n4 n5 n6 n7 n8 => Eq.trans (y237_ k n3 n4) (Eq.trans (by show (ov_up h204 96 341 v202) 90 k = h204 90 k; rw [ov_up_ne (by decide)]) (rk220 k n0 n1 n2 n3 n4 n5 n6 n7 n8))
        have g251 : h234 90 2 = (h204 90 2) := y237_ 2 (by decide) (by decide)
        have g252 : h234 90 3 = (h204 90 3) := y237_ 3 (by decide) (by decide)
        have g253 : h234 90 13 = (h204 90 13) := y237_ 13 (by decide) (by decide)
        have g254 : h234 90 15 = (h204 90 15) := y237_ 15 (by decide) (by decide)
        have g255 : h234 90 20 = (h204 90 20) := y237_ 20 (by decide) (by decide)
        have g256 : h234 90 22 = (h204 90 22) := y237_ 22 (by decide) (by decide)
        rcases y238 with f257 | f258 | f259
        · skip
          show ov_R u d ov_m205 67 [(0, ov_r 90)] [] z233 h234 (P_fMo_town_90 F z h t m)
          have f260 : (h204 90 8) ≠ 0 ∧ (h234 90 8) = (h204 90 8) ∧ (h234 90 7) = (h204 90 7) ∧ (h234 93 ((h234 90 7))) = (pt_nt t m (pt_rn pt_bB t m 0)) := f257
          clear f257
          refine ov_blk (ls2 := [(0, ov_r 90)]) (st2 := [ov_r 90]) (pc2 := 68) b_205_67_1 rfl rfl ?_
          refine ov_getf (v := ov_i (h234 90 8)) d_205_68 fl_Mo_180 (zb_90 I235) (zs_90 I235) rfl ?_
          have g261 := rg_90_8 I235
          refine ov_ifne (tgt := 99) d_205_71 (by decide) (by omega) (fun c262 => ?_) (fun c262 => ?_)
          · skip
            refine ov_blk (ls2 := [(0, ov_r 90)]) (st2 := [ov_r 90]) (pc2 := 100) b_205_99_1 rfl rfl ?_
            refine ov_getf (v := ov_i (h234 90 8)) d_205_100 fl_Mo_180 (zb_90 I235) (zs_90 I235) rfl ?_
            refine ov_ifle (tgt := 111) d_205_103 (by decide) (by omega) (fun c264 => ?_) (fun c264 => ?_)
            · omega
            · skip
              refine ov_blk (ls2 := [(0, ov_r 90)]) (st2 := [ov_r 90]) (pc2 := 107) b_205_106_1 rfl rfl ?_
              refine ov_getf (v := ov_i (h234 90 8)) d_205_107 fl_Mo_180 (zb_90 I235) (zs_90 I235) rfl ?_
              have hz : (pt_szF t m (pt_rn pt_bB t m 0)) = (h234 90 8) := by unfold pt_szF pt_fW pt_fS; (repeat' split) <;> omega
              exact ov_reti (st := []) d_205_110 rfl ⟨_, rfl, I235, (fun a ca => (fr249 a ca)), (fun k n0 n1 n2 n3 n4 n5 n6 n7 n8 => (rk250 k n0 n1 n2 n3 n4 n5 n6 n7 n8)), (Or.inl ⟨(fun _ => 0), (by show 1 ≤ (h234 90 8) ∧ (h234 90 8) ≤ 16005 ∧ (h234 90 22) = (h 90 22) ∧ (h234 90 20) = (h 90 20); omega), (Or.inl ⟨by omega, hz.symm⟩), E248⟩)⟩
          · omega
        · have q9 : (h204 90 8) = 0 ∧ pt_is t m (pt_nt t m (pt_rn pt_bB t m 0)) (59 : Int) = 0 ∧ (h234 90 8) = 1 + 16 * (pt_nt t m (pt_rn pt_bB t m 0)) ∧ 1 ≤ (h234 90 8) ∧ (h234 90 7) = (h204 90 7) ∧ (h234 93 ((h234 90 7))) = (pt_nt t m (pt_rn pt_bB t m 0)) := f258
          omega
        · have q9 : (h204 90 8) = 0 ∧ pt_is t m (pt_nt t m (pt_rn pt_bB t m 0)) (59 : Int) = 1 ∧ (h234 90 8) = 0 ∧ (h234 90 7) = (h204 90 7) + 1 ∧ (h234 90 7) ≤ N ∧ (h234 93 ((h234 90 7))) = pt_nt t m (pt_nt t m (pt_rn pt_bB t m 0)) := f259
          omega
      · have q9 : v202 = 0 ∧ (h174 90 8) = 0 ∧ (h204 90 8) = pt_fN t m (1 : Int) (9 : Int) (pt_nt t m (pt_rn pt_bB t m 0)) ∧ 1 ≤ (h204 90 8) ∧ (h204 90 7) = (h174 90 7) ∧ (h204 93 ((h204 90 7))) = (pt_nt t m (pt_rn pt_bB t m 0)) := f228
        omega
      · have q9 : (h174 90 8) = 0 ∧ (h204 90 8) = 0 ∧ pt_fN t m (1 : Int) (9 : Int) (pt_nt t m (pt_rn pt_bB t m 0)) = 0 ∧ pt_ty t m (pt_nt t m (pt_rn pt_bB t m 0)) = 3 ∧ (1 : Int) ≤ v202 ∧ v202 ≤ (9 : Int) ∧ v202 = pt_nm t m (pt_nt t m (pt_rn pt_bB t m 0)) ∧ 0 ≤ v202 ∧ v202 ≤ 9999 ∧ (h204 90 7) = (h174 90 7) + 1 ∧ (h204 90 7) ≤ N ∧ (h204 93 ((h204 90 7))) = pt_nt t m (pt_nt t m (pt_rn pt_bB t m 0)) := f229
        omega
    · skip
      show ov_R u d ov_m205 45 [(0, ov_r 90)] [ov_i v172, ov_i 340, ov_r 96] z173 h174 (P_fMo_town_90 F z h t m)
      have f266 : (h49 90 8) = 0 ∧ (h174 90 8) = 0 ∧ pt_fN t m (1 : Int) (6 : Int) (pt_nt t m (pt_rn pt_bB t m 0)) = 0 ∧ pt_ty t m (pt_nt t m (pt_rn pt_bB t m 0)) = 3 ∧ (1 : Int) ≤ v172 ∧ v172 ≤ (6 : Int) ∧ v172 = pt_nm t m (pt_nt t m (pt_rn pt_bB t m 0)) ∧ 0 ≤ v172 ∧ v172 ≤ 9999 ∧ (h174 90 7) = (h49 90 7) + 1 ∧ (h174 90 7) ≤ N ∧ (h174 93 ((h174 90 7))) = pt_nt t m (pt_nt t m (pt_rn pt_bB t m 0)) := f198
      clear f198
      refine ov_iast d_205_45 (zb_96 I175) (zs_96 I175) (by omega) ?_
      have I267 := ua_96 (k := 340) (x := v172) I175 (by refine ⟨?_, ?_, ?_, ?_, ?_, ?_, ?_, ?_, ?_, ?_, ?_, ?_, ?_, ?_, ?_, ?_, ?_, ?_, ?_, ?_, ?_, ?_, ?_, ?_, ?_, ?_, ?_, ?_, ?_⟩ <;> omega)
      refine ov_blk (ls2 := [(0, ov_r 90)]) (st2 := [ov_r 90]) (pc2 := 47) b_205_46_1 rfl rfl ?_
      refine ov_getf (v := ov_r 96) d_205_47 fl_Mo_81 (zb_90 I267) (zs_90 I267) (congrArg ov_r (rg_90_10 I267)) ?_
      refine ov_blk (ls2 := [(0, ov_r 90)]) (st2 := [ov_i 9, ov_i 1, ov_r 90, ov_i 341, ov_r 96]) (pc2 := 57) b_205_50_4 rfl rfl ?_
      have cf268 : h174 93 ((h174 90 7)) = h3 93 ((h174 90 7)) := congrFun E181 ((h174 90 7))
      refine ov_cV (as := [ov_i 1, ov_i 9]) (st := [ov_i 341, ov_r 96]) (d2 := d - 1) d_205_57 lk_Mo_198 rfl (Nat.le_of_ble_eq_true rfl) (c := 1) (zb_90 I267) (zs_90 I267) ⟨by decide, rfl⟩ (by omega) (c_fMo_takeNumber_90 t m N (pt_nt t m (pt_nt t m (pt_rn pt_bB t m 0))) (d - 1) (by omega) U I267 1 9 (by omega) (by omega) (by show 0 ≤ (h174 90 7) ∧ (h174 90 7) ≤ N; omega) (by show (h174 93 ((h174 90 7))) = (pt_nt t m (pt_nt t m (pt_rn pt_bB t m 0))); omega) (by show 0 ≤ (h174 90 8); omega) (by rw [show (ov_up h174 96 340 v172) 92 = h3 92 from E180, show (ov_up h174 96 340 v172) 93 = h3 93 from E181, show (ov_up h174 96 340 v172) 94 = h3 94 from E182]; exact mt)) ?_
      rintro _ z270 h271 ⟨v269, rfl, I272, y273, y274, y275⟩
      have E276 : h271 91 = h 91 := Eq.trans (y273 91 (by decide)) (show (ov_up h174 96 340 v172) 91 = h 91 from E179)
      have E277 : h271 92 = h3 92 := Eq.trans (y273 92 (by decide)) (show (ov_up h174 96 340 v172) 92 = h3 92 from E180)
      have E278 : h271 93 = h3 93 := Eq.trans (y273 93 (by decide)) (show (ov_up h174 96 340 v172) 93 = h3 93 from E181)
      have E279 : h271 94 = h3 94 := Eq.trans (y273 94 (by decide)) (show (ov_up h174 96 340 v172) 94 = h3 94 from E182)
      have E280 : h271 95 = h 95 := Eq.trans (y273 95 (by decide)) (show (ov_up h174 96 340 v172) 95 = h 95 from E183)
      have R282 : h271 96 = (ov_rs (h25 96) 340 v172) := Eq.trans (y273 96 (by decide)) (Eq.trans (ov_up_row h174 96 340 v172) (congrArg (fun f => ov_rs f 340 v172) E184))
      have E283 : h271 99 = h 99 := Eq.trans (y273 99 (by decide)) (show (ov_up h174 96 340 v172) 99 = h 99 from E185)
      have E284 : h271 103 = h 103 := Eq.trans (y273 103 (by decide)) (show (ov_up h174 96 340 v172) 103 = h 103 from E186)
      have E285 : h271 104 = h 104 := Eq.trans (y273 104 (by decide)) (show (ov_up h174 96 340 v172) 104 = h 104 from E187)
      have fr286 : ∀ a : Int, a ≠ 90 ∧ (a < 92 ∨ 94 < a) ∧ (a < 96 ∨ 100 < a) ∧ (a < 103 ∨ 104 < a) → h271 a = h a := fun a ca => Eq.trans (y273 a (by omega)) (Eq.trans (by show (ov_up h174 96 340 v172) a = h174 a; rw [ov_up_ne (by omega)]) (fr188 a ca))
      have y274_ : ∀ k : Int, k ≠ 7 → k ≠ 8 → (h271 90) k = (h174 90) k := y274
      have rk287 : ∀ k : Int, k ≠ 0 → k ≠ 2 → k ≠ 3 → k ≠ 7 → k ≠ 8 → k ≠ 13 → k ≠ 15 → k ≠ 20 → k ≠ 22 → h271 90 k = h 90 k := fun k n0 n1 n2 n3 n4 n5 n6 n7 n8 => Eq.trans (y274_ k n3 n4) (Eq.trans (by show (ov_up h174 96 340 v172) 90 k = h174 90 k; rw [ov_up_ne (by decide)]) (rk189 k n0 n1 n2 n3 n4 n5 n6 n7 n8))
      have g288 : h271 90 2 = (h174 90 2) := y274_ 2 (by decide) (by decide)
      have g289 : h271 90 3 = (h174 90 3) := y274_ 3 (by decide) (by decide)
      have g290 : h271 90 13 = (h174 90 13) := y274_ 13 (by decide) (by decide)
      have g291 : h271 90 15 = (h174 90 15) := y274_ 15 (by decide) (by decide)
      have g292 : h271 90 20 = (h174 90 20) := y274_ 20 (by decide) (by decide)
      have g293 : h271 90 22 = (h174 90 22) := y274_ 22 (by decide) (by decide)
      rcases y275 with f294 | f295 | f296
      · have q9 : v269 = 0 ∧ (h174 90 8) ≠ 0 ∧ (h271 90 8) = (h174 90 8) ∧ (h271 90 7) = (h174 90 7) ∧ (h271 93 ((h271 90 7))) = (pt_nt t m (pt_nt t m (pt_rn pt_bB t m 0))) := f294
        omega
      · skip
        show ov_R u d ov_m205 60 [(0, ov_r 90)] [ov_i v269, ov_i 341, ov_r 96] z270 h271 (P_fMo_town_90 F z h t m)
        have f297 : v269 = 0 ∧ (h174 90 8) = 0 ∧ (h271 90 8) = pt_fN t m (1 : Int) (9 : Int) (pt_nt t m (pt_nt t m (pt_rn pt_bB t m 0))) ∧ 1 ≤ (h271 90 8) ∧ (h271 90 7) = (h174 90 7) ∧ (h271 93 ((h271 90 7))) = (pt_nt t m (pt_nt t m (pt_rn pt_bB t m 0))) := f295
        clear f295
        refine ov_iast d_205_60 (zb_96 I272) (zs_96 I272) (by omega) ?_
        have I298 := ua_96 (k := 341) (x := v269) I272 (by refine ⟨?_, ?_, ?_, ?_, ?_, ?_, ?_, ?_, ?_, ?_, ?_, ?_, ?_, ?_, ?_, ?_, ?_, ?_, ?_, ?_, ?_, ?_, ?_, ?_, ?_, ?_, ?_, ?_, ?_⟩ <;> omega)
        refine ov_blk (ls2 := [(0, ov_r 90)]) (st2 := [ov_i 59, ov_r 90]) (pc2 := 64) b_205_61_2 rfl rfl ?_
        have cf299 : h271 93 ((h271 90 7)) = h3 93 ((h271 90 7)) := congrFun E278 ((h271 90 7))
        refine ov_cV (as := [ov_i 59]) (st := []) (d2 := d - 1) d_205_64 lk_Mo_214 rfl (Nat.le_of_ble_eq_true rfl) (c := 1) (zb_90 I298) (zs_90 I298) ⟨by decide, rfl⟩ (by omega) (c_fMo_takeSign_90 t m N (pt_nt t m (pt_nt t m (pt_rn pt_bB t m 0))) (d - 1) (by omega) U I298 59 (by omega) (by show 0 ≤ (h271 90 7) ∧ (h271 90 7) ≤ N; omega) (by show (h271 93 ((h271 90 7))) = (pt_nt t m (pt_nt t m (pt_rn pt_bB t m 0))); omega) (by show 0 ≤ (h271 90 8); omega) (by show 0 ≤ (59 : Int) ∧ (59 : Int) ≤ 65535; omega) (by rw [show (ov_up h271 96 341 v269) 92 = h3 92 from E277, show (ov_up h271 96 341 v269) 93 = h3 93 from E278, show (ov_up h271 96 341 v269) 94 = h3 94 from E279]; exact mt)) ?_
        rintro _ z300 h301 ⟨rfl, I302, y303, y304, y305⟩
        have E306 : h301 91 = h 91 := Eq.trans (y303 91 (by decide)) (show (ov_up h271 96 341 v269) 91 = h 91 from E276)
        have E307 : h301 92 = h3 92 := Eq.trans (y303 92 (by decide)) (show (ov_up h271 96 341 v269) 92 = h3 92 from E277)
        have E308 : h301 93 = h3 93 := Eq.trans (y303 93 (by decide)) (show (ov_up h271 96 341 v269) 93 = h3 93 from E278)
        have E309 : h301 94 = h3 94 := Eq.trans (y303 94 (by decide)) (show (ov_up h271 96 341 v269) 94 = h3 94 from E279)
        have E310 : h301 95 = h 95 := Eq.trans (y303 95 (by decide)) (show (ov_up h271 96 341 v269) 95 = h 95 from E280)
        have R312 : h301 96 = (ov_rs (ov_rs (h25 96) 340 v172) 341 v269) := Eq.trans (y303 96 (by decide)) (Eq.trans (ov_up_row h271 96 341 v269) (congrArg (fun f => ov_rs f 341 v269) R282))
        have E313 : h301 99 = h 99 := Eq.trans (y303 99 (by decide)) (show (ov_up h271 96 341 v269) 99 = h 99 from E283)
        have E314 : h301 103 = h 103 := Eq.trans (y303 103 (by decide)) (show (ov_up h271 96 341 v269) 103 = h 103 from E284)
        have E315 : h301 104 = h 104 := Eq.trans (y303 104 (by decide)) (show (ov_up h271 96 341 v269) 104 = h 104 from E285)
        have fr316 : ∀ a : Int, a ≠ 90 ∧ (a < 92 ∨ 94 < a) ∧ (a < 96 ∨ 100 < a) ∧ (a < 103 ∨ 104 < a) → h301 a = h a := fun a ca => Eq.trans (y303 a (by omega)) (Eq.trans (by show (ov_up h271 96 341 v269) a = h271 a; rw [ov_up_ne (by omega)]) (fr286 a ca))
        have y304_ : ∀ k : Int, k ≠ 7 → k ≠ 8 → (h301 90) k = (h271 90) k := y304
        have rk317 : ∀ k : Int, k ≠ 0 → k ≠ 2 → k ≠ 3 → k ≠ 7 → k ≠ 8 → k ≠ 13 → k ≠ 15 → k ≠ 20 → k ≠ 22 → h301 90 k = h 90 k := fun k n0 n1 n2 n3 n4 n5 n6 n7 n8 => Eq.trans (y304_ k n3 n4) (Eq.trans (by show (ov_up h271 96 341 v269) 90 k = h271 90 k; rw [ov_up_ne (by decide)]) (rk287 k n0 n1 n2 n3 n4 n5 n6 n7 n8))
        have g318 : h301 90 2 = (h271 90 2) := y304_ 2 (by decide) (by decide)
        have g319 : h301 90 3 = (h271 90 3) := y304_ 3 (by decide) (by decide)
        have g320 : h301 90 13 = (h271 90 13) := y304_ 13 (by decide) (by decide)
        have g321 : h301 90 15 = (h271 90 15) := y304_ 15 (by decide) (by decide)
        have g322 : h301 90 20 = (h271 90 20) := y304_ 20 (by decide) (by decide)
        have g323 : h301 90 22 = (h271 90 22) := y304_ 22 (by decide) (by decide)
        rcases y305 with f324 | f325 | f326
        · skip
          show ov_R u d ov_m205 67 [(0, ov_r 90)] [] z300 h301 (P_fMo_town_90 F z h t m)
          have f327 : (h271 90 8) ≠ 0 ∧ (h301 90 8) = (h271 90 8) ∧ (h301 90 7) = (h271 90 7) ∧ (h301 93 ((h301 90 7))) = (pt_nt t m (pt_nt t m (pt_rn pt_bB t m 0))) := f324
          clear f324
          refine ov_blk (ls2 := [(0, ov_r 90)]) (st2 := [ov_r 90]) (pc2 := 68) b_205_67_1 rfl rfl ?_
          refine ov_getf (v := ov_i (h301 90 8)) d_205_68 fl_Mo_180 (zb_90 I302) (zs_90 I302) rfl ?_
          have g328 := rg_90_8 I302
          refine ov_ifne (tgt := 99) d_205_71 (by decide) (by omega) (fun c329 => ?_) (fun c329 => ?_)
          · skip
            refine ov_blk (ls2 := [(0, ov_r 90)]) (st2 := [ov_r 90]) (pc2 := 100) b_205_99_1 rfl rfl ?_
            refine ov_getf (v := ov_i (h301 90 8)) d_205_100 fl_Mo_180 (zb_90 I302) (zs_90 I302) rfl ?_
            refine ov_ifle (tgt := 111) d_205_103 (by decide) (by omega) (fun c331 => ?_) (fun c331 => ?_)
            · omega
            · skip
              refine ov_blk (ls2 := [(0, ov_r 90)]) (st2 := [ov_r 90]) (pc2 := 107) b_205_106_1 rfl rfl ?_
              refine ov_getf (v := ov_i (h301 90 8)) d_205_107 fl_Mo_180 (zb_90 I302) (zs_90 I302) rfl ?_
              have hz : (pt_szF t m (pt_rn pt_bB t m 0)) = (h301 90 8) := by unfold pt_szF pt_fW pt_fS; (repeat' split) <;> omega
              exact ov_reti (st := []) d_205_110 rfl ⟨_, rfl, I302, (fun a ca => (fr316 a ca)), (fun k n0 n1 n2 n3 n4 n5 n6 n7 n8 => (rk317 k n0 n1 n2 n3 n4 n5 n6 n7 n8)), (Or.inl ⟨(fun _ => 0), (by show 1 ≤ (h301 90 8) ∧ (h301 90 8) ≤ 16005 ∧ (h301 90 22) = (h 90 22) ∧ (h301 90 20) = (h 90 20); omega), (Or.inl ⟨by omega, hz.symm⟩), E315⟩)⟩
          · omega
        · have q9 : (h271 90 8) = 0 ∧ pt_is t m (pt_nt t m (pt_nt t m (pt_rn pt_bB t m 0))) (59 : Int) = 0 ∧ (h301 90 8) = 1 + 16 * (pt_nt t m (pt_nt t m (pt_rn pt_bB t m 0))) ∧ 1 ≤ (h301 90 8) ∧ (h301 90 7) = (h271 90 7) ∧ (h301 93 ((h301 90 7))) = (pt_nt t m (pt_nt t m (pt_rn pt_bB t m 0))) := f325
          omega
        · have q9 : (h271 90 8) = 0 ∧ pt_is t m (pt_nt t m (pt_nt t m (pt_rn pt_bB t m 0))) (59 : Int) = 1 ∧ (h301 90 8) = 0 ∧ (h301 90 7) = (h271 90 7) + 1 ∧ (h301 90 7) ≤ N ∧ (h301 93 ((h301 90 7))) = pt_nt t m (pt_nt t m (pt_nt t m (pt_rn pt_bB t m 0))) := f326
          omega
      · skip
        show ov_R u d ov_m205 60 [(0, ov_r 90)] [ov_i v269, ov_i 341, ov_r 96] z270 h271 (P_fMo_town_90 F z h t m)
        have f333 : (h174 90 8) = 0 ∧ (h271 90 8) = 0 ∧ pt_fN t m (1 : Int) (9 : Int) (pt_nt t m (pt_nt t m (pt_rn pt_bB t m 0))) = 0 ∧ pt_ty t m (pt_nt t m (pt_nt t m (pt_rn pt_bB t m 0))) = 3 ∧ (1 : Int) ≤ v269 ∧ v269 ≤ (9 : Int) ∧ v269 = pt_nm t m (pt_nt t m (pt_nt t m (pt_rn pt_bB t m 0))) ∧ 0 ≤ v269 ∧ v269 ≤ 9999 ∧ (h271 90 7) = (h174 90 7) + 1 ∧ (h271 90 7) ≤ N ∧ (h271 93 ((h271 90 7))) = pt_nt t m (pt_nt t m (pt_nt t m (pt_rn pt_bB t m 0))) := f296
        clear f296
        refine ov_iast d_205_60 (zb_96 I272) (zs_96 I272) (by omega) ?_
        have I334 := ua_96 (k := 341) (x := v269) I272 (by refine ⟨?_, ?_, ?_, ?_, ?_, ?_, ?_, ?_, ?_, ?_, ?_, ?_, ?_, ?_, ?_, ?_, ?_, ?_, ?_, ?_, ?_, ?_, ?_, ?_, ?_, ?_, ?_, ?_, ?_⟩ <;> omega)
        refine ov_blk (ls2 := [(0, ov_r 90)]) (st2 := [ov_i 59, ov_r 90]) (pc2 := 64) b_205_61_2 rfl rfl ?_
        have cf335 : h271 93 ((h271 90 7)) = h3 93 ((h271 90 7)) := congrFun E278 ((h271 90 7))
        refine ov_cV (as := [ov_i 59]) (st := []) (d2 := d - 1) d_205_64 lk_Mo_214 rfl (Nat.le_of_ble_eq_true rfl) (c := 1) (zb_90 I334) (zs_90 I334) ⟨by decide, rfl⟩ (by omega) (c_fMo_takeSign_90 t m N (pt_nt t m (pt_nt t m (pt_nt t m (pt_rn pt_bB t m 0)))) (d - 1) (by omega) U I334 59 (by omega) (by show 0 ≤ (h271 90 7) ∧ (h271 90 7) ≤ N; omega) (by show (h271 93 ((h271 90 7))) = (pt_nt t m (pt_nt t m (pt_nt t m (pt_rn pt_bB t m 0)))); omega) (by show 0 ≤ (h271 90 8); omega) (by show 0 ≤ (59 : Int) ∧ (59 : Int) ≤ 65535; omega) (by rw [show (ov_up h271 96 341 v269) 92 = h3 92 from E277, show (ov_up h271 96 341 v269) 93 = h3 93 from E278, show (ov_up h271 96 341 v269) 94 = h3 94 from E279]; exact mt)) ?_
        rintro _ z336 h337 ⟨rfl, I338, y339, y340, y341⟩
        have E342 : h337 91 = h 91 := Eq.trans (y339 91 (by decide)) (show (ov_up h271 96 341 v269) 91 = h 91 from E276)
        have E343 : h337 92 = h3 92 := Eq.trans (y339 92 (by decide)) (show (ov_up h271 96 341 v269) 92 = h3 92 from E277)
        have E344 : h337 93 = h3 93 := Eq.trans (y339 93 (by decide)) (show (ov_up h271 96 341 v269) 93 = h3 93 from E278)
        have E345 : h337 94 = h3 94 := Eq.trans (y339 94 (by decide)) (show (ov_up h271 96 341 v269) 94 = h3 94 from E279)
        have E346 : h337 95 = h 95 := Eq.trans (y339 95 (by decide)) (show (ov_up h271 96 341 v269) 95 = h 95 from E280)
        have R348 : h337 96 = (ov_rs (ov_rs (h25 96) 340 v172) 341 v269) := Eq.trans (y339 96 (by decide)) (Eq.trans (ov_up_row h271 96 341 v269) (congrArg (fun f => ov_rs f 341 v269) R282))
        have E349 : h337 99 = h 99 := Eq.trans (y339 99 (by decide)) (show (ov_up h271 96 341 v269) 99 = h 99 from E283)
        have E350 : h337 103 = h 103 := Eq.trans (y339 103 (by decide)) (show (ov_up h271 96 341 v269) 103 = h 103 from E284)
        have E351 : h337 104 = h 104 := Eq.trans (y339 104 (by decide)) (show (ov_up h271 96 341 v269) 104 = h 104 from E285)
        have fr352 : ∀ a : Int, a ≠ 90 ∧ (a < 92 ∨ 94 < a) ∧ (a < 96 ∨ 100 < a) ∧ (a < 103 ∨ 104 < a) → h337 a = h a := fun a ca => Eq.trans (y339 a (by omega)) (Eq.trans (by show (ov_up h271 96 341 v269) a = h271 a; rw [ov_up_ne (by omega)]) (fr286 a ca))
        have y340_ : ∀ k : Int, k ≠ 7 → k ≠ 8 → (h337 90) k = (h271 90) k := y340
        have rk353 : ∀ k : Int, k ≠ 0 → k ≠ 2 → k ≠ 3 → k ≠ 7 → k ≠ 8 → k ≠ 13 → k ≠ 15 → k ≠ 20 → k ≠ 22 → h337 90 k = h 90 k := fun k n0 n1 n2 n3 n4 n5 n6 n7 n8 => Eq.trans (y340_ k n3 n4) (Eq.trans (by show (ov_up h271 96 341 v269) 90 k = h271 90 k; rw [ov_up_ne (by decide)]) (rk287 k n0 n1 n2 n3 n4 n5 n6 n7 n8))
        have g354 : h337 90 2 = (h271 90 2) := y340_ 2 (by decide) (by decide)
        have g355 : h337 90 3 = (h271 90 3) := y340_ 3 (by decide) (by decide)
        have g356 : h337 90 13 = (h271 90 13) := y340_ 13 (by decide) (by decide)
        have g357 : h337 90 15 = (h271 90 15) := y340_ 15 (by decide) (by decide)
        have g358 : h337 90 20 = (h271 90 20) := y340_ 20 (by decide) (by decide)
        have g359 : h337 90 22 = (h271 90 22) := y340_ 22 (by decide) (by decide)
        rcases y341 with f360 | f361 | f362
        · have q9 : (h271 90 8) ≠ 0 ∧ (h337 90 8) = (h271 90 8) ∧ (h337 90 7) = (h271 90 7) ∧ (h337 93 ((h337 90 7))) = (pt_nt t m (pt_nt t m (pt_nt t m (pt_rn pt_bB t m 0)))) := f360
          omega
        · skip
          show ov_R u d ov_m205 67 [(0, ov_r 90)] [] z336 h337 (P_fMo_town_90 F z h t m)
          have f363 : (h271 90 8) = 0 ∧ pt_is t m (pt_nt t m (pt_nt t m (pt_nt t m (pt_rn pt_bB t m 0)))) (59 : Int) = 0 ∧ (h337 90 8) = 1 + 16 * (pt_nt t m (pt_nt t m (pt_nt t m (pt_rn pt_bB t m 0)))) ∧ 1 ≤ (h337 90 8) ∧ (h337 90 7) = (h271 90 7) ∧ (h337 93 ((h337 90 7))) = (pt_nt t m (pt_nt t m (pt_nt t m (pt_rn pt_bB t m 0)))) := f361
          clear f361
          refine ov_blk (ls2 := [(0, ov_r 90)]) (st2 := [ov_r 90]) (pc2 := 68) b_205_67_1 rfl rfl ?_
          refine ov_getf (v := ov_i (h337 90 8)) d_205_68 fl_Mo_180 (zb_90 I338) (zs_90 I338) rfl ?_
          have g364 := rg_90_8 I338
          refine ov_ifne (tgt := 99) d_205_71 (by decide) (by omega) (fun c365 => ?_) (fun c365 => ?_)
          · skip
            refine ov_blk (ls2 := [(0, ov_r 90)]) (st2 := [ov_r 90]) (pc2 := 100) b_205_99_1 rfl rfl ?_
            refine ov_getf (v := ov_i (h337 90 8)) d_205_100 fl_Mo_180 (zb_90 I338) (zs_90 I338) rfl ?_
            refine ov_ifle (tgt := 111) d_205_103 (by decide) (by omega) (fun c367 => ?_) (fun c367 => ?_)
            · omega
            · skip
              refine ov_blk (ls2 := [(0, ov_r 90)]) (st2 := [ov_r 90]) (pc2 := 107) b_205_106_1 rfl rfl ?_
              refine ov_getf (v := ov_i (h337 90 8)) d_205_107 fl_Mo_180 (zb_90 I338) (zs_90 I338) rfl ?_
              have hz : (pt_szF t m (pt_rn pt_bB t m 0)) = (h337 90 8) := by unfold pt_szF pt_fW pt_fS; (repeat' split) <;> omega
              exact ov_reti (st := []) d_205_110 rfl ⟨_, rfl, I338, (fun a ca => (fr352 a ca)), (fun k n0 n1 n2 n3 n4 n5 n6 n7 n8 => (rk353 k n0 n1 n2 n3 n4 n5 n6 n7 n8)), (Or.inl ⟨(fun _ => 0), (by show 1 ≤ (h337 90 8) ∧ (h337 90 8) ≤ 16005 ∧ (h337 90 22) = (h 90 22) ∧ (h337 90 20) = (h 90 20); omega), (Or.inl ⟨by omega, hz.symm⟩), E351⟩)⟩
          · omega
        · skip
          show ov_R u d ov_m205 67 [(0, ov_r 90)] [] z336 h337 (P_fMo_town_90 F z h t m)
          have f369 : (h271 90 8) = 0 ∧ pt_is t m (pt_nt t m (pt_nt t m (pt_nt t m (pt_rn pt_bB t m 0)))) (59 : Int) = 1 ∧ (h337 90 8) = 0 ∧ (h337 90 7) = (h271 90 7) + 1 ∧ (h337 90 7) ≤ N ∧ (h337 93 ((h337 90 7))) = pt_nt t m (pt_nt t m (pt_nt t m (pt_nt t m (pt_rn pt_bB t m 0)))) := f362
          clear f362
          have L373 : ∀ (n370 : Nat) (z374 : ov_Z) (h375 : ov_H) (I376 : ov_N F z374 h375) (E377 : h375 91 = h 91) (E378 : h375 92 = h3 92) (E379 : h375 93 = h3 93) (E380 : h375 94 = h3 94) (E381 : h375 95 = h 95) (E382 : h375 103 = h 103) (E383 : h375 104 = h 104) (fr384 : ∀ a : Int, a ≠ 90 ∧ (a < 92 ∨ 94 < a) ∧ (a < 96 ∨ 100 < a) ∧ (a < 103 ∨ 104 < a) → h375 a = h a) (xg : ∃ A : Int → Int, pt_MR t m A (h375 96) (h375 90 15) (h375 99) ∧ ∀ (f : Int) (B : Int → Int), pt_EG t m A (h3 93 ((h375 90 7))) f B → pt_ET t m f B) (rkl90 : ∀ k : Int, k ≠ 0 → k ≠ 2 → k ≠ 3 → k ≠ 7 → k ≠ 8 → k ≠ 13 → k ≠ 15 → k ≠ 20 → k ≠ 22 → (h375 90) k = h 90 k) (q372 : (h375 90 8) = 0 ∧ 0 ≤ (h375 90 7) ∧ (h375 90 7) ≤ N ∧ 0 ≤ (h375 90 13) ∧ (h375 90 13) ≤ (h375 90 7) ∧ (h375 90 22) = (h 90 22) ∧ (h375 90 20) = (h 90 20)), N - (h375 90 7) < (n370 : Int) → ov_R u d ov_m205 67 [(0, ov_r 90)] [] z374 h375 (P_fMo_town_90 F z h t m) := by
            intro n370
            induction n370 with
            | zero =>
              intro  z374 h375 I376 E377 E378 E379 E380 E381 E382 E383 fr384 xg rkl90 q372 hn385
              exact absurd hn385 (by omega)
            | succ n370 ih371 =>
              intro  z374 h375 I376 E377 E378 E379 E380 E381 E382 E383 fr384 xg rkl90 q372 hn385
              obtain ⟨A, mr, cg⟩ := xg
              have cz : h375 93 (h375 90 7) = h3 93 (h375 90 7) := congrFun (show h375 93 = h3 93 from E379) _
              have mz := pt_MT_at mt (k := h375 90 7) (by omega)
              have mz3 := mz.2.2.1
              have mz2 := mz.2.1
              clear mz
              have mzc := pt_cm_f (t := t) (m := m) (p := h3 93 (h375 90 7))
              have gA := pt_MR_r mr
              refine ov_blk (ls2 := [(0, ov_r 90)]) (st2 := [ov_r 90]) (pc2 := 68) b_205_67_1 rfl rfl ?_
              refine ov_getf (v := ov_i (h375 90 8)) d_205_68 fl_Mo_180 (zb_90 I376) (zs_90 I376) rfl ?_
              have g386 := rg_90_8 I376
              refine ov_ifne (tgt := 99) d_205_71 (by decide) (by omega) (fun c387 => ?_) (fun c387 => ?_)
              · omega
              · skip
                refine ov_blk (ls2 := [(0, ov_r 90)]) (st2 := [ov_r 90]) (pc2 := 75) b_205_74_1 rfl rfl ?_
                refine ov_getf (v := ov_r 92) d_205_75 fl_Mo_24 (zb_90 I376) (zs_90 I376) (congrArg ov_r (rg_90_4 I376)) ?_
                refine ov_blk (ls2 := [(0, ov_r 90)]) (st2 := [ov_r 90, ov_r 92]) (pc2 := 79) b_205_78_1 rfl rfl ?_
                refine ov_getf (v := ov_i (h375 90 7)) d_205_79 fl_Mo_177 (zb_90 I376) (zs_90 I376) rfl ?_
                have g388 := rg_90_7 I376
                refine ov_iald d_205_82 (zb_92 I376) (zs_92 I376) (by omega) ?_
                have e389 : h375 92 (h375 90 7) = (h3 92 (h375 90 7)) := congrFun (show h375 92 = h3 92 from E378) (h375 90 7)
                have g390 := ra_92 I376 (h375 90 7)
                rw [e389] at g390
                rw [e389]
                show ov_R u d ov_m205 83 [(0, ov_r 90)] [ov_i (h3 92 (h375 90 7))] z374 h375 (P_fMo_town_90 F z h t m)
                refine ov_ifeq (tgt := 99) d_205_83 (by decide) (by omega) (fun c391 => ?_) (fun c391 => ?_)
                · skip
                  refine ov_blk (ls2 := [(0, ov_r 90)]) (st2 := [ov_r 90]) (pc2 := 100) b_205_99_1 rfl rfl ?_
                  refine ov_getf (v := ov_i (h375 90 8)) d_205_100 fl_Mo_180 (zb_90 I376) (zs_90 I376) rfl ?_
                  refine ov_ifle (tgt := 111) d_205_103 (by decide) (by omega) (fun c393 => ?_) (fun c393 => ?_)
                  · skip
                    refine ov_blk (ls2 := [(0, ov_r 90), (1, ov_i 0)]) (st2 := []) (pc2 := 113) b_205_111_2 rfl rfl ?_
                    have L397 : ∀ (n394 : Nat) (x1 : Int) (z398 : ov_Z) (h399 : ov_H) (I400 : ov_N F z398 h399) (E401 : h399 91 = h 91) (E402 : h399 92 = h3 92) (E403 : h399 93 = h3 93) (E404 : h399 94 = h3 94) (E405 : h399 95 = h 95) (E406 : h399 99 = h375 99) (E407 : h399 103 = h 103) (E408 : h399 104 = h 104) (fr409 : ∀ a : Int, a ≠ 90 ∧ (a < 92 ∨ 94 < a) ∧ (a < 96 ∨ 100 < a) ∧ (a < 103 ∨ 104 < a) → h399 a = h a) (xl : ∀ j : Int, 340 ≤ j → (h399 96) j = h375 96 j) (xc : ∀ j : Int, 0 ≤ j → j < x1 → j < 280 → (h399 96) j = A j) (rkl90 : ∀ k : Int, k ≠ 0 → k ≠ 2 → k ≠ 3 → k ≠ 7 → k ≠ 8 → k ≠ 13 → k ≠ 15 → k ≠ 20 → k ≠ 22 → (h399 90) k = h 90 k) (q396 : 0 ≤ x1 ∧ x1 ≤ 340), 340 - x1 < (n394 : Int) → ov_R u d ov_m205 113 [(0, ov_r 90), (1, ov_i x1)] [] z398 h399 (P_fMo_town_90 F z h t m) := by
                      intro n394
                      induction n394 with
                      | zero =>
                        intro x1 z398 h399 I400 E401 E402 E403 E404 E405 E406 E407 E408 fr409 xl xc rkl90 q396 hn410
                        exact absurd hn410 (by omega)
                      | succ n394 ih395 =>
                        intro x1 z398 h399 I400 E401 E402 E403 E404 E405 E406 E407 E408 fr409 xl xc rkl90 q396 hn410
                        refine ov_blk (ls2 := [(0, ov_r 90), (1, ov_i x1)]) (st2 := [ov_i 340, ov_i x1]) (pc2 := 117) b_205_113_2 rfl rfl ?_
                        refine ov_icge (tgt := 142) d_205_117 (by decide) (by omega) (by omega) (fun c411 => ?_) (fun c411 => ?_)
                        · skip
                          refine ov_blk (ls2 := [(0, ov_r 90), (1, ov_i 0)]) (st2 := []) (pc2 := 144) b_205_142_2 rfl rfl ?_
                          have L415 : ∀ (n412 : Nat) (x1_ : Int) (z416 : ov_Z) (h417 : ov_H) (I418 : ov_N F z416 h417) (E419 : h417 91 = h 91) (E420 : h417 92 = h3 92) (E421 : h417 93 = h3 93) (E422 : h417 94 = h3 94) (E423 : h417 95 = h 95) (E424 : h417 96 = h399 96) (E425 : h417 99 = h375 99) (E426 : h417 103 = h 103) (E427 : h417 104 = h 104) (fr428 : ∀ a : Int, a ≠ 90 ∧ (a < 92 ∨ 94 < a) ∧ (a < 96 ∨ 100 < a) ∧ (a < 103 ∨ 104 < a) → h417 a = h a) (rkl90 : ∀ k : Int, k ≠ 0 → k ≠ 2 → k ≠ 3 → k ≠ 7 → k ≠ 8 → k ≠ 13 → k ≠ 15 → k ≠ 20 → k ≠ 22 → (h417 90) k = h 90 k) (q414 : 0 ≤ x1_ ∧ x1_ ≤ 1000), 1000 - x1_ < (n412 : Int) → ov_R u d ov_m205 144 [(0, ov_r 90), (1, ov_i x1_)] [] z416 h417 (P_fMo_town_90 F z h t m) := by
                            intro n412
                            induction n412 with
                            | zero =>
                              intro x1_ z416 h417 I418 E419 E420 E421 E422 E423 E424 E425 E426 E427 fr428 rkl90 q414 hn429
                              exact absurd hn429 (by omega)
                            | succ n412 ih413 =>
                              intro x1_ z416 h417 I418 E419 E420 E421 E422 E423 E424 E425 E426 E427 fr428 rkl90 q414 hn429
                              refine ov_blk (ls2 := [(0, ov_r 90), (1, ov_i x1_)]) (st2 := [ov_r 90, ov_i x1_]) (pc2 := 146) b_205_144_2 rfl rfl ?_
                              refine ov_getf (v := ov_i (h417 90 13)) d_205_146 fl_Mo_208 (zb_90 I418) (zs_90 I418) rfl ?_
                              have g430 := rg_90_13 I418
                              refine ov_icge (tgt := 190) d_205_149 (by decide) (by omega) (by omega) (fun c431 => ?_) (fun c431 => ?_)
                              · skip
                                refine ov_blk (ls2 := [(0, ov_r 90), (1, ov_i x1_)]) (st2 := [ov_r 90]) (pc2 := 191) b_205_190_1 rfl rfl ?_
                                refine ov_cV (as := []) (st := []) (d2 := d - 1) d_205_191 lk_Mo_151 rfl (Nat.le_of_ble_eq_true rfl) (c := 1) (zb_90 I418) (zs_90 I418) ⟨by decide, rfl⟩ (by omega) (c_fMo_begins_90 (d - 1) (by omega) U I418 (by show 0 ≤ ov_bd F; omega)) ?_
                                rintro _ z432 h433 ⟨rfl, I434, y435, f436, y437, y438, y439⟩
                                have E440 : h433 91 = h 91 := Eq.trans (y435 91 (by decide)) (show h417 91 = h 91 from E419)
                                have E441 : h433 92 = h3 92 := Eq.trans (y435 92 (by decide)) (show h417 92 = h3 92 from E420)
                                have E442 : h433 93 = h3 93 := Eq.trans (y435 93 (by decide)) (show h417 93 = h3 93 from E421)
                                have E443 : h433 94 = h3 94 := Eq.trans (y435 94 (by decide)) (show h417 94 = h3 94 from E422)
                                have E444 : h433 95 = h 95 := Eq.trans (y435 95 (by decide)) (show h417 95 = h 95 from E423)
                                have E445 : h433 96 = h399 96 := Eq.trans (y435 96 (by decide)) (show h417 96 = h399 96 from E424)
                                have E446 : h433 99 = h375 99 := Eq.trans (y435 99 (by decide)) (show h417 99 = h375 99 from E425)
                                have fr447 : ∀ a : Int, a ≠ 90 ∧ (a < 92 ∨ 94 < a) ∧ (a < 96 ∨ 100 < a) ∧ (a < 103 ∨ 104 < a) → h433 a = h a := fun a ca => Eq.trans (y435 a (by omega)) (fr428 a ca)
                                have f449 : (h433 90 20) = 0 ∧ (h433 100 0) = 0 := f436
                                clear f436
                                have y437_ : ∀ j : Int, 0 ≤ j → j < 4 → (h433 104) j = 0 := y437
                                have y438_ : ∀ j : Int, 0 ≤ j → j < 120 → (h433 103) j = 0 := y438
                                have y439_ : ∀ k : Int, k ≠ 20 → k ≠ 22 → (h433 90) k = (h417 90) k := y439
                                have rk448 : ∀ k : Int, k ≠ 0 → k ≠ 2 → k ≠ 3 → k ≠ 7 → k ≠ 8 → k ≠ 13 → k ≠ 15 → k ≠ 20 → k ≠ 22 → h433 90 k = h 90 k := fun k n0 n1 n2 n3 n4 n5 n6 n7 n8 => Eq.trans (y439_ k n7 n8) (rkl90 k n0 n1 n2 n3 n4 n5 n6 n7 n8)
                                have g450 : h433 90 2 = (h417 90 2) := y439_ 2 (by decide) (by decide)
                                have g451 : h433 90 3 = (h417 90 3) := y439_ 3 (by decide) (by decide)
                                have g452 : h433 90 7 = (h417 90 7) := y439_ 7 (by decide) (by decide)
                                have g453 : h433 90 8 = (h417 90 8) := y439_ 8 (by decide) (by decide)
                                have g454 : h433 90 13 = (h417 90 13) := y439_ 13 (by decide) (by decide)
                                have g455 : h433 90 15 = (h417 90 15) := y439_ 15 (by decide) (by decide)
                                show ov_R u d ov_m205 194 [(0, ov_r 90), (1, ov_i x1_)] [] z432 h433 (P_fMo_town_90 F z h t m)
                                refine ov_blk (ls2 := [(0, ov_r 90), (1, ov_i x1_)]) (st2 := [ov_i 0]) (pc2 := 195) b_205_194_1 rfl rfl ?_
                                exact ov_reti (st := []) d_205_195 rfl ⟨_, rfl, I434, (fun a ca => (fr447 a ca)), (fun k n0 n1 n2 n3 n4 n5 n6 n7 n8 => (rk448 k n0 n1 n2 n3 n4 n5 n6 n7 n8)), (Or.inr ⟨A, (by show 0 = 0 ∧ (h433 90 20) = 0 ∧ (h433 100 0) = 0; omega), (cg 0 A (pt_EG_e (by omega))), y437_, (fun j a b => by rw [show h433 96 = h399 96 from E445]; exact xc j a (by omega) b), y438_⟩)⟩
                              · skip
                                refine ov_blk (ls2 := [(0, ov_r 90), (1, ov_i x1_)]) (st2 := [ov_r 90]) (pc2 := 153) b_205_152_1 rfl rfl ?_
                                refine ov_getf (v := ov_r 97) d_205_153 fl_Mo_84 (zb_90 I418) (zs_90 I418) (congrArg ov_r (rg_90_11 I418)) ?_
                                refine ov_blk (ls2 := [(0, ov_r 90), (1, ov_i x1_)]) (st2 := [ov_r 90, ov_i x1_, ov_r 97]) (pc2 := 158) b_205_156_2 rfl rfl ?_
                                refine ov_getf (v := ov_r 97) d_205_158 fl_Mo_84 (zb_90 I418) (zs_90 I418) (congrArg ov_r (rg_90_11 I418)) ?_
                                refine ov_blk (ls2 := [(0, ov_r 90), (1, ov_i x1_)]) (st2 := [ov_i (1100 + x1_), ov_r 97, ov_i x1_, ov_r 97]) (pc2 := 166) b_205_161_3 rfl rfl ?_
                                refine ov_iald d_205_166 (zb_97 I418) (zs_97 I418) (by omega) ?_
                                have g456 := ra_97 I418 (1100 + x1_)
                                refine ov_iast d_205_167 (zb_97 I418) (zs_97 I418) (by omega) ?_
                                have I457 := ua_97 (k := x1_) (x := (h417 97 (1100 + x1_))) I418 (by omega)
                                refine ov_blk (ls2 := [(0, ov_r 90), (1, ov_i x1_)]) (st2 := [ov_r 90]) (pc2 := 169) b_205_168_1 rfl rfl ?_
                                refine ov_getf (v := ov_r 98) d_205_169 fl_Mo_87 (zb_90 I457) (zs_90 I457) (congrArg ov_r (rg_90_12 I457)) ?_
                                refine ov_blk (ls2 := [(0, ov_r 90), (1, ov_i x1_)]) (st2 := [ov_r 90, ov_i x1_, ov_r 98]) (pc2 := 174) b_205_172_2 rfl rfl ?_
                                refine ov_getf (v := ov_r 98) d_205_174 fl_Mo_87 (zb_90 I457) (zs_90 I457) (congrArg ov_r (rg_90_12 I457)) ?_
                                refine ov_blk (ls2 := [(0, ov_r 90), (1, ov_i x1_)]) (st2 := [ov_i (1100 + x1_), ov_r 98, ov_i x1_, ov_r 98]) (pc2 := 182) b_205_177_3 rfl rfl ?_
                                refine ov_iald d_205_182 (zb_98 I457) (zs_98 I457) (by omega) ?_
                                show ov_R u d ov_m205 183 [(0, ov_r 90), (1, ov_i x1_)] [ov_i (h417 98 (1100 + x1_)), ov_i x1_, ov_r 98] z416 (ov_up h417 97 x1_ (h417 97 (1100 + x1_))) (P_fMo_town_90 F z h t m)
                                have g458 := ra_98 I418 (1100 + x1_)
                                refine ov_iast d_205_183 (zb_98 I457) (zs_98 I457) (by omega) ?_
                                have I459 := ua_98 (k := x1_) (x := (h417 98 (1100 + x1_))) I457 (by omega)
                                refine ov_blk (ls2 := [(0, ov_r 90), (1, ov_i (x1_ + 1))]) (st2 := []) (pc2 := 187) b_205_184_1 rfl rfl ?_
                                refine ov_goto (tgt := 144) d_205_187 (by decide) ?_
                                exact ih413 (x1_ + 1) _ _ I459 E419 E420 E421 E422 E423 E424 E425 E426 E427 (fun a ca => Eq.trans (by show (ov_up (ov_up h417 97 x1_ (h417 97 (1100 + x1_))) 98 x1_ (h417 98 (1100 + x1_))) a = h417 a; rw [ov_up_ne (by omega), ov_up_ne (by omega)]) (fr428 a ca)) (fun k n0 n1 n2 n3 n4 n5 n6 n7 n8 => (Eq.trans (by show (ov_up (ov_up h417 97 x1_ (h417 97 (1100 + x1_))) 98 x1_ (h417 98 (1100 + x1_))) 90 k = h417 90 k; rw [ov_up_ne (by decide), ov_up_ne (by decide)]) (rkl90 k n0 n1 n2 n3 n4 n5 n6 n7 n8))) (by show 0 ≤ (x1_ + 1) ∧ (x1_ + 1) ≤ 1000; omega) (by omega)
                          exact L415 1001 0 _ _ I400 E401 E402 E403 E404 E405 rfl E406 E407 E408 (fun a ca => (fr409 a ca)) (fun k n0 n1 n2 n3 n4 n5 n6 n7 n8 => (rkl90 k n0 n1 n2 n3 n4 n5 n6 n7 n8)) (by show 0 ≤ 0 ∧ 0 ≤ 1000; omega) (by omega)
                        · skip
                          have xe0 : x1 = 0 → h399 96 (340 + x1) = A 0 := fun e => by rw [xl _ (by omega), e]; exact pt_MR_c mr (j := 0) (by omega)
                          have xe1 : x1 = 1 → h399 96 (340 + x1) = A 1 := fun e => by rw [xl _ (by omega), e]; exact pt_MR_c mr (j := 1) (by omega)
                          have xe2 : x1 = 2 → h399 96 (340 + x1) = A 2 := fun e => by rw [xl _ (by omega), e]; exact pt_MR_c mr (j := 2) (by omega)
                          have xe9 : x1 = 9 → h399 96 (340 + x1) = A 9 := fun e => by rw [xl _ (by omega), e]; exact pt_MR_c mr (j := 9) (by omega)
                          refine ov_blk (ls2 := [(0, ov_r 90), (1, ov_i x1)]) (st2 := [ov_r 90]) (pc2 := 121) b_205_120_1 rfl rfl ?_
                          refine ov_getf (v := ov_r 96) d_205_121 fl_Mo_81 (zb_90 I400) (zs_90 I400) (congrArg ov_r (rg_90_10 I400)) ?_
                          refine ov_blk (ls2 := [(0, ov_r 90), (1, ov_i x1)]) (st2 := [ov_r 90, ov_i x1, ov_r 96]) (pc2 := 126) b_205_124_2 rfl rfl ?_
                          refine ov_getf (v := ov_r 96) d_205_126 fl_Mo_81 (zb_90 I400) (zs_90 I400) (congrArg ov_r (rg_90_10 I400)) ?_
                          refine ov_blk (ls2 := [(0, ov_r 90), (1, ov_i x1)]) (st2 := [ov_i (340 + x1), ov_r 96, ov_i x1, ov_r 96]) (pc2 := 134) b_205_129_3 rfl rfl ?_
                          refine ov_iald d_205_134 (zb_96 I400) (zs_96 I400) (by omega) ?_
                          show ov_R u d ov_m205 135 [(0, ov_r 90), (1, ov_i x1)] [ov_i (h399 96 (340 + x1)), ov_i x1, ov_r 96] z398 h399 (P_fMo_town_90 F z h t m)
                          refine ov_iast d_205_135 (zb_96 I400) (zs_96 I400) (by omega) ?_
                          have I460 := ov_cp96 (k := x1) I400 (by omega) (by omega)
                          refine ov_blk (ls2 := [(0, ov_r 90), (1, ov_i (x1 + 1))]) (st2 := []) (pc2 := 139) b_205_136_1 rfl rfl ?_
                          refine ov_goto (tgt := 113) d_205_139 (by decide) ?_
                          exact ih395 (x1 + 1) _ _ I460 E401 E402 E403 E404 E405 E406 E407 E408 (fun a ca => Eq.trans (by show (ov_up h399 96 x1 (h399 96 (340 + x1))) a = h399 a; rw [ov_up_ne (by omega)]) (fr409 a ca)) (fun j a => by rw [ov_up_j (by omega)]; exact xl j a) (fun j a b c => if e : j = x1 then (by rw [e]; show ov_up _ 96 _ _ 96 _ = _; rw [ov_up_row, ov_rs_eq, xl _ (by omega)]; exact pt_MR_c mr (j := x1) (by omega)) else (by show ov_up _ 96 _ _ 96 j = _; rw [ov_up_row, ov_rs_ne e]; exact xc j a (by omega) c)) (fun k n0 n1 n2 n3 n4 n5 n6 n7 n8 => (Eq.trans (by show (ov_up h399 96 x1 (h399 96 (340 + x1))) 90 k = h399 90 k; rw [ov_up_ne (by decide)]) (rkl90 k n0 n1 n2 n3 n4 n5 n6 n7 n8))) (by show 0 ≤ (x1 + 1) ∧ (x1 + 1) ≤ 340; omega) (by omega)
                    exact L397 341 0 _ _ I376 E377 E378 E379 E380 E381 rfl E382 E383 (fun a ca => (fr384 a ca)) (fun j a => rfl) (fun j a b c => by omega) (fun k n0 n1 n2 n3 n4 n5 n6 n7 n8 => (rkl90 k n0 n1 n2 n3 n4 n5 n6 n7 n8)) (by show 0 ≤ 0 ∧ 0 ≤ 340; omega) (by omega)
                  · omega
                · skip
                  refine ov_blk (ls2 := [(0, ov_r 90)]) (st2 := [ov_r 90]) (pc2 := 87) b_205_86_1 rfl rfl ?_
                  have cf461 : h375 93 ((h375 90 7)) = h3 93 ((h375 90 7)) := congrFun E379 ((h375 90 7))
                  refine ov_cV (as := []) (st := []) (d2 := d - 1) d_205_87 lk_Mo_217 rfl (Nat.le_of_ble_eq_true rfl) (c := 1) (zb_90 I376) (zs_90 I376) ⟨by decide, rfl⟩ (by omega) (c_fMo_readLine_90 t m N (h3 93 (h375 90 7)) A (d - 1) (by omega) U I376 (by show 0 ≤ (h375 90 7) ∧ (h375 90 7) ≤ N; omega) (by show (h375 93 ((h375 90 7))) = (h3 93 (h375 90 7)); omega) (by show 0 ≤ (h375 90 8); omega) (by show (h375 90 8) = 0; omega) (by show 0 ≤ (h375 90 13) ∧ (h375 90 13) ≤ (h375 90 7); omega) (by rw [show h375 92 = h3 92 from E378, show h375 93 = h3 93 from E379, show h375 94 = h3 94 from E380]; exact mt) (by rw [show h375 95 = h 95 from E381]; exact wd) mr) ?_
                  rintro _ z462 h463 ⟨rfl, I464, y465, y466, y467⟩
                  have E468 : h463 91 = h 91 := Eq.trans (y465 91 (by decide)) (show h375 91 = h 91 from E377)
                  have E469 : h463 92 = h3 92 := Eq.trans (y465 92 (by decide)) (show h375 92 = h3 92 from E378)
                  have E470 : h463 93 = h3 93 := Eq.trans (y465 93 (by decide)) (show h375 93 = h3 93 from E379)
                  have E471 : h463 94 = h3 94 := Eq.trans (y465 94 (by decide)) (show h375 94 = h3 94 from E380)
                  have E472 : h463 95 = h 95 := Eq.trans (y465 95 (by decide)) (show h375 95 = h 95 from E381)
                  have E473 : h463 103 = h 103 := Eq.trans (y465 103 (by decide)) (show h375 103 = h 103 from E382)
                  have E474 : h463 104 = h 104 := Eq.trans (y465 104 (by decide)) (show h375 104 = h 104 from E383)
                  have fr475 : ∀ a : Int, a ≠ 90 ∧ (a < 92 ∨ 94 < a) ∧ (a < 96 ∨ 100 < a) ∧ (a < 103 ∨ 104 < a) → h463 a = h a := fun a ca => Eq.trans (y465 a (by omega)) (fr384 a ca)
                  have y466_ : ∀ k : Int, k ≠ 7 → k ≠ 8 → k ≠ 13 → k ≠ 15 → (h463 90) k = (h375 90) k := y466
                  have rk476 : ∀ k : Int, k ≠ 0 → k ≠ 2 → k ≠ 3 → k ≠ 7 → k ≠ 8 → k ≠ 13 → k ≠ 15 → k ≠ 20 → k ≠ 22 → h463 90 k = h 90 k := fun k n0 n1 n2 n3 n4 n5 n6 n7 n8 => Eq.trans (y466_ k n3 n4 n5 n6) (rkl90 k n0 n1 n2 n3 n4 n5 n6 n7 n8)
                  have g477 : h463 90 2 = (h375 90 2) := y466_ 2 (by decide) (by decide) (by decide) (by decide)
                  have g478 : h463 90 3 = (h375 90 3) := y466_ 3 (by decide) (by decide) (by decide) (by decide)
                  have g479 : h463 90 20 = (h375 90 20) := y466_ 20 (by decide) (by decide) (by decide) (by decide)
                  have g480 : h463 90 22 = (h375 90 22) := y466_ 22 (by decide) (by decide) (by decide) (by decide)
                  rcases y467 with ⟨w481, w482, f483, y484⟩ | ⟨w485, f486, y487, y488⟩
                  · skip
                    show ov_R u d ov_m205 90 [(0, ov_r 90)] [] z462 h463 (P_fMo_town_90 F z h t m)
                    have f489 : (h463 90 8) = w481 ∧ 1 ≤ w481 ∧ (h375 90 7) ≤ (h463 90 7) ∧ (h463 90 7) ≤ N := f483
                    clear f483
                    have y484_ : pt_EL t m A (h3 93 (h375 90 7)) w481 w482 := y484
                    refine ov_blk (ls2 := [(0, ov_r 90)]) (st2 := [ov_i 59, ov_r 90]) (pc2 := 93) b_205_90_2 rfl rfl ?_
                    have cf490 : h463 93 ((h463 90 7)) = h3 93 ((h463 90 7)) := congrFun E470 ((h463 90 7))
                    refine ov_cV (as := [ov_i 59]) (st := []) (d2 := d - 1) d_205_93 lk_Mo_214 rfl (Nat.le_of_ble_eq_true rfl) (c := 1) (zb_90 I464) (zs_90 I464) ⟨by decide, rfl⟩ (by omega) (c_fMo_takeSign_90 t m N (h463 93 (h463 90 7)) (d - 1) (by omega) U I464 59 (by omega) (by show 0 ≤ (h463 90 7) ∧ (h463 90 7) ≤ N; omega) (by show (h463 93 ((h463 90 7))) = (h463 93 (h463 90 7)); omega) (by show 0 ≤ (h463 90 8); omega) (by show 0 ≤ (59 : Int) ∧ (59 : Int) ≤ 65535; omega) (by rw [show h463 92 = h3 92 from E469, show h463 93 = h3 93 from E470, show h463 94 = h3 94 from E471]; exact mt)) ?_
                    rintro _ z491 h492 ⟨rfl, I493, y494, y495, y496⟩
                    have E497 : h492 91 = h 91 := Eq.trans (y494 91 (by decide)) (show h463 91 = h 91 from E468)
                    have E498 : h492 92 = h3 92 := Eq.trans (y494 92 (by decide)) (show h463 92 = h3 92 from E469)
                    have E499 : h492 93 = h3 93 := Eq.trans (y494 93 (by decide)) (show h463 93 = h3 93 from E470)
                    have E500 : h492 94 = h3 94 := Eq.trans (y494 94 (by decide)) (show h463 94 = h3 94 from E471)
                    have E501 : h492 95 = h 95 := Eq.trans (y494 95 (by decide)) (show h463 95 = h 95 from E472)
                    have E502 : h492 96 = h463 96 := Eq.trans (y494 96 (by decide)) (show h463 96 = h463 96 from rfl)
                    have E503 : h492 99 = h463 99 := Eq.trans (y494 99 (by decide)) (show h463 99 = h463 99 from rfl)
                    have E504 : h492 103 = h 103 := Eq.trans (y494 103 (by decide)) (show h463 103 = h 103 from E473)
                    have E505 : h492 104 = h 104 := Eq.trans (y494 104 (by decide)) (show h463 104 = h 104 from E474)
                    have fr506 : ∀ a : Int, a ≠ 90 ∧ (a < 92 ∨ 94 < a) ∧ (a < 96 ∨ 100 < a) ∧ (a < 103 ∨ 104 < a) → h492 a = h a := fun a ca => Eq.trans (y494 a (by omega)) (fr475 a ca)
                    have y495_ : ∀ k : Int, k ≠ 7 → k ≠ 8 → (h492 90) k = (h463 90) k := y495
                    have rk507 : ∀ k : Int, k ≠ 0 → k ≠ 2 → k ≠ 3 → k ≠ 7 → k ≠ 8 → k ≠ 13 → k ≠ 15 → k ≠ 20 → k ≠ 22 → h492 90 k = h 90 k := fun k n0 n1 n2 n3 n4 n5 n6 n7 n8 => Eq.trans (y495_ k n3 n4) (rk476 k n0 n1 n2 n3 n4 n5 n6 n7 n8)
                    have g508 : h492 90 2 = (h463 90 2) := y495_ 2 (by decide) (by decide)
                    have g509 : h492 90 3 = (h463 90 3) := y495_ 3 (by decide) (by decide)
                    have g510 : h492 90 13 = (h463 90 13) := y495_ 13 (by decide) (by decide)
                    have g511 : h492 90 15 = (h463 90 15) := y495_ 15 (by decide) (by decide)
                    have g512 : h492 90 20 = (h463 90 20) := y495_ 20 (by decide) (by decide)
                    have g513 : h492 90 22 = (h463 90 22) := y495_ 22 (by decide) (by decide)
                    rcases y496 with f514 | f515 | f516
                    · skip
                      show ov_R u d ov_m205 96 [(0, ov_r 90)] [] z491 h492 (P_fMo_town_90 F z h t m)
                      have f517 : (h463 90 8) ≠ 0 ∧ (h492 90 8) = (h463 90 8) ∧ (h492 90 7) = (h463 90 7) ∧ (h492 93 ((h492 90 7))) = (h463 93 (h463 90 7)) := f514
                      clear f514
                      refine ov_goto (tgt := 67) d_205_96 (by decide) ?_
                      refine ov_blk (ls2 := [(0, ov_r 90)]) (st2 := [ov_r 90]) (pc2 := 68) b_205_67_1 rfl rfl ?_
                      refine ov_getf (v := ov_i (h492 90 8)) d_205_68 fl_Mo_180 (zb_90 I493) (zs_90 I493) rfl ?_
                      have g518 := rg_90_8 I493
                      refine ov_ifne (tgt := 99) d_205_71 (by decide) (by omega) (fun c519 => ?_) (fun c519 => ?_)
                      · skip
                        refine ov_blk (ls2 := [(0, ov_r 90)]) (st2 := [ov_r 90]) (pc2 := 100) b_205_99_1 rfl rfl ?_
                        refine ov_getf (v := ov_i (h492 90 8)) d_205_100 fl_Mo_180 (zb_90 I493) (zs_90 I493) rfl ?_
                        refine ov_ifle (tgt := 111) d_205_103 (by decide) (by omega) (fun c521 => ?_) (fun c521 => ?_)
                        · omega
                        · skip
                          refine ov_blk (ls2 := [(0, ov_r 90)]) (st2 := [ov_r 90]) (pc2 := 107) b_205_106_1 rfl rfl ?_
                          refine ov_getf (v := ov_i (h492 90 8)) d_205_107 fl_Mo_180 (zb_90 I493) (zs_90 I493) rfl ?_
                          exact ov_reti (st := []) d_205_110 rfl ⟨_, rfl, I493, (fun a ca => (fr506 a ca)), (fun k n0 n1 n2 n3 n4 n5 n6 n7 n8 => (rk507 k n0 n1 n2 n3 n4 n5 n6 n7 n8)), (Or.inl ⟨(fun _ => 0), (by show 1 ≤ (h492 90 8) ∧ (h492 90 8) ≤ 16005 ∧ (h492 90 22) = (h 90 22) ∧ (h492 90 20) = (h 90 20); omega), (by show pt_ET t m (h492 90 8) _; rw [show (h492 90 8) = w481 by omega]; exact cg _ _ (pt_EG_f (by omega) y484_ (by omega))), E505⟩)⟩
                      · omega
                    · omega
                    · omega
                  · skip
                    show ov_R u d ov_m205 90 [(0, ov_r 90)] [] z462 h463 (P_fMo_town_90 F z h t m)
                    have f523 : (h463 90 8) = 0 ∧ (h375 90 7) ≤ (h463 90 7) ∧ (h463 90 7) ≤ N ∧ 0 ≤ (h463 90 13) ∧ (h463 90 13) ≤ (h463 90 7) ∧ (h463 93 ((h463 90 7))) = w485 := f486
                    clear f486
                    have y487_ : pt_EL t m A (h3 93 (h375 90 7)) 0 w485 := y487
                    have y488_ : pt_MR t m (pt_LA t m A (h3 93 (h375 90 7))) (h463 96) (h463 90 15) (h463 99) := y488
                    refine ov_blk (ls2 := [(0, ov_r 90)]) (st2 := [ov_i 59, ov_r 90]) (pc2 := 93) b_205_90_2 rfl rfl ?_
                    have cf524 : h463 93 ((h463 90 7)) = h3 93 ((h463 90 7)) := congrFun E470 ((h463 90 7))
                    refine ov_cV (as := [ov_i 59]) (st := []) (d2 := d - 1) d_205_93 lk_Mo_214 rfl (Nat.le_of_ble_eq_true rfl) (c := 1) (zb_90 I464) (zs_90 I464) ⟨by decide, rfl⟩ (by omega) (c_fMo_takeSign_90 t m N w485 (d - 1) (by omega) U I464 59 (by omega) (by show 0 ≤ (h463 90 7) ∧ (h463 90 7) ≤ N; omega) (by show (h463 93 ((h463 90 7))) = w485; omega) (by show 0 ≤ (h463 90 8); omega) (by show 0 ≤ (59 : Int) ∧ (59 : Int) ≤ 65535; omega) (by rw [show h463 92 = h3 92 from E469, show h463 93 = h3 93 from E470, show h463 94 = h3 94 from E471]; exact mt)) ?_
                    rintro _ z525 h526 ⟨rfl, I527, y528, y529, y530⟩
                    have E531 : h526 91 = h 91 := Eq.trans (y528 91 (by decide)) (show h463 91 = h 91 from E468)
                    have E532 : h526 92 = h3 92 := Eq.trans (y528 92 (by decide)) (show h463 92 = h3 92 from E469)
                    have E533 : h526 93 = h3 93 := Eq.trans (y528 93 (by decide)) (show h463 93 = h3 93 from E470)
                    have E534 : h526 94 = h3 94 := Eq.trans (y528 94 (by decide)) (show h463 94 = h3 94 from E471)
                    have E535 : h526 95 = h 95 := Eq.trans (y528 95 (by decide)) (show h463 95 = h 95 from E472)
                    have E536 : h526 96 = h463 96 := Eq.trans (y528 96 (by decide)) (show h463 96 = h463 96 from rfl)
                    have E537 : h526 99 = h463 99 := Eq.trans (y528 99 (by decide)) (show h463 99 = h463 99 from rfl)
                    have E538 : h526 103 = h 103 := Eq.trans (y528 103 (by decide)) (show h463 103 = h 103 from E473)
                    have E539 : h526 104 = h 104 := Eq.trans (y528 104 (by decide)) (show h463 104 = h 104 from E474)
                    have fr540 : ∀ a : Int, a ≠ 90 ∧ (a < 92 ∨ 94 < a) ∧ (a < 96 ∨ 100 < a) ∧ (a < 103 ∨ 104 < a) → h526 a = h a := fun a ca => Eq.trans (y528 a (by omega)) (fr475 a ca)
                    have y529_ : ∀ k : Int, k ≠ 7 → k ≠ 8 → (h526 90) k = (h463 90) k := y529
                    have rk541 : ∀ k : Int, k ≠ 0 → k ≠ 2 → k ≠ 3 → k ≠ 7 → k ≠ 8 → k ≠ 13 → k ≠ 15 → k ≠ 20 → k ≠ 22 → h526 90 k = h 90 k := fun k n0 n1 n2 n3 n4 n5 n6 n7 n8 => Eq.trans (y529_ k n3 n4) (rk476 k n0 n1 n2 n3 n4 n5 n6 n7 n8)
                    have g542 : h526 90 2 = (h463 90 2) := y529_ 2 (by decide) (by decide)
                    have g543 : h526 90 3 = (h463 90 3) := y529_ 3 (by decide) (by decide)
                    have g544 : h526 90 13 = (h463 90 13) := y529_ 13 (by decide) (by decide)
                    have g545 : h526 90 15 = (h463 90 15) := y529_ 15 (by decide) (by decide)
                    have g546 : h526 90 20 = (h463 90 20) := y529_ 20 (by decide) (by decide)
                    have g547 : h526 90 22 = (h463 90 22) := y529_ 22 (by decide) (by decide)
                    rcases y530 with f548 | f549 | f550
                    · omega
                    · skip
                      show ov_R u d ov_m205 96 [(0, ov_r 90)] [] z525 h526 (P_fMo_town_90 F z h t m)
                      have f551 : (h463 90 8) = 0 ∧ pt_is t m w485 (59 : Int) = 0 ∧ (h526 90 8) = 1 + 16 * w485 ∧ 1 ≤ (h526 90 8) ∧ (h526 90 7) = (h463 90 7) ∧ (h526 93 ((h526 90 7))) = w485 := f549
                      clear f549
                      refine ov_goto (tgt := 67) d_205_96 (by decide) ?_
                      refine ov_blk (ls2 := [(0, ov_r 90)]) (st2 := [ov_r 90]) (pc2 := 68) b_205_67_1 rfl rfl ?_
                      refine ov_getf (v := ov_i (h526 90 8)) d_205_68 fl_Mo_180 (zb_90 I527) (zs_90 I527) rfl ?_
                      have g552 := rg_90_8 I527
                      refine ov_ifne (tgt := 99) d_205_71 (by decide) (by omega) (fun c553 => ?_) (fun c553 => ?_)
                      · skip
                        refine ov_blk (ls2 := [(0, ov_r 90)]) (st2 := [ov_r 90]) (pc2 := 100) b_205_99_1 rfl rfl ?_
                        refine ov_getf (v := ov_i (h526 90 8)) d_205_100 fl_Mo_180 (zb_90 I527) (zs_90 I527) rfl ?_
                        refine ov_ifle (tgt := 111) d_205_103 (by decide) (by omega) (fun c555 => ?_) (fun c555 => ?_)
                        · omega
                        · skip
                          refine ov_blk (ls2 := [(0, ov_r 90)]) (st2 := [ov_r 90]) (pc2 := 107) b_205_106_1 rfl rfl ?_
                          refine ov_getf (v := ov_i (h526 90 8)) d_205_107 fl_Mo_180 (zb_90 I527) (zs_90 I527) rfl ?_
                          exact ov_reti (st := []) d_205_110 rfl ⟨_, rfl, I527, (fun a ca => (fr540 a ca)), (fun k n0 n1 n2 n3 n4 n5 n6 n7 n8 => (rk541 k n0 n1 n2 n3 n4 n5 n6 n7 n8)), (Or.inl ⟨(fun _ => 0), (by show 1 ≤ (h526 90 8) ∧ (h526 90 8) ≤ 16005 ∧ (h526 90 22) = (h 90 22) ∧ (h526 90 20) = (h 90 20); omega), (by show pt_ET t m (h526 90 8) _; rw [show (h526 90 8) = 1 + 16 * w485 by omega]; exact cg _ _ (pt_EG_s (by omega) y487_ (by omega) (by omega))), E539⟩)⟩
                      · omega
                    · skip
                      show ov_R u d ov_m205 96 [(0, ov_r 90)] [] z525 h526 (P_fMo_town_90 F z h t m)
                      have f557 : (h463 90 8) = 0 ∧ pt_is t m w485 (59 : Int) = 1 ∧ (h526 90 8) = 0 ∧ (h526 90 7) = (h463 90 7) + 1 ∧ (h526 90 7) ≤ N ∧ (h526 93 ((h526 90 7))) = pt_nt t m w485 := f550
                      clear f550
                      refine ov_goto (tgt := 67) d_205_96 (by decide) ?_
                      have pq : h3 93 (h526 90 7) = pt_nt t m w485 := Eq.trans (congrFun (show h3 93 = h526 93 from (E533).symm) _) (by show h526 93 (h526 90 7) = pt_nt t m w485; omega)
                      exact ih371  _ _ I527 E531 E532 E533 E534 E535 E538 E539 (fun a ca => (fr540 a ca)) (⟨pt_LA t m A (h3 93 (h375 90 7)), (by rw [show (h526 90 15) = (h463 90 15) by omega, show h526 96 = h463 96 from E536, show h526 99 = h463 99 from E537]; exact y488_), fun f B e => cg f B (pt_EG_n (by omega) y487_ (by omega) (by rw [pq] at e; exact e))⟩) (fun k n0 n1 n2 n3 n4 n5 n6 n7 n8 => (rk541 k n0 n1 n2 n3 n4 n5 n6 n7 n8)) (by show (h526 90 8) = 0 ∧ 0 ≤ (h526 90 7) ∧ (h526 90 7) ≤ N ∧ 0 ≤ (h526 90 13) ∧ (h526 90 13) ≤ (h526 90 7) ∧ (h526 90 22) = (h 90 22) ∧ (h526 90 20) = (h 90 20); omega) (by show N - (h526 90 7) < _; omega)
          have m96 : h337 96 = ov_rs (ov_rs ((h25 96)) 340 (pt_nm t m (pt_nt t m (pt_rn pt_bB t m 0)))) 341 (pt_nm t m (pt_nt t m (pt_nt t m (pt_rn pt_bB t m 0)))) := by rw [show h337 96 = (ov_rs (ov_rs (h25 96) 340 v172) 341 v269) from R348, show v172 = (pt_nm t m (pt_nt t m (pt_rn pt_bB t m 0))) by omega, show v269 = (pt_nm t m (pt_nt t m (pt_nt t m (pt_rn pt_bB t m 0)))) by omega]
          have m15 : (h337 90 15) = 0 := by omega
          have hz : (pt_szF t m (pt_rn pt_bB t m 0)) = 0 := by unfold pt_szF pt_fW pt_fS; (repeat' split) <;> omega
          have pq : h3 93 (h337 90 7) = (pt_nt t m (pt_nt t m (pt_nt t m (pt_nt t m (pt_rn pt_bB t m 0))))) := Eq.trans (congrFun (show h3 93 = h337 93 from (E344).symm) _) (by show h337 93 (h337 90 7) = (pt_nt t m (pt_nt t m (pt_nt t m (pt_nt t m (pt_rn pt_bB t m 0))))); omega)
          exact L373 1001  _ _ I338 E342 E343 E344 E345 E346 E350 E351 (fun a ca => (fr352 a ca)) (⟨pt_A0 (pt_nm t m (pt_nt t m (pt_rn pt_bB t m 0))) (pt_nm t m (pt_nt t m (pt_nt t m (pt_rn pt_bB t m 0)))), by rw [m96, m15]; exact pt_MR_first (by omega) (by omega) y28_, fun f B e => Or.inr ⟨hz, by rw [pq] at e; exact e⟩⟩) (fun k n0 n1 n2 n3 n4 n5 n6 n7 n8 => (rk353 k n0 n1 n2 n3 n4 n5 n6 n7 n8)) (by show (h337 90 8) = 0 ∧ 0 ≤ (h337 90 7) ∧ (h337 90 7) ≤ N ∧ 0 ≤ (h337 90 13) ∧ (h337 90 13) ≤ (h337 90 7) ∧ (h337 90 22) = (h 90 22) ∧ (h337 90 20) = (h 90 20); omega) (by show N - (h337 90 7) < _; omega)

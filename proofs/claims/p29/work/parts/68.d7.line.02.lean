abbrev P_fMo_readBar_90 (F : ov_H × ov_Z) (z : ov_Z) (h : ov_H) (t : Int → Int) (m : Int) (N : Int) (p : Int) (A : Int → Int) : Option ov_V → ov_Z → ov_H → Prop := fun r0 z' h' => r0 = none ∧ ov_N F z' h' ∧ (∀ a : Int, a ≠ 90 ∧ a ≠ 96 → h' a = h a) ∧ (∀ k : Int, k ≠ 7 → k ≠ 8 → (h' 90) k = (h 90) k) ∧ ((((h' 90 8) = (pt_brF t m A p) ∧ 1 ≤ (h' 90 8) ∧ (h 90 7) ≤ (h' 90 7) ∧ (h' 90 7) ≤ N)) ∨ (((pt_brF t m A p) = 0 ∧ (h' 90 8) = 0 ∧ (h 90 7) ≤ (h' 90 7) ∧ (h' 90 7) ≤ N ∧ 0 ≤ (h' 90 13) ∧ (h' 90 13) ≤ (h' 90 7) ∧ (h' 93 ((h' 90 7))) = (pt_nt t m (pt_nt t m (pt_nt t m (pt_nt t m p))))) ∧ (pt_MR t m (pt_brA t m A p) (h' 96) (h' 90 15) (h' 99))))
set_option maxHeartbeats 4000000 in
theorem c_fMo_readBar_90 {u : ov_U} {F : ov_H × ov_Z} (t : Int → Int) (m : Int) (N : Int) (p : Int) (A : Int → Int) {z : ov_Z} {h : ov_H} (d : Nat) (hd : 2 ≤ d) (U : ov_cap u) (I : ov_N F z h) (p0 : 0 ≤ (h 90 7) ∧ (h 90 7) ≤ N) (p1 : (h 93 ((h 90 7))) = p) (p2 : 0 ≤ (h 90 8)) (p3 : (h 90 8) = 0) (p4 : 0 ≤ (h 90 13) ∧ (h 90 13) ≤ (h 90 7)) (p5 : pt_ty t m p = 2) (mt : pt_MT t m (h 92) (h 93) (h 94) N) (wd : pt_WD (h 95)) (mr : pt_MR t m A (h 96) (h 90 15) (h 99)) : ov_T u d ov_m223 [ov_r 90] z h (P_fMo_readBar_90 F z h t m N p A) := by
  refine ov_en rfl (Nat.le_of_ble_eq_true rfl) ?_
  show ov_R u d ov_m223 0 [(0, ov_r 90)] [] z h (P_fMo_readBar_90 F z h t m N p A)
  have ma := pt_MT_at mt (k := h 90 7) (by omega)
  rw [p1] at ma
  have mp := ma.2.1
  have m2 := ma.2.2.1
  have m3 := ma.2.2.2
  have mc := pt_cm_f (t := t) (m := m) (p := p)
  have mN := mt.1.2.1
  clear ma
  have rA := pt_MR_r mr
  refine ov_blk (ls2 := [(0, ov_r 90)]) (st2 := [ov_r 90, ov_r 90]) (pc2 := 2) b_223_0_2 rfl rfl ?_
  refine ov_getf (v := ov_i (h 90 7)) d_223_2 fl_Mo_177 (zb_90 I) (zs_90 I) rfl ?_
  have g1 := rg_90_7 I
  refine ov_blk (ls2 := [(0, ov_r 90)]) (st2 := [ov_i ((h 90 7) + 1), ov_r 90]) (pc2 := 7) b_223_5_2 rfl rfl ?_
  have kn := pt_MT_lt mt (k := h 90 7) (by omega) (by rw [p1]; omega)
  have mn := pt_MT_nx mt (k := h 90 7) ⟨by omega, by omega⟩
  rw [p1] at mn
  have nb := pt_nt_le (t := t) (n := m) (p := p) (by omega)
  refine ov_putf (x := ((h 90 7) + 1)) d_223_7 fl_Mo_177 (zb_90 I) (zs_90 I) rfl nk_0 rfl ?_
  have I2 := up_90_7 (x := ((h 90 7) + 1)) I (by omega)
  show ov_R u d ov_m223 10 [(0, ov_r 90)] [] z (ov_up h 90 7 ((h 90 7) + 1)) (P_fMo_readBar_90 F z h t m N p A)
  have nb1 := pt_nt_le (t := t) (n := m) (p := (pt_nt t m p)) (by omega)
  have nb2 := pt_nt_le (t := t) (n := m) (p := (pt_nt t m (pt_nt t m p))) (by omega)
  have nb3 := pt_nt_le (t := t) (n := m) (p := (pt_nt t m (pt_nt t m (pt_nt t m p)))) (by omega)
  refine ov_blk (ls2 := [(0, ov_r 90)]) (st2 := [ov_r 90, ov_i 0, ov_r 90]) (pc2 := 13) b_223_10_3 rfl rfl ?_
  refine ov_getf (v := ov_r 96) d_223_13 fl_Mo_81 (zb_90 I2) (zs_90 I2) (congrArg ov_r (rg_90_10 I2)) ?_
  refine ov_blk (ls2 := [(0, ov_r 90)]) (st2 := [ov_i 340, ov_r 96, ov_i 0, ov_r 90]) (pc2 := 19) b_223_16_1 rfl rfl ?_
  refine ov_iald d_223_19 (zb_96 I2) (zs_96 I2) (by omega) ?_
  have e3 : (ov_up h 90 7 ((h 90 7) + 1)) 96 340 = (A 0) := (pt_MR_c mr (j := 0) (by omega))
  show ov_R u d ov_m223 20 [(0, ov_r 90)] [ov_i ((ov_up h 90 7 ((h 90 7) + 1)) 96 340), ov_i 0, ov_r 90] z (ov_up h 90 7 ((h 90 7) + 1)) (P_fMo_readBar_90 F z h t m N p A)
  rw [e3]
  show ov_R u d ov_m223 20 [(0, ov_r 90)] [ov_i (A 0), ov_i 0, ov_r 90] z (ov_up h 90 7 ((h 90 7) + 1)) (P_fMo_readBar_90 F z h t m N p A)
  refine ov_blk (ls2 := [(0, ov_r 90)]) (st2 := [ov_i ((A 0) - 1), ov_i 0, ov_r 90]) (pc2 := 22) b_223_20_2 rfl rfl ?_
  refine ov_cV (as := [ov_i 0, ov_i ((A 0) - 1)]) (st := []) (d2 := d - 1) d_223_22 lk_Mo_198 rfl (Nat.le_of_ble_eq_true rfl) (c := 1) (zb_90 I2) (zs_90 I2) ⟨by decide, rfl⟩ (by omega) (c_fMo_takeNumber_90 t m N (pt_nt t m p) (d - 1) (by omega) U I2 0 ((A 0) - 1) (by omega) (by omega) (by show 0 ≤ ((h 90 7) + 1) ∧ ((h 90 7) + 1) ≤ N; omega) (by show (h 93 (((h 90 7) + 1))) = (pt_nt t m p); omega) (by show 0 ≤ (h 90 8); omega) (by rw [show (ov_up h 90 7 ((h 90 7) + 1)) 92 = h 92 from rfl, show (ov_up h 90 7 ((h 90 7) + 1)) 93 = h 93 from rfl, show (ov_up h 90 7 ((h 90 7) + 1)) 94 = h 94 from rfl]; exact mt)) ?_
  rintro _ z5 h6 ⟨v4, rfl, I7, y8, y9, y10⟩
  have E11 : h6 92 = h 92 := Eq.trans (y8 92 (by decide)) (show (ov_up h 90 7 ((h 90 7) + 1)) 92 = h 92 from rfl)
  have E12 : h6 93 = h 93 := Eq.trans (y8 93 (by decide)) (show (ov_up h 90 7 ((h 90 7) + 1)) 93 = h 93 from rfl)
  have E13 : h6 94 = h 94 := Eq.trans (y8 94 (by decide)) (show (ov_up h 90 7 ((h 90 7) + 1)) 94 = h 94 from rfl)
  have E14 : h6 95 = h 95 := Eq.trans (y8 95 (by decide)) (show (ov_up h 90 7 ((h 90 7) + 1)) 95 = h 95 from rfl)
  have E15 : h6 96 = h 96 := Eq.trans (y8 96 (by decide)) (show (ov_up h 90 7 ((h 90 7) + 1)) 96 = h 96 from rfl)
  have E16 : h6 99 = h 99 := Eq.trans (y8 99 (by decide)) (show (ov_up h 90 7 ((h 90 7) + 1)) 99 = h 99 from rfl)
  have fr17 : ∀ a : Int, a ≠ 90 ∧ a ≠ 96 → h6 a = h a := fun a ca => Eq.trans (y8 a (by omega)) (Eq.trans (by show (ov_up h 90 7 ((h 90 7) + 1)) a = h a; rw [ov_up_ne (by omega)]) rfl)
  have y9_ : ∀ k : Int, k ≠ 7 → k ≠ 8 → (h6 90) k = ((ov_up h 90 7 ((h 90 7) + 1)) 90) k := y9
  have rk18 : ∀ k : Int, k ≠ 7 → k ≠ 8 → h6 90 k = h 90 k := fun k n0 n1 => Eq.trans (y9_ k n0 n1) (Eq.trans (by show (ov_up h 90 7 ((h 90 7) + 1)) 90 k = h 90 k; rw [ov_up_j n0]) rfl)
  have g19 : h6 90 2 = (h 90 2) := y9_ 2 (by decide) (by decide)
  have g20 : h6 90 3 = (h 90 3) := y9_ 3 (by decide) (by decide)
  have g21 : h6 90 13 = (h 90 13) := y9_ 13 (by decide) (by decide)
  have g22 : h6 90 15 = (h 90 15) := y9_ 15 (by decide) (by decide)
  rcases y10 with f23 | f24 | f25
  · have q9 : v4 = 0 ∧ (h 90 8) ≠ 0 ∧ (h6 90 8) = (h 90 8) ∧ (h6 90 7) = ((h 90 7) + 1) ∧ (h6 93 ((h6 90 7))) = (pt_nt t m p) := f23
    omega
  · skip
    show ov_R u d ov_m223 25 [(0, ov_r 90)] [ov_i v4] z5 h6 (P_fMo_readBar_90 F z h t m N p A)
    have f26 : v4 = 0 ∧ (h 90 8) = 0 ∧ (h6 90 8) = pt_fN t m (0 : Int) ((A 0) - 1) (pt_nt t m p) ∧ 1 ≤ (h6 90 8) ∧ (h6 90 7) = ((h 90 7) + 1) ∧ (h6 93 ((h6 90 7))) = (pt_nt t m p) := f24
    clear f24
    refine ov_blk (ls2 := [(0, ov_r 90), (1, ov_i v4)]) (st2 := [ov_r 90, ov_i 0, ov_r 90]) (pc2 := 29) b_223_25_4 rfl rfl ?_
    refine ov_getf (v := ov_r 96) d_223_29 fl_Mo_81 (zb_90 I7) (zs_90 I7) (congrArg ov_r (rg_90_10 I7)) ?_
    refine ov_blk (ls2 := [(0, ov_r 90), (1, ov_i v4)]) (st2 := [ov_i 341, ov_r 96, ov_i 0, ov_r 90]) (pc2 := 35) b_223_32_1 rfl rfl ?_
    refine ov_iald d_223_35 (zb_96 I7) (zs_96 I7) (by omega) ?_
    have e27 : h6 96 341 = (A 1) := Eq.trans (congrFun (show h6 96 = h 96 from E15) 341) (pt_MR_c mr (j := 1) (by omega))
    rw [e27]
    show ov_R u d ov_m223 36 [(0, ov_r 90), (1, ov_i v4)] [ov_i (A 1), ov_i 0, ov_r 90] z5 h6 (P_fMo_readBar_90 F z h t m N p A)
    refine ov_blk (ls2 := [(0, ov_r 90), (1, ov_i v4)]) (st2 := [ov_i ((A 1) - 1), ov_i 0, ov_r 90]) (pc2 := 38) b_223_36_2 rfl rfl ?_
    have cf28 : h6 93 ((h6 90 7)) = h 93 ((h6 90 7)) := congrFun E12 ((h6 90 7))
    refine ov_cV (as := [ov_i 0, ov_i ((A 1) - 1)]) (st := []) (d2 := d - 1) d_223_38 lk_Mo_198 rfl (Nat.le_of_ble_eq_true rfl) (c := 1) (zb_90 I7) (zs_90 I7) ⟨by decide, rfl⟩ (by omega) (c_fMo_takeNumber_90 t m N (pt_nt t m p) (d - 1) (by omega) U I7 0 ((A 1) - 1) (by omega) (by omega) (by show 0 ≤ (h6 90 7) ∧ (h6 90 7) ≤ N; omega) (by show (h6 93 ((h6 90 7))) = (pt_nt t m p); omega) (by show 0 ≤ (h6 90 8); omega) (by rw [show h6 92 = h 92 from E11, show h6 93 = h 93 from E12, show h6 94 = h 94 from E13]; exact mt)) ?_
    rintro _ z30 h31 ⟨v29, rfl, I32, y33, y34, y35⟩
    have E36 : h31 92 = h 92 := Eq.trans (y33 92 (by decide)) (show h6 92 = h 92 from E11)
    have E37 : h31 93 = h 93 := Eq.trans (y33 93 (by decide)) (show h6 93 = h 93 from E12)
    have E38 : h31 94 = h 94 := Eq.trans (y33 94 (by decide)) (show h6 94 = h 94 from E13)
    have E39 : h31 95 = h 95 := Eq.trans (y33 95 (by decide)) (show h6 95 = h 95 from E14)
    have E40 : h31 96 = h 96 := Eq.trans (y33 96 (by decide)) (show h6 96 = h 96 from E15)
    have E41 : h31 99 = h 99 := Eq.trans (y33 99 (by decide)) (show h6 99 = h 99 from E16)
    have fr42 : ∀ a : Int, a ≠ 90 ∧ a ≠ 96 → h31 a = h a := fun a ca => Eq.trans (y33 a (by omega)) (fr17 a ca)
    have y34_ : ∀ k : Int, k ≠ 7 → k ≠ 8 → (h31 90) k = (h6 90) k := y34
    have rk43 : ∀ k : Int, k ≠ 7 → k ≠ 8 → h31 90 k = h 90 k := fun k n0 n1 => Eq.trans (y34_ k n0 n1) (rk18 k n0 n1)
    have g44 : h31 90 2 = (h6 90 2) := y34_ 2 (by decide) (by decide)
    have g45 : h31 90 3 = (h6 90 3) := y34_ 3 (by decide) (by decide)
    have g46 : h31 90 13 = (h6 90 13) := y34_ 13 (by decide) (by decide)
    have g47 : h31 90 15 = (h6 90 15) := y34_ 15 (by decide) (by decide)
    rcases y35 with f48 | f49 | f50
    · skip
      show ov_R u d ov_m223 41 [(0, ov_r 90), (1, ov_i v4)] [ov_i v29] z30 h31 (P_fMo_readBar_90 F z h t m N p A)
      have f51 : v29 = 0 ∧ (h6 90 8) ≠ 0 ∧ (h31 90 8) = (h6 90 8) ∧ (h31 90 7) = (h6 90 7) ∧ (h31 93 ((h31 90 7))) = (pt_nt t m p) := f48
      clear f48
      refine ov_blk (ls2 := [(0, ov_r 90), (1, ov_i v4), (2, ov_i v29)]) (st2 := [ov_r 90]) (pc2 := 43) b_223_41_2 rfl rfl ?_
      refine ov_getf (v := ov_i (h31 90 8)) d_223_43 fl_Mo_180 (zb_90 I32) (zs_90 I32) rfl ?_
      have g52 := rg_90_8 I32
      refine ov_ifle (tgt := 53) d_223_46 (by decide) (by omega) (fun c53 => ?_) (fun c53 => ?_)
      · omega
      · skip
        refine ov_blk (ls2 := [(0, ov_r 90), (1, ov_i v4), (2, ov_i v29)]) (st2 := [ov_i (-1)]) (pc2 := 50) b_223_49_1 rfl rfl ?_
        refine ov_goto (tgt := 60) d_223_50 (by decide) ?_
        refine ov_blk (ls2 := [(0, ov_r 90), (1, ov_i v4), (2, ov_i v29), (3, ov_i (-1))]) (st2 := [ov_i (-1)]) (pc2 := 62) b_223_60_2 rfl rfl ?_
        refine ov_ifge (tgt := 71) d_223_62 (by decide) (by omega) (fun c54 => ?_) (fun c54 => ?_)
        · omega
        · skip
          refine ov_blk (ls2 := [(0, ov_r 90), (1, ov_i v4), (2, ov_i v29), (3, ov_i (-1))]) (st2 := [ov_i 1, ov_r 90]) (pc2 := 67) b_223_65_2 rfl rfl ?_
          have cf55 : h31 93 ((h31 90 7)) = h 93 ((h31 90 7)) := congrFun E37 ((h31 90 7))
          refine ov_cV (as := [ov_i 1]) (st := []) (d2 := d - 1) d_223_67 lk_Mo_186 rfl (Nat.le_of_ble_eq_true rfl) (c := 1) (zb_90 I32) (zs_90 I32) ⟨by decide, rfl⟩ (by omega) (c_fMo_wrong_90 t m N (pt_nt t m p) (d - 1) (by omega) U I32 1 (by omega) (by show 0 ≤ (h31 90 7) ∧ (h31 90 7) ≤ N; omega) (by show (h31 93 ((h31 90 7))) = (pt_nt t m p); omega) (by show 0 ≤ (h31 90 8); omega) (by show 1 ≤ (1 : Int) ∧ (1 : Int) ≤ 5; omega) (by rw [show h31 92 = h 92 from E36, show h31 93 = h 93 from E37, show h31 94 = h 94 from E38]; exact mt)) ?_
          rintro _ z56 h57 ⟨rfl, I58, y59, y60, y61⟩
          have E62 : h57 92 = h 92 := Eq.trans (y59 92 (by decide)) (show h31 92 = h 92 from E36)
          have E63 : h57 93 = h 93 := Eq.trans (y59 93 (by decide)) (show h31 93 = h 93 from E37)
          have E64 : h57 94 = h 94 := Eq.trans (y59 94 (by decide)) (show h31 94 = h 94 from E38)
          have E65 : h57 95 = h 95 := Eq.trans (y59 95 (by decide)) (show h31 95 = h 95 from E39)
          have E66 : h57 96 = h 96 := Eq.trans (y59 96 (by decide)) (show h31 96 = h 96 from E40)
          have E67 : h57 99 = h 99 := Eq.trans (y59 99 (by decide)) (show h31 99 = h 99 from E41)
          have fr68 : ∀ a : Int, a ≠ 90 ∧ a ≠ 96 → h57 a = h a := fun a ca => Eq.trans (y59 a (by omega)) (fr42 a ca)
          have y60_ : ∀ k : Int, k ≠ 8 → (h57 90) k = (h31 90) k := y60
          have rk69 : ∀ k : Int, k ≠ 7 → k ≠ 8 → h57 90 k = h 90 k := fun k n0 n1 => Eq.trans (y60_ k n1) (rk43 k n0 n1)
          have g70 : h57 90 2 = (h31 90 2) := y60_ 2 (by decide)
          have g71 : h57 90 3 = (h31 90 3) := y60_ 3 (by decide)
          have g72 : h57 90 7 = (h31 90 7) := y60_ 7 (by decide)
          have g73 : h57 90 13 = (h31 90 13) := y60_ 13 (by decide)
          have g74 : h57 90 15 = (h31 90 15) := y60_ 15 (by decide)
          rcases y61 with f75 | f76
          · skip
            show ov_R u d ov_m223 70 [(0, ov_r 90), (1, ov_i v4), (2, ov_i v29), (3, ov_i (-1))] [] z56 h57 (P_fMo_readBar_90 F z h t m N p A)
            have f77 : (h31 90 8) ≠ 0 ∧ (h57 90 8) = (h31 90 8) ∧ (h57 93 ((h57 90 7))) = (pt_nt t m p) := f75
            clear f75
            have hF : (pt_brF t m A p) = (h57 90 8) := by unfold pt_brF; (repeat' split) <;> omega
            exact ov_retv (st := []) d_223_70 rfl ⟨rfl, I58, (fun a ca => (fr68 a ca)), (fun k n0 n1 => (rk69 k n0 n1)), (Or.inl (by show (h57 90 8) = (pt_brF t m A p) ∧ 1 ≤ (h57 90 8) ∧ (h 90 7) ≤ (h57 90 7) ∧ (h57 90 7) ≤ N; omega))⟩
          · omega
    · omega
    · omega
  · skip
    show ov_R u d ov_m223 25 [(0, ov_r 90)] [ov_i v4] z5 h6 (P_fMo_readBar_90 F z h t m N p A)
    have f78 : (h 90 8) = 0 ∧ (h6 90 8) = 0 ∧ pt_fN t m (0 : Int) ((A 0) - 1) (pt_nt t m p) = 0 ∧ pt_ty t m (pt_nt t m p) = 3 ∧ (0 : Int) ≤ v4 ∧ v4 ≤ ((A 0) - 1) ∧ v4 = pt_nm t m (pt_nt t m p) ∧ 0 ≤ v4 ∧ v4 ≤ 9999 ∧ (h6 90 7) = ((h 90 7) + 1) + 1 ∧ (h6 90 7) ≤ N ∧ (h6 93 ((h6 90 7))) = pt_nt t m (pt_nt t m p) := f25
    clear f25
    refine ov_blk (ls2 := [(0, ov_r 90), (1, ov_i v4)]) (st2 := [ov_r 90, ov_i 0, ov_r 90]) (pc2 := 29) b_223_25_4 rfl rfl ?_
    refine ov_getf (v := ov_r 96) d_223_29 fl_Mo_81 (zb_90 I7) (zs_90 I7) (congrArg ov_r (rg_90_10 I7)) ?_
    refine ov_blk (ls2 := [(0, ov_r 90), (1, ov_i v4)]) (st2 := [ov_i 341, ov_r 96, ov_i 0, ov_r 90]) (pc2 := 35) b_223_32_1 rfl rfl ?_
    refine ov_iald d_223_35 (zb_96 I7) (zs_96 I7) (by omega) ?_
    have e79 : h6 96 341 = (A 1) := Eq.trans (congrFun (show h6 96 = h 96 from E15) 341) (pt_MR_c mr (j := 1) (by omega))
    rw [e79]
    show ov_R u d ov_m223 36 [(0, ov_r 90), (1, ov_i v4)] [ov_i (A 1), ov_i 0, ov_r 90] z5 h6 (P_fMo_readBar_90 F z h t m N p A)
    refine ov_blk (ls2 := [(0, ov_r 90), (1, ov_i v4)]) (st2 := [ov_i ((A 1) - 1), ov_i 0, ov_r 90]) (pc2 := 38) b_223_36_2 rfl rfl ?_
    have cf80 : h6 93 ((h6 90 7)) = h 93 ((h6 90 7)) := congrFun E12 ((h6 90 7))
    refine ov_cV (as := [ov_i 0, ov_i ((A 1) - 1)]) (st := []) (d2 := d - 1) d_223_38 lk_Mo_198 rfl (Nat.le_of_ble_eq_true rfl) (c := 1) (zb_90 I7) (zs_90 I7) ⟨by decide, rfl⟩ (by omega) (c_fMo_takeNumber_90 t m N (pt_nt t m (pt_nt t m p)) (d - 1) (by omega) U I7 0 ((A 1) - 1) (by omega) (by omega) (by show 0 ≤ (h6 90 7) ∧ (h6 90 7) ≤ N; omega) (by show (h6 93 ((h6 90 7))) = (pt_nt t m (pt_nt t m p)); omega) (by show 0 ≤ (h6 90 8); omega) (by rw [show h6 92 = h 92 from E11, show h6 93 = h 93 from E12, show h6 94 = h 94 from E13]; exact mt)) ?_
    rintro _ z82 h83 ⟨v81, rfl, I84, y85, y86, y87⟩
    have E88 : h83 92 = h 92 := Eq.trans (y85 92 (by decide)) (show h6 92 = h 92 from E11)
    have E89 : h83 93 = h 93 := Eq.trans (y85 93 (by decide)) (show h6 93 = h 93 from E12)
    have E90 : h83 94 = h 94 := Eq.trans (y85 94 (by decide)) (show h6 94 = h 94 from E13)
    have E91 : h83 95 = h 95 := Eq.trans (y85 95 (by decide)) (show h6 95 = h 95 from E14)
    have E92 : h83 96 = h 96 := Eq.trans (y85 96 (by decide)) (show h6 96 = h 96 from E15)
    have E93 : h83 99 = h 99 := Eq.trans (y85 99 (by decide)) (show h6 99 = h 99 from E16)
    have fr94 : ∀ a : Int, a ≠ 90 ∧ a ≠ 96 → h83 a = h a := fun a ca => Eq.trans (y85 a (by omega)) (fr17 a ca)
    have y86_ : ∀ k : Int, k ≠ 7 → k ≠ 8 → (h83 90) k = (h6 90) k := y86
    have rk95 : ∀ k : Int, k ≠ 7 → k ≠ 8 → h83 90 k = h 90 k := fun k n0 n1 => Eq.trans (y86_ k n0 n1) (rk18 k n0 n1)
    have g96 : h83 90 2 = (h6 90 2) := y86_ 2 (by decide) (by decide)
    have g97 : h83 90 3 = (h6 90 3) := y86_ 3 (by decide) (by decide)
    have g98 : h83 90 13 = (h6 90 13) := y86_ 13 (by decide) (by decide)
    have g99 : h83 90 15 = (h6 90 15) := y86_ 15 (by decide) (by decide)
    rcases y87 with f100 | f101 | f102
    · omega
    · skip
      show ov_R u d ov_m223 41 [(0, ov_r 90), (1, ov_i v4)] [ov_i v81] z82 h83 (P_fMo_readBar_90 F z h t m N p A)
      have f103 : v81 = 0 ∧ (h6 90 8) = 0 ∧ (h83 90 8) = pt_fN t m (0 : Int) ((A 1) - 1) (pt_nt t m (pt_nt t m p)) ∧ 1 ≤ (h83 90 8) ∧ (h83 90 7) = (h6 90 7) ∧ (h83 93 ((h83 90 7))) = (pt_nt t m (pt_nt t m p)) := f101
      clear f101
      refine ov_blk (ls2 := [(0, ov_r 90), (1, ov_i v4), (2, ov_i v81)]) (st2 := [ov_r 90]) (pc2 := 43) b_223_41_2 rfl rfl ?_
      refine ov_getf (v := ov_i (h83 90 8)) d_223_43 fl_Mo_180 (zb_90 I84) (zs_90 I84) rfl ?_
      have g104 := rg_90_8 I84
      refine ov_ifle (tgt := 53) d_223_46 (by decide) (by omega) (fun c105 => ?_) (fun c105 => ?_)
      · omega
      · skip
        refine ov_blk (ls2 := [(0, ov_r 90), (1, ov_i v4), (2, ov_i v81)]) (st2 := [ov_i (-1)]) (pc2 := 50) b_223_49_1 rfl rfl ?_
        refine ov_goto (tgt := 60) d_223_50 (by decide) ?_
        refine ov_blk (ls2 := [(0, ov_r 90), (1, ov_i v4), (2, ov_i v81), (3, ov_i (-1))]) (st2 := [ov_i (-1)]) (pc2 := 62) b_223_60_2 rfl rfl ?_
        refine ov_ifge (tgt := 71) d_223_62 (by decide) (by omega) (fun c106 => ?_) (fun c106 => ?_)
        · omega
        · skip
          refine ov_blk (ls2 := [(0, ov_r 90), (1, ov_i v4), (2, ov_i v81), (3, ov_i (-1))]) (st2 := [ov_i 1, ov_r 90]) (pc2 := 67) b_223_65_2 rfl rfl ?_
          have cf107 : h83 93 ((h83 90 7)) = h 93 ((h83 90 7)) := congrFun E89 ((h83 90 7))
          refine ov_cV (as := [ov_i 1]) (st := []) (d2 := d - 1) d_223_67 lk_Mo_186 rfl (Nat.le_of_ble_eq_true rfl) (c := 1) (zb_90 I84) (zs_90 I84) ⟨by decide, rfl⟩ (by omega) (c_fMo_wrong_90 t m N (pt_nt t m (pt_nt t m p)) (d - 1) (by omega) U I84 1 (by omega) (by show 0 ≤ (h83 90 7) ∧ (h83 90 7) ≤ N; omega) (by show (h83 93 ((h83 90 7))) = (pt_nt t m (pt_nt t m p)); omega) (by show 0 ≤ (h83 90 8); omega) (by show 1 ≤ (1 : Int) ∧ (1 : Int) ≤ 5; omega) (by rw [show h83 92 = h 92 from E88, show h83 93 = h 93 from E89, show h83 94 = h 94 from E90]; exact mt)) ?_
          rintro _ z108 h109 ⟨rfl, I110, y111, y112, y113⟩
          have E114 : h109 92 = h 92 := Eq.trans (y111 92 (by decide)) (show h83 92 = h 92 from E88)
          have E115 : h109 93 = h 93 := Eq.trans (y111 93 (by decide)) (show h83 93 = h 93 from E89)
          have E116 : h109 94 = h 94 := Eq.trans (y111 94 (by decide)) (show h83 94 = h 94 from E90)
          have E117 : h109 95 = h 95 := Eq.trans (y111 95 (by decide)) (show h83 95 = h 95 from E91)
          have E118 : h109 96 = h 96 := Eq.trans (y111 96 (by decide)) (show h83 96 = h 96 from E92)
          have E119 : h109 99 = h 99 := Eq.trans (y111 99 (by decide)) (show h83 99 = h 99 from E93)
          have fr120 : ∀ a : Int, a ≠ 90 ∧ a ≠ 96 → h109 a = h a := fun a ca => Eq.trans (y111 a (by omega)) (fr94 a ca)
          have y112_ : ∀ k : Int, k ≠ 8 → (h109 90) k = (h83 90) k := y112
          have rk121 : ∀ k : Int, k ≠ 7 → k ≠ 8 → h109 90 k = h 90 k := fun k n0 n1 => Eq.trans (y112_ k n1) (rk95 k n0 n1)
          have g122 : h109 90 2 = (h83 90 2) := y112_ 2 (by decide)
          have g123 : h109 90 3 = (h83 90 3) := y112_ 3 (by decide)
          have g124 : h109 90 7 = (h83 90 7) := y112_ 7 (by decide)
          have g125 : h109 90 13 = (h83 90 13) := y112_ 13 (by decide)
          have g126 : h109 90 15 = (h83 90 15) := y112_ 15 (by decide)
          rcases y113 with f127 | f128
          · skip
            show ov_R u d ov_m223 70 [(0, ov_r 90), (1, ov_i v4), (2, ov_i v81), (3, ov_i (-1))] [] z108 h109 (P_fMo_readBar_90 F z h t m N p A)
            have f129 : (h83 90 8) ≠ 0 ∧ (h109 90 8) = (h83 90 8) ∧ (h109 93 ((h109 90 7))) = (pt_nt t m (pt_nt t m p)) := f127
            clear f127
            have hF : (pt_brF t m A p) = (h109 90 8) := by unfold pt_brF; (repeat' split) <;> omega
            exact ov_retv (st := []) d_223_70 rfl ⟨rfl, I110, (fun a ca => (fr120 a ca)), (fun k n0 n1 => (rk121 k n0 n1)), (Or.inl (by show (h109 90 8) = (pt_brF t m A p) ∧ 1 ≤ (h109 90 8) ∧ (h 90 7) ≤ (h109 90 7) ∧ (h109 90 7) ≤ N; omega))⟩
          · omega
    · skip
      show ov_R u d ov_m223 41 [(0, ov_r 90), (1, ov_i v4)] [ov_i v81] z82 h83 (P_fMo_readBar_90 F z h t m N p A)
      have f130 : (h6 90 8) = 0 ∧ (h83 90 8) = 0 ∧ pt_fN t m (0 : Int) ((A 1) - 1) (pt_nt t m (pt_nt t m p)) = 0 ∧ pt_ty t m (pt_nt t m (pt_nt t m p)) = 3 ∧ (0 : Int) ≤ v81 ∧ v81 ≤ ((A 1) - 1) ∧ v81 = pt_nm t m (pt_nt t m (pt_nt t m p)) ∧ 0 ≤ v81 ∧ v81 ≤ 9999 ∧ (h83 90 7) = (h6 90 7) + 1 ∧ (h83 90 7) ≤ N ∧ (h83 93 ((h83 90 7))) = pt_nt t m (pt_nt t m (pt_nt t m p)) := f102
      clear f102
      refine ov_blk (ls2 := [(0, ov_r 90), (1, ov_i v4), (2, ov_i v81)]) (st2 := [ov_r 90]) (pc2 := 43) b_223_41_2 rfl rfl ?_
      refine ov_getf (v := ov_i (h83 90 8)) d_223_43 fl_Mo_180 (zb_90 I84) (zs_90 I84) rfl ?_
      have g131 := rg_90_8 I84
      refine ov_ifle (tgt := 53) d_223_46 (by decide) (by omega) (fun c132 => ?_) (fun c132 => ?_)
      · skip
        refine ov_blk (ls2 := [(0, ov_r 90), (1, ov_i v4), (2, ov_i v81)]) (st2 := [ov_i 2, ov_i 10, ov_r 90]) (pc2 := 57) b_223_53_3 rfl rfl ?_
        have cf133 : h83 93 ((h83 90 7)) = h 93 ((h83 90 7)) := congrFun E89 ((h83 90 7))
        refine ov_cV (as := [ov_i 10, ov_i 2]) (st := []) (d2 := d - 1) d_223_57 lk_Mo_202 rfl (Nat.le_of_ble_eq_true rfl) (c := 1) (zb_90 I84) (zs_90 I84) ⟨by decide, rfl⟩ (by omega) (c_fMo_wordHere_90 t m N (pt_nt t m (pt_nt t m (pt_nt t m p))) (d - 1) (by omega) U I84 10 2 (by omega) (by omega) (by show 0 ≤ (h83 90 7) ∧ (h83 90 7) ≤ N; omega) (by show (h83 93 ((h83 90 7))) = (pt_nt t m (pt_nt t m (pt_nt t m p))); omega) (by show 0 ≤ (h83 90 8); omega) (by show 0 ≤ (10 : Int) ∧ 0 ≤ (2 : Int) ∧ (10 : Int) + (2 : Int) ≤ 22; omega) (by rw [show h83 92 = h 92 from E88, show h83 93 = h 93 from E89, show h83 94 = h 94 from E90]; exact mt) (by rw [show h83 95 = h 95 from E91]; exact wd)) ?_
        rintro _ _ _ ⟨v134, rfl, rfl, rfl, f135⟩
        have f136 : ((h83 90 8) ≠ 0 ∧ v134 = -1 ∨ (h83 90 8) = 0 ∧ v134 = pt_wh t m (pt_nt t m (pt_nt t m (pt_nt t m p))) (10 : Int) (Int.toNat (2 : Int))) ∧ -1 ≤ v134 ∧ v134 ≤ (2 : Int) := f135
        clear f135
        show ov_R u d ov_m223 60 [(0, ov_r 90), (1, ov_i v4), (2, ov_i v81)] [ov_i v134] z82 h83 (P_fMo_readBar_90 F z h t m N p A)
        have wv : v134 = (pt_wt t m (pt_nt t m (pt_nt t m (pt_nt t m p)))) := by have := pt_wh_wt (t := t) (m := m) (p := (pt_nt t m (pt_nt t m (pt_nt t m p)))); omega
        refine ov_blk (ls2 := [(0, ov_r 90), (1, ov_i v4), (2, ov_i v81), (3, ov_i v134)]) (st2 := [ov_i v134]) (pc2 := 62) b_223_60_2 rfl rfl ?_
        refine ov_ifge (tgt := 71) d_223_62 (by decide) (by omega) (fun c137 => ?_) (fun c137 => ?_)
        · skip
          refine ov_blk (ls2 := [(0, ov_r 90), (1, ov_i v4), (2, ov_i v81), (3, ov_i v134), (4, ov_i ((566 + (6 * v81)) + v4))]) (st2 := [ov_r 90]) (pc2 := 84) b_223_71_9 rfl rfl ?_
          refine ov_getf (v := ov_r 96) d_223_84 fl_Mo_81 (zb_90 I84) (zs_90 I84) (congrArg ov_r (rg_90_10 I84)) ?_
          refine ov_blk (ls2 := [(0, ov_r 90), (1, ov_i v4), (2, ov_i v81), (3, ov_i v134), (4, ov_i ((566 + (6 * v81)) + v4))]) (st2 := [ov_i ((566 + (6 * v81)) + v4), ov_r 96]) (pc2 := 89) b_223_87_1 rfl rfl ?_
          refine ov_iald d_223_89 (zb_96 I84) (zs_96 I84) (by omega) ?_
          have e138 : h83 96 ((566 + (6 * v81)) + v4) = (A (((566 + (6 * v81)) + v4) - 340)) := Eq.trans (congrFun (show h83 96 = h 96 from E92) ((566 + (6 * v81)) + v4)) (pt_MR_i mr (k := ((566 + (6 * v81)) + v4)) (by omega))
          rw [e138]
          show ov_R u d ov_m223 90 [(0, ov_r 90), (1, ov_i v4), (2, ov_i v81), (3, ov_i v134), (4, ov_i ((566 + (6 * v81)) + v4))] [ov_i (A (((566 + (6 * v81)) + v4) - 340))] z82 h83 (P_fMo_readBar_90 F z h t m N p A)
          have wy := pt_wt_ty (t := t) (m := m) (p := (pt_nt t m (pt_nt t m (pt_nt t m p)))) (by omega)
          have ix : ((566 + (6 * v81)) + v4) - 340 = 226 + ((pt_nm t m (pt_nt t m p)) + 6 * (pt_nm t m (pt_nt t m (pt_nt t m p)))) := by omega
          have ek : ov_and (ov_shr (A (((566 + (6 * v81)) + v4) - 340)) v134) 1 = ov_and (ov_shr (A (226 + ((pt_nm t m (pt_nt t m p)) + 6 * (pt_nm t m (pt_nt t m (pt_nt t m p)))))) (pt_wt t m (pt_nt t m (pt_nt t m (pt_nt t m p))))) 1 := by rw [ix, wv]
          refine ov_blk (ls2 := [(0, ov_r 90), (1, ov_i v4), (2, ov_i v81), (3, ov_i v134), (4, ov_i ((566 + (6 * v81)) + v4))]) (st2 := [ov_i 1, ov_i (ov_and (ov_shr (A (((566 + (6 * v81)) + v4) - 340)) v134) 1)]) (pc2 := 95) b_223_90_5 rfl rfl ?_
          have g139 := ov_shrg (A (((566 + (6 * v81)) + v4) - 340)) v134
          have g140 := ov_andg (ov_shr (A (((566 + (6 * v81)) + v4) - 340)) v134) 1
          have g141 := ov_and1 (ov_shr (A (((566 + (6 * v81)) + v4) - 340)) v134)
          refine ov_icne (tgt := 104) d_223_95 (by decide) (by omega) (by omega) (fun c142 => ?_) (fun c142 => ?_)
          · skip
            refine ov_blk (ls2 := [(0, ov_r 90), (1, ov_i v4), (2, ov_i v81), (3, ov_i v134), (4, ov_i ((566 + (6 * v81)) + v4))]) (st2 := [ov_r 90, ov_r 90]) (pc2 := 106) b_223_104_2 rfl rfl ?_
            refine ov_getf (v := ov_i (h83 90 7)) d_223_106 fl_Mo_177 (zb_90 I84) (zs_90 I84) rfl ?_
            have g143 := rg_90_7 I84
            refine ov_blk (ls2 := [(0, ov_r 90), (1, ov_i v4), (2, ov_i v81), (3, ov_i v134), (4, ov_i ((566 + (6 * v81)) + v4))]) (st2 := [ov_i ((h83 90 7) + 1), ov_r 90]) (pc2 := 111) b_223_109_2 rfl rfl ?_
            have pp : h 93 (h83 90 7) = (pt_nt t m (pt_nt t m (pt_nt t m p))) := Eq.trans (congrFun (show h 93 = h83 93 from (E89).symm) _) (by show h83 93 (h83 90 7) = (pt_nt t m (pt_nt t m (pt_nt t m p))); omega)
            have kn := pt_MT_lt mt (k := h83 90 7) ⟨by omega, by omega⟩ (by rw [pp]; omega)
            have mn := pt_MT_nx mt (k := h83 90 7) ⟨by omega, by omega⟩
            rw [pp] at mn
            have mq : h83 93 (h83 90 7 + 1) = pt_nt t m (pt_nt t m (pt_nt t m (pt_nt t m p))) := Eq.trans (congrFun (show h83 93 = h 93 from E89) _) mn
            refine ov_putf (x := ((h83 90 7) + 1)) d_223_111 fl_Mo_177 (zb_90 I84) (zs_90 I84) rfl nk_0 rfl ?_
            have I144 := up_90_7 (x := ((h83 90 7) + 1)) I84 (by omega)
            show ov_R u d ov_m223 114 [(0, ov_r 90), (1, ov_i v4), (2, ov_i v81), (3, ov_i v134), (4, ov_i ((566 + (6 * v81)) + v4))] [] z82 (ov_up h83 90 7 ((h83 90 7) + 1)) (P_fMo_readBar_90 F z h t m N p A)
            refine ov_blk (ls2 := [(0, ov_r 90), (1, ov_i v4), (2, ov_i v81), (3, ov_i v134), (4, ov_i ((566 + (6 * v81)) + v4))]) (st2 := [ov_r 90]) (pc2 := 115) b_223_114_1 rfl rfl ?_
            refine ov_getf (v := ov_r 96) d_223_115 fl_Mo_81 (zb_90 I144) (zs_90 I144) (congrArg ov_r (rg_90_10 I144)) ?_
            refine ov_blk (ls2 := [(0, ov_r 90), (1, ov_i v4), (2, ov_i v81), (3, ov_i v134), (4, ov_i ((566 + (6 * v81)) + v4))]) (st2 := [ov_i ((566 + (6 * v81)) + v4), ov_r 96, ov_i ((566 + (6 * v81)) + v4), ov_r 96]) (pc2 := 121) b_223_118_2 rfl rfl ?_
            refine ov_iald d_223_121 (zb_96 I144) (zs_96 I144) (by omega) ?_
            have e145 : (ov_up h83 90 7 ((h83 90 7) + 1)) 96 ((566 + (6 * v81)) + v4) = (A (((566 + (6 * v81)) + v4) - 340)) := Eq.trans (congrFun (show (ov_up h83 90 7 ((h83 90 7) + 1)) 96 = h 96 from E92) ((566 + (6 * v81)) + v4)) (pt_MR_i mr (k := ((566 + (6 * v81)) + v4)) (by omega))
            show ov_R u d ov_m223 122 [(0, ov_r 90), (1, ov_i v4), (2, ov_i v81), (3, ov_i v134), (4, ov_i ((566 + (6 * v81)) + v4))] [ov_i ((ov_up h83 90 7 ((h83 90 7) + 1)) 96 ((566 + (6 * v81)) + v4)), ov_i ((566 + (6 * v81)) + v4), ov_r 96] z82 (ov_up h83 90 7 ((h83 90 7) + 1)) (P_fMo_readBar_90 F z h t m N p A)
            rw [e145]
            show ov_R u d ov_m223 122 [(0, ov_r 90), (1, ov_i v4), (2, ov_i v81), (3, ov_i v134), (4, ov_i ((566 + (6 * v81)) + v4))] [ov_i (A (((566 + (6 * v81)) + v4) - 340)), ov_i ((566 + (6 * v81)) + v4), ov_r 96] z82 (ov_up h83 90 7 ((h83 90 7) + 1)) (P_fMo_readBar_90 F z h t m N p A)
            refine ov_blk (ls2 := [(0, ov_r 90), (1, ov_i v4), (2, ov_i v81), (3, ov_i v134), (4, ov_i ((566 + (6 * v81)) + v4))]) (st2 := [ov_i (ov_or (A (((566 + (6 * v81)) + v4) - 340)) (ov_shl 1 v134)), ov_i ((566 + (6 * v81)) + v4), ov_r 96]) (pc2 := 126) b_223_122_4 rfl rfl ?_
            have g146 := ov_shlg 1 v134
            have g147 := ov_org (A (((566 + (6 * v81)) + v4) - 340)) (ov_shl 1 v134)
            refine ov_iast d_223_126 (zb_96 I144) (zs_96 I144) (by omega) ?_
            have I148 := ua_96 (k := ((566 + (6 * v81)) + v4)) (x := (ov_or (A (((566 + (6 * v81)) + v4) - 340)) (ov_shl 1 v134))) I144 (by refine ⟨?_, ?_, ?_, ?_, ?_, ?_, ?_, ?_, ?_, ?_, ?_, ?_, ?_, ?_, ?_, ?_, ?_, ?_, ?_, ?_, ?_, ?_, ?_, ?_, ?_, ?_, ?_, ?_, ?_⟩ <;> omega)
            have hF : (pt_brF t m A p) = 0 := by unfold pt_brF; (repeat' split) <;> omega
            have m1 : (ov_up (ov_up h83 90 7 ((h83 90 7) + 1)) 96 ((566 + (6 * v81)) + v4) (ov_or (A (((566 + (6 * v81)) + v4) - 340)) (ov_shl 1 v134))) 96 = ov_rs (h 96) (340 + (226 + ((pt_nm t m (pt_nt t m p)) + 6 * (pt_nm t m (pt_nt t m (pt_nt t m p)))))) (ov_or (A (226 + ((pt_nm t m (pt_nt t m p)) + 6 * (pt_nm t m (pt_nt t m (pt_nt t m p)))))) (ov_shl 1 (pt_wt t m (pt_nt t m (pt_nt t m (pt_nt t m p)))))) := by rw [show (ov_up (ov_up h83 90 7 ((h83 90 7) + 1)) 96 ((566 + (6 * v81)) + v4) (ov_or (A (((566 + (6 * v81)) + v4) - 340)) (ov_shl 1 v134))) 96 = (ov_rs (h 96) ((566 + (6 * v81)) + v4) (ov_or (A (((566 + (6 * v81)) + v4) - 340)) (ov_shl 1 v134))) from (Eq.trans (ov_up_row (ov_up h83 90 7 ((h83 90 7) + 1)) 96 ((566 + (6 * v81)) + v4) (ov_or (A (((566 + (6 * v81)) + v4) - 340)) (ov_shl 1 v134))) (congrArg (fun f => ov_rs f ((566 + (6 * v81)) + v4) (ov_or (A (((566 + (6 * v81)) + v4) - 340)) (ov_shl 1 v134))) (Eq.trans (show (ov_up h83 90 7 ((h83 90 7) + 1)) 96 = h83 96 from rfl) E92))), ix, wv, show ((566 + (6 * v81)) + v4) = 340 + (226 + ((pt_nm t m (pt_nt t m p)) + 6 * (pt_nm t m (pt_nt t m (pt_nt t m p))))) by omega]
            have m2 : (h83 90 15) = (h 90 15) := by omega
            have m3 : (ov_up (ov_up h83 90 7 ((h83 90 7) + 1)) 96 ((566 + (6 * v81)) + v4) (ov_or (A (((566 + (6 * v81)) + v4) - 340)) (ov_shl 1 v134))) 99 = h 99 := E93
            exact ov_retv (st := []) d_223_127 rfl ⟨rfl, I148, (fun a ca => Eq.trans (by show (ov_up (ov_up h83 90 7 ((h83 90 7) + 1)) 96 ((566 + (6 * v81)) + v4) (ov_or (A (((566 + (6 * v81)) + v4) - 340)) (ov_shl 1 v134))) a = h83 a; rw [ov_up_ne (by omega), ov_up_ne (by omega)]) (fr94 a ca)), (fun k n0 n1 => (Eq.trans (by show (ov_up (ov_up h83 90 7 ((h83 90 7) + 1)) 96 ((566 + (6 * v81)) + v4) (ov_or (A (((566 + (6 * v81)) + v4) - 340)) (ov_shl 1 v134))) 90 k = h83 90 k; rw [ov_up_ne (by decide), ov_up_j n0]) (rk95 k n0 n1))), (Or.inr ⟨(by show (pt_brF t m A p) = 0 ∧ (h83 90 8) = 0 ∧ (h 90 7) ≤ ((h83 90 7) + 1) ∧ ((h83 90 7) + 1) ≤ N ∧ 0 ≤ (h83 90 13) ∧ (h83 90 13) ≤ ((h83 90 7) + 1) ∧ (h83 93 (((h83 90 7) + 1))) = (pt_nt t m (pt_nt t m (pt_nt t m (pt_nt t m p)))); omega), (by show pt_MR t m (pt_brA t m A p) ((ov_up (ov_up h83 90 7 ((h83 90 7) + 1)) 96 ((566 + (6 * v81)) + v4) (ov_or (A (((566 + (6 * v81)) + v4) - 340)) (ov_shl 1 v134))) 96) ((h83 90 15)) ((ov_up (ov_up h83 90 7 ((h83 90 7) + 1)) 96 ((566 + (6 * v81)) + v4) (ov_or (A (((566 + (6 * v81)) + v4) - 340)) (ov_shl 1 v134))) 99); rw [m1, m2, m3]; exact pt_MR_set mr (by omega))⟩)⟩
          · skip
            refine ov_blk (ls2 := [(0, ov_r 90), (1, ov_i v4), (2, ov_i v81), (3, ov_i v134), (4, ov_i ((566 + (6 * v81)) + v4))]) (st2 := [ov_i 3, ov_r 90]) (pc2 := 100) b_223_98_2 rfl rfl ?_
            refine ov_cV (as := [ov_i 3]) (st := []) (d2 := d - 1) d_223_100 lk_Mo_186 rfl (Nat.le_of_ble_eq_true rfl) (c := 1) (zb_90 I84) (zs_90 I84) ⟨by decide, rfl⟩ (by omega) (c_fMo_wrong_90 t m N (pt_nt t m (pt_nt t m (pt_nt t m p))) (d - 1) (by omega) U I84 3 (by omega) (by show 0 ≤ (h83 90 7) ∧ (h83 90 7) ≤ N; omega) (by show (h83 93 ((h83 90 7))) = (pt_nt t m (pt_nt t m (pt_nt t m p))); omega) (by show 0 ≤ (h83 90 8); omega) (by show 1 ≤ (3 : Int) ∧ (3 : Int) ≤ 5; omega) (by rw [show h83 92 = h 92 from E88, show h83 93 = h 93 from E89, show h83 94 = h 94 from E90]; exact mt)) ?_
            rintro _ z149 h150 ⟨rfl, I151, y152, y153, y154⟩
            have E155 : h150 92 = h 92 := Eq.trans (y152 92 (by decide)) (show h83 92 = h 92 from E88)
            have E156 : h150 93 = h 93 := Eq.trans (y152 93 (by decide)) (show h83 93 = h 93 from E89)
            have E157 : h150 94 = h 94 := Eq.trans (y152 94 (by decide)) (show h83 94 = h 94 from E90)
            have E158 : h150 95 = h 95 := Eq.trans (y152 95 (by decide)) (show h83 95 = h 95 from E91)
            have E159 : h150 96 = h 96 := Eq.trans (y152 96 (by decide)) (show h83 96 = h 96 from E92)
            have E160 : h150 99 = h 99 := Eq.trans (y152 99 (by decide)) (show h83 99 = h 99 from E93)
            have fr161 : ∀ a : Int, a ≠ 90 ∧ a ≠ 96 → h150 a = h a := fun a ca => Eq.trans (y152 a (by omega)) (fr94 a ca)
            have y153_ : ∀ k : Int, k ≠ 8 → (h150 90) k = (h83 90) k := y153
            have rk162 : ∀ k : Int, k ≠ 7 → k ≠ 8 → h150 90 k = h 90 k := fun k n0 n1 => Eq.trans (y153_ k n1) (rk95 k n0 n1)
            have g163 : h150 90 2 = (h83 90 2) := y153_ 2 (by decide)
            have g164 : h150 90 3 = (h83 90 3) := y153_ 3 (by decide)
            have g165 : h150 90 7 = (h83 90 7) := y153_ 7 (by decide)
            have g166 : h150 90 13 = (h83 90 13) := y153_ 13 (by decide)
            have g167 : h150 90 15 = (h83 90 15) := y153_ 15 (by decide)
            rcases y154 with f168 | f169
            · omega
            · skip
              show ov_R u d ov_m223 103 [(0, ov_r 90), (1, ov_i v4), (2, ov_i v81), (3, ov_i v134), (4, ov_i ((566 + (6 * v81)) + v4))] [] z149 h150 (P_fMo_readBar_90 F z h t m N p A)
              have f170 : (h83 90 8) = 0 ∧ (h150 90 8) = (3 : Int) + 16 * (pt_nt t m (pt_nt t m (pt_nt t m p))) ∧ (h150 93 ((h150 90 7))) = (pt_nt t m (pt_nt t m (pt_nt t m p))) := f169
              clear f169
              have hF : (pt_brF t m A p) = (h150 90 8) := by unfold pt_brF; (repeat' split) <;> omega
              exact ov_retv (st := []) d_223_103 rfl ⟨rfl, I151, (fun a ca => (fr161 a ca)), (fun k n0 n1 => (rk162 k n0 n1)), (Or.inl (by show (h150 90 8) = (pt_brF t m A p) ∧ 1 ≤ (h150 90 8) ∧ (h 90 7) ≤ (h150 90 7) ∧ (h150 90 7) ≤ N; omega))⟩
        · skip
          refine ov_blk (ls2 := [(0, ov_r 90), (1, ov_i v4), (2, ov_i v81), (3, ov_i v134)]) (st2 := [ov_i 1, ov_r 90]) (pc2 := 67) b_223_65_2 rfl rfl ?_
          refine ov_cV (as := [ov_i 1]) (st := []) (d2 := d - 1) d_223_67 lk_Mo_186 rfl (Nat.le_of_ble_eq_true rfl) (c := 1) (zb_90 I84) (zs_90 I84) ⟨by decide, rfl⟩ (by omega) (c_fMo_wrong_90 t m N (pt_nt t m (pt_nt t m (pt_nt t m p))) (d - 1) (by omega) U I84 1 (by omega) (by show 0 ≤ (h83 90 7) ∧ (h83 90 7) ≤ N; omega) (by show (h83 93 ((h83 90 7))) = (pt_nt t m (pt_nt t m (pt_nt t m p))); omega) (by show 0 ≤ (h83 90 8); omega) (by show 1 ≤ (1 : Int) ∧ (1 : Int) ≤ 5; omega) (by rw [show h83 92 = h 92 from E88, show h83 93 = h 93 from E89, show h83 94 = h 94 from E90]; exact mt)) ?_
          rintro _ z171 h172 ⟨rfl, I173, y174, y175, y176⟩
          have E177 : h172 92 = h 92 := Eq.trans (y174 92 (by decide)) (show h83 92 = h 92 from E88)
          have E178 : h172 93 = h 93 := Eq.trans (y174 93 (by decide)) (show h83 93 = h 93 from E89)
          have E179 : h172 94 = h 94 := Eq.trans (y174 94 (by decide)) (show h83 94 = h 94 from E90)
          have E180 : h172 95 = h 95 := Eq.trans (y174 95 (by decide)) (show h83 95 = h 95 from E91)
          have E181 : h172 96 = h 96 := Eq.trans (y174 96 (by decide)) (show h83 96 = h 96 from E92)
          have E182 : h172 99 = h 99 := Eq.trans (y174 99 (by decide)) (show h83 99 = h 99 from E93)
          have fr183 : ∀ a : Int, a ≠ 90 ∧ a ≠ 96 → h172 a = h a := fun a ca => Eq.trans (y174 a (by omega)) (fr94 a ca)
          have y175_ : ∀ k : Int, k ≠ 8 → (h172 90) k = (h83 90) k := y175
          have rk184 : ∀ k : Int, k ≠ 7 → k ≠ 8 → h172 90 k = h 90 k := fun k n0 n1 => Eq.trans (y175_ k n1) (rk95 k n0 n1)
          have g185 : h172 90 2 = (h83 90 2) := y175_ 2 (by decide)
          have g186 : h172 90 3 = (h83 90 3) := y175_ 3 (by decide)
          have g187 : h172 90 7 = (h83 90 7) := y175_ 7 (by decide)
          have g188 : h172 90 13 = (h83 90 13) := y175_ 13 (by decide)
          have g189 : h172 90 15 = (h83 90 15) := y175_ 15 (by decide)
          rcases y176 with f190 | f191
          · omega
          · skip
            show ov_R u d ov_m223 70 [(0, ov_r 90), (1, ov_i v4), (2, ov_i v81), (3, ov_i v134)] [] z171 h172 (P_fMo_readBar_90 F z h t m N p A)
            have f192 : (h83 90 8) = 0 ∧ (h172 90 8) = (1 : Int) + 16 * (pt_nt t m (pt_nt t m (pt_nt t m p))) ∧ (h172 93 ((h172 90 7))) = (pt_nt t m (pt_nt t m (pt_nt t m p))) := f191
            clear f191
            have hF : (pt_brF t m A p) = (h172 90 8) := by unfold pt_brF; (repeat' split) <;> omega
            exact ov_retv (st := []) d_223_70 rfl ⟨rfl, I173, (fun a ca => (fr183 a ca)), (fun k n0 n1 => (rk184 k n0 n1)), (Or.inl (by show (h172 90 8) = (pt_brF t m A p) ∧ 1 ≤ (h172 90 8) ∧ (h 90 7) ≤ (h172 90 7) ∧ (h172 90 7) ≤ N; omega))⟩
      · omega

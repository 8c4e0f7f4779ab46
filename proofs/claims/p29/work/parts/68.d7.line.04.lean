abbrev P_fMo_readLight_90 (F : ov_H × ov_Z) (z : ov_Z) (h : ov_H) (t : Int → Int) (m : Int) (N : Int) (p : Int) (A : Int → Int) : Option ov_V → ov_Z → ov_H → Prop := fun r0 z' h' => r0 = none ∧ ov_N F z' h' ∧ (∀ a : Int, a ≠ 90 ∧ a ≠ 96 → h' a = h a) ∧ (∀ k : Int, k ≠ 7 → k ≠ 8 → (h' 90) k = (h 90) k) ∧ ((((h' 90 8) = (pt_liF t m A p) ∧ 1 ≤ (h' 90 8) ∧ (h 90 7) ≤ (h' 90 7) ∧ (h' 90 7) ≤ N)) ∨ (((pt_liF t m A p) = 0 ∧ (h' 90 8) = 0 ∧ (h 90 7) ≤ (h' 90 7) ∧ (h' 90 7) ≤ N ∧ 0 ≤ (h' 90 13) ∧ (h' 90 13) ≤ (h' 90 7) ∧ (h' 93 ((h' 90 7))) = (pt_nt t m (pt_nt t m (pt_nt t m (pt_nt t m (pt_nt t m (pt_nt t m (pt_nt t m (pt_nt t m (pt_nt t m (pt_nt t m p))))))))))) ∧ (pt_MR t m (pt_liA t m A p) (h' 96) (h' 90 15) (h' 99))))
set_option maxHeartbeats 4000000 in
theorem c_fMo_readLight_90 {u : ov_U} {F : ov_H × ov_Z} (t : Int → Int) (m : Int) (N : Int) (p : Int) (A : Int → Int) {z : ov_Z} {h : ov_H} (d : Nat) (hd : 4 ≤ d) (U : ov_cap u) (I : ov_N F z h) (p0 : 0 ≤ (h 90 7) ∧ (h 90 7) ≤ N) (p1 : (h 93 ((h 90 7))) = p) (p2 : 0 ≤ (h 90 8)) (p3 : (h 90 8) = 0) (p4 : 0 ≤ (h 90 13) ∧ (h 90 13) ≤ (h 90 7)) (p5 : pt_ty t m p = 2) (mt : pt_MT t m (h 92) (h 93) (h 94) N) (wd : pt_WD (h 95)) (mr : pt_MR t m A (h 96) (h 90 15) (h 99)) : ov_T u d ov_m219 [ov_r 90] z h (P_fMo_readLight_90 F z h t m N p A) := by
  refine ov_en rfl (Nat.le_of_ble_eq_true rfl) ?_
  show ov_R u d ov_m219 0 [(0, ov_r 90)] [] z h (P_fMo_readLight_90 F z h t m N p A)
  have ma := pt_MT_at mt (k := h 90 7) (by omega)
  rw [p1] at ma
  have mp := ma.2.1
  have m2 := ma.2.2.1
  have m3 := ma.2.2.2
  have mc := pt_cm_f (t := t) (m := m) (p := p)
  have mN := mt.1.2.1
  clear ma
  have rA := pt_MR_r mr
  refine ov_blk (ls2 := [(0, ov_r 90)]) (st2 := [ov_r 90, ov_r 90]) (pc2 := 2) b_219_0_2 rfl rfl ?_
  refine ov_getf (v := ov_i (h 90 7)) d_219_2 fl_Mo_177 (zb_90 I) (zs_90 I) rfl ?_
  have g1 := rg_90_7 I
  refine ov_blk (ls2 := [(0, ov_r 90)]) (st2 := [ov_i ((h 90 7) + 1), ov_r 90]) (pc2 := 7) b_219_5_2 rfl rfl ?_
  have kn := pt_MT_lt mt (k := h 90 7) (by omega) (by rw [p1]; omega)
  have mn := pt_MT_nx mt (k := h 90 7) ⟨by omega, by omega⟩
  rw [p1] at mn
  have nb := pt_nt_le (t := t) (n := m) (p := p) (by omega)
  refine ov_putf (x := ((h 90 7) + 1)) d_219_7 fl_Mo_177 (zb_90 I) (zs_90 I) rfl nk_0 rfl ?_
  have I2 := up_90_7 (x := ((h 90 7) + 1)) I (by omega)
  show ov_R u d ov_m219 10 [(0, ov_r 90)] [] z (ov_up h 90 7 ((h 90 7) + 1)) (P_fMo_readLight_90 F z h t m N p A)
  have nb1 := pt_nt_le (t := t) (n := m) (p := (pt_nt t m p)) (by omega)
  have nb2 := pt_nt_le (t := t) (n := m) (p := (pt_nt t m (pt_nt t m p))) (by omega)
  have nb3 := pt_nt_le (t := t) (n := m) (p := (pt_nt t m (pt_nt t m (pt_nt t m p)))) (by omega)
  have nb4 := pt_nt_le (t := t) (n := m) (p := (pt_nt t m (pt_nt t m (pt_nt t m (pt_nt t m p))))) (by omega)
  have nb5 := pt_nt_le (t := t) (n := m) (p := (pt_nt t m (pt_nt t m (pt_nt t m (pt_nt t m (pt_nt t m p)))))) (by omega)
  have nb6 := pt_nt_le (t := t) (n := m) (p := (pt_nt t m (pt_nt t m (pt_nt t m (pt_nt t m (pt_nt t m (pt_nt t m p))))))) (by omega)
  have nb7 := pt_nt_le (t := t) (n := m) (p := (pt_nt t m (pt_nt t m (pt_nt t m (pt_nt t m (pt_nt t m (pt_nt t m (pt_nt t m p)))))))) (by omega)
  have nb8 := pt_nt_le (t := t) (n := m) (p := (pt_nt t m (pt_nt t m (pt_nt t m (pt_nt t m (pt_nt t m (pt_nt t m (pt_nt t m (pt_nt t m p))))))))) (by omega)
  have nb9 := pt_nt_le (t := t) (n := m) (p := (pt_nt t m (pt_nt t m (pt_nt t m (pt_nt t m (pt_nt t m (pt_nt t m (pt_nt t m (pt_nt t m (pt_nt t m p)))))))))) (by omega)
  refine ov_blk (ls2 := [(0, ov_r 90)]) (st2 := [ov_r 90, ov_i 0, ov_r 90]) (pc2 := 13) b_219_10_3 rfl rfl ?_
  refine ov_getf (v := ov_r 96) d_219_13 fl_Mo_81 (zb_90 I2) (zs_90 I2) (congrArg ov_r (rg_90_10 I2)) ?_
  refine ov_blk (ls2 := [(0, ov_r 90)]) (st2 := [ov_i 340, ov_r 96, ov_i 0, ov_r 90]) (pc2 := 19) b_219_16_1 rfl rfl ?_
  refine ov_iald d_219_19 (zb_96 I2) (zs_96 I2) (by omega) ?_
  have e3 : (ov_up h 90 7 ((h 90 7) + 1)) 96 340 = (A 0) := (pt_MR_c mr (j := 0) (by omega))
  show ov_R u d ov_m219 20 [(0, ov_r 90)] [ov_i ((ov_up h 90 7 ((h 90 7) + 1)) 96 340), ov_i 0, ov_r 90] z (ov_up h 90 7 ((h 90 7) + 1)) (P_fMo_readLight_90 F z h t m N p A)
  rw [e3]
  show ov_R u d ov_m219 20 [(0, ov_r 90)] [ov_i (A 0), ov_i 0, ov_r 90] z (ov_up h 90 7 ((h 90 7) + 1)) (P_fMo_readLight_90 F z h t m N p A)
  refine ov_blk (ls2 := [(0, ov_r 90)]) (st2 := [ov_i ((A 0) - 1), ov_i 0, ov_r 90]) (pc2 := 22) b_219_20_2 rfl rfl ?_
  refine ov_cV (as := [ov_i 0, ov_i ((A 0) - 1)]) (st := []) (d2 := d - 1) d_219_22 lk_Mo_198 rfl (Nat.le_of_ble_eq_true rfl) (c := 1) (zb_90 I2) (zs_90 I2) ⟨by decide, rfl⟩ (by omega) (c_fMo_takeNumber_90 t m N (pt_nt t m p) (d - 1) (by omega) U I2 0 ((A 0) - 1) (by omega) (by omega) (by show 0 ≤ ((h 90 7) + 1) ∧ ((h 90 7) + 1) ≤ N; omega) (by show (h 93 (((h 90 7) + 1))) = (pt_nt t m p); omega) (by show 0 ≤ (h 90 8); omega) (by rw [show (ov_up h 90 7 ((h 90 7) + 1)) 92 = h 92 from rfl, show (ov_up h 90 7 ((h 90 7) + 1)) 93 = h 93 from rfl, show (ov_up h 90 7 ((h 90 7) + 1)) 94 = h 94 from rfl]; exact mt)) ?_
  rintro _ z5 h6 ⟨v4, rfl, I7, y8, y9, y10⟩
  have E11 : h6 92 = h 92 := Eq.trans (y8 92 (by decide)) (show (ov_up h 90 7 ((h 90 7) + 1)) 92 = h 92 from rfl)
  have E12 : h6 93 = h 93 := Eq.trans (y8 93 (by decide)) (show (ov_up h 90 7 ((h 90 7) + 1)) 93 = h 93 from rfl)
  have E13 : h6 94 = h 94 := Eq.trans (y8 94 (by decide)) (show (ov_up h 90 7 ((h 90 7) + 1)) 94 = h 94 from rfl)
  have E14 : h6 95 = h 95 := Eq.trans (y8 95 (by decide)) (show (ov_up h 90 7 ((h 90 7) + 1)) 95 = h 95 from rfl)
  have E15 : h6 96 = h 96 := Eq.trans (y8 96 (by decide)) (show (ov_up h 90 7 ((h 90 7) + 1)) 96 = h 96 from rfl)
  have E16 : h6 99 = h 99 := Eq.trans (y8 99 (by decide)) (show (ov_up h 90 7 ((h 90 7) + 1)) 99 = h 99 from rfl)
  have fr17 : ∀ a : Int, a ≠ 90 ∧ a ≠ 96 → h6 a = h a := fun a ca => Eq.trans (y8 a (by omega)) (Eq.trans (by show (ov_up h 90 7 ((h 90 7) + 1)) a = h a; rw [ov_up_ne (by omega)]) rfl)
  have y9_ : ∀ k : Int, k ≠ 7 → k ≠ 8 → (h6 90) k = ((ov_up h 90 7 ((h 90 7) + 1)) 90) k := y9
  have rk18 : ∀ k : Int, k ≠ 7 → k ≠ 8 → h6 90 k = h 90 k := fun k n0 n1 => Eq.trans (y9_ k n0 n1) (Eq.trans (by show (ov_up h 90 7 ((h 90 7) + 1)) 90 k = h 90 k; rw [ov_up_j n0]) rfl)
  have g19 : h6 90 2 = (h 90 2) := y9_ 2 (by decide) (by decide)
  have g20 : h6 90 3 = (h 90 3) := y9_ 3 (by decide) (by decide)
  have g21 : h6 90 13 = (h 90 13) := y9_ 13 (by decide) (by decide)
  have g22 : h6 90 15 = (h 90 15) := y9_ 15 (by decide) (by decide)
  rcases y10 with f23 | f24 | f25
  · have q9 : v4 = 0 ∧ (h 90 8) ≠ 0 ∧ (h6 90 8) = (h 90 8) ∧ (h6 90 7) = ((h 90 7) + 1) ∧ (h6 93 ((h6 90 7))) = (pt_nt t m p) := f23
    omega
  · skip
    show ov_R u d ov_m219 25 [(0, ov_r 90)] [ov_i v4] z5 h6 (P_fMo_readLight_90 F z h t m N p A)
    have f26 : v4 = 0 ∧ (h 90 8) = 0 ∧ (h6 90 8) = pt_fN t m (0 : Int) ((A 0) - 1) (pt_nt t m p) ∧ 1 ≤ (h6 90 8) ∧ (h6 90 7) = ((h 90 7) + 1) ∧ (h6 93 ((h6 90 7))) = (pt_nt t m p) := f24
    clear f24
    refine ov_blk (ls2 := [(0, ov_r 90), (1, ov_i v4)]) (st2 := [ov_r 90, ov_i 0, ov_r 90]) (pc2 := 29) b_219_25_4 rfl rfl ?_
    refine ov_getf (v := ov_r 96) d_219_29 fl_Mo_81 (zb_90 I7) (zs_90 I7) (congrArg ov_r (rg_90_10 I7)) ?_
    refine ov_blk (ls2 := [(0, ov_r 90), (1, ov_i v4)]) (st2 := [ov_i 341, ov_r 96, ov_i 0, ov_r 90]) (pc2 := 35) b_219_32_1 rfl rfl ?_
    refine ov_iald d_219_35 (zb_96 I7) (zs_96 I7) (by omega) ?_
    have e27 : h6 96 341 = (A 1) := Eq.trans (congrFun (show h6 96 = h 96 from E15) 341) (pt_MR_c mr (j := 1) (by omega))
    rw [e27]
    show ov_R u d ov_m219 36 [(0, ov_r 90), (1, ov_i v4)] [ov_i (A 1), ov_i 0, ov_r 90] z5 h6 (P_fMo_readLight_90 F z h t m N p A)
    refine ov_blk (ls2 := [(0, ov_r 90), (1, ov_i v4)]) (st2 := [ov_i ((A 1) - 1), ov_i 0, ov_r 90]) (pc2 := 38) b_219_36_2 rfl rfl ?_
    have cf28 : h6 93 ((h6 90 7)) = h 93 ((h6 90 7)) := congrFun E12 ((h6 90 7))
    refine ov_cV (as := [ov_i 0, ov_i ((A 1) - 1)]) (st := []) (d2 := d - 1) d_219_38 lk_Mo_198 rfl (Nat.le_of_ble_eq_true rfl) (c := 1) (zb_90 I7) (zs_90 I7) ⟨by decide, rfl⟩ (by omega) (c_fMo_takeNumber_90 t m N (pt_nt t m p) (d - 1) (by omega) U I7 0 ((A 1) - 1) (by omega) (by omega) (by show 0 ≤ (h6 90 7) ∧ (h6 90 7) ≤ N; omega) (by show (h6 93 ((h6 90 7))) = (pt_nt t m p); omega) (by show 0 ≤ (h6 90 8); omega) (by rw [show h6 92 = h 92 from E11, show h6 93 = h 93 from E12, show h6 94 = h 94 from E13]; exact mt)) ?_
    rintro _ z30 h31 ⟨v29, rfl, I32, y33, y34, y35⟩
    have E36 : h31 92 = h 92 := Eq.trans (y33 92 (by decide)) (show h6 92 = h 92 from E11)
    have E37 : h31 93 = h 93 := Eq.trans (y33 93 (by decide)) (show h6 93 = h 93 from E12)
    have E38 : h31 94 = h 94 := Eq.trans (y33 94 (by decide)) (show h6 94 = h 94 from E13)
    have E39 : h31 95 = h 95 := Eq.trans (y33 95 (by decide)) (show h6 95 = h 95 from E14)
    have E40 : h31 96 = h 96 := Eq.trans (y33 96 (by decide)) (show h6 96 = h 96 from E15)
    have E41 : h31 99 = h 99 := Eq.trans (y33 99 (by decide)) (show h6 99 = h 99 from E16)
    have fr42 : ∀ a : Int, a ≠ 90 ∧ a ≠ 96 → h31 a = h a := fun a ca => Eq.trans (y33 a (by omega)) (fr17 a ca)
    have y34_ : ∀ k : Int, k ≠ 7 → k ≠ 8 → (h31 90) k = (h6 90) k := y34
    have rk43 : ∀ k : Int, k ≠ 7 → k ≠ 8 → h31 90 k = h 90 k := fun k n0 n1 => Eq.trans (y34_ k n0 n1) (rk18 k n0 n1)
    have g44 : h31 90 2 = (h6 90 2) := y34_ 2 (by decide) (by decide)
    have g45 : h31 90 3 = (h6 90 3) := y34_ 3 (by decide) (by decide)
    have g46 : h31 90 13 = (h6 90 13) := y34_ 13 (by decide) (by decide)
    have g47 : h31 90 15 = (h6 90 15) := y34_ 15 (by decide) (by decide)
    rcases y35 with f48 | f49 | f50
    · skip
      show ov_R u d ov_m219 41 [(0, ov_r 90), (1, ov_i v4)] [ov_i v29] z30 h31 (P_fMo_readLight_90 F z h t m N p A)
      have f51 : v29 = 0 ∧ (h6 90 8) ≠ 0 ∧ (h31 90 8) = (h6 90 8) ∧ (h31 90 7) = (h6 90 7) ∧ (h31 93 ((h31 90 7))) = (pt_nt t m p) := f48
      clear f48
      refine ov_blk (ls2 := [(0, ov_r 90), (1, ov_i v4), (2, ov_i v29), (3, ov_i (350 + (4 * ((6 * v29) + v4))))]) (st2 := []) (pc2 := 55) b_219_41_11 rfl rfl ?_
      refine ov_blk (ls2 := [(0, ov_r 90), (1, ov_i v4), (2, ov_i v29), (3, ov_i (350 + (4 * ((6 * v29) + v4))))]) (st2 := [ov_r 90]) (pc2 := 56) b_219_55_1 rfl rfl ?_
      refine ov_getf (v := ov_i (h31 90 8)) d_219_56 fl_Mo_180 (zb_90 I32) (zs_90 I32) rfl ?_
      have g52 := rg_90_8 I32
      refine ov_ifne (tgt := 86) d_219_59 (by decide) (by omega) (fun c53 => ?_) (fun c53 => ?_)
      · skip
        refine ov_blk (ls2 := [(0, ov_r 90), (1, ov_i v4), (2, ov_i v29), (3, ov_i (350 + (4 * ((6 * v29) + v4))))]) (st2 := [ov_r 90]) (pc2 := 87) b_219_86_1 rfl rfl ?_
        refine ov_getf (v := ov_i (h31 90 8)) d_219_87 fl_Mo_180 (zb_90 I32) (zs_90 I32) rfl ?_
        refine ov_ifle (tgt := 97) d_219_90 (by decide) (by omega) (fun c55 => ?_) (fun c55 => ?_)
        · omega
        · skip
          refine ov_blk (ls2 := [(0, ov_r 90), (1, ov_i v4), (2, ov_i v29), (3, ov_i (350 + (4 * ((6 * v29) + v4))))]) (st2 := [ov_i (-1)]) (pc2 := 94) b_219_93_1 rfl rfl ?_
          refine ov_goto (tgt := 104) d_219_94 (by decide) ?_
          refine ov_blk (ls2 := [(0, ov_r 90), (1, ov_i v4), (2, ov_i v29), (3, ov_i (350 + (4 * ((6 * v29) + v4)))), (4, ov_i (-1))]) (st2 := [ov_i (-1)]) (pc2 := 108) b_219_104_2 rfl rfl ?_
          refine ov_ifge (tgt := 117) d_219_108 (by decide) (by omega) (fun c56 => ?_) (fun c56 => ?_)
          · omega
          · skip
            refine ov_blk (ls2 := [(0, ov_r 90), (1, ov_i v4), (2, ov_i v29), (3, ov_i (350 + (4 * ((6 * v29) + v4)))), (4, ov_i (-1))]) (st2 := [ov_i 1, ov_r 90]) (pc2 := 113) b_219_111_2 rfl rfl ?_
            have cf57 : h31 93 ((h31 90 7)) = h 93 ((h31 90 7)) := congrFun E37 ((h31 90 7))
            refine ov_cV (as := [ov_i 1]) (st := []) (d2 := d - 1) d_219_113 lk_Mo_186 rfl (Nat.le_of_ble_eq_true rfl) (c := 1) (zb_90 I32) (zs_90 I32) ⟨by decide, rfl⟩ (by omega) (c_fMo_wrong_90 t m N (pt_nt t m p) (d - 1) (by omega) U I32 1 (by omega) (by show 0 ≤ (h31 90 7) ∧ (h31 90 7) ≤ N; omega) (by show (h31 93 ((h31 90 7))) = (pt_nt t m p); omega) (by show 0 ≤ (h31 90 8); omega) (by show 1 ≤ (1 : Int) ∧ (1 : Int) ≤ 5; omega) (by rw [show h31 92 = h 92 from E36, show h31 93 = h 93 from E37, show h31 94 = h 94 from E38]; exact mt)) ?_
            rintro _ z58 h59 ⟨rfl, I60, y61, y62, y63⟩
            have E64 : h59 92 = h 92 := Eq.trans (y61 92 (by decide)) (show h31 92 = h 92 from E36)
            have E65 : h59 93 = h 93 := Eq.trans (y61 93 (by decide)) (show h31 93 = h 93 from E37)
            have E66 : h59 94 = h 94 := Eq.trans (y61 94 (by decide)) (show h31 94 = h 94 from E38)
            have E67 : h59 95 = h 95 := Eq.trans (y61 95 (by decide)) (show h31 95 = h 95 from E39)
            have E68 : h59 96 = h 96 := Eq.trans (y61 96 (by decide)) (show h31 96 = h 96 from E40)
            have E69 : h59 99 = h 99 := Eq.trans (y61 99 (by decide)) (show h31 99 = h 99 from E41)
            have fr70 : ∀ a : Int, a ≠ 90 ∧ a ≠ 96 → h59 a = h a := fun a ca => Eq.trans (y61 a (by omega)) (fr42 a ca)
            have y62_ : ∀ k : Int, k ≠ 8 → (h59 90) k = (h31 90) k := y62
            have rk71 : ∀ k : Int, k ≠ 7 → k ≠ 8 → h59 90 k = h 90 k := fun k n0 n1 => Eq.trans (y62_ k n1) (rk43 k n0 n1)
            have g72 : h59 90 2 = (h31 90 2) := y62_ 2 (by decide)
            have g73 : h59 90 3 = (h31 90 3) := y62_ 3 (by decide)
            have g74 : h59 90 7 = (h31 90 7) := y62_ 7 (by decide)
            have g75 : h59 90 13 = (h31 90 13) := y62_ 13 (by decide)
            have g76 : h59 90 15 = (h31 90 15) := y62_ 15 (by decide)
            rcases y63 with f77 | f78
            · skip
              show ov_R u d ov_m219 116 [(0, ov_r 90), (1, ov_i v4), (2, ov_i v29), (3, ov_i (350 + (4 * ((6 * v29) + v4)))), (4, ov_i (-1))] [] z58 h59 (P_fMo_readLight_90 F z h t m N p A)
              have f79 : (h31 90 8) ≠ 0 ∧ (h59 90 8) = (h31 90 8) ∧ (h59 93 ((h59 90 7))) = (pt_nt t m p) := f77
              clear f77
              have hF : (pt_liF t m A p) = (h59 90 8) := by unfold pt_liF; (repeat' split) <;> omega
              exact ov_retv (st := []) d_219_116 rfl ⟨rfl, I60, (fun a ca => (fr70 a ca)), (fun k n0 n1 => (rk71 k n0 n1)), (Or.inl (by show (h59 90 8) = (pt_liF t m A p) ∧ 1 ≤ (h59 90 8) ∧ (h 90 7) ≤ (h59 90 7) ∧ (h59 90 7) ≤ N; omega))⟩
            · omega
      · omega
    · omega
    · omega
  · skip
    show ov_R u d ov_m219 25 [(0, ov_r 90)] [ov_i v4] z5 h6 (P_fMo_readLight_90 F z h t m N p A)
    have f80 : (h 90 8) = 0 ∧ (h6 90 8) = 0 ∧ pt_fN t m (0 : Int) ((A 0) - 1) (pt_nt t m p) = 0 ∧ pt_ty t m (pt_nt t m p) = 3 ∧ (0 : Int) ≤ v4 ∧ v4 ≤ ((A 0) - 1) ∧ v4 = pt_nm t m (pt_nt t m p) ∧ 0 ≤ v4 ∧ v4 ≤ 9999 ∧ (h6 90 7) = ((h 90 7) + 1) + 1 ∧ (h6 90 7) ≤ N ∧ (h6 93 ((h6 90 7))) = pt_nt t m (pt_nt t m p) := f25
    clear f25
    have bw81 : h 93 (((h 90 7) + 1)) = (pt_nt t m p) := Eq.trans (congrFun (show h 93 = h 93 from (rfl).symm) _) (by show h 93 (((h 90 7) + 1)) = (pt_nt t m p); omega)
    refine ov_blk (ls2 := [(0, ov_r 90), (1, ov_i v4)]) (st2 := [ov_r 90, ov_i 0, ov_r 90]) (pc2 := 29) b_219_25_4 rfl rfl ?_
    refine ov_getf (v := ov_r 96) d_219_29 fl_Mo_81 (zb_90 I7) (zs_90 I7) (congrArg ov_r (rg_90_10 I7)) ?_
    refine ov_blk (ls2 := [(0, ov_r 90), (1, ov_i v4)]) (st2 := [ov_i 341, ov_r 96, ov_i 0, ov_r 90]) (pc2 := 35) b_219_32_1 rfl rfl ?_
    refine ov_iald d_219_35 (zb_96 I7) (zs_96 I7) (by omega) ?_
    have e82 : h6 96 341 = (A 1) := Eq.trans (congrFun (show h6 96 = h 96 from E15) 341) (pt_MR_c mr (j := 1) (by omega))
    rw [e82]
    show ov_R u d ov_m219 36 [(0, ov_r 90), (1, ov_i v4)] [ov_i (A 1), ov_i 0, ov_r 90] z5 h6 (P_fMo_readLight_90 F z h t m N p A)
    refine ov_blk (ls2 := [(0, ov_r 90), (1, ov_i v4)]) (st2 := [ov_i ((A 1) - 1), ov_i 0, ov_r 90]) (pc2 := 38) b_219_36_2 rfl rfl ?_
    have cf83 : h6 93 ((h6 90 7)) = h 93 ((h6 90 7)) := congrFun E12 ((h6 90 7))
    refine ov_cV (as := [ov_i 0, ov_i ((A 1) - 1)]) (st := []) (d2 := d - 1) d_219_38 lk_Mo_198 rfl (Nat.le_of_ble_eq_true rfl) (c := 1) (zb_90 I7) (zs_90 I7) ⟨by decide, rfl⟩ (by omega) (c_fMo_takeNumber_90 t m N (pt_nt t m (pt_nt t m p)) (d - 1) (by omega) U I7 0 ((A 1) - 1) (by omega) (by omega) (by show 0 ≤ (h6 90 7) ∧ (h6 90 7) ≤ N; omega) (by show (h6 93 ((h6 90 7))) = (pt_nt t m (pt_nt t m p)); omega) (by show 0 ≤ (h6 90 8); omega) (by rw [show h6 92 = h 92 from E11, show h6 93 = h 93 from E12, show h6 94 = h 94 from E13]; exact mt)) ?_
    rintro _ z85 h86 ⟨v84, rfl, I87, y88, y89, y90⟩
    have E91 : h86 92 = h 92 := Eq.trans (y88 92 (by decide)) (show h6 92 = h 92 from E11)
    have E92 : h86 93 = h 93 := Eq.trans (y88 93 (by decide)) (show h6 93 = h 93 from E12)
    have E93 : h86 94 = h 94 := Eq.trans (y88 94 (by decide)) (show h6 94 = h 94 from E13)
    have E94 : h86 95 = h 95 := Eq.trans (y88 95 (by decide)) (show h6 95 = h 95 from E14)
    have E95 : h86 96 = h 96 := Eq.trans (y88 96 (by decide)) (show h6 96 = h 96 from E15)
    have E96 : h86 99 = h 99 := Eq.trans (y88 99 (by decide)) (show h6 99 = h 99 from E16)
    have fr97 : ∀ a : Int, a ≠ 90 ∧ a ≠ 96 → h86 a = h a := fun a ca => Eq.trans (y88 a (by omega)) (fr17 a ca)
    have y89_ : ∀ k : Int, k ≠ 7 → k ≠ 8 → (h86 90) k = (h6 90) k := y89
    have rk98 : ∀ k : Int, k ≠ 7 → k ≠ 8 → h86 90 k = h 90 k := fun k n0 n1 => Eq.trans (y89_ k n0 n1) (rk18 k n0 n1)
    have g99 : h86 90 2 = (h6 90 2) := y89_ 2 (by decide) (by decide)
    have g100 : h86 90 3 = (h6 90 3) := y89_ 3 (by decide) (by decide)
    have g101 : h86 90 13 = (h6 90 13) := y89_ 13 (by decide) (by decide)
    have g102 : h86 90 15 = (h6 90 15) := y89_ 15 (by decide) (by decide)
    rcases y90 with f103 | f104 | f105
    · omega
    · skip
      show ov_R u d ov_m219 41 [(0, ov_r 90), (1, ov_i v4)] [ov_i v84] z85 h86 (P_fMo_readLight_90 F z h t m N p A)
      have f106 : v84 = 0 ∧ (h6 90 8) = 0 ∧ (h86 90 8) = pt_fN t m (0 : Int) ((A 1) - 1) (pt_nt t m (pt_nt t m p)) ∧ 1 ≤ (h86 90 8) ∧ (h86 90 7) = (h6 90 7) ∧ (h86 93 ((h86 90 7))) = (pt_nt t m (pt_nt t m p)) := f104
      clear f104
      refine ov_blk (ls2 := [(0, ov_r 90), (1, ov_i v4), (2, ov_i v84), (3, ov_i (350 + (4 * ((6 * v84) + v4))))]) (st2 := []) (pc2 := 55) b_219_41_11 rfl rfl ?_
      refine ov_blk (ls2 := [(0, ov_r 90), (1, ov_i v4), (2, ov_i v84), (3, ov_i (350 + (4 * ((6 * v84) + v4))))]) (st2 := [ov_r 90]) (pc2 := 56) b_219_55_1 rfl rfl ?_
      refine ov_getf (v := ov_i (h86 90 8)) d_219_56 fl_Mo_180 (zb_90 I87) (zs_90 I87) rfl ?_
      have g107 := rg_90_8 I87
      refine ov_ifne (tgt := 86) d_219_59 (by decide) (by omega) (fun c108 => ?_) (fun c108 => ?_)
      · skip
        refine ov_blk (ls2 := [(0, ov_r 90), (1, ov_i v4), (2, ov_i v84), (3, ov_i (350 + (4 * ((6 * v84) + v4))))]) (st2 := [ov_r 90]) (pc2 := 87) b_219_86_1 rfl rfl ?_
        refine ov_getf (v := ov_i (h86 90 8)) d_219_87 fl_Mo_180 (zb_90 I87) (zs_90 I87) rfl ?_
        refine ov_ifle (tgt := 97) d_219_90 (by decide) (by omega) (fun c110 => ?_) (fun c110 => ?_)
        · omega
        · skip
          refine ov_blk (ls2 := [(0, ov_r 90), (1, ov_i v4), (2, ov_i v84), (3, ov_i (350 + (4 * ((6 * v84) + v4))))]) (st2 := [ov_i (-1)]) (pc2 := 94) b_219_93_1 rfl rfl ?_
          refine ov_goto (tgt := 104) d_219_94 (by decide) ?_
          refine ov_blk (ls2 := [(0, ov_r 90), (1, ov_i v4), (2, ov_i v84), (3, ov_i (350 + (4 * ((6 * v84) + v4)))), (4, ov_i (-1))]) (st2 := [ov_i (-1)]) (pc2 := 108) b_219_104_2 rfl rfl ?_
          refine ov_ifge (tgt := 117) d_219_108 (by decide) (by omega) (fun c111 => ?_) (fun c111 => ?_)
          · omega
          · skip
            refine ov_blk (ls2 := [(0, ov_r 90), (1, ov_i v4), (2, ov_i v84), (3, ov_i (350 + (4 * ((6 * v84) + v4)))), (4, ov_i (-1))]) (st2 := [ov_i 1, ov_r 90]) (pc2 := 113) b_219_111_2 rfl rfl ?_
            have cf112 : h86 93 ((h86 90 7)) = h 93 ((h86 90 7)) := congrFun E92 ((h86 90 7))
            refine ov_cV (as := [ov_i 1]) (st := []) (d2 := d - 1) d_219_113 lk_Mo_186 rfl (Nat.le_of_ble_eq_true rfl) (c := 1) (zb_90 I87) (zs_90 I87) ⟨by decide, rfl⟩ (by omega) (c_fMo_wrong_90 t m N (pt_nt t m (pt_nt t m p)) (d - 1) (by omega) U I87 1 (by omega) (by show 0 ≤ (h86 90 7) ∧ (h86 90 7) ≤ N; omega) (by show (h86 93 ((h86 90 7))) = (pt_nt t m (pt_nt t m p)); omega) (by show 0 ≤ (h86 90 8); omega) (by show 1 ≤ (1 : Int) ∧ (1 : Int) ≤ 5; omega) (by rw [show h86 92 = h 92 from E91, show h86 93 = h 93 from E92, show h86 94 = h 94 from E93]; exact mt)) ?_
            rintro _ z113 h114 ⟨rfl, I115, y116, y117, y118⟩
            have E119 : h114 92 = h 92 := Eq.trans (y116 92 (by decide)) (show h86 92 = h 92 from E91)
            have E120 : h114 93 = h 93 := Eq.trans (y116 93 (by decide)) (show h86 93 = h 93 from E92)
            have E121 : h114 94 = h 94 := Eq.trans (y116 94 (by decide)) (show h86 94 = h 94 from E93)
            have E122 : h114 95 = h 95 := Eq.trans (y116 95 (by decide)) (show h86 95 = h 95 from E94)
            have E123 : h114 96 = h 96 := Eq.trans (y116 96 (by decide)) (show h86 96 = h 96 from E95)
            have E124 : h114 99 = h 99 := Eq.trans (y116 99 (by decide)) (show h86 99 = h 99 from E96)
            have fr125 : ∀ a : Int, a ≠ 90 ∧ a ≠ 96 → h114 a = h a := fun a ca => Eq.trans (y116 a (by omega)) (fr97 a ca)
            have y117_ : ∀ k : Int, k ≠ 8 → (h114 90) k = (h86 90) k := y117
            have rk126 : ∀ k : Int, k ≠ 7 → k ≠ 8 → h114 90 k = h 90 k := fun k n0 n1 => Eq.trans (y117_ k n1) (rk98 k n0 n1)
            have g127 : h114 90 2 = (h86 90 2) := y117_ 2 (by decide)
            have g128 : h114 90 3 = (h86 90 3) := y117_ 3 (by decide)
            have g129 : h114 90 7 = (h86 90 7) := y117_ 7 (by decide)
            have g130 : h114 90 13 = (h86 90 13) := y117_ 13 (by decide)
            have g131 : h114 90 15 = (h86 90 15) := y117_ 15 (by decide)
            rcases y118 with f132 | f133
            · skip
              show ov_R u d ov_m219 116 [(0, ov_r 90), (1, ov_i v4), (2, ov_i v84), (3, ov_i (350 + (4 * ((6 * v84) + v4)))), (4, ov_i (-1))] [] z113 h114 (P_fMo_readLight_90 F z h t m N p A)
              have f134 : (h86 90 8) ≠ 0 ∧ (h114 90 8) = (h86 90 8) ∧ (h114 93 ((h114 90 7))) = (pt_nt t m (pt_nt t m p)) := f132
              clear f132
              have hF : (pt_liF t m A p) = (h114 90 8) := by unfold pt_liF; (repeat' split) <;> omega
              exact ov_retv (st := []) d_219_116 rfl ⟨rfl, I115, (fun a ca => (fr125 a ca)), (fun k n0 n1 => (rk126 k n0 n1)), (Or.inl (by show (h114 90 8) = (pt_liF t m A p) ∧ 1 ≤ (h114 90 8) ∧ (h 90 7) ≤ (h114 90 7) ∧ (h114 90 7) ≤ N; omega))⟩
            · omega
      · omega
    · skip
      show ov_R u d ov_m219 41 [(0, ov_r 90), (1, ov_i v4)] [ov_i v84] z85 h86 (P_fMo_readLight_90 F z h t m N p A)
      have f135 : (h6 90 8) = 0 ∧ (h86 90 8) = 0 ∧ pt_fN t m (0 : Int) ((A 1) - 1) (pt_nt t m (pt_nt t m p)) = 0 ∧ pt_ty t m (pt_nt t m (pt_nt t m p)) = 3 ∧ (0 : Int) ≤ v84 ∧ v84 ≤ ((A 1) - 1) ∧ v84 = pt_nm t m (pt_nt t m (pt_nt t m p)) ∧ 0 ≤ v84 ∧ v84 ≤ 9999 ∧ (h86 90 7) = (h6 90 7) + 1 ∧ (h86 90 7) ≤ N ∧ (h86 93 ((h86 90 7))) = pt_nt t m (pt_nt t m (pt_nt t m p)) := f105
      clear f105
      have bw136 : h 93 ((h6 90 7)) = (pt_nt t m (pt_nt t m p)) := Eq.trans (congrFun (show h 93 = h6 93 from (E12).symm) _) (by show h6 93 ((h6 90 7)) = (pt_nt t m (pt_nt t m p)); omega)
      refine ov_blk (ls2 := [(0, ov_r 90), (1, ov_i v4), (2, ov_i v84), (3, ov_i (350 + (4 * ((6 * v84) + v4))))]) (st2 := []) (pc2 := 55) b_219_41_11 rfl rfl ?_
      have ix : (350 + (4 * ((6 * v84) + v4))) - 340 = 10 + 4 * ((pt_nm t m (pt_nt t m p)) + 6 * (pt_nm t m (pt_nt t m (pt_nt t m p)))) := by omega
      have ek : A ((350 + (4 * ((6 * v84) + v4))) - 340) = A (10 + 4 * ((pt_nm t m (pt_nt t m p)) + 6 * (pt_nm t m (pt_nt t m (pt_nt t m p))))) := by rw [ix]
      have ga := g96 I (350 + (4 * ((6 * v84) + v4)))
      rw [pt_MR_i mr (by omega)] at ga
      refine ov_blk (ls2 := [(0, ov_r 90), (1, ov_i v4), (2, ov_i v84), (3, ov_i (350 + (4 * ((6 * v84) + v4))))]) (st2 := [ov_r 90]) (pc2 := 56) b_219_55_1 rfl rfl ?_
      refine ov_getf (v := ov_i (h86 90 8)) d_219_56 fl_Mo_180 (zb_90 I87) (zs_90 I87) rfl ?_
      have g137 := rg_90_8 I87
      refine ov_ifne (tgt := 86) d_219_59 (by decide) (by omega) (fun c138 => ?_) (fun c138 => ?_)
      · omega
      · skip
        refine ov_blk (ls2 := [(0, ov_r 90), (1, ov_i v4), (2, ov_i v84), (3, ov_i (350 + (4 * ((6 * v84) + v4))))]) (st2 := [ov_r 90]) (pc2 := 63) b_219_62_1 rfl rfl ?_
        refine ov_getf (v := ov_r 96) d_219_63 fl_Mo_81 (zb_90 I87) (zs_90 I87) (congrArg ov_r (rg_90_10 I87)) ?_
        refine ov_blk (ls2 := [(0, ov_r 90), (1, ov_i v4), (2, ov_i v84), (3, ov_i (350 + (4 * ((6 * v84) + v4))))]) (st2 := [ov_i (350 + (4 * ((6 * v84) + v4))), ov_r 96]) (pc2 := 67) b_219_66_1 rfl rfl ?_
        refine ov_iald d_219_67 (zb_96 I87) (zs_96 I87) (by omega) ?_
        have e139 : h86 96 (350 + (4 * ((6 * v84) + v4))) = (A ((350 + (4 * ((6 * v84) + v4))) - 340)) := Eq.trans (congrFun (show h86 96 = h 96 from E95) (350 + (4 * ((6 * v84) + v4)))) (pt_MR_i mr (k := (350 + (4 * ((6 * v84) + v4)))) (by omega))
        rw [e139]
        show ov_R u d ov_m219 68 [(0, ov_r 90), (1, ov_i v4), (2, ov_i v84), (3, ov_i (350 + (4 * ((6 * v84) + v4))))] [ov_i (A ((350 + (4 * ((6 * v84) + v4))) - 340))] z85 h86 (P_fMo_readLight_90 F z h t m N p A)
        refine ov_ifle (tgt := 86) d_219_68 (by decide) (by omega) (fun c140 => ?_) (fun c140 => ?_)
        · skip
          refine ov_blk (ls2 := [(0, ov_r 90), (1, ov_i v4), (2, ov_i v84), (3, ov_i (350 + (4 * ((6 * v84) + v4))))]) (st2 := [ov_r 90]) (pc2 := 87) b_219_86_1 rfl rfl ?_
          refine ov_getf (v := ov_i (h86 90 8)) d_219_87 fl_Mo_180 (zb_90 I87) (zs_90 I87) rfl ?_
          refine ov_ifle (tgt := 97) d_219_90 (by decide) (by omega) (fun c142 => ?_) (fun c142 => ?_)
          · skip
            refine ov_blk (ls2 := [(0, ov_r 90), (1, ov_i v4), (2, ov_i v84), (3, ov_i (350 + (4 * ((6 * v84) + v4))))]) (st2 := [ov_i 4, ov_i 13, ov_r 90]) (pc2 := 101) b_219_97_3 rfl rfl ?_
            have cf143 : h86 93 ((h86 90 7)) = h 93 ((h86 90 7)) := congrFun E92 ((h86 90 7))
            refine ov_cV (as := [ov_i 13, ov_i 4]) (st := []) (d2 := d - 1) d_219_101 lk_Mo_202 rfl (Nat.le_of_ble_eq_true rfl) (c := 1) (zb_90 I87) (zs_90 I87) ⟨by decide, rfl⟩ (by omega) (c_fMo_wordHere_90 t m N (pt_nt t m (pt_nt t m (pt_nt t m p))) (d - 1) (by omega) U I87 13 4 (by omega) (by omega) (by show 0 ≤ (h86 90 7) ∧ (h86 90 7) ≤ N; omega) (by show (h86 93 ((h86 90 7))) = (pt_nt t m (pt_nt t m (pt_nt t m p))); omega) (by show 0 ≤ (h86 90 8); omega) (by show 0 ≤ (13 : Int) ∧ 0 ≤ (4 : Int) ∧ (13 : Int) + (4 : Int) ≤ 22; omega) (by rw [show h86 92 = h 92 from E91, show h86 93 = h 93 from E92, show h86 94 = h 94 from E93]; exact mt) (by rw [show h86 95 = h 95 from E94]; exact wd)) ?_
            rintro _ _ _ ⟨v144, rfl, rfl, rfl, f145⟩
            have f146 : ((h86 90 8) ≠ 0 ∧ v144 = -1 ∨ (h86 90 8) = 0 ∧ v144 = pt_wh t m (pt_nt t m (pt_nt t m (pt_nt t m p))) (13 : Int) (Int.toNat (4 : Int))) ∧ -1 ≤ v144 ∧ v144 ≤ (4 : Int) := f145
            clear f145
            show ov_R u d ov_m219 104 [(0, ov_r 90), (1, ov_i v4), (2, ov_i v84), (3, ov_i (350 + (4 * ((6 * v84) + v4))))] [ov_i v144] z85 h86 (P_fMo_readLight_90 F z h t m N p A)
            have wk : v144 = (pt_kt t m (pt_nt t m (pt_nt t m (pt_nt t m p)))) := by have := pt_wh_kt (t := t) (m := m) (p := (pt_nt t m (pt_nt t m (pt_nt t m p)))); omega
            refine ov_blk (ls2 := [(0, ov_r 90), (1, ov_i v4), (2, ov_i v84), (3, ov_i (350 + (4 * ((6 * v84) + v4)))), (4, ov_i v144)]) (st2 := [ov_i v144]) (pc2 := 108) b_219_104_2 rfl rfl ?_
            refine ov_ifge (tgt := 117) d_219_108 (by decide) (by omega) (fun c147 => ?_) (fun c147 => ?_)
            · skip
              have ky := pt_kt_ty (t := t) (m := m) (p := (pt_nt t m (pt_nt t m (pt_nt t m p)))) (by omega)
              have kb := pt_kt_b (t := t) (m := m) (p := (pt_nt t m (pt_nt t m (pt_nt t m p))))
              refine ov_blk (ls2 := [(0, ov_r 90), (1, ov_i v4), (2, ov_i v84), (3, ov_i (350 + (4 * ((6 * v84) + v4)))), (4, ov_i v144)]) (st2 := [ov_r 90, ov_r 90]) (pc2 := 119) b_219_117_2 rfl rfl ?_
              refine ov_getf (v := ov_i (h86 90 7)) d_219_119 fl_Mo_177 (zb_90 I87) (zs_90 I87) rfl ?_
              have g148 := rg_90_7 I87
              refine ov_blk (ls2 := [(0, ov_r 90), (1, ov_i v4), (2, ov_i v84), (3, ov_i (350 + (4 * ((6 * v84) + v4)))), (4, ov_i v144)]) (st2 := [ov_i ((h86 90 7) + 1), ov_r 90]) (pc2 := 124) b_219_122_2 rfl rfl ?_
              have pp : h 93 (h86 90 7) = (pt_nt t m (pt_nt t m (pt_nt t m p))) := Eq.trans (congrFun (show h 93 = h86 93 from (E92).symm) _) (by show h86 93 (h86 90 7) = (pt_nt t m (pt_nt t m (pt_nt t m p))); omega)
              have kn := pt_MT_lt mt (k := h86 90 7) ⟨by omega, by omega⟩ (by rw [pp]; omega)
              have mn := pt_MT_nx mt (k := h86 90 7) ⟨by omega, by omega⟩
              rw [pp] at mn
              have mq : h86 93 (h86 90 7 + 1) = pt_nt t m (pt_nt t m (pt_nt t m (pt_nt t m p))) := Eq.trans (congrFun (show h86 93 = h 93 from E92) _) mn
              refine ov_putf (x := ((h86 90 7) + 1)) d_219_124 fl_Mo_177 (zb_90 I87) (zs_90 I87) rfl nk_0 rfl ?_
              have I149 := up_90_7 (x := ((h86 90 7) + 1)) I87 (by omega)
              show ov_R u d ov_m219 127 [(0, ov_r 90), (1, ov_i v4), (2, ov_i v84), (3, ov_i (350 + (4 * ((6 * v84) + v4)))), (4, ov_i v144)] [] z85 (ov_up h86 90 7 ((h86 90 7) + 1)) (P_fMo_readLight_90 F z h t m N p A)
              refine ov_blk (ls2 := [(0, ov_r 90), (1, ov_i v4), (2, ov_i v84), (3, ov_i (350 + (4 * ((6 * v84) + v4)))), (4, ov_i v144)]) (st2 := [ov_i 60, ov_i 1, ov_i 9, ov_r 90]) (pc2 := 133) b_219_127_4 rfl rfl ?_
              have cf150 : h86 93 (((h86 90 7) + 1)) = h 93 (((h86 90 7) + 1)) := congrFun E92 (((h86 90 7) + 1))
              refine ov_cV (as := [ov_i 9, ov_i 1, ov_i 60]) (st := []) (d2 := d - 1) d_219_133 lk_Mo_232 rfl (Nat.le_of_ble_eq_true rfl) (c := 1) (zb_90 I149) (zs_90 I149) ⟨by decide, rfl⟩ (by omega) (c_fMo_takeAfter_90 t m N (pt_nt t m (pt_nt t m (pt_nt t m (pt_nt t m p)))) 491496238692 (d - 1) (by omega) U I149 9 1 60 (by omega) (by omega) (by omega) (by show 0 ≤ ((h86 90 7) + 1) ∧ ((h86 90 7) + 1) ≤ N; omega) (by show (h86 93 (((h86 90 7) + 1))) = (pt_nt t m (pt_nt t m (pt_nt t m (pt_nt t m p)))); omega) (by show 0 ≤ (h86 90 8); omega) (by show 0 ≤ (9 : Int) ∧ (9 : Int) ≤ 21; omega) (by rw [show (ov_up h86 90 7 ((h86 90 7) + 1)) 92 = h 92 from E91, show (ov_up h86 90 7 ((h86 90 7) + 1)) 93 = h 93 from E92, show (ov_up h86 90 7 ((h86 90 7) + 1)) 94 = h 94 from E93]; exact mt) (by rw [show (ov_up h86 90 7 ((h86 90 7) + 1)) 95 = h 95 from E94]; exact wd) (by decide +kernel)) ?_
              rintro _ z152 h153 ⟨v151, rfl, I154, y155, y156, y157⟩
              have E158 : h153 92 = h 92 := Eq.trans (y155 92 (by decide)) (show (ov_up h86 90 7 ((h86 90 7) + 1)) 92 = h 92 from E91)
              have E159 : h153 93 = h 93 := Eq.trans (y155 93 (by decide)) (show (ov_up h86 90 7 ((h86 90 7) + 1)) 93 = h 93 from E92)
              have E160 : h153 94 = h 94 := Eq.trans (y155 94 (by decide)) (show (ov_up h86 90 7 ((h86 90 7) + 1)) 94 = h 94 from E93)
              have E161 : h153 95 = h 95 := Eq.trans (y155 95 (by decide)) (show (ov_up h86 90 7 ((h86 90 7) + 1)) 95 = h 95 from E94)
              have E162 : h153 96 = h 96 := Eq.trans (y155 96 (by decide)) (show (ov_up h86 90 7 ((h86 90 7) + 1)) 96 = h 96 from E95)
              have E163 : h153 99 = h 99 := Eq.trans (y155 99 (by decide)) (show (ov_up h86 90 7 ((h86 90 7) + 1)) 99 = h 99 from E96)
              have fr164 : ∀ a : Int, a ≠ 90 ∧ a ≠ 96 → h153 a = h a := fun a ca => Eq.trans (y155 a (by omega)) (Eq.trans (by show (ov_up h86 90 7 ((h86 90 7) + 1)) a = h86 a; rw [ov_up_ne (by omega)]) (fr97 a ca))
              have y156_ : ∀ k : Int, k ≠ 7 → k ≠ 8 → (h153 90) k = ((ov_up h86 90 7 ((h86 90 7) + 1)) 90) k := y156
              have rk165 : ∀ k : Int, k ≠ 7 → k ≠ 8 → h153 90 k = h 90 k := fun k n0 n1 => Eq.trans (y156_ k n0 n1) (Eq.trans (by show (ov_up h86 90 7 ((h86 90 7) + 1)) 90 k = h86 90 k; rw [ov_up_j n0]) (rk98 k n0 n1))
              have g166 : h153 90 2 = (h86 90 2) := y156_ 2 (by decide) (by decide)
              have g167 : h153 90 3 = (h86 90 3) := y156_ 3 (by decide) (by decide)
              have g168 : h153 90 13 = (h86 90 13) := y156_ 13 (by decide) (by decide)
              have g169 : h153 90 15 = (h86 90 15) := y156_ 15 (by decide) (by decide)
              rcases y157 with f170 | f171 | f172 | f173
              · have q9 : v151 = 0 ∧ (h86 90 8) ≠ 0 ∧ (h153 90 8) = (h86 90 8) ∧ (h153 90 7) = ((h86 90 7) + 1) ∧ (h153 93 ((h153 90 7))) = (pt_nt t m (pt_nt t m (pt_nt t m (pt_nt t m p)))) := f170
                omega
              · skip
                show ov_R u d ov_m219 136 [(0, ov_r 90), (1, ov_i v4), (2, ov_i v84), (3, ov_i (350 + (4 * ((6 * v84) + v4)))), (4, ov_i v144)] [ov_i v151] z152 h153 (P_fMo_readLight_90 F z h t m N p A)
                have f174 : v151 = 0 ∧ (h86 90 8) = 0 ∧ pt_iw t m (pt_nt t m (pt_nt t m (pt_nt t m (pt_nt t m p)))) (491496238692 : Int) = 0 ∧ (h153 90 8) = 1 + 16 * (pt_nt t m (pt_nt t m (pt_nt t m (pt_nt t m p)))) ∧ 1 ≤ (h153 90 8) ∧ (h153 90 7) = ((h86 90 7) + 1) ∧ (h153 93 ((h153 90 7))) = (pt_nt t m (pt_nt t m (pt_nt t m (pt_nt t m p)))) := f171
                clear f171
                refine ov_blk (ls2 := [(0, ov_r 90), (1, ov_i v4), (2, ov_i v84), (3, ov_i (350 + (4 * ((6 * v84) + v4)))), (4, ov_i v144), (5, ov_i v151)]) (st2 := [ov_r 90]) (pc2 := 139) b_219_136_2 rfl rfl ?_
                refine ov_getf (v := ov_i (h153 90 8)) d_219_139 fl_Mo_180 (zb_90 I154) (zs_90 I154) rfl ?_
                have g175 := rg_90_8 I154
                refine ov_ifgt (tgt := 151) d_219_142 (by decide) (by omega) (fun c176 => ?_) (fun c176 => ?_)
                · skip
                  refine ov_blk (ls2 := [(0, ov_r 90), (1, ov_i v4), (2, ov_i v84), (3, ov_i (350 + (4 * ((6 * v84) + v4)))), (4, ov_i v144), (5, ov_i v151)]) (st2 := [ov_r 90]) (pc2 := 152) b_219_151_1 rfl rfl ?_
                  refine ov_getf (v := ov_r 96) d_219_152 fl_Mo_81 (zb_90 I154) (zs_90 I154) (congrArg ov_r (rg_90_10 I154)) ?_
                  refine ov_blk (ls2 := [(0, ov_r 90), (1, ov_i v4), (2, ov_i v84), (3, ov_i (350 + (4 * ((6 * v84) + v4)))), (4, ov_i v144), (5, ov_i v151)]) (st2 := [ov_i 349, ov_r 96]) (pc2 := 158) b_219_155_1 rfl rfl ?_
                  refine ov_iald d_219_158 (zb_96 I154) (zs_96 I154) (by omega) ?_
                  have e177 : h153 96 349 = (A 9) := Eq.trans (congrFun (show h153 96 = h 96 from E162) 349) (pt_MR_c mr (j := 9) (by omega))
                  rw [e177]
                  show ov_R u d ov_m219 159 [(0, ov_r 90), (1, ov_i v4), (2, ov_i v84), (3, ov_i (350 + (4 * ((6 * v84) + v4)))), (4, ov_i v144), (5, ov_i v151)] [ov_i (A 9)] z152 h153 (P_fMo_readLight_90 F z h t m N p A)
                  refine ov_goto (tgt := 187) d_219_159 (by decide) ?_
                  refine ov_blk (ls2 := [(0, ov_r 90), (1, ov_i v4), (2, ov_i v84), (3, ov_i (350 + (4 * ((6 * v84) + v4)))), (4, ov_i v144), (5, ov_i v151), (6, ov_i (A 9))]) (st2 := [ov_r 90]) (pc2 := 190) b_219_187_2 rfl rfl ?_
                  refine ov_getf (v := ov_i (h153 90 8)) d_219_190 fl_Mo_180 (zb_90 I154) (zs_90 I154) rfl ?_
                  refine ov_ifne (tgt := 219) d_219_193 (by decide) (by omega) (fun c179 => ?_) (fun c179 => ?_)
                  · skip
                    refine ov_blk (ls2 := [(0, ov_r 90), (1, ov_i v4), (2, ov_i v84), (3, ov_i (350 + (4 * ((6 * v84) + v4)))), (4, ov_i v144), (5, ov_i v151), (6, ov_i (A 9))]) (st2 := [ov_r 90]) (pc2 := 220) b_219_219_1 rfl rfl ?_
                    refine ov_getf (v := ov_i (h153 90 8)) d_219_220 fl_Mo_180 (zb_90 I154) (zs_90 I154) rfl ?_
                    refine ov_ifle (tgt := 227) d_219_223 (by decide) (by omega) (fun c181 => ?_) (fun c181 => ?_)
                    · omega
                    · skip
                      have hr : pt_rdF t m (pt_kt t m (pt_nt t m (pt_nt t m (pt_nt t m p)))) (A 9) (pt_nt t m (pt_nt t m (pt_nt t m (pt_nt t m p)))) = (h153 90 8) := by unfold pt_rdF pt_fW; (repeat' split) <;> omega
                      have hF : (pt_liF t m A p) = (h153 90 8) := by unfold pt_liF; (repeat' split) <;> omega
                      exact ov_retv (st := []) d_219_226 rfl ⟨rfl, I154, (fun a ca => (fr164 a ca)), (fun k n0 n1 => (rk165 k n0 n1)), (Or.inl (by show (h153 90 8) = (pt_liF t m A p) ∧ 1 ≤ (h153 90 8) ∧ (h 90 7) ≤ (h153 90 7) ∧ (h153 90 7) ≤ N; omega))⟩
                  · omega
                · omega
              · skip
                show ov_R u d ov_m219 136 [(0, ov_r 90), (1, ov_i v4), (2, ov_i v84), (3, ov_i (350 + (4 * ((6 * v84) + v4)))), (4, ov_i v144)] [ov_i v151] z152 h153 (P_fMo_readLight_90 F z h t m N p A)
                have f182 : v151 = 0 ∧ (h86 90 8) = 0 ∧ pt_iw t m (pt_nt t m (pt_nt t m (pt_nt t m (pt_nt t m p)))) (491496238692 : Int) = 1 ∧ (h153 90 8) = pt_fN t m (1 : Int) (60 : Int) (pt_nt t m (pt_nt t m (pt_nt t m (pt_nt t m (pt_nt t m p))))) ∧ 1 ≤ (h153 90 8) ∧ (h153 90 7) = ((h86 90 7) + 1) + 1 ∧ (h153 90 7) ≤ N ∧ (h153 93 ((h153 90 7))) = pt_nt t m (pt_nt t m (pt_nt t m (pt_nt t m (pt_nt t m p)))) := f172
                clear f172
                refine ov_blk (ls2 := [(0, ov_r 90), (1, ov_i v4), (2, ov_i v84), (3, ov_i (350 + (4 * ((6 * v84) + v4)))), (4, ov_i v144), (5, ov_i v151)]) (st2 := [ov_r 90]) (pc2 := 139) b_219_136_2 rfl rfl ?_
                refine ov_getf (v := ov_i (h153 90 8)) d_219_139 fl_Mo_180 (zb_90 I154) (zs_90 I154) rfl ?_
                have g183 := rg_90_8 I154
                refine ov_ifgt (tgt := 151) d_219_142 (by decide) (by omega) (fun c184 => ?_) (fun c184 => ?_)
                · skip
                  refine ov_blk (ls2 := [(0, ov_r 90), (1, ov_i v4), (2, ov_i v84), (3, ov_i (350 + (4 * ((6 * v84) + v4)))), (4, ov_i v144), (5, ov_i v151)]) (st2 := [ov_r 90]) (pc2 := 152) b_219_151_1 rfl rfl ?_
                  refine ov_getf (v := ov_r 96) d_219_152 fl_Mo_81 (zb_90 I154) (zs_90 I154) (congrArg ov_r (rg_90_10 I154)) ?_
                  refine ov_blk (ls2 := [(0, ov_r 90), (1, ov_i v4), (2, ov_i v84), (3, ov_i (350 + (4 * ((6 * v84) + v4)))), (4, ov_i v144), (5, ov_i v151)]) (st2 := [ov_i 349, ov_r 96]) (pc2 := 158) b_219_155_1 rfl rfl ?_
                  refine ov_iald d_219_158 (zb_96 I154) (zs_96 I154) (by omega) ?_
                  have e185 : h153 96 349 = (A 9) := Eq.trans (congrFun (show h153 96 = h 96 from E162) 349) (pt_MR_c mr (j := 9) (by omega))
                  rw [e185]
                  show ov_R u d ov_m219 159 [(0, ov_r 90), (1, ov_i v4), (2, ov_i v84), (3, ov_i (350 + (4 * ((6 * v84) + v4)))), (4, ov_i v144), (5, ov_i v151)] [ov_i (A 9)] z152 h153 (P_fMo_readLight_90 F z h t m N p A)
                  refine ov_goto (tgt := 187) d_219_159 (by decide) ?_
                  refine ov_blk (ls2 := [(0, ov_r 90), (1, ov_i v4), (2, ov_i v84), (3, ov_i (350 + (4 * ((6 * v84) + v4)))), (4, ov_i v144), (5, ov_i v151), (6, ov_i (A 9))]) (st2 := [ov_r 90]) (pc2 := 190) b_219_187_2 rfl rfl ?_
                  refine ov_getf (v := ov_i (h153 90 8)) d_219_190 fl_Mo_180 (zb_90 I154) (zs_90 I154) rfl ?_
                  refine ov_ifne (tgt := 219) d_219_193 (by decide) (by omega) (fun c187 => ?_) (fun c187 => ?_)
                  · skip
                    refine ov_blk (ls2 := [(0, ov_r 90), (1, ov_i v4), (2, ov_i v84), (3, ov_i (350 + (4 * ((6 * v84) + v4)))), (4, ov_i v144), (5, ov_i v151), (6, ov_i (A 9))]) (st2 := [ov_r 90]) (pc2 := 220) b_219_219_1 rfl rfl ?_
                    refine ov_getf (v := ov_i (h153 90 8)) d_219_220 fl_Mo_180 (zb_90 I154) (zs_90 I154) rfl ?_
                    refine ov_ifle (tgt := 227) d_219_223 (by decide) (by omega) (fun c189 => ?_) (fun c189 => ?_)
                    · omega
                    · skip
                      have hr : pt_rdF t m (pt_kt t m (pt_nt t m (pt_nt t m (pt_nt t m p)))) (A 9) (pt_nt t m (pt_nt t m (pt_nt t m (pt_nt t m p)))) = (h153 90 8) := by unfold pt_rdF pt_fW; (repeat' split) <;> omega
                      have hF : (pt_liF t m A p) = (h153 90 8) := by unfold pt_liF; (repeat' split) <;> omega
                      exact ov_retv (st := []) d_219_226 rfl ⟨rfl, I154, (fun a ca => (fr164 a ca)), (fun k n0 n1 => (rk165 k n0 n1)), (Or.inl (by show (h153 90 8) = (pt_liF t m A p) ∧ 1 ≤ (h153 90 8) ∧ (h 90 7) ≤ (h153 90 7) ∧ (h153 90 7) ≤ N; omega))⟩
                  · omega
                · omega
              · skip
                show ov_R u d ov_m219 136 [(0, ov_r 90), (1, ov_i v4), (2, ov_i v84), (3, ov_i (350 + (4 * ((6 * v84) + v4)))), (4, ov_i v144)] [ov_i v151] z152 h153 (P_fMo_readLight_90 F z h t m N p A)
                have f190 : (h86 90 8) = 0 ∧ pt_iw t m (pt_nt t m (pt_nt t m (pt_nt t m (pt_nt t m p)))) (491496238692 : Int) = 1 ∧ (h153 90 8) = 0 ∧ pt_fN t m (1 : Int) (60 : Int) (pt_nt t m (pt_nt t m (pt_nt t m (pt_nt t m (pt_nt t m p))))) = 0 ∧ (1 : Int) ≤ v151 ∧ v151 ≤ (60 : Int) ∧ v151 = pt_nm t m (pt_nt t m (pt_nt t m (pt_nt t m (pt_nt t m (pt_nt t m p))))) ∧ 0 ≤ v151 ∧ v151 ≤ 9999 ∧ (h153 90 7) = ((h86 90 7) + 1) + 2 ∧ (h153 90 7) ≤ N ∧ (h153 93 ((h153 90 7))) = pt_nt t m (pt_nt t m (pt_nt t m (pt_nt t m (pt_nt t m (pt_nt t m p))))) := f173
                clear f173
                have bw191_ : h 93 (((h86 90 7) + 1)) = (pt_nt t m (pt_nt t m (pt_nt t m (pt_nt t m p)))) := Eq.trans (congrFun (show h 93 = h86 93 from (E92).symm) _) (by show h86 93 (((h86 90 7) + 1)) = (pt_nt t m (pt_nt t m (pt_nt t m (pt_nt t m p)))); omega)
                have bw191 := pt_MT_nx mt (k := ((h86 90 7) + 1)) ⟨by omega, by omega⟩
                rw [bw191_] at bw191
                refine ov_blk (ls2 := [(0, ov_r 90), (1, ov_i v4), (2, ov_i v84), (3, ov_i (350 + (4 * ((6 * v84) + v4)))), (4, ov_i v144), (5, ov_i v151)]) (st2 := [ov_r 90]) (pc2 := 139) b_219_136_2 rfl rfl ?_
                refine ov_getf (v := ov_i (h153 90 8)) d_219_139 fl_Mo_180 (zb_90 I154) (zs_90 I154) rfl ?_
                have g192 := rg_90_8 I154
                refine ov_ifgt (tgt := 151) d_219_142 (by decide) (by omega) (fun c193 => ?_) (fun c193 => ?_)
                · omega
                · skip
                  refine ov_blk (ls2 := [(0, ov_r 90), (1, ov_i v4), (2, ov_i v84), (3, ov_i (350 + (4 * ((6 * v84) + v4)))), (4, ov_i v144), (5, ov_i v151)]) (st2 := [ov_i 2, ov_i v144]) (pc2 := 148) b_219_145_2 rfl rfl ?_
                  refine ov_iclt (tgt := 162) d_219_148 (by decide) (by omega) (by omega) (fun c194 => ?_) (fun c194 => ?_)
                  · skip
                    refine ov_blk (ls2 := [(0, ov_r 90), (1, ov_i v4), (2, ov_i v84), (3, ov_i (350 + (4 * ((6 * v84) + v4)))), (4, ov_i v144), (5, ov_i v151)]) (st2 := [ov_r 90]) (pc2 := 163) b_219_162_1 rfl rfl ?_
                    refine ov_getf (v := ov_r 96) d_219_163 fl_Mo_81 (zb_90 I154) (zs_90 I154) (congrArg ov_r (rg_90_10 I154)) ?_
                    refine ov_blk (ls2 := [(0, ov_r 90), (1, ov_i v4), (2, ov_i v84), (3, ov_i (350 + (4 * ((6 * v84) + v4)))), (4, ov_i v144), (5, ov_i v151)]) (st2 := [ov_i 349, ov_r 96]) (pc2 := 169) b_219_166_1 rfl rfl ?_
                    refine ov_iald d_219_169 (zb_96 I154) (zs_96 I154) (by omega) ?_
                    have e195 : h153 96 349 = (A 9) := Eq.trans (congrFun (show h153 96 = h 96 from E162) 349) (pt_MR_c mr (j := 9) (by omega))
                    rw [e195]
                    show ov_R u d ov_m219 170 [(0, ov_r 90), (1, ov_i v4), (2, ov_i v84), (3, ov_i (350 + (4 * ((6 * v84) + v4)))), (4, ov_i v144), (5, ov_i v151)] [ov_i (A 9)] z152 h153 (P_fMo_readLight_90 F z h t m N p A)
                    refine ov_blk (ls2 := [(0, ov_r 90), (1, ov_i v4), (2, ov_i v84), (3, ov_i (350 + (4 * ((6 * v84) + v4)))), (4, ov_i v144), (5, ov_i v151)]) (st2 := [ov_r 90, ov_i (A 9)]) (pc2 := 171) b_219_170_1 rfl rfl ?_
                    refine ov_getf (v := ov_r 96) d_219_171 fl_Mo_81 (zb_90 I154) (zs_90 I154) (congrArg ov_r (rg_90_10 I154)) ?_
                    refine ov_blk (ls2 := [(0, ov_r 90), (1, ov_i v4), (2, ov_i v84), (3, ov_i (350 + (4 * ((6 * v84) + v4)))), (4, ov_i v144), (5, ov_i v151)]) (st2 := [ov_i 349, ov_r 96, ov_i (A 9)]) (pc2 := 177) b_219_174_1 rfl rfl ?_
                    refine ov_iald d_219_177 (zb_96 I154) (zs_96 I154) (by omega) ?_
                    have e196 : h153 96 349 = (A 9) := Eq.trans (congrFun (show h153 96 = h 96 from E162) 349) (pt_MR_c mr (j := 9) (by omega))
                    rw [e196]
                    show ov_R u d ov_m219 178 [(0, ov_r 90), (1, ov_i v4), (2, ov_i v84), (3, ov_i (350 + (4 * ((6 * v84) + v4)))), (4, ov_i v144), (5, ov_i v151)] [ov_i (A 9), ov_i (A 9)] z152 h153 (P_fMo_readLight_90 F z h t m N p A)
                    refine ov_blk (ls2 := [(0, ov_r 90), (1, ov_i v4), (2, ov_i v84), (3, ov_i (350 + (4 * ((6 * v84) + v4)))), (4, ov_i v144), (5, ov_i v151)]) (st2 := [ov_i v151, ov_i (A 9), ov_i (A 9)]) (pc2 := 180) b_219_178_1 rfl rfl ?_
                    refine ov_cS (as := [ov_i (A 9), ov_i v151]) (st := [ov_i (A 9)]) (d2 := d - 1) d_219_180 lk_Mo_236 rfl (Nat.le_of_ble_eq_true rfl) (by omega) (c_fMo_common (d - 1) (by omega) U I154 (A 9) v151 (by omega) (by omega) (by show 1 ≤ (A 9) ∧ (A 9) ≤ 1200 ∧ 1 ≤ v151 ∧ v151 ≤ 60; omega)) ?_
                    rintro _ _ _ ⟨v197, rfl, rfl, rfl, rfl⟩
                    have g198 := @pt_gcd_b (A 9) v151 (by omega)
                    show ov_R u d ov_m219 183 [(0, ov_r 90), (1, ov_i v4), (2, ov_i v84), (3, ov_i (350 + (4 * ((6 * v84) + v4)))), (4, ov_i v144), (5, ov_i v151)] [ov_i ((Nat.gcd (A 9).toNat v151.toNat : Nat) : Int), ov_i (A 9)] z152 h153 (P_fMo_readLight_90 F z h t m N p A)
                    refine ov_idiv d_219_183 (by omega) (by omega) (by omega) ?_
                    refine ov_blk (ls2 := [(0, ov_r 90), (1, ov_i v4), (2, ov_i v84), (3, ov_i (350 + (4 * ((6 * v84) + v4)))), (4, ov_i v144), (5, ov_i v151)]) (st2 := [ov_i ((Int.tdiv (A 9) ((Nat.gcd (A 9).toNat v151.toNat : Nat) : Int)) * v151)]) (pc2 := 187) b_219_184_2 rfl rfl ?_
                    have lc := pt_lc_b (a := A 9) (b := v151) (by omega)
                    show ov_R u d ov_m219 187 [(0, ov_r 90), (1, ov_i v4), (2, ov_i v84), (3, ov_i (350 + (4 * ((6 * v84) + v4)))), (4, ov_i v144), (5, ov_i v151)] [ov_i (pt_lc (A 9) v151)] z152 h153 (P_fMo_readLight_90 F z h t m N p A)
                    refine ov_blk (ls2 := [(0, ov_r 90), (1, ov_i v4), (2, ov_i v84), (3, ov_i (350 + (4 * ((6 * v84) + v4)))), (4, ov_i v144), (5, ov_i v151), (6, ov_i (pt_lc (A 9) v151))]) (st2 := [ov_r 90]) (pc2 := 190) b_219_187_2 rfl rfl ?_
                    refine ov_getf (v := ov_i (h153 90 8)) d_219_190 fl_Mo_180 (zb_90 I154) (zs_90 I154) rfl ?_
                    refine ov_ifne (tgt := 219) d_219_193 (by decide) (by omega) (fun c200 => ?_) (fun c200 => ?_)
                    · omega
                    · skip
                      refine ov_blk (ls2 := [(0, ov_r 90), (1, ov_i v4), (2, ov_i v84), (3, ov_i (350 + (4 * ((6 * v84) + v4)))), (4, ov_i v144), (5, ov_i v151), (6, ov_i (pt_lc (A 9) v151))]) (st2 := [ov_i 1200, ov_i (pt_lc (A 9) v151)]) (pc2 := 201) b_219_196_2 rfl rfl ?_
                      refine ov_icle (tgt := 219) d_219_201 (by decide) (by omega) (by omega) (fun c201 => ?_) (fun c201 => ?_)
                      · skip
                        refine ov_blk (ls2 := [(0, ov_r 90), (1, ov_i v4), (2, ov_i v84), (3, ov_i (350 + (4 * ((6 * v84) + v4)))), (4, ov_i v144), (5, ov_i v151), (6, ov_i (pt_lc (A 9) v151))]) (st2 := [ov_r 90]) (pc2 := 220) b_219_219_1 rfl rfl ?_
                        refine ov_getf (v := ov_i (h153 90 8)) d_219_220 fl_Mo_180 (zb_90 I154) (zs_90 I154) rfl ?_
                        refine ov_ifle (tgt := 227) d_219_223 (by decide) (by omega) (fun c203 => ?_) (fun c203 => ?_)
                        · skip
                          have e5 : v151 = (pt_nm t m (pt_nt t m (pt_nt t m (pt_nt t m (pt_nt t m (pt_nt t m p)))))) := by omega
                          have l5 : pt_lc (A 9) v151 = pt_lc (A 9) (pt_nm t m (pt_nt t m (pt_nt t m (pt_nt t m (pt_nt t m (pt_nt t m p)))))) := by rw [e5]
                          have hr : pt_rdF t m (pt_kt t m (pt_nt t m (pt_nt t m (pt_nt t m p)))) (A 9) (pt_nt t m (pt_nt t m (pt_nt t m (pt_nt t m p)))) = 0 := by unfold pt_rdF pt_fW; (repeat' split) <;> omega
                          have hc : (pt_lc (A 9) v151) = (pt_rdC (pt_kt t m (pt_nt t m (pt_nt t m (pt_nt t m p)))) (A 9) (pt_nm t m (pt_nt t m (pt_nt t m (pt_nt t m (pt_nt t m (pt_nt t m p))))))) := by unfold pt_rdC; rw [if_pos (by omega)]; exact l5
                          refine ov_blk (ls2 := [(0, ov_r 90), (1, ov_i v4), (2, ov_i v84), (3, ov_i (350 + (4 * ((6 * v84) + v4)))), (4, ov_i v144), (5, ov_i v151), (6, ov_i (pt_lc (A 9) v151))]) (st2 := [ov_r 90]) (pc2 := 228) b_219_227_1 rfl rfl ?_
                          refine ov_getf (v := ov_r 96) d_219_228 fl_Mo_81 (zb_90 I154) (zs_90 I154) (congrArg ov_r (rg_90_10 I154)) ?_
                          refine ov_blk (ls2 := [(0, ov_r 90), (1, ov_i v4), (2, ov_i v84), (3, ov_i (350 + (4 * ((6 * v84) + v4)))), (4, ov_i v144), (5, ov_i v151), (6, ov_i (pt_lc (A 9) v151))]) (st2 := [ov_i (pt_lc (A 9) v151), ov_i 349, ov_r 96]) (pc2 := 236) b_219_231_2 rfl rfl ?_
                          refine ov_iast d_219_236 (zb_96 I154) (zs_96 I154) (by omega) ?_
                          have I204 := ua_96 (k := 349) (x := (pt_lc (A 9) v151)) I154 (by refine ⟨?_, ?_, ?_, ?_, ?_, ?_, ?_, ?_, ?_, ?_, ?_, ?_, ?_, ?_, ?_, ?_, ?_, ?_, ?_, ?_, ?_, ?_, ?_, ?_, ?_, ?_, ?_, ?_, ?_⟩ <;> omega)
                          refine ov_blk (ls2 := [(0, ov_r 90), (1, ov_i v4), (2, ov_i v84), (3, ov_i (350 + (4 * ((6 * v84) + v4)))), (4, ov_i v144), (5, ov_i v151), (6, ov_i (pt_lc (A 9) v151))]) (st2 := [ov_r 90]) (pc2 := 238) b_219_237_1 rfl rfl ?_
                          refine ov_getf (v := ov_r 96) d_219_238 fl_Mo_81 (zb_90 I204) (zs_90 I204) (congrArg ov_r (rg_90_10 I204)) ?_
                          refine ov_blk (ls2 := [(0, ov_r 90), (1, ov_i v4), (2, ov_i v84), (3, ov_i (350 + (4 * ((6 * v84) + v4)))), (4, ov_i v144), (5, ov_i v151), (6, ov_i (pt_lc (A 9) v151))]) (st2 := [ov_i (1 + v144), ov_i (350 + (4 * ((6 * v84) + v4))), ov_r 96]) (pc2 := 246) b_219_241_4 rfl rfl ?_
                          refine ov_iast d_219_246 (zb_96 I204) (zs_96 I204) (by omega) ?_
                          have I205 := ua_96 (k := (350 + (4 * ((6 * v84) + v4)))) (x := (1 + v144)) I204 (by refine ⟨?_, ?_, ?_, ?_, ?_, ?_, ?_, ?_, ?_, ?_, ?_, ?_, ?_, ?_, ?_, ?_, ?_, ?_, ?_, ?_, ?_, ?_, ?_, ?_, ?_, ?_, ?_, ?_, ?_⟩ <;> omega)
                          refine ov_blk (ls2 := [(0, ov_r 90), (1, ov_i v4), (2, ov_i v84), (3, ov_i (350 + (4 * ((6 * v84) + v4)))), (4, ov_i v144), (5, ov_i v151), (6, ov_i (pt_lc (A 9) v151))]) (st2 := [ov_r 90]) (pc2 := 248) b_219_247_1 rfl rfl ?_
                          refine ov_getf (v := ov_r 96) d_219_248 fl_Mo_81 (zb_90 I205) (zs_90 I205) (congrArg ov_r (rg_90_10 I205)) ?_
                          refine ov_blk (ls2 := [(0, ov_r 90), (1, ov_i v4), (2, ov_i v84), (3, ov_i (350 + (4 * ((6 * v84) + v4)))), (4, ov_i v144), (5, ov_i v151), (6, ov_i (pt_lc (A 9) v151))]) (st2 := [ov_i v151, ov_i ((350 + (4 * ((6 * v84) + v4))) + 1), ov_r 96]) (pc2 := 256) b_219_251_4 rfl rfl ?_
                          refine ov_iast d_219_256 (zb_96 I205) (zs_96 I205) (by omega) ?_
                          have I206 := ua_96 (k := ((350 + (4 * ((6 * v84) + v4))) + 1)) (x := v151) I205 (by refine ⟨?_, ?_, ?_, ?_, ?_, ?_, ?_, ?_, ?_, ?_, ?_, ?_, ?_, ?_, ?_, ?_, ?_, ?_, ?_, ?_, ?_, ?_, ?_, ?_, ?_, ?_, ?_, ?_, ?_⟩ <;> omega)
                          refine ov_blk (ls2 := [(0, ov_r 90), (1, ov_i v4), (2, ov_i v84), (3, ov_i (350 + (4 * ((6 * v84) + v4)))), (4, ov_i v144), (5, ov_i v151), (6, ov_i (pt_lc (A 9) v151))]) (st2 := [ov_r 90]) (pc2 := 258) b_219_257_1 rfl rfl ?_
                          refine ov_getf (v := ov_r 96) d_219_258 fl_Mo_81 (zb_90 I206) (zs_90 I206) (congrArg ov_r (rg_90_10 I206)) ?_
                          refine ov_blk (ls2 := [(0, ov_r 90), (1, ov_i v4), (2, ov_i v84), (3, ov_i (350 + (4 * ((6 * v84) + v4)))), (4, ov_i v144), (5, ov_i v151), (6, ov_i (pt_lc (A 9) v151))]) (st2 := [ov_i (v151 - 1), ov_i 0, ov_i 10, ov_r 90, ov_i ((350 + (4 * ((6 * v84) + v4))) + 2), ov_r 96]) (pc2 := 272) b_219_261_9 rfl rfl ?_
                          have cf207 : h153 93 ((h153 90 7)) = h 93 ((h153 90 7)) := congrFun E159 ((h153 90 7))
                          refine ov_cV (as := [ov_i 10, ov_i 0, ov_i (v151 - 1)]) (st := [ov_i ((350 + (4 * ((6 * v84) + v4))) + 2), ov_r 96]) (d2 := d - 1) d_219_272 lk_Mo_232 rfl (Nat.le_of_ble_eq_true rfl) (c := 1) (zb_90 I206) (zs_90 I206) ⟨by decide, rfl⟩ (by omega) (c_fMo_takeAfter_90 t m N (pt_nt t m (pt_nt t m (pt_nt t m (pt_nt t m (pt_nt t m (pt_nt t m p)))))) 1870030194 (d - 1) (by omega) U I206 10 0 (v151 - 1) (by omega) (by omega) (by omega) (by show 0 ≤ (h153 90 7) ∧ (h153 90 7) ≤ N; omega) (by show (h153 93 ((h153 90 7))) = (pt_nt t m (pt_nt t m (pt_nt t m (pt_nt t m (pt_nt t m (pt_nt t m p)))))); omega) (by show 0 ≤ (h153 90 8); omega) (by show 0 ≤ (10 : Int) ∧ (10 : Int) ≤ 21; omega) (by rw [show (ov_up (ov_up (ov_up h153 96 349 (pt_lc (A 9) v151)) 96 (350 + (4 * ((6 * v84) + v4))) (1 + v144)) 96 ((350 + (4 * ((6 * v84) + v4))) + 1) v151) 92 = h 92 from E158, show (ov_up (ov_up (ov_up h153 96 349 (pt_lc (A 9) v151)) 96 (350 + (4 * ((6 * v84) + v4))) (1 + v144)) 96 ((350 + (4 * ((6 * v84) + v4))) + 1) v151) 93 = h 93 from E159, show (ov_up (ov_up (ov_up h153 96 349 (pt_lc (A 9) v151)) 96 (350 + (4 * ((6 * v84) + v4))) (1 + v144)) 96 ((350 + (4 * ((6 * v84) + v4))) + 1) v151) 94 = h 94 from E160]; exact mt) (by rw [show (ov_up (ov_up (ov_up h153 96 349 (pt_lc (A 9) v151)) 96 (350 + (4 * ((6 * v84) + v4))) (1 + v144)) 96 ((350 + (4 * ((6 * v84) + v4))) + 1) v151) 95 = h 95 from E161]; exact wd) (by decide +kernel)) ?_
                          rintro _ z209 h210 ⟨v208, rfl, I211, y212, y213, y214⟩
                          have E215 : h210 92 = h 92 := Eq.trans (y212 92 (by decide)) (show (ov_up (ov_up (ov_up h153 96 349 (pt_lc (A 9) v151)) 96 (350 + (4 * ((6 * v84) + v4))) (1 + v144)) 96 ((350 + (4 * ((6 * v84) + v4))) + 1) v151) 92 = h 92 from E158)
                          have E216 : h210 93 = h 93 := Eq.trans (y212 93 (by decide)) (show (ov_up (ov_up (ov_up h153 96 349 (pt_lc (A 9) v151)) 96 (350 + (4 * ((6 * v84) + v4))) (1 + v144)) 96 ((350 + (4 * ((6 * v84) + v4))) + 1) v151) 93 = h 93 from E159)
                          have E217 : h210 94 = h 94 := Eq.trans (y212 94 (by decide)) (show (ov_up (ov_up (ov_up h153 96 349 (pt_lc (A 9) v151)) 96 (350 + (4 * ((6 * v84) + v4))) (1 + v144)) 96 ((350 + (4 * ((6 * v84) + v4))) + 1) v151) 94 = h 94 from E160)
                          have E218 : h210 95 = h 95 := Eq.trans (y212 95 (by decide)) (show (ov_up (ov_up (ov_up h153 96 349 (pt_lc (A 9) v151)) 96 (350 + (4 * ((6 * v84) + v4))) (1 + v144)) 96 ((350 + (4 * ((6 * v84) + v4))) + 1) v151) 95 = h 95 from E161)
                          have R220 : h210 96 = (ov_rs (ov_rs (ov_rs (h 96) 349 (pt_lc (A 9) v151)) (350 + (4 * ((6 * v84) + v4))) (1 + v144)) ((350 + (4 * ((6 * v84) + v4))) + 1) v151) := Eq.trans (y212 96 (by decide)) (Eq.trans (ov_up_row (ov_up (ov_up h153 96 349 (pt_lc (A 9) v151)) 96 (350 + (4 * ((6 * v84) + v4))) (1 + v144)) 96 ((350 + (4 * ((6 * v84) + v4))) + 1) v151) (congrArg (fun f => ov_rs f ((350 + (4 * ((6 * v84) + v4))) + 1) v151) (Eq.trans (ov_up_row (ov_up h153 96 349 (pt_lc (A 9) v151)) 96 (350 + (4 * ((6 * v84) + v4))) (1 + v144)) (congrArg (fun f => ov_rs f (350 + (4 * ((6 * v84) + v4))) (1 + v144)) (Eq.trans (ov_up_row h153 96 349 (pt_lc (A 9) v151)) (congrArg (fun f => ov_rs f 349 (pt_lc (A 9) v151)) E162))))))
                          have E221 : h210 99 = h 99 := Eq.trans (y212 99 (by decide)) (show (ov_up (ov_up (ov_up h153 96 349 (pt_lc (A 9) v151)) 96 (350 + (4 * ((6 * v84) + v4))) (1 + v144)) 96 ((350 + (4 * ((6 * v84) + v4))) + 1) v151) 99 = h 99 from E163)
                          have fr222 : ∀ a : Int, a ≠ 90 ∧ a ≠ 96 → h210 a = h a := fun a ca => Eq.trans (y212 a (by omega)) (Eq.trans (by show (ov_up (ov_up (ov_up h153 96 349 (pt_lc (A 9) v151)) 96 (350 + (4 * ((6 * v84) + v4))) (1 + v144)) 96 ((350 + (4 * ((6 * v84) + v4))) + 1) v151) a = h153 a; rw [ov_up_ne (by omega), ov_up_ne (by omega), ov_up_ne (by omega)]) (fr164 a ca))
                          have y213_ : ∀ k : Int, k ≠ 7 → k ≠ 8 → (h210 90) k = (h153 90) k := y213
                          have rk223 : ∀ k : Int, k ≠ 7 → k ≠ 8 → h210 90 k = h 90 k := fun k n0 n1 => Eq.trans (y213_ k n0 n1) (Eq.trans (by show (ov_up (ov_up (ov_up h153 96 349 (pt_lc (A 9) v151)) 96 (350 + (4 * ((6 * v84) + v4))) (1 + v144)) 96 ((350 + (4 * ((6 * v84) + v4))) + 1) v151) 90 k = h153 90 k; rw [ov_up_ne (by decide), ov_up_ne (by decide), ov_up_ne (by decide)]) (rk165 k n0 n1))
                          have g224 : h210 90 2 = (h153 90 2) := y213_ 2 (by decide) (by decide)
                          have g225 : h210 90 3 = (h153 90 3) := y213_ 3 (by decide) (by decide)
                          have g226 : h210 90 13 = (h153 90 13) := y213_ 13 (by decide) (by decide)
                          have g227 : h210 90 15 = (h153 90 15) := y213_ 15 (by decide) (by decide)
                          rcases y214 with f228 | f229 | f230 | f231
                          · have q9 : v208 = 0 ∧ (h153 90 8) ≠ 0 ∧ (h210 90 8) = (h153 90 8) ∧ (h210 90 7) = (h153 90 7) ∧ (h210 93 ((h210 90 7))) = (pt_nt t m (pt_nt t m (pt_nt t m (pt_nt t m (pt_nt t m (pt_nt t m p)))))) := f228
                            omega
                          · skip
                            show ov_R u d ov_m219 275 [(0, ov_r 90), (1, ov_i v4), (2, ov_i v84), (3, ov_i (350 + (4 * ((6 * v84) + v4)))), (4, ov_i v144), (5, ov_i v151), (6, ov_i (pt_lc (A 9) v151))] [ov_i v208, ov_i ((350 + (4 * ((6 * v84) + v4))) + 2), ov_r 96] z209 h210 (P_fMo_readLight_90 F z h t m N p A)
                            have f232 : v208 = 0 ∧ (h153 90 8) = 0 ∧ pt_iw t m (pt_nt t m (pt_nt t m (pt_nt t m (pt_nt t m (pt_nt t m (pt_nt t m p)))))) (1870030194 : Int) = 0 ∧ (h210 90 8) = 1 + 16 * (pt_nt t m (pt_nt t m (pt_nt t m (pt_nt t m (pt_nt t m (pt_nt t m p)))))) ∧ 1 ≤ (h210 90 8) ∧ (h210 90 7) = (h153 90 7) ∧ (h210 93 ((h210 90 7))) = (pt_nt t m (pt_nt t m (pt_nt t m (pt_nt t m (pt_nt t m (pt_nt t m p)))))) := f229
                            clear f229
                            refine ov_iast d_219_275 (zb_96 I211) (zs_96 I211) (by omega) ?_
                            have I233 := ua_96 (k := ((350 + (4 * ((6 * v84) + v4))) + 2)) (x := v208) I211 (by refine ⟨?_, ?_, ?_, ?_, ?_, ?_, ?_, ?_, ?_, ?_, ?_, ?_, ?_, ?_, ?_, ?_, ?_, ?_, ?_, ?_, ?_, ?_, ?_, ?_, ?_, ?_, ?_, ?_, ?_⟩ <;> omega)
                            refine ov_blk (ls2 := [(0, ov_r 90), (1, ov_i v4), (2, ov_i v84), (3, ov_i (350 + (4 * ((6 * v84) + v4)))), (4, ov_i v144), (5, ov_i v151), (6, ov_i (pt_lc (A 9) v151))]) (st2 := [ov_r 90]) (pc2 := 277) b_219_276_1 rfl rfl ?_
                            refine ov_getf (v := ov_r 96) d_219_277 fl_Mo_81 (zb_90 I233) (zs_90 I233) (congrArg ov_r (rg_90_10 I233)) ?_
                            refine ov_blk (ls2 := [(0, ov_r 90), (1, ov_i v4), (2, ov_i v84), (3, ov_i (350 + (4 * ((6 * v84) + v4)))), (4, ov_i v144), (5, ov_i v151), (6, ov_i (pt_lc (A 9) v151))]) (st2 := [ov_i v151, ov_i 0, ov_i 12, ov_r 90, ov_i ((350 + (4 * ((6 * v84) + v4))) + 3), ov_r 96]) (pc2 := 289) b_219_280_7 rfl rfl ?_
                            have cf234 : h210 93 ((h210 90 7)) = h 93 ((h210 90 7)) := congrFun E216 ((h210 90 7))
                            refine ov_cV (as := [ov_i 12, ov_i 0, ov_i v151]) (st := [ov_i ((350 + (4 * ((6 * v84) + v4))) + 3), ov_r 96]) (d2 := d - 1) d_219_289 lk_Mo_232 rfl (Nat.le_of_ble_eq_true rfl) (c := 1) (zb_90 I233) (zs_90 I233) ⟨by decide, rfl⟩ (by omega) (c_fMo_takeAfter_90 t m N (pt_nt t m (pt_nt t m (pt_nt t m (pt_nt t m (pt_nt t m (pt_nt t m p)))))) 6713202 (d - 1) (by omega) U I233 12 0 v151 (by omega) (by omega) (by omega) (by show 0 ≤ (h210 90 7) ∧ (h210 90 7) ≤ N; omega) (by show (h210 93 ((h210 90 7))) = (pt_nt t m (pt_nt t m (pt_nt t m (pt_nt t m (pt_nt t m (pt_nt t m p)))))); omega) (by show 0 ≤ (h210 90 8); omega) (by show 0 ≤ (12 : Int) ∧ (12 : Int) ≤ 21; omega) (by rw [show (ov_up h210 96 ((350 + (4 * ((6 * v84) + v4))) + 2) v208) 92 = h 92 from E215, show (ov_up h210 96 ((350 + (4 * ((6 * v84) + v4))) + 2) v208) 93 = h 93 from E216, show (ov_up h210 96 ((350 + (4 * ((6 * v84) + v4))) + 2) v208) 94 = h 94 from E217]; exact mt) (by rw [show (ov_up h210 96 ((350 + (4 * ((6 * v84) + v4))) + 2) v208) 95 = h 95 from E218]; exact wd) (by decide +kernel)) ?_
                            rintro _ z236 h237 ⟨v235, rfl, I238, y239, y240, y241⟩
                            have E242 : h237 92 = h 92 := Eq.trans (y239 92 (by decide)) (show (ov_up h210 96 ((350 + (4 * ((6 * v84) + v4))) + 2) v208) 92 = h 92 from E215)
                            have E243 : h237 93 = h 93 := Eq.trans (y239 93 (by decide)) (show (ov_up h210 96 ((350 + (4 * ((6 * v84) + v4))) + 2) v208) 93 = h 93 from E216)
                            have E244 : h237 94 = h 94 := Eq.trans (y239 94 (by decide)) (show (ov_up h210 96 ((350 + (4 * ((6 * v84) + v4))) + 2) v208) 94 = h 94 from E217)
                            have E245 : h237 95 = h 95 := Eq.trans (y239 95 (by decide)) (show (ov_up h210 96 ((350 + (4 * ((6 * v84) + v4))) + 2) v208) 95 = h 95 from E218)
                            have R247 : h237 96 = (ov_rs (ov_rs (ov_rs (ov_rs (h 96) 349 (pt_lc (A 9) v151)) (350 + (4 * ((6 * v84) + v4))) (1 + v144)) ((350 + (4 * ((6 * v84) + v4))) + 1) v151) ((350 + (4 * ((6 * v84) + v4))) + 2) v208) := Eq.trans (y239 96 (by decide)) (Eq.trans (ov_up_row h210 96 ((350 + (4 * ((6 * v84) + v4))) + 2) v208) (congrArg (fun f => ov_rs f ((350 + (4 * ((6 * v84) + v4))) + 2) v208) R220))
                            have E248 : h237 99 = h 99 := Eq.trans (y239 99 (by decide)) (show (ov_up h210 96 ((350 + (4 * ((6 * v84) + v4))) + 2) v208) 99 = h 99 from E221)
                            have fr249 : ∀ a : Int, a ≠ 90 ∧ a ≠ 96 → h237 a = h a := fun a ca => Eq.trans (y239 a (by omega)) (Eq.trans (by show (ov_up h210 96 ((350 + (4 * ((6 * v84) + v4))) + 2) v208) a = h210 a; rw [ov_up_ne (by omega)]) (fr222 a ca))
                            have y240_ : ∀ k : Int, k ≠ 7 → k ≠ 8 → (h237 90) k = (h210 90) k := y240
                            have rk250 : ∀ k : Int, k ≠ 7 → k ≠ 8 → h237 90 k = h 90 k := fun k n0 n1 => Eq.trans (y240_ k n0 n1) (Eq.trans (by show (ov_up h210 96 ((350 + (4 * ((6 * v84) + v4))) + 2) v208) 90 k = h210 90 k; rw [ov_up_ne (by decide)]) (rk223 k n0 n1))
                            have g251 : h237 90 2 = (h210 90 2) := y240_ 2 (by decide) (by decide)
                            have g252 : h237 90 3 = (h210 90 3) := y240_ 3 (by decide) (by decide)
                            have g253 : h237 90 13 = (h210 90 13) := y240_ 13 (by decide) (by decide)
                            have g254 : h237 90 15 = (h210 90 15) := y240_ 15 (by decide) (by decide)
                            rcases y241 with f255 | f256 | f257 | f258
                            · skip
                              show ov_R u d ov_m219 292 [(0, ov_r 90), (1, ov_i v4), (2, ov_i v84), (3, ov_i (350 + (4 * ((6 * v84) + v4)))), (4, ov_i v144), (5, ov_i v151), (6, ov_i (pt_lc (A 9) v151))] [ov_i v235, ov_i ((350 + (4 * ((6 * v84) + v4))) + 3), ov_r 96] z236 h237 (P_fMo_readLight_90 F z h t m N p A)
                              have f259 : v235 = 0 ∧ (h210 90 8) ≠ 0 ∧ (h237 90 8) = (h210 90 8) ∧ (h237 90 7) = (h210 90 7) ∧ (h237 93 ((h237 90 7))) = (pt_nt t m (pt_nt t m (pt_nt t m (pt_nt t m (pt_nt t m (pt_nt t m p)))))) := f255
                              clear f255
                              refine ov_iast d_219_292 (zb_96 I238) (zs_96 I238) (by omega) ?_
                              have I260 := ua_96 (k := ((350 + (4 * ((6 * v84) + v4))) + 3)) (x := v235) I238 (by refine ⟨?_, ?_, ?_, ?_, ?_, ?_, ?_, ?_, ?_, ?_, ?_, ?_, ?_, ?_, ?_, ?_, ?_, ?_, ?_, ?_, ?_, ?_, ?_, ?_, ?_, ?_, ?_, ?_, ?_⟩ <;> omega)
                              refine ov_blk (ls2 := [(0, ov_r 90), (1, ov_i v4), (2, ov_i v84), (3, ov_i (350 + (4 * ((6 * v84) + v4)))), (4, ov_i v144), (5, ov_i v151), (6, ov_i (pt_lc (A 9) v151))]) (st2 := [ov_r 90]) (pc2 := 294) b_219_293_1 rfl rfl ?_
                              refine ov_getf (v := ov_r 96) d_219_294 fl_Mo_81 (zb_90 I260) (zs_90 I260) (congrArg ov_r (rg_90_10 I260)) ?_
                              refine ov_blk (ls2 := [(0, ov_r 90), (1, ov_i v4), (2, ov_i v84), (3, ov_i (350 + (4 * ((6 * v84) + v4)))), (4, ov_i v144), (5, ov_i v151), (6, ov_i (pt_lc (A 9) v151))]) (st2 := [ov_i 347, ov_r 96, ov_i 347, ov_r 96]) (pc2 := 301) b_219_297_2 rfl rfl ?_
                              refine ov_iald d_219_301 (zb_96 I260) (zs_96 I260) (by omega) ?_
                              show ov_R u d ov_m219 302 [(0, ov_r 90), (1, ov_i v4), (2, ov_i v84), (3, ov_i (350 + (4 * ((6 * v84) + v4)))), (4, ov_i v144), (5, ov_i v151), (6, ov_i (pt_lc (A 9) v151))] [ov_i ((ov_up h237 96 ((350 + (4 * ((6 * v84) + v4))) + 3) v235) 96 347), ov_i 347, ov_r 96] z236 (ov_up h237 96 ((350 + (4 * ((6 * v84) + v4))) + 3) v235) (P_fMo_readLight_90 F z h t m N p A)
                              have k7 : (ov_up h237 96 ((350 + (4 * ((6 * v84) + v4))) + 3) v235) 96 347 = A 7 := by rw [show (ov_up h237 96 ((350 + (4 * ((6 * v84) + v4))) + 3) v235) 96 = (ov_rs (ov_rs (ov_rs (ov_rs (ov_rs (h 96) 349 (pt_lc (A 9) v151)) (350 + (4 * ((6 * v84) + v4))) (1 + v144)) ((350 + (4 * ((6 * v84) + v4))) + 1) v151) ((350 + (4 * ((6 * v84) + v4))) + 2) v208) ((350 + (4 * ((6 * v84) + v4))) + 3) v235) from (Eq.trans (ov_up_row h237 96 ((350 + (4 * ((6 * v84) + v4))) + 3) v235) (congrArg (fun f => ov_rs f ((350 + (4 * ((6 * v84) + v4))) + 3) v235) R247)), ov_rs_ne (by omega), ov_rs_ne (by omega), ov_rs_ne (by omega), ov_rs_ne (by omega), ov_rs_ne (by omega)]; exact pt_MR_c mr (j := 7) (by omega)
                              refine ov_blk (ls2 := [(0, ov_r 90), (1, ov_i v4), (2, ov_i v84), (3, ov_i (350 + (4 * ((6 * v84) + v4)))), (4, ov_i v144), (5, ov_i v151), (6, ov_i (pt_lc (A 9) v151))]) (st2 := [ov_i (((ov_up h237 96 ((350 + (4 * ((6 * v84) + v4))) + 3) v235) 96 347) + 1), ov_i 347, ov_r 96]) (pc2 := 304) b_219_302_2 rfl rfl ?_
                              refine ov_nrm ?_
                              have g261 := ov_wg (((ov_up h237 96 ((350 + (4 * ((6 * v84) + v4))) + 3) v235) 96 347) + 1)
                              refine ov_iast d_219_304 (zb_96 I260) (zs_96 I260) (by omega) ?_
                              have I262 := ua_96 (k := 347) (x := (ov_w (((ov_up h237 96 ((350 + (4 * ((6 * v84) + v4))) + 3) v235) 96 347) + 1))) I260 (by refine ⟨?_, ?_, ?_, ?_, ?_, ?_, ?_, ?_, ?_, ?_, ?_, ?_, ?_, ?_, ?_, ?_, ?_, ?_, ?_, ?_, ?_, ?_, ?_, ?_, ?_, ?_, ?_, ?_, ?_⟩ <;> omega)
                              have eg1 : pt_fN t m 0 ((pt_nm t m (pt_nt t m (pt_nt t m (pt_nt t m (pt_nt t m (pt_nt t m p)))))) - 1) (pt_nt t m (pt_nt t m (pt_nt t m (pt_nt t m (pt_nt t m (pt_nt t m (pt_nt t m p))))))) = pt_fN t m 0 (v151 - 1) (pt_nt t m (pt_nt t m (pt_nt t m (pt_nt t m (pt_nt t m (pt_nt t m (pt_nt t m p))))))) := by rw [e5]
                              have eg2 : pt_fN t m 0 (pt_nm t m (pt_nt t m (pt_nt t m (pt_nt t m (pt_nt t m (pt_nt t m p)))))) (pt_nt t m (pt_nt t m (pt_nt t m (pt_nt t m (pt_nt t m (pt_nt t m (pt_nt t m (pt_nt t m (pt_nt t m p))))))))) = pt_fN t m 0 v151 (pt_nt t m (pt_nt t m (pt_nt t m (pt_nt t m (pt_nt t m (pt_nt t m (pt_nt t m (pt_nt t m (pt_nt t m p))))))))) := by rw [e5]
                              have hg : pt_grF t m (pt_nm t m (pt_nt t m (pt_nt t m (pt_nt t m (pt_nt t m (pt_nt t m p)))))) (pt_nt t m (pt_nt t m (pt_nt t m (pt_nt t m (pt_nt t m (pt_nt t m p)))))) = (h237 90 8) := by unfold pt_grF pt_fW; (repeat' split) <;> omega
                              have hF : (pt_liF t m A p) = (h237 90 8) := by unfold pt_liF; (repeat' split) <;> omega
                              exact ov_retv (st := []) d_219_305 rfl ⟨rfl, I262, (fun a ca => Eq.trans (by show (ov_up (ov_up h237 96 ((350 + (4 * ((6 * v84) + v4))) + 3) v235) 96 347 (ov_w (((ov_up h237 96 ((350 + (4 * ((6 * v84) + v4))) + 3) v235) 96 347) + 1))) a = h237 a; rw [ov_up_ne (by omega), ov_up_ne (by omega)]) (fr249 a ca)), (fun k n0 n1 => (Eq.trans (by show (ov_up (ov_up h237 96 ((350 + (4 * ((6 * v84) + v4))) + 3) v235) 96 347 (ov_w (((ov_up h237 96 ((350 + (4 * ((6 * v84) + v4))) + 3) v235) 96 347) + 1))) 90 k = h237 90 k; rw [ov_up_ne (by decide), ov_up_ne (by decide)]) (rk250 k n0 n1))), (Or.inl (by show (h237 90 8) = (pt_liF t m A p) ∧ 1 ≤ (h237 90 8) ∧ (h 90 7) ≤ (h237 90 7) ∧ (h237 90 7) ≤ N; omega))⟩
                            · have q9 : v235 = 0 ∧ (h210 90 8) = 0 ∧ pt_iw t m (pt_nt t m (pt_nt t m (pt_nt t m (pt_nt t m (pt_nt t m (pt_nt t m p)))))) (6713202 : Int) = 0 ∧ (h237 90 8) = 1 + 16 * (pt_nt t m (pt_nt t m (pt_nt t m (pt_nt t m (pt_nt t m (pt_nt t m p)))))) ∧ 1 ≤ (h237 90 8) ∧ (h237 90 7) = (h210 90 7) ∧ (h237 93 ((h237 90 7))) = (pt_nt t m (pt_nt t m (pt_nt t m (pt_nt t m (pt_nt t m (pt_nt t m p)))))) := f256
                              omega
                            · have q9 : v235 = 0 ∧ (h210 90 8) = 0 ∧ pt_iw t m (pt_nt t m (pt_nt t m (pt_nt t m (pt_nt t m (pt_nt t m (pt_nt t m p)))))) (6713202 : Int) = 1 ∧ (h237 90 8) = pt_fN t m (0 : Int) v151 (pt_nt t m (pt_nt t m (pt_nt t m (pt_nt t m (pt_nt t m (pt_nt t m (pt_nt t m p))))))) ∧ 1 ≤ (h237 90 8) ∧ (h237 90 7) = (h210 90 7) + 1 ∧ (h237 90 7) ≤ N ∧ (h237 93 ((h237 90 7))) = pt_nt t m (pt_nt t m (pt_nt t m (pt_nt t m (pt_nt t m (pt_nt t m (pt_nt t m p)))))) := f257
                              omega
                            · have q9 : (h210 90 8) = 0 ∧ pt_iw t m (pt_nt t m (pt_nt t m (pt_nt t m (pt_nt t m (pt_nt t m (pt_nt t m p)))))) (6713202 : Int) = 1 ∧ (h237 90 8) = 0 ∧ pt_fN t m (0 : Int) v151 (pt_nt t m (pt_nt t m (pt_nt t m (pt_nt t m (pt_nt t m (pt_nt t m (pt_nt t m p))))))) = 0 ∧ (0 : Int) ≤ v235 ∧ v235 ≤ v151 ∧ v235 = pt_nm t m (pt_nt t m (pt_nt t m (pt_nt t m (pt_nt t m (pt_nt t m (pt_nt t m (pt_nt t m p))))))) ∧ 0 ≤ v235 ∧ v235 ≤ 9999 ∧ (h237 90 7) = (h210 90 7) + 2 ∧ (h237 90 7) ≤ N ∧ (h237 93 ((h237 90 7))) = pt_nt t m (pt_nt t m (pt_nt t m (pt_nt t m (pt_nt t m (pt_nt t m (pt_nt t m (pt_nt t m p))))))) := f258
                              omega
                          · skip
                            show ov_R u d ov_m219 275 [(0, ov_r 90), (1, ov_i v4), (2, ov_i v84), (3, ov_i (350 + (4 * ((6 * v84) + v4)))), (4, ov_i v144), (5, ov_i v151), (6, ov_i (pt_lc (A 9) v151))] [ov_i v208, ov_i ((350 + (4 * ((6 * v84) + v4))) + 2), ov_r 96] z209 h210 (P_fMo_readLight_90 F z h t m N p A)
                            have f263 : v208 = 0 ∧ (h153 90 8) = 0 ∧ pt_iw t m (pt_nt t m (pt_nt t m (pt_nt t m (pt_nt t m (pt_nt t m (pt_nt t m p)))))) (1870030194 : Int) = 1 ∧ (h210 90 8) = pt_fN t m (0 : Int) (v151 - 1) (pt_nt t m (pt_nt t m (pt_nt t m (pt_nt t m (pt_nt t m (pt_nt t m (pt_nt t m p))))))) ∧ 1 ≤ (h210 90 8) ∧ (h210 90 7) = (h153 90 7) + 1 ∧ (h210 90 7) ≤ N ∧ (h210 93 ((h210 90 7))) = pt_nt t m (pt_nt t m (pt_nt t m (pt_nt t m (pt_nt t m (pt_nt t m (pt_nt t m p)))))) := f230
                            clear f230
                            refine ov_iast d_219_275 (zb_96 I211) (zs_96 I211) (by omega) ?_
                            have I264 := ua_96 (k := ((350 + (4 * ((6 * v84) + v4))) + 2)) (x := v208) I211 (by refine ⟨?_, ?_, ?_, ?_, ?_, ?_, ?_, ?_, ?_, ?_, ?_, ?_, ?_, ?_, ?_, ?_, ?_, ?_, ?_, ?_, ?_, ?_, ?_, ?_, ?_, ?_, ?_, ?_, ?_⟩ <;> omega)
                            refine ov_blk (ls2 := [(0, ov_r 90), (1, ov_i v4), (2, ov_i v84), (3, ov_i (350 + (4 * ((6 * v84) + v4)))), (4, ov_i v144), (5, ov_i v151), (6, ov_i (pt_lc (A 9) v151))]) (st2 := [ov_r 90]) (pc2 := 277) b_219_276_1 rfl rfl ?_
                            refine ov_getf (v := ov_r 96) d_219_277 fl_Mo_81 (zb_90 I264) (zs_90 I264) (congrArg ov_r (rg_90_10 I264)) ?_
                            refine ov_blk (ls2 := [(0, ov_r 90), (1, ov_i v4), (2, ov_i v84), (3, ov_i (350 + (4 * ((6 * v84) + v4)))), (4, ov_i v144), (5, ov_i v151), (6, ov_i (pt_lc (A 9) v151))]) (st2 := [ov_i v151, ov_i 0, ov_i 12, ov_r 90, ov_i ((350 + (4 * ((6 * v84) + v4))) + 3), ov_r 96]) (pc2 := 289) b_219_280_7 rfl rfl ?_
                            have cf265 : h210 93 ((h210 90 7)) = h 93 ((h210 90 7)) := congrFun E216 ((h210 90 7))
                            refine ov_cV (as := [ov_i 12, ov_i 0, ov_i v151]) (st := [ov_i ((350 + (4 * ((6 * v84) + v4))) + 3), ov_r 96]) (d2 := d - 1) d_219_289 lk_Mo_232 rfl (Nat.le_of_ble_eq_true rfl) (c := 1) (zb_90 I264) (zs_90 I264) ⟨by decide, rfl⟩ (by omega) (c_fMo_takeAfter_90 t m N (pt_nt t m (pt_nt t m (pt_nt t m (pt_nt t m (pt_nt t m (pt_nt t m (pt_nt t m p))))))) 6713202 (d - 1) (by omega) U I264 12 0 v151 (by omega) (by omega) (by omega) (by show 0 ≤ (h210 90 7) ∧ (h210 90 7) ≤ N; omega) (by show (h210 93 ((h210 90 7))) = (pt_nt t m (pt_nt t m (pt_nt t m (pt_nt t m (pt_nt t m (pt_nt t m (pt_nt t m p))))))); omega) (by show 0 ≤ (h210 90 8); omega) (by show 0 ≤ (12 : Int) ∧ (12 : Int) ≤ 21; omega) (by rw [show (ov_up h210 96 ((350 + (4 * ((6 * v84) + v4))) + 2) v208) 92 = h 92 from E215, show (ov_up h210 96 ((350 + (4 * ((6 * v84) + v4))) + 2) v208) 93 = h 93 from E216, show (ov_up h210 96 ((350 + (4 * ((6 * v84) + v4))) + 2) v208) 94 = h 94 from E217]; exact mt) (by rw [show (ov_up h210 96 ((350 + (4 * ((6 * v84) + v4))) + 2) v208) 95 = h 95 from E218]; exact wd) (by decide +kernel)) ?_
                            rintro _ z267 h268 ⟨v266, rfl, I269, y270, y271, y272⟩
                            have E273 : h268 92 = h 92 := Eq.trans (y270 92 (by decide)) (show (ov_up h210 96 ((350 + (4 * ((6 * v84) + v4))) + 2) v208) 92 = h 92 from E215)
                            have E274 : h268 93 = h 93 := Eq.trans (y270 93 (by decide)) (show (ov_up h210 96 ((350 + (4 * ((6 * v84) + v4))) + 2) v208) 93 = h 93 from E216)
                            have E275 : h268 94 = h 94 := Eq.trans (y270 94 (by decide)) (show (ov_up h210 96 ((350 + (4 * ((6 * v84) + v4))) + 2) v208) 94 = h 94 from E217)
                            have E276 : h268 95 = h 95 := Eq.trans (y270 95 (by decide)) (show (ov_up h210 96 ((350 + (4 * ((6 * v84) + v4))) + 2) v208) 95 = h 95 from E218)
                            have R278 : h268 96 = (ov_rs (ov_rs (ov_rs (ov_rs (h 96) 349 (pt_lc (A 9) v151)) (350 + (4 * ((6 * v84) + v4))) (1 + v144)) ((350 + (4 * ((6 * v84) + v4))) + 1) v151) ((350 + (4 * ((6 * v84) + v4))) + 2) v208) := Eq.trans (y270 96 (by decide)) (Eq.trans (ov_up_row h210 96 ((350 + (4 * ((6 * v84) + v4))) + 2) v208) (congrArg (fun f => ov_rs f ((350 + (4 * ((6 * v84) + v4))) + 2) v208) R220))
                            have E279 : h268 99 = h 99 := Eq.trans (y270 99 (by decide)) (show (ov_up h210 96 ((350 + (4 * ((6 * v84) + v4))) + 2) v208) 99 = h 99 from E221)
                            have fr280 : ∀ a : Int, a ≠ 90 ∧ a ≠ 96 → h268 a = h a := fun a ca => Eq.trans (y270 a (by omega)) (Eq.trans (by show (ov_up h210 96 ((350 + (4 * ((6 * v84) + v4))) + 2) v208) a = h210 a; rw [ov_up_ne (by omega)]) (fr222 a ca))
                            have y271_ : ∀ k : Int, k ≠ 7 → k ≠ 8 → (h268 90) k = (h210 90) k := y271
                            have rk281 : ∀ k : Int, k ≠ 7 → k ≠ 8 → h268 90 k = h 90 k := fun k n0 n1 => Eq.trans (y271_ k n0 n1) (Eq.trans (by show (ov_up h210 96 ((350 + (4 * ((6 * v84) + v4))) + 2) v208) 90 k = h210 90 k; rw [ov_up_ne (by decide)]) (rk223 k n0 n1))
                            have g282 : h268 90 2 = (h210 90 2) := y271_ 2 (by decide) (by decide)
                            have g283 : h268 90 3 = (h210 90 3) := y271_ 3 (by decide) (by decide)
                            have g284 : h268 90 13 = (h210 90 13) := y271_ 13 (by decide) (by decide)
                            have g285 : h268 90 15 = (h210 90 15) := y271_ 15 (by decide) (by decide)
                            rcases y272 with f286 | f287 | f288 | f289
                            · skip
                              show ov_R u d ov_m219 292 [(0, ov_r 90), (1, ov_i v4), (2, ov_i v84), (3, ov_i (350 + (4 * ((6 * v84) + v4)))), (4, ov_i v144), (5, ov_i v151), (6, ov_i (pt_lc (A 9) v151))] [ov_i v266, ov_i ((350 + (4 * ((6 * v84) + v4))) + 3), ov_r 96] z267 h268 (P_fMo_readLight_90 F z h t m N p A)
                              have f290 : v266 = 0 ∧ (h210 90 8) ≠ 0 ∧ (h268 90 8) = (h210 90 8) ∧ (h268 90 7) = (h210 90 7) ∧ (h268 93 ((h268 90 7))) = (pt_nt t m (pt_nt t m (pt_nt t m (pt_nt t m (pt_nt t m (pt_nt t m (pt_nt t m p))))))) := f286
                              clear f286
                              refine ov_iast d_219_292 (zb_96 I269) (zs_96 I269) (by omega) ?_
                              have I291 := ua_96 (k := ((350 + (4 * ((6 * v84) + v4))) + 3)) (x := v266) I269 (by refine ⟨?_, ?_, ?_, ?_, ?_, ?_, ?_, ?_, ?_, ?_, ?_, ?_, ?_, ?_, ?_, ?_, ?_, ?_, ?_, ?_, ?_, ?_, ?_, ?_, ?_, ?_, ?_, ?_, ?_⟩ <;> omega)
                              refine ov_blk (ls2 := [(0, ov_r 90), (1, ov_i v4), (2, ov_i v84), (3, ov_i (350 + (4 * ((6 * v84) + v4)))), (4, ov_i v144), (5, ov_i v151), (6, ov_i (pt_lc (A 9) v151))]) (st2 := [ov_r 90]) (pc2 := 294) b_219_293_1 rfl rfl ?_
                              refine ov_getf (v := ov_r 96) d_219_294 fl_Mo_81 (zb_90 I291) (zs_90 I291) (congrArg ov_r (rg_90_10 I291)) ?_
                              refine ov_blk (ls2 := [(0, ov_r 90), (1, ov_i v4), (2, ov_i v84), (3, ov_i (350 + (4 * ((6 * v84) + v4)))), (4, ov_i v144), (5, ov_i v151), (6, ov_i (pt_lc (A 9) v151))]) (st2 := [ov_i 347, ov_r 96, ov_i 347, ov_r 96]) (pc2 := 301) b_219_297_2 rfl rfl ?_
                              refine ov_iald d_219_301 (zb_96 I291) (zs_96 I291) (by omega) ?_
                              show ov_R u d ov_m219 302 [(0, ov_r 90), (1, ov_i v4), (2, ov_i v84), (3, ov_i (350 + (4 * ((6 * v84) + v4)))), (4, ov_i v144), (5, ov_i v151), (6, ov_i (pt_lc (A 9) v151))] [ov_i ((ov_up h268 96 ((350 + (4 * ((6 * v84) + v4))) + 3) v266) 96 347), ov_i 347, ov_r 96] z267 (ov_up h268 96 ((350 + (4 * ((6 * v84) + v4))) + 3) v266) (P_fMo_readLight_90 F z h t m N p A)
                              have k7 : (ov_up h268 96 ((350 + (4 * ((6 * v84) + v4))) + 3) v266) 96 347 = A 7 := by rw [show (ov_up h268 96 ((350 + (4 * ((6 * v84) + v4))) + 3) v266) 96 = (ov_rs (ov_rs (ov_rs (ov_rs (ov_rs (h 96) 349 (pt_lc (A 9) v151)) (350 + (4 * ((6 * v84) + v4))) (1 + v144)) ((350 + (4 * ((6 * v84) + v4))) + 1) v151) ((350 + (4 * ((6 * v84) + v4))) + 2) v208) ((350 + (4 * ((6 * v84) + v4))) + 3) v266) from (Eq.trans (ov_up_row h268 96 ((350 + (4 * ((6 * v84) + v4))) + 3) v266) (congrArg (fun f => ov_rs f ((350 + (4 * ((6 * v84) + v4))) + 3) v266) R278)), ov_rs_ne (by omega), ov_rs_ne (by omega), ov_rs_ne (by omega), ov_rs_ne (by omega), ov_rs_ne (by omega)]; exact pt_MR_c mr (j := 7) (by omega)
                              refine ov_blk (ls2 := [(0, ov_r 90), (1, ov_i v4), (2, ov_i v84), (3, ov_i (350 + (4 * ((6 * v84) + v4)))), (4, ov_i v144), (5, ov_i v151), (6, ov_i (pt_lc (A 9) v151))]) (st2 := [ov_i (((ov_up h268 96 ((350 + (4 * ((6 * v84) + v4))) + 3) v266) 96 347) + 1), ov_i 347, ov_r 96]) (pc2 := 304) b_219_302_2 rfl rfl ?_
                              refine ov_nrm ?_
                              have g292 := ov_wg (((ov_up h268 96 ((350 + (4 * ((6 * v84) + v4))) + 3) v266) 96 347) + 1)
                              refine ov_iast d_219_304 (zb_96 I291) (zs_96 I291) (by omega) ?_
                              have I293 := ua_96 (k := 347) (x := (ov_w (((ov_up h268 96 ((350 + (4 * ((6 * v84) + v4))) + 3) v266) 96 347) + 1))) I291 (by refine ⟨?_, ?_, ?_, ?_, ?_, ?_, ?_, ?_, ?_, ?_, ?_, ?_, ?_, ?_, ?_, ?_, ?_, ?_, ?_, ?_, ?_, ?_, ?_, ?_, ?_, ?_, ?_, ?_, ?_⟩ <;> omega)
                              have eg1 : pt_fN t m 0 ((pt_nm t m (pt_nt t m (pt_nt t m (pt_nt t m (pt_nt t m (pt_nt t m p)))))) - 1) (pt_nt t m (pt_nt t m (pt_nt t m (pt_nt t m (pt_nt t m (pt_nt t m (pt_nt t m p))))))) = pt_fN t m 0 (v151 - 1) (pt_nt t m (pt_nt t m (pt_nt t m (pt_nt t m (pt_nt t m (pt_nt t m (pt_nt t m p))))))) := by rw [e5]
                              have eg2 : pt_fN t m 0 (pt_nm t m (pt_nt t m (pt_nt t m (pt_nt t m (pt_nt t m (pt_nt t m p)))))) (pt_nt t m (pt_nt t m (pt_nt t m (pt_nt t m (pt_nt t m (pt_nt t m (pt_nt t m (pt_nt t m (pt_nt t m p))))))))) = pt_fN t m 0 v151 (pt_nt t m (pt_nt t m (pt_nt t m (pt_nt t m (pt_nt t m (pt_nt t m (pt_nt t m (pt_nt t m (pt_nt t m p))))))))) := by rw [e5]
                              have hg : pt_grF t m (pt_nm t m (pt_nt t m (pt_nt t m (pt_nt t m (pt_nt t m (pt_nt t m p)))))) (pt_nt t m (pt_nt t m (pt_nt t m (pt_nt t m (pt_nt t m (pt_nt t m p)))))) = (h268 90 8) := by unfold pt_grF pt_fW; (repeat' split) <;> omega
                              have hF : (pt_liF t m A p) = (h268 90 8) := by unfold pt_liF; (repeat' split) <;> omega
                              exact ov_retv (st := []) d_219_305 rfl ⟨rfl, I293, (fun a ca => Eq.trans (by show (ov_up (ov_up h268 96 ((350 + (4 * ((6 * v84) + v4))) + 3) v266) 96 347 (ov_w (((ov_up h268 96 ((350 + (4 * ((6 * v84) + v4))) + 3) v266) 96 347) + 1))) a = h268 a; rw [ov_up_ne (by omega), ov_up_ne (by omega)]) (fr280 a ca)), (fun k n0 n1 => (Eq.trans (by show (ov_up (ov_up h268 96 ((350 + (4 * ((6 * v84) + v4))) + 3) v266) 96 347 (ov_w (((ov_up h268 96 ((350 + (4 * ((6 * v84) + v4))) + 3) v266) 96 347) + 1))) 90 k = h268 90 k; rw [ov_up_ne (by decide), ov_up_ne (by decide)]) (rk281 k n0 n1))), (Or.inl (by show (h268 90 8) = (pt_liF t m A p) ∧ 1 ≤ (h268 90 8) ∧ (h 90 7) ≤ (h268 90 7) ∧ (h268 90 7) ≤ N; omega))⟩
                            · have q9 : v266 = 0 ∧ (h210 90 8) = 0 ∧ pt_iw t m (pt_nt t m (pt_nt t m (pt_nt t m (pt_nt t m (pt_nt t m (pt_nt t m (pt_nt t m p))))))) (6713202 : Int) = 0 ∧ (h268 90 8) = 1 + 16 * (pt_nt t m (pt_nt t m (pt_nt t m (pt_nt t m (pt_nt t m (pt_nt t m (pt_nt t m p))))))) ∧ 1 ≤ (h268 90 8) ∧ (h268 90 7) = (h210 90 7) ∧ (h268 93 ((h268 90 7))) = (pt_nt t m (pt_nt t m (pt_nt t m (pt_nt t m (pt_nt t m (pt_nt t m (pt_nt t m p))))))) := f287
                              omega
                            · have q9 : v266 = 0 ∧ (h210 90 8) = 0 ∧ pt_iw t m (pt_nt t m (pt_nt t m (pt_nt t m (pt_nt t m (pt_nt t m (pt_nt t m (pt_nt t m p))))))) (6713202 : Int) = 1 ∧ (h268 90 8) = pt_fN t m (0 : Int) v151 (pt_nt t m (pt_nt t m (pt_nt t m (pt_nt t m (pt_nt t m (pt_nt t m (pt_nt t m (pt_nt t m p)))))))) ∧ 1 ≤ (h268 90 8) ∧ (h268 90 7) = (h210 90 7) + 1 ∧ (h268 90 7) ≤ N ∧ (h268 93 ((h268 90 7))) = pt_nt t m (pt_nt t m (pt_nt t m (pt_nt t m (pt_nt t m (pt_nt t m (pt_nt t m (pt_nt t m p))))))) := f288
                              omega
                            · have q9 : (h210 90 8) = 0 ∧ pt_iw t m (pt_nt t m (pt_nt t m (pt_nt t m (pt_nt t m (pt_nt t m (pt_nt t m (pt_nt t m p))))))) (6713202 : Int) = 1 ∧ (h268 90 8) = 0 ∧ pt_fN t m (0 : Int) v151 (pt_nt t m (pt_nt t m (pt_nt t m (pt_nt t m (pt_nt t m (pt_nt t m (pt_nt t m (pt_nt t m p)))))))) = 0 ∧ (0 : Int) ≤ v266 ∧ v266 ≤ v151 ∧ v266 = pt_nm t m (pt_nt t m (pt_nt t m (pt_nt t m (pt_nt t m (pt_nt t m (pt_nt t m (pt_nt t m (pt_nt t m p)))))))) ∧ 0 ≤ v266 ∧ v266 ≤ 9999 ∧ (h268 90 7) = (h210 90 7) + 2 ∧ (h268 90 7) ≤ N ∧ (h268 93 ((h268 90 7))) = pt_nt t m (pt_nt t m (pt_nt t m (pt_nt t m (pt_nt t m (pt_nt t m (pt_nt t m (pt_nt t m (pt_nt t m p)))))))) := f289
                              omega
                          · skip
                            show ov_R u d ov_m219 275 [(0, ov_r 90), (1, ov_i v4), (2, ov_i v84), (3, ov_i (350 + (4 * ((6 * v84) + v4)))), (4, ov_i v144), (5, ov_i v151), (6, ov_i (pt_lc (A 9) v151))] [ov_i v208, ov_i ((350 + (4 * ((6 * v84) + v4))) + 2), ov_r 96] z209 h210 (P_fMo_readLight_90 F z h t m N p A)
                            have f294 : (h153 90 8) = 0 ∧ pt_iw t m (pt_nt t m (pt_nt t m (pt_nt t m (pt_nt t m (pt_nt t m (pt_nt t m p)))))) (1870030194 : Int) = 1 ∧ (h210 90 8) = 0 ∧ pt_fN t m (0 : Int) (v151 - 1) (pt_nt t m (pt_nt t m (pt_nt t m (pt_nt t m (pt_nt t m (pt_nt t m (pt_nt t m p))))))) = 0 ∧ (0 : Int) ≤ v208 ∧ v208 ≤ (v151 - 1) ∧ v208 = pt_nm t m (pt_nt t m (pt_nt t m (pt_nt t m (pt_nt t m (pt_nt t m (pt_nt t m (pt_nt t m p))))))) ∧ 0 ≤ v208 ∧ v208 ≤ 9999 ∧ (h210 90 7) = (h153 90 7) + 2 ∧ (h210 90 7) ≤ N ∧ (h210 93 ((h210 90 7))) = pt_nt t m (pt_nt t m (pt_nt t m (pt_nt t m (pt_nt t m (pt_nt t m (pt_nt t m (pt_nt t m p))))))) := f231
                            clear f231
                            have bw295_ : h 93 ((h153 90 7)) = (pt_nt t m (pt_nt t m (pt_nt t m (pt_nt t m (pt_nt t m (pt_nt t m p)))))) := Eq.trans (congrFun (show h 93 = h153 93 from (E159).symm) _) (by show h153 93 ((h153 90 7)) = (pt_nt t m (pt_nt t m (pt_nt t m (pt_nt t m (pt_nt t m (pt_nt t m p)))))); omega)
                            have bw295 := pt_MT_nx mt (k := (h153 90 7)) ⟨by omega, by omega⟩
                            rw [bw295_] at bw295
                            refine ov_iast d_219_275 (zb_96 I211) (zs_96 I211) (by omega) ?_
                            have I296 := ua_96 (k := ((350 + (4 * ((6 * v84) + v4))) + 2)) (x := v208) I211 (by refine ⟨?_, ?_, ?_, ?_, ?_, ?_, ?_, ?_, ?_, ?_, ?_, ?_, ?_, ?_, ?_, ?_, ?_, ?_, ?_, ?_, ?_, ?_, ?_, ?_, ?_, ?_, ?_, ?_, ?_⟩ <;> omega)
                            refine ov_blk (ls2 := [(0, ov_r 90), (1, ov_i v4), (2, ov_i v84), (3, ov_i (350 + (4 * ((6 * v84) + v4)))), (4, ov_i v144), (5, ov_i v151), (6, ov_i (pt_lc (A 9) v151))]) (st2 := [ov_r 90]) (pc2 := 277) b_219_276_1 rfl rfl ?_
                            refine ov_getf (v := ov_r 96) d_219_277 fl_Mo_81 (zb_90 I296) (zs_90 I296) (congrArg ov_r (rg_90_10 I296)) ?_
                            refine ov_blk (ls2 := [(0, ov_r 90), (1, ov_i v4), (2, ov_i v84), (3, ov_i (350 + (4 * ((6 * v84) + v4)))), (4, ov_i v144), (5, ov_i v151), (6, ov_i (pt_lc (A 9) v151))]) (st2 := [ov_i v151, ov_i 0, ov_i 12, ov_r 90, ov_i ((350 + (4 * ((6 * v84) + v4))) + 3), ov_r 96]) (pc2 := 289) b_219_280_7 rfl rfl ?_
                            have cf297 : h210 93 ((h210 90 7)) = h 93 ((h210 90 7)) := congrFun E216 ((h210 90 7))
                            refine ov_cV (as := [ov_i 12, ov_i 0, ov_i v151]) (st := [ov_i ((350 + (4 * ((6 * v84) + v4))) + 3), ov_r 96]) (d2 := d - 1) d_219_289 lk_Mo_232 rfl (Nat.le_of_ble_eq_true rfl) (c := 1) (zb_90 I296) (zs_90 I296) ⟨by decide, rfl⟩ (by omega) (c_fMo_takeAfter_90 t m N (pt_nt t m (pt_nt t m (pt_nt t m (pt_nt t m (pt_nt t m (pt_nt t m (pt_nt t m (pt_nt t m p)))))))) 6713202 (d - 1) (by omega) U I296 12 0 v151 (by omega) (by omega) (by omega) (by show 0 ≤ (h210 90 7) ∧ (h210 90 7) ≤ N; omega) (by show (h210 93 ((h210 90 7))) = (pt_nt t m (pt_nt t m (pt_nt t m (pt_nt t m (pt_nt t m (pt_nt t m (pt_nt t m (pt_nt t m p)))))))); omega) (by show 0 ≤ (h210 90 8); omega) (by show 0 ≤ (12 : Int) ∧ (12 : Int) ≤ 21; omega) (by rw [show (ov_up h210 96 ((350 + (4 * ((6 * v84) + v4))) + 2) v208) 92 = h 92 from E215, show (ov_up h210 96 ((350 + (4 * ((6 * v84) + v4))) + 2) v208) 93 = h 93 from E216, show (ov_up h210 96 ((350 + (4 * ((6 * v84) + v4))) + 2) v208) 94 = h 94 from E217]; exact mt) (by rw [show (ov_up h210 96 ((350 + (4 * ((6 * v84) + v4))) + 2) v208) 95 = h 95 from E218]; exact wd) (by decide +kernel)) ?_
                            rintro _ z299 h300 ⟨v298, rfl, I301, y302, y303, y304⟩
                            have E305 : h300 92 = h 92 := Eq.trans (y302 92 (by decide)) (show (ov_up h210 96 ((350 + (4 * ((6 * v84) + v4))) + 2) v208) 92 = h 92 from E215)
                            have E306 : h300 93 = h 93 := Eq.trans (y302 93 (by decide)) (show (ov_up h210 96 ((350 + (4 * ((6 * v84) + v4))) + 2) v208) 93 = h 93 from E216)
                            have E307 : h300 94 = h 94 := Eq.trans (y302 94 (by decide)) (show (ov_up h210 96 ((350 + (4 * ((6 * v84) + v4))) + 2) v208) 94 = h 94 from E217)
                            have E308 : h300 95 = h 95 := Eq.trans (y302 95 (by decide)) (show (ov_up h210 96 ((350 + (4 * ((6 * v84) + v4))) + 2) v208) 95 = h 95 from E218)
                            have R310 : h300 96 = (ov_rs (ov_rs (ov_rs (ov_rs (h 96) 349 (pt_lc (A 9) v151)) (350 + (4 * ((6 * v84) + v4))) (1 + v144)) ((350 + (4 * ((6 * v84) + v4))) + 1) v151) ((350 + (4 * ((6 * v84) + v4))) + 2) v208) := Eq.trans (y302 96 (by decide)) (Eq.trans (ov_up_row h210 96 ((350 + (4 * ((6 * v84) + v4))) + 2) v208) (congrArg (fun f => ov_rs f ((350 + (4 * ((6 * v84) + v4))) + 2) v208) R220))
                            have E311 : h300 99 = h 99 := Eq.trans (y302 99 (by decide)) (show (ov_up h210 96 ((350 + (4 * ((6 * v84) + v4))) + 2) v208) 99 = h 99 from E221)
                            have fr312 : ∀ a : Int, a ≠ 90 ∧ a ≠ 96 → h300 a = h a := fun a ca => Eq.trans (y302 a (by omega)) (Eq.trans (by show (ov_up h210 96 ((350 + (4 * ((6 * v84) + v4))) + 2) v208) a = h210 a; rw [ov_up_ne (by omega)]) (fr222 a ca))
                            have y303_ : ∀ k : Int, k ≠ 7 → k ≠ 8 → (h300 90) k = (h210 90) k := y303
                            have rk313 : ∀ k : Int, k ≠ 7 → k ≠ 8 → h300 90 k = h 90 k := fun k n0 n1 => Eq.trans (y303_ k n0 n1) (Eq.trans (by show (ov_up h210 96 ((350 + (4 * ((6 * v84) + v4))) + 2) v208) 90 k = h210 90 k; rw [ov_up_ne (by decide)]) (rk223 k n0 n1))
                            have g314 : h300 90 2 = (h210 90 2) := y303_ 2 (by decide) (by decide)
                            have g315 : h300 90 3 = (h210 90 3) := y303_ 3 (by decide) (by decide)
                            have g316 : h300 90 13 = (h210 90 13) := y303_ 13 (by decide) (by decide)
                            have g317 : h300 90 15 = (h210 90 15) := y303_ 15 (by decide) (by decide)
                            rcases y304 with f318 | f319 | f320 | f321
                            · have q9 : v298 = 0 ∧ (h210 90 8) ≠ 0 ∧ (h300 90 8) = (h210 90 8) ∧ (h300 90 7) = (h210 90 7) ∧ (h300 93 ((h300 90 7))) = (pt_nt t m (pt_nt t m (pt_nt t m (pt_nt t m (pt_nt t m (pt_nt t m (pt_nt t m (pt_nt t m p)))))))) := f318
                              omega
                            · skip
                              show ov_R u d ov_m219 292 [(0, ov_r 90), (1, ov_i v4), (2, ov_i v84), (3, ov_i (350 + (4 * ((6 * v84) + v4)))), (4, ov_i v144), (5, ov_i v151), (6, ov_i (pt_lc (A 9) v151))] [ov_i v298, ov_i ((350 + (4 * ((6 * v84) + v4))) + 3), ov_r 96] z299 h300 (P_fMo_readLight_90 F z h t m N p A)
                              have f322 : v298 = 0 ∧ (h210 90 8) = 0 ∧ pt_iw t m (pt_nt t m (pt_nt t m (pt_nt t m (pt_nt t m (pt_nt t m (pt_nt t m (pt_nt t m (pt_nt t m p)))))))) (6713202 : Int) = 0 ∧ (h300 90 8) = 1 + 16 * (pt_nt t m (pt_nt t m (pt_nt t m (pt_nt t m (pt_nt t m (pt_nt t m (pt_nt t m (pt_nt t m p)))))))) ∧ 1 ≤ (h300 90 8) ∧ (h300 90 7) = (h210 90 7) ∧ (h300 93 ((h300 90 7))) = (pt_nt t m (pt_nt t m (pt_nt t m (pt_nt t m (pt_nt t m (pt_nt t m (pt_nt t m (pt_nt t m p)))))))) := f319
                              clear f319
                              refine ov_iast d_219_292 (zb_96 I301) (zs_96 I301) (by omega) ?_
                              have I323 := ua_96 (k := ((350 + (4 * ((6 * v84) + v4))) + 3)) (x := v298) I301 (by refine ⟨?_, ?_, ?_, ?_, ?_, ?_, ?_, ?_, ?_, ?_, ?_, ?_, ?_, ?_, ?_, ?_, ?_, ?_, ?_, ?_, ?_, ?_, ?_, ?_, ?_, ?_, ?_, ?_, ?_⟩ <;> omega)
                              refine ov_blk (ls2 := [(0, ov_r 90), (1, ov_i v4), (2, ov_i v84), (3, ov_i (350 + (4 * ((6 * v84) + v4)))), (4, ov_i v144), (5, ov_i v151), (6, ov_i (pt_lc (A 9) v151))]) (st2 := [ov_r 90]) (pc2 := 294) b_219_293_1 rfl rfl ?_
                              refine ov_getf (v := ov_r 96) d_219_294 fl_Mo_81 (zb_90 I323) (zs_90 I323) (congrArg ov_r (rg_90_10 I323)) ?_
                              refine ov_blk (ls2 := [(0, ov_r 90), (1, ov_i v4), (2, ov_i v84), (3, ov_i (350 + (4 * ((6 * v84) + v4)))), (4, ov_i v144), (5, ov_i v151), (6, ov_i (pt_lc (A 9) v151))]) (st2 := [ov_i 347, ov_r 96, ov_i 347, ov_r 96]) (pc2 := 301) b_219_297_2 rfl rfl ?_
                              refine ov_iald d_219_301 (zb_96 I323) (zs_96 I323) (by omega) ?_
                              show ov_R u d ov_m219 302 [(0, ov_r 90), (1, ov_i v4), (2, ov_i v84), (3, ov_i (350 + (4 * ((6 * v84) + v4)))), (4, ov_i v144), (5, ov_i v151), (6, ov_i (pt_lc (A 9) v151))] [ov_i ((ov_up h300 96 ((350 + (4 * ((6 * v84) + v4))) + 3) v298) 96 347), ov_i 347, ov_r 96] z299 (ov_up h300 96 ((350 + (4 * ((6 * v84) + v4))) + 3) v298) (P_fMo_readLight_90 F z h t m N p A)
                              have k7 : (ov_up h300 96 ((350 + (4 * ((6 * v84) + v4))) + 3) v298) 96 347 = A 7 := by rw [show (ov_up h300 96 ((350 + (4 * ((6 * v84) + v4))) + 3) v298) 96 = (ov_rs (ov_rs (ov_rs (ov_rs (ov_rs (h 96) 349 (pt_lc (A 9) v151)) (350 + (4 * ((6 * v84) + v4))) (1 + v144)) ((350 + (4 * ((6 * v84) + v4))) + 1) v151) ((350 + (4 * ((6 * v84) + v4))) + 2) v208) ((350 + (4 * ((6 * v84) + v4))) + 3) v298) from (Eq.trans (ov_up_row h300 96 ((350 + (4 * ((6 * v84) + v4))) + 3) v298) (congrArg (fun f => ov_rs f ((350 + (4 * ((6 * v84) + v4))) + 3) v298) R310)), ov_rs_ne (by omega), ov_rs_ne (by omega), ov_rs_ne (by omega), ov_rs_ne (by omega), ov_rs_ne (by omega)]; exact pt_MR_c mr (j := 7) (by omega)
                              refine ov_blk (ls2 := [(0, ov_r 90), (1, ov_i v4), (2, ov_i v84), (3, ov_i (350 + (4 * ((6 * v84) + v4)))), (4, ov_i v144), (5, ov_i v151), (6, ov_i (pt_lc (A 9) v151))]) (st2 := [ov_i (((ov_up h300 96 ((350 + (4 * ((6 * v84) + v4))) + 3) v298) 96 347) + 1), ov_i 347, ov_r 96]) (pc2 := 304) b_219_302_2 rfl rfl ?_
                              refine ov_nrm ?_
                              have g324 := ov_wg (((ov_up h300 96 ((350 + (4 * ((6 * v84) + v4))) + 3) v298) 96 347) + 1)
                              refine ov_iast d_219_304 (zb_96 I323) (zs_96 I323) (by omega) ?_
                              have I325 := ua_96 (k := 347) (x := (ov_w (((ov_up h300 96 ((350 + (4 * ((6 * v84) + v4))) + 3) v298) 96 347) + 1))) I323 (by refine ⟨?_, ?_, ?_, ?_, ?_, ?_, ?_, ?_, ?_, ?_, ?_, ?_, ?_, ?_, ?_, ?_, ?_, ?_, ?_, ?_, ?_, ?_, ?_, ?_, ?_, ?_, ?_, ?_, ?_⟩ <;> omega)
                              have eg1 : pt_fN t m 0 ((pt_nm t m (pt_nt t m (pt_nt t m (pt_nt t m (pt_nt t m (pt_nt t m p)))))) - 1) (pt_nt t m (pt_nt t m (pt_nt t m (pt_nt t m (pt_nt t m (pt_nt t m (pt_nt t m p))))))) = pt_fN t m 0 (v151 - 1) (pt_nt t m (pt_nt t m (pt_nt t m (pt_nt t m (pt_nt t m (pt_nt t m (pt_nt t m p))))))) := by rw [e5]
                              have eg2 : pt_fN t m 0 (pt_nm t m (pt_nt t m (pt_nt t m (pt_nt t m (pt_nt t m (pt_nt t m p)))))) (pt_nt t m (pt_nt t m (pt_nt t m (pt_nt t m (pt_nt t m (pt_nt t m (pt_nt t m (pt_nt t m (pt_nt t m p))))))))) = pt_fN t m 0 v151 (pt_nt t m (pt_nt t m (pt_nt t m (pt_nt t m (pt_nt t m (pt_nt t m (pt_nt t m (pt_nt t m (pt_nt t m p))))))))) := by rw [e5]
                              have hg : pt_grF t m (pt_nm t m (pt_nt t m (pt_nt t m (pt_nt t m (pt_nt t m (pt_nt t m p)))))) (pt_nt t m (pt_nt t m (pt_nt t m (pt_nt t m (pt_nt t m (pt_nt t m p)))))) = (h300 90 8) := by unfold pt_grF pt_fW; (repeat' split) <;> omega
                              have hF : (pt_liF t m A p) = (h300 90 8) := by unfold pt_liF; (repeat' split) <;> omega
                              exact ov_retv (st := []) d_219_305 rfl ⟨rfl, I325, (fun a ca => Eq.trans (by show (ov_up (ov_up h300 96 ((350 + (4 * ((6 * v84) + v4))) + 3) v298) 96 347 (ov_w (((ov_up h300 96 ((350 + (4 * ((6 * v84) + v4))) + 3) v298) 96 347) + 1))) a = h300 a; rw [ov_up_ne (by omega), ov_up_ne (by omega)]) (fr312 a ca)), (fun k n0 n1 => (Eq.trans (by show (ov_up (ov_up h300 96 ((350 + (4 * ((6 * v84) + v4))) + 3) v298) 96 347 (ov_w (((ov_up h300 96 ((350 + (4 * ((6 * v84) + v4))) + 3) v298) 96 347) + 1))) 90 k = h300 90 k; rw [ov_up_ne (by decide), ov_up_ne (by decide)]) (rk313 k n0 n1))), (Or.inl (by show (h300 90 8) = (pt_liF t m A p) ∧ 1 ≤ (h300 90 8) ∧ (h 90 7) ≤ (h300 90 7) ∧ (h300 90 7) ≤ N; omega))⟩
                            · skip
                              show ov_R u d ov_m219 292 [(0, ov_r 90), (1, ov_i v4), (2, ov_i v84), (3, ov_i (350 + (4 * ((6 * v84) + v4)))), (4, ov_i v144), (5, ov_i v151), (6, ov_i (pt_lc (A 9) v151))] [ov_i v298, ov_i ((350 + (4 * ((6 * v84) + v4))) + 3), ov_r 96] z299 h300 (P_fMo_readLight_90 F z h t m N p A)
                              have f326 : v298 = 0 ∧ (h210 90 8) = 0 ∧ pt_iw t m (pt_nt t m (pt_nt t m (pt_nt t m (pt_nt t m (pt_nt t m (pt_nt t m (pt_nt t m (pt_nt t m p)))))))) (6713202 : Int) = 1 ∧ (h300 90 8) = pt_fN t m (0 : Int) v151 (pt_nt t m (pt_nt t m (pt_nt t m (pt_nt t m (pt_nt t m (pt_nt t m (pt_nt t m (pt_nt t m (pt_nt t m p))))))))) ∧ 1 ≤ (h300 90 8) ∧ (h300 90 7) = (h210 90 7) + 1 ∧ (h300 90 7) ≤ N ∧ (h300 93 ((h300 90 7))) = pt_nt t m (pt_nt t m (pt_nt t m (pt_nt t m (pt_nt t m (pt_nt t m (pt_nt t m (pt_nt t m (pt_nt t m p)))))))) := f320
                              clear f320
                              refine ov_iast d_219_292 (zb_96 I301) (zs_96 I301) (by omega) ?_
                              have I327 := ua_96 (k := ((350 + (4 * ((6 * v84) + v4))) + 3)) (x := v298) I301 (by refine ⟨?_, ?_, ?_, ?_, ?_, ?_, ?_, ?_, ?_, ?_, ?_, ?_, ?_, ?_, ?_, ?_, ?_, ?_, ?_, ?_, ?_, ?_, ?_, ?_, ?_, ?_, ?_, ?_, ?_⟩ <;> omega)
                              refine ov_blk (ls2 := [(0, ov_r 90), (1, ov_i v4), (2, ov_i v84), (3, ov_i (350 + (4 * ((6 * v84) + v4)))), (4, ov_i v144), (5, ov_i v151), (6, ov_i (pt_lc (A 9) v151))]) (st2 := [ov_r 90]) (pc2 := 294) b_219_293_1 rfl rfl ?_
                              refine ov_getf (v := ov_r 96) d_219_294 fl_Mo_81 (zb_90 I327) (zs_90 I327) (congrArg ov_r (rg_90_10 I327)) ?_
                              refine ov_blk (ls2 := [(0, ov_r 90), (1, ov_i v4), (2, ov_i v84), (3, ov_i (350 + (4 * ((6 * v84) + v4)))), (4, ov_i v144), (5, ov_i v151), (6, ov_i (pt_lc (A 9) v151))]) (st2 := [ov_i 347, ov_r 96, ov_i 347, ov_r 96]) (pc2 := 301) b_219_297_2 rfl rfl ?_
                              refine ov_iald d_219_301 (zb_96 I327) (zs_96 I327) (by omega) ?_
                              show ov_R u d ov_m219 302 [(0, ov_r 90), (1, ov_i v4), (2, ov_i v84), (3, ov_i (350 + (4 * ((6 * v84) + v4)))), (4, ov_i v144), (5, ov_i v151), (6, ov_i (pt_lc (A 9) v151))] [ov_i ((ov_up h300 96 ((350 + (4 * ((6 * v84) + v4))) + 3) v298) 96 347), ov_i 347, ov_r 96] z299 (ov_up h300 96 ((350 + (4 * ((6 * v84) + v4))) + 3) v298) (P_fMo_readLight_90 F z h t m N p A)
                              have k7 : (ov_up h300 96 ((350 + (4 * ((6 * v84) + v4))) + 3) v298) 96 347 = A 7 := by rw [show (ov_up h300 96 ((350 + (4 * ((6 * v84) + v4))) + 3) v298) 96 = (ov_rs (ov_rs (ov_rs (ov_rs (ov_rs (h 96) 349 (pt_lc (A 9) v151)) (350 + (4 * ((6 * v84) + v4))) (1 + v144)) ((350 + (4 * ((6 * v84) + v4))) + 1) v151) ((350 + (4 * ((6 * v84) + v4))) + 2) v208) ((350 + (4 * ((6 * v84) + v4))) + 3) v298) from (Eq.trans (ov_up_row h300 96 ((350 + (4 * ((6 * v84) + v4))) + 3) v298) (congrArg (fun f => ov_rs f ((350 + (4 * ((6 * v84) + v4))) + 3) v298) R310)), ov_rs_ne (by omega), ov_rs_ne (by omega), ov_rs_ne (by omega), ov_rs_ne (by omega), ov_rs_ne (by omega)]; exact pt_MR_c mr (j := 7) (by omega)
                              refine ov_blk (ls2 := [(0, ov_r 90), (1, ov_i v4), (2, ov_i v84), (3, ov_i (350 + (4 * ((6 * v84) + v4)))), (4, ov_i v144), (5, ov_i v151), (6, ov_i (pt_lc (A 9) v151))]) (st2 := [ov_i (((ov_up h300 96 ((350 + (4 * ((6 * v84) + v4))) + 3) v298) 96 347) + 1), ov_i 347, ov_r 96]) (pc2 := 304) b_219_302_2 rfl rfl ?_
                              refine ov_nrm ?_
                              have g328 := ov_wg (((ov_up h300 96 ((350 + (4 * ((6 * v84) + v4))) + 3) v298) 96 347) + 1)
                              refine ov_iast d_219_304 (zb_96 I327) (zs_96 I327) (by omega) ?_
                              have I329 := ua_96 (k := 347) (x := (ov_w (((ov_up h300 96 ((350 + (4 * ((6 * v84) + v4))) + 3) v298) 96 347) + 1))) I327 (by refine ⟨?_, ?_, ?_, ?_, ?_, ?_, ?_, ?_, ?_, ?_, ?_, ?_, ?_, ?_, ?_, ?_, ?_, ?_, ?_, ?_, ?_, ?_, ?_, ?_, ?_, ?_, ?_, ?_, ?_⟩ <;> omega)
                              have eg1 : pt_fN t m 0 ((pt_nm t m (pt_nt t m (pt_nt t m (pt_nt t m (pt_nt t m (pt_nt t m p)))))) - 1) (pt_nt t m (pt_nt t m (pt_nt t m (pt_nt t m (pt_nt t m (pt_nt t m (pt_nt t m p))))))) = pt_fN t m 0 (v151 - 1) (pt_nt t m (pt_nt t m (pt_nt t m (pt_nt t m (pt_nt t m (pt_nt t m (pt_nt t m p))))))) := by rw [e5]
                              have eg2 : pt_fN t m 0 (pt_nm t m (pt_nt t m (pt_nt t m (pt_nt t m (pt_nt t m (pt_nt t m p)))))) (pt_nt t m (pt_nt t m (pt_nt t m (pt_nt t m (pt_nt t m (pt_nt t m (pt_nt t m (pt_nt t m (pt_nt t m p))))))))) = pt_fN t m 0 v151 (pt_nt t m (pt_nt t m (pt_nt t m (pt_nt t m (pt_nt t m (pt_nt t m (pt_nt t m (pt_nt t m (pt_nt t m p))))))))) := by rw [e5]
                              have hg : pt_grF t m (pt_nm t m (pt_nt t m (pt_nt t m (pt_nt t m (pt_nt t m (pt_nt t m p)))))) (pt_nt t m (pt_nt t m (pt_nt t m (pt_nt t m (pt_nt t m (pt_nt t m p)))))) = (h300 90 8) := by unfold pt_grF pt_fW; (repeat' split) <;> omega
                              have hF : (pt_liF t m A p) = (h300 90 8) := by unfold pt_liF; (repeat' split) <;> omega
                              exact ov_retv (st := []) d_219_305 rfl ⟨rfl, I329, (fun a ca => Eq.trans (by show (ov_up (ov_up h300 96 ((350 + (4 * ((6 * v84) + v4))) + 3) v298) 96 347 (ov_w (((ov_up h300 96 ((350 + (4 * ((6 * v84) + v4))) + 3) v298) 96 347) + 1))) a = h300 a; rw [ov_up_ne (by omega), ov_up_ne (by omega)]) (fr312 a ca)), (fun k n0 n1 => (Eq.trans (by show (ov_up (ov_up h300 96 ((350 + (4 * ((6 * v84) + v4))) + 3) v298) 96 347 (ov_w (((ov_up h300 96 ((350 + (4 * ((6 * v84) + v4))) + 3) v298) 96 347) + 1))) 90 k = h300 90 k; rw [ov_up_ne (by decide), ov_up_ne (by decide)]) (rk313 k n0 n1))), (Or.inl (by show (h300 90 8) = (pt_liF t m A p) ∧ 1 ≤ (h300 90 8) ∧ (h 90 7) ≤ (h300 90 7) ∧ (h300 90 7) ≤ N; omega))⟩
                            · skip
                              show ov_R u d ov_m219 292 [(0, ov_r 90), (1, ov_i v4), (2, ov_i v84), (3, ov_i (350 + (4 * ((6 * v84) + v4)))), (4, ov_i v144), (5, ov_i v151), (6, ov_i (pt_lc (A 9) v151))] [ov_i v298, ov_i ((350 + (4 * ((6 * v84) + v4))) + 3), ov_r 96] z299 h300 (P_fMo_readLight_90 F z h t m N p A)
                              have f330 : (h210 90 8) = 0 ∧ pt_iw t m (pt_nt t m (pt_nt t m (pt_nt t m (pt_nt t m (pt_nt t m (pt_nt t m (pt_nt t m (pt_nt t m p)))))))) (6713202 : Int) = 1 ∧ (h300 90 8) = 0 ∧ pt_fN t m (0 : Int) v151 (pt_nt t m (pt_nt t m (pt_nt t m (pt_nt t m (pt_nt t m (pt_nt t m (pt_nt t m (pt_nt t m (pt_nt t m p))))))))) = 0 ∧ (0 : Int) ≤ v298 ∧ v298 ≤ v151 ∧ v298 = pt_nm t m (pt_nt t m (pt_nt t m (pt_nt t m (pt_nt t m (pt_nt t m (pt_nt t m (pt_nt t m (pt_nt t m (pt_nt t m p))))))))) ∧ 0 ≤ v298 ∧ v298 ≤ 9999 ∧ (h300 90 7) = (h210 90 7) + 2 ∧ (h300 90 7) ≤ N ∧ (h300 93 ((h300 90 7))) = pt_nt t m (pt_nt t m (pt_nt t m (pt_nt t m (pt_nt t m (pt_nt t m (pt_nt t m (pt_nt t m (pt_nt t m (pt_nt t m p))))))))) := f321
                              clear f321
                              have bw331_ : h 93 ((h210 90 7)) = (pt_nt t m (pt_nt t m (pt_nt t m (pt_nt t m (pt_nt t m (pt_nt t m (pt_nt t m (pt_nt t m p)))))))) := Eq.trans (congrFun (show h 93 = h210 93 from (E216).symm) _) (by show h210 93 ((h210 90 7)) = (pt_nt t m (pt_nt t m (pt_nt t m (pt_nt t m (pt_nt t m (pt_nt t m (pt_nt t m (pt_nt t m p)))))))); omega)
                              have bw331 := pt_MT_nx mt (k := (h210 90 7)) ⟨by omega, by omega⟩
                              rw [bw331_] at bw331
                              refine ov_iast d_219_292 (zb_96 I301) (zs_96 I301) (by omega) ?_
                              have I332 := ua_96 (k := ((350 + (4 * ((6 * v84) + v4))) + 3)) (x := v298) I301 (by refine ⟨?_, ?_, ?_, ?_, ?_, ?_, ?_, ?_, ?_, ?_, ?_, ?_, ?_, ?_, ?_, ?_, ?_, ?_, ?_, ?_, ?_, ?_, ?_, ?_, ?_, ?_, ?_, ?_, ?_⟩ <;> omega)
                              refine ov_blk (ls2 := [(0, ov_r 90), (1, ov_i v4), (2, ov_i v84), (3, ov_i (350 + (4 * ((6 * v84) + v4)))), (4, ov_i v144), (5, ov_i v151), (6, ov_i (pt_lc (A 9) v151))]) (st2 := [ov_r 90]) (pc2 := 294) b_219_293_1 rfl rfl ?_
                              refine ov_getf (v := ov_r 96) d_219_294 fl_Mo_81 (zb_90 I332) (zs_90 I332) (congrArg ov_r (rg_90_10 I332)) ?_
                              refine ov_blk (ls2 := [(0, ov_r 90), (1, ov_i v4), (2, ov_i v84), (3, ov_i (350 + (4 * ((6 * v84) + v4)))), (4, ov_i v144), (5, ov_i v151), (6, ov_i (pt_lc (A 9) v151))]) (st2 := [ov_i 347, ov_r 96, ov_i 347, ov_r 96]) (pc2 := 301) b_219_297_2 rfl rfl ?_
                              refine ov_iald d_219_301 (zb_96 I332) (zs_96 I332) (by omega) ?_
                              show ov_R u d ov_m219 302 [(0, ov_r 90), (1, ov_i v4), (2, ov_i v84), (3, ov_i (350 + (4 * ((6 * v84) + v4)))), (4, ov_i v144), (5, ov_i v151), (6, ov_i (pt_lc (A 9) v151))] [ov_i ((ov_up h300 96 ((350 + (4 * ((6 * v84) + v4))) + 3) v298) 96 347), ov_i 347, ov_r 96] z299 (ov_up h300 96 ((350 + (4 * ((6 * v84) + v4))) + 3) v298) (P_fMo_readLight_90 F z h t m N p A)
                              have k7 : (ov_up h300 96 ((350 + (4 * ((6 * v84) + v4))) + 3) v298) 96 347 = A 7 := by rw [show (ov_up h300 96 ((350 + (4 * ((6 * v84) + v4))) + 3) v298) 96 = (ov_rs (ov_rs (ov_rs (ov_rs (ov_rs (h 96) 349 (pt_lc (A 9) v151)) (350 + (4 * ((6 * v84) + v4))) (1 + v144)) ((350 + (4 * ((6 * v84) + v4))) + 1) v151) ((350 + (4 * ((6 * v84) + v4))) + 2) v208) ((350 + (4 * ((6 * v84) + v4))) + 3) v298) from (Eq.trans (ov_up_row h300 96 ((350 + (4 * ((6 * v84) + v4))) + 3) v298) (congrArg (fun f => ov_rs f ((350 + (4 * ((6 * v84) + v4))) + 3) v298) R310)), ov_rs_ne (by omega), ov_rs_ne (by omega), ov_rs_ne (by omega), ov_rs_ne (by omega), ov_rs_ne (by omega)]; exact pt_MR_c mr (j := 7) (by omega)
                              refine ov_blk (ls2 := [(0, ov_r 90), (1, ov_i v4), (2, ov_i v84), (3, ov_i (350 + (4 * ((6 * v84) + v4)))), (4, ov_i v144), (5, ov_i v151), (6, ov_i (pt_lc (A 9) v151))]) (st2 := [ov_i (((ov_up h300 96 ((350 + (4 * ((6 * v84) + v4))) + 3) v298) 96 347) + 1), ov_i 347, ov_r 96]) (pc2 := 304) b_219_302_2 rfl rfl ?_
                              refine ov_nrm ?_
                              have g333 := ov_wg (((ov_up h300 96 ((350 + (4 * ((6 * v84) + v4))) + 3) v298) 96 347) + 1)
                              refine ov_iast d_219_304 (zb_96 I332) (zs_96 I332) (by omega) ?_
                              have I334 := ua_96 (k := 347) (x := (ov_w (((ov_up h300 96 ((350 + (4 * ((6 * v84) + v4))) + 3) v298) 96 347) + 1))) I332 (by refine ⟨?_, ?_, ?_, ?_, ?_, ?_, ?_, ?_, ?_, ?_, ?_, ?_, ?_, ?_, ?_, ?_, ?_, ?_, ?_, ?_, ?_, ?_, ?_, ?_, ?_, ?_, ?_, ?_, ?_⟩ <;> omega)
                              have eg1 : pt_fN t m 0 ((pt_nm t m (pt_nt t m (pt_nt t m (pt_nt t m (pt_nt t m (pt_nt t m p)))))) - 1) (pt_nt t m (pt_nt t m (pt_nt t m (pt_nt t m (pt_nt t m (pt_nt t m (pt_nt t m p))))))) = pt_fN t m 0 (v151 - 1) (pt_nt t m (pt_nt t m (pt_nt t m (pt_nt t m (pt_nt t m (pt_nt t m (pt_nt t m p))))))) := by rw [e5]
                              have eg2 : pt_fN t m 0 (pt_nm t m (pt_nt t m (pt_nt t m (pt_nt t m (pt_nt t m (pt_nt t m p)))))) (pt_nt t m (pt_nt t m (pt_nt t m (pt_nt t m (pt_nt t m (pt_nt t m (pt_nt t m (pt_nt t m (pt_nt t m p))))))))) = pt_fN t m 0 v151 (pt_nt t m (pt_nt t m (pt_nt t m (pt_nt t m (pt_nt t m (pt_nt t m (pt_nt t m (pt_nt t m (pt_nt t m p))))))))) := by rw [e5]
                              have hg : pt_grF t m (pt_nm t m (pt_nt t m (pt_nt t m (pt_nt t m (pt_nt t m (pt_nt t m p)))))) (pt_nt t m (pt_nt t m (pt_nt t m (pt_nt t m (pt_nt t m (pt_nt t m p)))))) = 0 := by unfold pt_grF pt_fW; (repeat' split) <;> omega
                              have hF : (pt_liF t m A p) = 0 := by unfold pt_liF; (repeat' split) <;> omega
                              have ei : (350 + (4 * ((6 * v84) + v4))) = 350 + 4 * ((pt_nm t m (pt_nt t m p)) + 6 * (pt_nm t m (pt_nt t m (pt_nt t m p)))) := by omega
                              have hcr : 1 ≤ (pt_rdC (pt_kt t m (pt_nt t m (pt_nt t m (pt_nt t m p)))) (A 9) (pt_nm t m (pt_nt t m (pt_nt t m (pt_nt t m (pt_nt t m (pt_nt t m p))))))) ∧ (pt_rdC (pt_kt t m (pt_nt t m (pt_nt t m (pt_nt t m p)))) (A 9) (pt_nm t m (pt_nt t m (pt_nt t m (pt_nt t m (pt_nt t m (pt_nt t m p))))))) ≤ 1200 := by omega
                              have m1 : (ov_up (ov_up h300 96 ((350 + (4 * ((6 * v84) + v4))) + 3) v298) 96 347 (ov_w (((ov_up h300 96 ((350 + (4 * ((6 * v84) + v4))) + 3) v298) 96 347) + 1))) 96 = ov_rs (ov_rs (ov_rs (ov_rs (ov_rs (ov_rs (h 96) 349 (pt_rdC (pt_kt t m (pt_nt t m (pt_nt t m (pt_nt t m p)))) (A 9) (pt_nm t m (pt_nt t m (pt_nt t m (pt_nt t m (pt_nt t m (pt_nt t m p)))))))) (350 + 4 * ((pt_nm t m (pt_nt t m p)) + 6 * (pt_nm t m (pt_nt t m (pt_nt t m p))))) (1 + (pt_kt t m (pt_nt t m (pt_nt t m (pt_nt t m p)))))) (351 + 4 * ((pt_nm t m (pt_nt t m p)) + 6 * (pt_nm t m (pt_nt t m (pt_nt t m p))))) (pt_nm t m (pt_nt t m (pt_nt t m (pt_nt t m (pt_nt t m (pt_nt t m p))))))) (352 + 4 * ((pt_nm t m (pt_nt t m p)) + 6 * (pt_nm t m (pt_nt t m (pt_nt t m p))))) (pt_nm t m (pt_nt t m (pt_nt t m (pt_nt t m (pt_nt t m (pt_nt t m (pt_nt t m (pt_nt t m p))))))))) (353 + 4 * ((pt_nm t m (pt_nt t m p)) + 6 * (pt_nm t m (pt_nt t m (pt_nt t m p))))) (pt_nm t m (pt_nt t m (pt_nt t m (pt_nt t m (pt_nt t m (pt_nt t m (pt_nt t m (pt_nt t m (pt_nt t m (pt_nt t m p))))))))))) 347 (ov_w (A 7 + 1)) := by rw [show (ov_up (ov_up h300 96 ((350 + (4 * ((6 * v84) + v4))) + 3) v298) 96 347 (ov_w (((ov_up h300 96 ((350 + (4 * ((6 * v84) + v4))) + 3) v298) 96 347) + 1))) 96 = (ov_rs (ov_rs (ov_rs (ov_rs (ov_rs (ov_rs (h 96) 349 (pt_lc (A 9) v151)) (350 + (4 * ((6 * v84) + v4))) (1 + v144)) ((350 + (4 * ((6 * v84) + v4))) + 1) v151) ((350 + (4 * ((6 * v84) + v4))) + 2) v208) ((350 + (4 * ((6 * v84) + v4))) + 3) v298) 347 (ov_w (((ov_up h300 96 ((350 + (4 * ((6 * v84) + v4))) + 3) v298) 96 347) + 1))) from (Eq.trans (ov_up_row (ov_up h300 96 ((350 + (4 * ((6 * v84) + v4))) + 3) v298) 96 347 (ov_w (((ov_up h300 96 ((350 + (4 * ((6 * v84) + v4))) + 3) v298) 96 347) + 1))) (congrArg (fun f => ov_rs f 347 (ov_w (((ov_up h300 96 ((350 + (4 * ((6 * v84) + v4))) + 3) v298) 96 347) + 1))) (Eq.trans (ov_up_row h300 96 ((350 + (4 * ((6 * v84) + v4))) + 3) v298) (congrArg (fun f => ov_rs f ((350 + (4 * ((6 * v84) + v4))) + 3) v298) R310)))), k7, show ((350 + (4 * ((6 * v84) + v4))) + 1 : Int) = 351 + 4 * ((pt_nm t m (pt_nt t m p)) + 6 * (pt_nm t m (pt_nt t m (pt_nt t m p)))) by omega, show ((350 + (4 * ((6 * v84) + v4))) + 2 : Int) = 352 + 4 * ((pt_nm t m (pt_nt t m p)) + 6 * (pt_nm t m (pt_nt t m (pt_nt t m p)))) by omega, show ((350 + (4 * ((6 * v84) + v4))) + 3 : Int) = 353 + 4 * ((pt_nm t m (pt_nt t m p)) + 6 * (pt_nm t m (pt_nt t m (pt_nt t m p)))) by omega, ei, hc, show (1 + v144 : Int) = 1 + (pt_kt t m (pt_nt t m (pt_nt t m (pt_nt t m p)))) by omega, show v151 = (pt_nm t m (pt_nt t m (pt_nt t m (pt_nt t m (pt_nt t m (pt_nt t m p)))))) by omega, show v208 = (pt_nm t m (pt_nt t m (pt_nt t m (pt_nt t m (pt_nt t m (pt_nt t m (pt_nt t m (pt_nt t m p)))))))) by omega, show v298 = (pt_nm t m (pt_nt t m (pt_nt t m (pt_nt t m (pt_nt t m (pt_nt t m (pt_nt t m (pt_nt t m (pt_nt t m (pt_nt t m p)))))))))) by omega]
                              have m2 : (h300 90 15) = (h 90 15) := by omega
                              have m3 : (ov_up (ov_up h300 96 ((350 + (4 * ((6 * v84) + v4))) + 3) v298) 96 347 (ov_w (((ov_up h300 96 ((350 + (4 * ((6 * v84) + v4))) + 3) v298) 96 347) + 1))) 99 = h 99 := E311
                              exact ov_retv (st := []) d_219_305 rfl ⟨rfl, I334, (fun a ca => Eq.trans (by show (ov_up (ov_up h300 96 ((350 + (4 * ((6 * v84) + v4))) + 3) v298) 96 347 (ov_w (((ov_up h300 96 ((350 + (4 * ((6 * v84) + v4))) + 3) v298) 96 347) + 1))) a = h300 a; rw [ov_up_ne (by omega), ov_up_ne (by omega)]) (fr312 a ca)), (fun k n0 n1 => (Eq.trans (by show (ov_up (ov_up h300 96 ((350 + (4 * ((6 * v84) + v4))) + 3) v298) 96 347 (ov_w (((ov_up h300 96 ((350 + (4 * ((6 * v84) + v4))) + 3) v298) 96 347) + 1))) 90 k = h300 90 k; rw [ov_up_ne (by decide), ov_up_ne (by decide)]) (rk313 k n0 n1))), (Or.inr ⟨(by show (pt_liF t m A p) = 0 ∧ (h300 90 8) = 0 ∧ (h 90 7) ≤ (h300 90 7) ∧ (h300 90 7) ≤ N ∧ 0 ≤ (h300 90 13) ∧ (h300 90 13) ≤ (h300 90 7) ∧ (h300 93 ((h300 90 7))) = (pt_nt t m (pt_nt t m (pt_nt t m (pt_nt t m (pt_nt t m (pt_nt t m (pt_nt t m (pt_nt t m (pt_nt t m (pt_nt t m p)))))))))); omega), (by show pt_MR t m (pt_liA t m A p) ((ov_up (ov_up h300 96 ((350 + (4 * ((6 * v84) + v4))) + 3) v298) 96 347 (ov_w (((ov_up h300 96 ((350 + (4 * ((6 * v84) + v4))) + 3) v298) 96 347) + 1))) 96) ((h300 90 15)) ((ov_up (ov_up h300 96 ((350 + (4 * ((6 * v84) + v4))) + 3) v298) 96 347 (ov_w (((ov_up h300 96 ((350 + (4 * ((6 * v84) + v4))) + 3) v298) 96 347) + 1))) 99); rw [m1, m2, m3]; exact pt_MR_light mr (C := ((pt_nm t m (pt_nt t m p)) + 6 * (pt_nm t m (pt_nt t m (pt_nt t m p))))) (by omega) hcr)⟩)⟩
                        · omega
                      · skip
                        refine ov_blk (ls2 := [(0, ov_r 90), (1, ov_i v4), (2, ov_i v84), (3, ov_i (350 + (4 * ((6 * v84) + v4)))), (4, ov_i v144), (5, ov_i v151), (6, ov_i (pt_lc (A 9) v151))]) (st2 := [ov_r 90, ov_r 90]) (pc2 := 206) b_219_204_2 rfl rfl ?_
                        refine ov_getf (v := ov_i (h153 90 7)) d_219_206 fl_Mo_177 (zb_90 I154) (zs_90 I154) rfl ?_
                        have g335 := rg_90_7 I154
                        refine ov_blk (ls2 := [(0, ov_r 90), (1, ov_i v4), (2, ov_i v84), (3, ov_i (350 + (4 * ((6 * v84) + v4)))), (4, ov_i v144), (5, ov_i v151), (6, ov_i (pt_lc (A 9) v151))]) (st2 := [ov_i ((h153 90 7) - 1), ov_r 90]) (pc2 := 211) b_219_209_2 rfl rfl ?_
                        have bk : h153 93 (((h153 90 7) - 1)) = (pt_nt t m (pt_nt t m (pt_nt t m (pt_nt t m (pt_nt t m p))))) := by rw [show ((h153 90 7) - 1) = ((h86 90 7) + 1) + 1 by omega]; exact Eq.trans (congrFun (show h153 93 = h 93 from E159) _) bw191
                        refine ov_putf (x := ((h153 90 7) - 1)) d_219_211 fl_Mo_177 (zb_90 I154) (zs_90 I154) rfl nk_0 rfl ?_
                        have I336 := up_90_7 (x := ((h153 90 7) - 1)) I154 (by omega)
                        show ov_R u d ov_m219 214 [(0, ov_r 90), (1, ov_i v4), (2, ov_i v84), (3, ov_i (350 + (4 * ((6 * v84) + v4)))), (4, ov_i v144), (5, ov_i v151), (6, ov_i (pt_lc (A 9) v151))] [] z152 (ov_up h153 90 7 ((h153 90 7) - 1)) (P_fMo_readLight_90 F z h t m N p A)
                        refine ov_blk (ls2 := [(0, ov_r 90), (1, ov_i v4), (2, ov_i v84), (3, ov_i (350 + (4 * ((6 * v84) + v4)))), (4, ov_i v144), (5, ov_i v151), (6, ov_i (pt_lc (A 9) v151))]) (st2 := [ov_i 4, ov_r 90]) (pc2 := 216) b_219_214_2 rfl rfl ?_
                        have cf337 : h153 93 (((h153 90 7) - 1)) = h 93 (((h153 90 7) - 1)) := congrFun E159 (((h153 90 7) - 1))
                        refine ov_cV (as := [ov_i 4]) (st := []) (d2 := d - 1) d_219_216 lk_Mo_186 rfl (Nat.le_of_ble_eq_true rfl) (c := 1) (zb_90 I336) (zs_90 I336) ⟨by decide, rfl⟩ (by omega) (c_fMo_wrong_90 t m N (pt_nt t m (pt_nt t m (pt_nt t m (pt_nt t m (pt_nt t m p))))) (d - 1) (by omega) U I336 4 (by omega) (by show 0 ≤ ((h153 90 7) - 1) ∧ ((h153 90 7) - 1) ≤ N; omega) (by show (h153 93 (((h153 90 7) - 1))) = (pt_nt t m (pt_nt t m (pt_nt t m (pt_nt t m (pt_nt t m p))))); omega) (by show 0 ≤ (h153 90 8); omega) (by show 1 ≤ (4 : Int) ∧ (4 : Int) ≤ 5; omega) (by rw [show (ov_up h153 90 7 ((h153 90 7) - 1)) 92 = h 92 from E158, show (ov_up h153 90 7 ((h153 90 7) - 1)) 93 = h 93 from E159, show (ov_up h153 90 7 ((h153 90 7) - 1)) 94 = h 94 from E160]; exact mt)) ?_
                        rintro _ z338 h339 ⟨rfl, I340, y341, y342, y343⟩
                        have E344 : h339 92 = h 92 := Eq.trans (y341 92 (by decide)) (show (ov_up h153 90 7 ((h153 90 7) - 1)) 92 = h 92 from E158)
                        have E345 : h339 93 = h 93 := Eq.trans (y341 93 (by decide)) (show (ov_up h153 90 7 ((h153 90 7) - 1)) 93 = h 93 from E159)
                        have E346 : h339 94 = h 94 := Eq.trans (y341 94 (by decide)) (show (ov_up h153 90 7 ((h153 90 7) - 1)) 94 = h 94 from E160)
                        have E347 : h339 95 = h 95 := Eq.trans (y341 95 (by decide)) (show (ov_up h153 90 7 ((h153 90 7) - 1)) 95 = h 95 from E161)
                        have E348 : h339 96 = h 96 := Eq.trans (y341 96 (by decide)) (show (ov_up h153 90 7 ((h153 90 7) - 1)) 96 = h 96 from E162)
                        have E349 : h339 99 = h 99 := Eq.trans (y341 99 (by decide)) (show (ov_up h153 90 7 ((h153 90 7) - 1)) 99 = h 99 from E163)
                        have fr350 : ∀ a : Int, a ≠ 90 ∧ a ≠ 96 → h339 a = h a := fun a ca => Eq.trans (y341 a (by omega)) (Eq.trans (by show (ov_up h153 90 7 ((h153 90 7) - 1)) a = h153 a; rw [ov_up_ne (by omega)]) (fr164 a ca))
                        have y342_ : ∀ k : Int, k ≠ 8 → (h339 90) k = ((ov_up h153 90 7 ((h153 90 7) - 1)) 90) k := y342
                        have rk351 : ∀ k : Int, k ≠ 7 → k ≠ 8 → h339 90 k = h 90 k := fun k n0 n1 => Eq.trans (y342_ k n1) (Eq.trans (by show (ov_up h153 90 7 ((h153 90 7) - 1)) 90 k = h153 90 k; rw [ov_up_j n0]) (rk165 k n0 n1))
                        have g352 : h339 90 2 = (h153 90 2) := y342_ 2 (by decide)
                        have g353 : h339 90 3 = (h153 90 3) := y342_ 3 (by decide)
                        have g354 : h339 90 7 = ((h153 90 7) - 1) := y342_ 7 (by decide)
                        have g355 : h339 90 13 = (h153 90 13) := y342_ 13 (by decide)
                        have g356 : h339 90 15 = (h153 90 15) := y342_ 15 (by decide)
                        rcases y343 with f357 | f358
                        · have q9 : (h153 90 8) ≠ 0 ∧ (h339 90 8) = (h153 90 8) ∧ (h339 93 ((h339 90 7))) = (pt_nt t m (pt_nt t m (pt_nt t m (pt_nt t m (pt_nt t m p))))) := f357
                          omega
                        · skip
                          show ov_R u d ov_m219 219 [(0, ov_r 90), (1, ov_i v4), (2, ov_i v84), (3, ov_i (350 + (4 * ((6 * v84) + v4)))), (4, ov_i v144), (5, ov_i v151), (6, ov_i (pt_lc (A 9) v151))] [] z338 h339 (P_fMo_readLight_90 F z h t m N p A)
                          have f359 : (h153 90 8) = 0 ∧ (h339 90 8) = (4 : Int) + 16 * (pt_nt t m (pt_nt t m (pt_nt t m (pt_nt t m (pt_nt t m p))))) ∧ (h339 93 ((h339 90 7))) = (pt_nt t m (pt_nt t m (pt_nt t m (pt_nt t m (pt_nt t m p))))) := f358
                          clear f358
                          refine ov_blk (ls2 := [(0, ov_r 90), (1, ov_i v4), (2, ov_i v84), (3, ov_i (350 + (4 * ((6 * v84) + v4)))), (4, ov_i v144), (5, ov_i v151), (6, ov_i (pt_lc (A 9) v151))]) (st2 := [ov_r 90]) (pc2 := 220) b_219_219_1 rfl rfl ?_
                          refine ov_getf (v := ov_i (h339 90 8)) d_219_220 fl_Mo_180 (zb_90 I340) (zs_90 I340) rfl ?_
                          have g360 := rg_90_8 I340
                          refine ov_ifle (tgt := 227) d_219_223 (by decide) (by omega) (fun c361 => ?_) (fun c361 => ?_)
                          · omega
                          · skip
                            have e5 : v151 = (pt_nm t m (pt_nt t m (pt_nt t m (pt_nt t m (pt_nt t m (pt_nt t m p)))))) := by omega
                            have l5 : pt_lc (A 9) v151 = pt_lc (A 9) (pt_nm t m (pt_nt t m (pt_nt t m (pt_nt t m (pt_nt t m (pt_nt t m p)))))) := by rw [e5]
                            have hr : pt_rdF t m (pt_kt t m (pt_nt t m (pt_nt t m (pt_nt t m p)))) (A 9) (pt_nt t m (pt_nt t m (pt_nt t m (pt_nt t m p)))) = (h339 90 8) := by unfold pt_rdF pt_fW; (repeat' split) <;> omega
                            have hF : (pt_liF t m A p) = (h339 90 8) := by unfold pt_liF; (repeat' split) <;> omega
                            exact ov_retv (st := []) d_219_226 rfl ⟨rfl, I340, (fun a ca => (fr350 a ca)), (fun k n0 n1 => (rk351 k n0 n1)), (Or.inl (by show (h339 90 8) = (pt_liF t m A p) ∧ 1 ≤ (h339 90 8) ∧ (h 90 7) ≤ (h339 90 7) ∧ (h339 90 7) ≤ N; omega))⟩
                  · skip
                    refine ov_blk (ls2 := [(0, ov_r 90), (1, ov_i v4), (2, ov_i v84), (3, ov_i (350 + (4 * ((6 * v84) + v4)))), (4, ov_i v144), (5, ov_i v151)]) (st2 := [ov_r 90]) (pc2 := 152) b_219_151_1 rfl rfl ?_
                    refine ov_getf (v := ov_r 96) d_219_152 fl_Mo_81 (zb_90 I154) (zs_90 I154) (congrArg ov_r (rg_90_10 I154)) ?_
                    refine ov_blk (ls2 := [(0, ov_r 90), (1, ov_i v4), (2, ov_i v84), (3, ov_i (350 + (4 * ((6 * v84) + v4)))), (4, ov_i v144), (5, ov_i v151)]) (st2 := [ov_i 349, ov_r 96]) (pc2 := 158) b_219_155_1 rfl rfl ?_
                    refine ov_iald d_219_158 (zb_96 I154) (zs_96 I154) (by omega) ?_
                    have e362 : h153 96 349 = (A 9) := Eq.trans (congrFun (show h153 96 = h 96 from E162) 349) (pt_MR_c mr (j := 9) (by omega))
                    rw [e362]
                    show ov_R u d ov_m219 159 [(0, ov_r 90), (1, ov_i v4), (2, ov_i v84), (3, ov_i (350 + (4 * ((6 * v84) + v4)))), (4, ov_i v144), (5, ov_i v151)] [ov_i (A 9)] z152 h153 (P_fMo_readLight_90 F z h t m N p A)
                    refine ov_goto (tgt := 187) d_219_159 (by decide) ?_
                    refine ov_blk (ls2 := [(0, ov_r 90), (1, ov_i v4), (2, ov_i v84), (3, ov_i (350 + (4 * ((6 * v84) + v4)))), (4, ov_i v144), (5, ov_i v151), (6, ov_i (A 9))]) (st2 := [ov_r 90]) (pc2 := 190) b_219_187_2 rfl rfl ?_
                    refine ov_getf (v := ov_i (h153 90 8)) d_219_190 fl_Mo_180 (zb_90 I154) (zs_90 I154) rfl ?_
                    refine ov_ifne (tgt := 219) d_219_193 (by decide) (by omega) (fun c364 => ?_) (fun c364 => ?_)
                    · omega
                    · skip
                      refine ov_blk (ls2 := [(0, ov_r 90), (1, ov_i v4), (2, ov_i v84), (3, ov_i (350 + (4 * ((6 * v84) + v4)))), (4, ov_i v144), (5, ov_i v151), (6, ov_i (A 9))]) (st2 := [ov_i 1200, ov_i (A 9)]) (pc2 := 201) b_219_196_2 rfl rfl ?_
                      refine ov_icle (tgt := 219) d_219_201 (by decide) (by omega) (by omega) (fun c365 => ?_) (fun c365 => ?_)
                      · skip
                        refine ov_blk (ls2 := [(0, ov_r 90), (1, ov_i v4), (2, ov_i v84), (3, ov_i (350 + (4 * ((6 * v84) + v4)))), (4, ov_i v144), (5, ov_i v151), (6, ov_i (A 9))]) (st2 := [ov_r 90]) (pc2 := 220) b_219_219_1 rfl rfl ?_
                        refine ov_getf (v := ov_i (h153 90 8)) d_219_220 fl_Mo_180 (zb_90 I154) (zs_90 I154) rfl ?_
                        refine ov_ifle (tgt := 227) d_219_223 (by decide) (by omega) (fun c367 => ?_) (fun c367 => ?_)
                        · skip
                          have e5 : v151 = (pt_nm t m (pt_nt t m (pt_nt t m (pt_nt t m (pt_nt t m (pt_nt t m p)))))) := by omega
                          have hr : pt_rdF t m (pt_kt t m (pt_nt t m (pt_nt t m (pt_nt t m p)))) (A 9) (pt_nt t m (pt_nt t m (pt_nt t m (pt_nt t m p)))) = 0 := by unfold pt_rdF pt_fW; (repeat' split) <;> omega
                          have hc : (A 9) = (pt_rdC (pt_kt t m (pt_nt t m (pt_nt t m (pt_nt t m p)))) (A 9) (pt_nm t m (pt_nt t m (pt_nt t m (pt_nt t m (pt_nt t m (pt_nt t m p))))))) := by unfold pt_rdC; rw [if_neg (by omega)]
                          refine ov_blk (ls2 := [(0, ov_r 90), (1, ov_i v4), (2, ov_i v84), (3, ov_i (350 + (4 * ((6 * v84) + v4)))), (4, ov_i v144), (5, ov_i v151), (6, ov_i (A 9))]) (st2 := [ov_r 90]) (pc2 := 228) b_219_227_1 rfl rfl ?_
                          refine ov_getf (v := ov_r 96) d_219_228 fl_Mo_81 (zb_90 I154) (zs_90 I154) (congrArg ov_r (rg_90_10 I154)) ?_
                          refine ov_blk (ls2 := [(0, ov_r 90), (1, ov_i v4), (2, ov_i v84), (3, ov_i (350 + (4 * ((6 * v84) + v4)))), (4, ov_i v144), (5, ov_i v151), (6, ov_i (A 9))]) (st2 := [ov_i (A 9), ov_i 349, ov_r 96]) (pc2 := 236) b_219_231_2 rfl rfl ?_
                          refine ov_iast d_219_236 (zb_96 I154) (zs_96 I154) (by omega) ?_
                          have I368 := ua_96 (k := 349) (x := (A 9)) I154 (by refine ⟨?_, ?_, ?_, ?_, ?_, ?_, ?_, ?_, ?_, ?_, ?_, ?_, ?_, ?_, ?_, ?_, ?_, ?_, ?_, ?_, ?_, ?_, ?_, ?_, ?_, ?_, ?_, ?_, ?_⟩ <;> omega)
                          refine ov_blk (ls2 := [(0, ov_r 90), (1, ov_i v4), (2, ov_i v84), (3, ov_i (350 + (4 * ((6 * v84) + v4)))), (4, ov_i v144), (5, ov_i v151), (6, ov_i (A 9))]) (st2 := [ov_r 90]) (pc2 := 238) b_219_237_1 rfl rfl ?_
                          refine ov_getf (v := ov_r 96) d_219_238 fl_Mo_81 (zb_90 I368) (zs_90 I368) (congrArg ov_r (rg_90_10 I368)) ?_
                          refine ov_blk (ls2 := [(0, ov_r 90), (1, ov_i v4), (2, ov_i v84), (3, ov_i (350 + (4 * ((6 * v84) + v4)))), (4, ov_i v144), (5, ov_i v151), (6, ov_i (A 9))]) (st2 := [ov_i (1 + v144), ov_i (350 + (4 * ((6 * v84) + v4))), ov_r 96]) (pc2 := 246) b_219_241_4 rfl rfl ?_
                          refine ov_iast d_219_246 (zb_96 I368) (zs_96 I368) (by omega) ?_
                          have I369 := ua_96 (k := (350 + (4 * ((6 * v84) + v4)))) (x := (1 + v144)) I368 (by refine ⟨?_, ?_, ?_, ?_, ?_, ?_, ?_, ?_, ?_, ?_, ?_, ?_, ?_, ?_, ?_, ?_, ?_, ?_, ?_, ?_, ?_, ?_, ?_, ?_, ?_, ?_, ?_, ?_, ?_⟩ <;> omega)
                          refine ov_blk (ls2 := [(0, ov_r 90), (1, ov_i v4), (2, ov_i v84), (3, ov_i (350 + (4 * ((6 * v84) + v4)))), (4, ov_i v144), (5, ov_i v151), (6, ov_i (A 9))]) (st2 := [ov_r 90]) (pc2 := 248) b_219_247_1 rfl rfl ?_
                          refine ov_getf (v := ov_r 96) d_219_248 fl_Mo_81 (zb_90 I369) (zs_90 I369) (congrArg ov_r (rg_90_10 I369)) ?_
                          refine ov_blk (ls2 := [(0, ov_r 90), (1, ov_i v4), (2, ov_i v84), (3, ov_i (350 + (4 * ((6 * v84) + v4)))), (4, ov_i v144), (5, ov_i v151), (6, ov_i (A 9))]) (st2 := [ov_i v151, ov_i ((350 + (4 * ((6 * v84) + v4))) + 1), ov_r 96]) (pc2 := 256) b_219_251_4 rfl rfl ?_
                          refine ov_iast d_219_256 (zb_96 I369) (zs_96 I369) (by omega) ?_
                          have I370 := ua_96 (k := ((350 + (4 * ((6 * v84) + v4))) + 1)) (x := v151) I369 (by refine ⟨?_, ?_, ?_, ?_, ?_, ?_, ?_, ?_, ?_, ?_, ?_, ?_, ?_, ?_, ?_, ?_, ?_, ?_, ?_, ?_, ?_, ?_, ?_, ?_, ?_, ?_, ?_, ?_, ?_⟩ <;> omega)
                          refine ov_blk (ls2 := [(0, ov_r 90), (1, ov_i v4), (2, ov_i v84), (3, ov_i (350 + (4 * ((6 * v84) + v4)))), (4, ov_i v144), (5, ov_i v151), (6, ov_i (A 9))]) (st2 := [ov_r 90]) (pc2 := 258) b_219_257_1 rfl rfl ?_
                          refine ov_getf (v := ov_r 96) d_219_258 fl_Mo_81 (zb_90 I370) (zs_90 I370) (congrArg ov_r (rg_90_10 I370)) ?_
                          refine ov_blk (ls2 := [(0, ov_r 90), (1, ov_i v4), (2, ov_i v84), (3, ov_i (350 + (4 * ((6 * v84) + v4)))), (4, ov_i v144), (5, ov_i v151), (6, ov_i (A 9))]) (st2 := [ov_i (v151 - 1), ov_i 0, ov_i 10, ov_r 90, ov_i ((350 + (4 * ((6 * v84) + v4))) + 2), ov_r 96]) (pc2 := 272) b_219_261_9 rfl rfl ?_
                          have cf371 : h153 93 ((h153 90 7)) = h 93 ((h153 90 7)) := congrFun E159 ((h153 90 7))
                          refine ov_cV (as := [ov_i 10, ov_i 0, ov_i (v151 - 1)]) (st := [ov_i ((350 + (4 * ((6 * v84) + v4))) + 2), ov_r 96]) (d2 := d - 1) d_219_272 lk_Mo_232 rfl (Nat.le_of_ble_eq_true rfl) (c := 1) (zb_90 I370) (zs_90 I370) ⟨by decide, rfl⟩ (by omega) (c_fMo_takeAfter_90 t m N (pt_nt t m (pt_nt t m (pt_nt t m (pt_nt t m (pt_nt t m (pt_nt t m p)))))) 1870030194 (d - 1) (by omega) U I370 10 0 (v151 - 1) (by omega) (by omega) (by omega) (by show 0 ≤ (h153 90 7) ∧ (h153 90 7) ≤ N; omega) (by show (h153 93 ((h153 90 7))) = (pt_nt t m (pt_nt t m (pt_nt t m (pt_nt t m (pt_nt t m (pt_nt t m p)))))); omega) (by show 0 ≤ (h153 90 8); omega) (by show 0 ≤ (10 : Int) ∧ (10 : Int) ≤ 21; omega) (by rw [show (ov_up (ov_up (ov_up h153 96 349 (A 9)) 96 (350 + (4 * ((6 * v84) + v4))) (1 + v144)) 96 ((350 + (4 * ((6 * v84) + v4))) + 1) v151) 92 = h 92 from E158, show (ov_up (ov_up (ov_up h153 96 349 (A 9)) 96 (350 + (4 * ((6 * v84) + v4))) (1 + v144)) 96 ((350 + (4 * ((6 * v84) + v4))) + 1) v151) 93 = h 93 from E159, show (ov_up (ov_up (ov_up h153 96 349 (A 9)) 96 (350 + (4 * ((6 * v84) + v4))) (1 + v144)) 96 ((350 + (4 * ((6 * v84) + v4))) + 1) v151) 94 = h 94 from E160]; exact mt) (by rw [show (ov_up (ov_up (ov_up h153 96 349 (A 9)) 96 (350 + (4 * ((6 * v84) + v4))) (1 + v144)) 96 ((350 + (4 * ((6 * v84) + v4))) + 1) v151) 95 = h 95 from E161]; exact wd) (by decide +kernel)) ?_
                          rintro _ z373 h374 ⟨v372, rfl, I375, y376, y377, y378⟩
                          have E379 : h374 92 = h 92 := Eq.trans (y376 92 (by decide)) (show (ov_up (ov_up (ov_up h153 96 349 (A 9)) 96 (350 + (4 * ((6 * v84) + v4))) (1 + v144)) 96 ((350 + (4 * ((6 * v84) + v4))) + 1) v151) 92 = h 92 from E158)
                          have E380 : h374 93 = h 93 := Eq.trans (y376 93 (by decide)) (show (ov_up (ov_up (ov_up h153 96 349 (A 9)) 96 (350 + (4 * ((6 * v84) + v4))) (1 + v144)) 96 ((350 + (4 * ((6 * v84) + v4))) + 1) v151) 93 = h 93 from E159)
                          have E381 : h374 94 = h 94 := Eq.trans (y376 94 (by decide)) (show (ov_up (ov_up (ov_up h153 96 349 (A 9)) 96 (350 + (4 * ((6 * v84) + v4))) (1 + v144)) 96 ((350 + (4 * ((6 * v84) + v4))) + 1) v151) 94 = h 94 from E160)
                          have E382 : h374 95 = h 95 := Eq.trans (y376 95 (by decide)) (show (ov_up (ov_up (ov_up h153 96 349 (A 9)) 96 (350 + (4 * ((6 * v84) + v4))) (1 + v144)) 96 ((350 + (4 * ((6 * v84) + v4))) + 1) v151) 95 = h 95 from E161)
                          have R384 : h374 96 = (ov_rs (ov_rs (ov_rs (h 96) 349 (A 9)) (350 + (4 * ((6 * v84) + v4))) (1 + v144)) ((350 + (4 * ((6 * v84) + v4))) + 1) v151) := Eq.trans (y376 96 (by decide)) (Eq.trans (ov_up_row (ov_up (ov_up h153 96 349 (A 9)) 96 (350 + (4 * ((6 * v84) + v4))) (1 + v144)) 96 ((350 + (4 * ((6 * v84) + v4))) + 1) v151) (congrArg (fun f => ov_rs f ((350 + (4 * ((6 * v84) + v4))) + 1) v151) (Eq.trans (ov_up_row (ov_up h153 96 349 (A 9)) 96 (350 + (4 * ((6 * v84) + v4))) (1 + v144)) (congrArg (fun f => ov_rs f (350 + (4 * ((6 * v84) + v4))) (1 + v144)) (Eq.trans (ov_up_row h153 96 349 (A 9)) (congrArg (fun f => ov_rs f 349 (A 9)) E162))))))
                          have E385 : h374 99 = h 99 := Eq.trans (y376 99 (by decide)) (show (ov_up (ov_up (ov_up h153 96 349 (A 9)) 96 (350 + (4 * ((6 * v84) + v4))) (1 + v144)) 96 ((350 + (4 * ((6 * v84) + v4))) + 1) v151) 99 = h 99 from E163)
                          have fr386 : ∀ a : Int, a ≠ 90 ∧ a ≠ 96 → h374 a = h a := fun a ca => Eq.trans (y376 a (by omega)) (Eq.trans (by show (ov_up (ov_up (ov_up h153 96 349 (A 9)) 96 (350 + (4 * ((6 * v84) + v4))) (1 + v144)) 96 ((350 + (4 * ((6 * v84) + v4))) + 1) v151) a = h153 a; rw [ov_up_ne (by omega), ov_up_ne (by omega), ov_up_ne (by omega)]) (fr164 a ca))
                          have y377_ : ∀ k : Int, k ≠ 7 → k ≠ 8 → (h374 90) k = (h153 90) k := y377
                          have rk387 : ∀ k : Int, k ≠ 7 → k ≠ 8 → h374 90 k = h 90 k := fun k n0 n1 => Eq.trans (y377_ k n0 n1) (Eq.trans (by show (ov_up (ov_up (ov_up h153 96 349 (A 9)) 96 (350 + (4 * ((6 * v84) + v4))) (1 + v144)) 96 ((350 + (4 * ((6 * v84) + v4))) + 1) v151) 90 k = h153 90 k; rw [ov_up_ne (by decide), ov_up_ne (by decide), ov_up_ne (by decide)]) (rk165 k n0 n1))
                          have g388 : h374 90 2 = (h153 90 2) := y377_ 2 (by decide) (by decide)
                          have g389 : h374 90 3 = (h153 90 3) := y377_ 3 (by decide) (by decide)
                          have g390 : h374 90 13 = (h153 90 13) := y377_ 13 (by decide) (by decide)
                          have g391 : h374 90 15 = (h153 90 15) := y377_ 15 (by decide) (by decide)
                          rcases y378 with f392 | f393 | f394 | f395
                          · have q9 : v372 = 0 ∧ (h153 90 8) ≠ 0 ∧ (h374 90 8) = (h153 90 8) ∧ (h374 90 7) = (h153 90 7) ∧ (h374 93 ((h374 90 7))) = (pt_nt t m (pt_nt t m (pt_nt t m (pt_nt t m (pt_nt t m (pt_nt t m p)))))) := f392
                            omega
                          · skip
                            show ov_R u d ov_m219 275 [(0, ov_r 90), (1, ov_i v4), (2, ov_i v84), (3, ov_i (350 + (4 * ((6 * v84) + v4)))), (4, ov_i v144), (5, ov_i v151), (6, ov_i (A 9))] [ov_i v372, ov_i ((350 + (4 * ((6 * v84) + v4))) + 2), ov_r 96] z373 h374 (P_fMo_readLight_90 F z h t m N p A)
                            have f396 : v372 = 0 ∧ (h153 90 8) = 0 ∧ pt_iw t m (pt_nt t m (pt_nt t m (pt_nt t m (pt_nt t m (pt_nt t m (pt_nt t m p)))))) (1870030194 : Int) = 0 ∧ (h374 90 8) = 1 + 16 * (pt_nt t m (pt_nt t m (pt_nt t m (pt_nt t m (pt_nt t m (pt_nt t m p)))))) ∧ 1 ≤ (h374 90 8) ∧ (h374 90 7) = (h153 90 7) ∧ (h374 93 ((h374 90 7))) = (pt_nt t m (pt_nt t m (pt_nt t m (pt_nt t m (pt_nt t m (pt_nt t m p)))))) := f393
                            clear f393
                            refine ov_iast d_219_275 (zb_96 I375) (zs_96 I375) (by omega) ?_
                            have I397 := ua_96 (k := ((350 + (4 * ((6 * v84) + v4))) + 2)) (x := v372) I375 (by refine ⟨?_, ?_, ?_, ?_, ?_, ?_, ?_, ?_, ?_, ?_, ?_, ?_, ?_, ?_, ?_, ?_, ?_, ?_, ?_, ?_, ?_, ?_, ?_, ?_, ?_, ?_, ?_, ?_, ?_⟩ <;> omega)
                            refine ov_blk (ls2 := [(0, ov_r 90), (1, ov_i v4), (2, ov_i v84), (3, ov_i (350 + (4 * ((6 * v84) + v4)))), (4, ov_i v144), (5, ov_i v151), (6, ov_i (A 9))]) (st2 := [ov_r 90]) (pc2 := 277) b_219_276_1 rfl rfl ?_
                            refine ov_getf (v := ov_r 96) d_219_277 fl_Mo_81 (zb_90 I397) (zs_90 I397) (congrArg ov_r (rg_90_10 I397)) ?_
                            refine ov_blk (ls2 := [(0, ov_r 90), (1, ov_i v4), (2, ov_i v84), (3, ov_i (350 + (4 * ((6 * v84) + v4)))), (4, ov_i v144), (5, ov_i v151), (6, ov_i (A 9))]) (st2 := [ov_i v151, ov_i 0, ov_i 12, ov_r 90, ov_i ((350 + (4 * ((6 * v84) + v4))) + 3), ov_r 96]) (pc2 := 289) b_219_280_7 rfl rfl ?_
                            have cf398 : h374 93 ((h374 90 7)) = h 93 ((h374 90 7)) := congrFun E380 ((h374 90 7))
                            refine ov_cV (as := [ov_i 12, ov_i 0, ov_i v151]) (st := [ov_i ((350 + (4 * ((6 * v84) + v4))) + 3), ov_r 96]) (d2 := d - 1) d_219_289 lk_Mo_232 rfl (Nat.le_of_ble_eq_true rfl) (c := 1) (zb_90 I397) (zs_90 I397) ⟨by decide, rfl⟩ (by omega) (c_fMo_takeAfter_90 t m N (pt_nt t m (pt_nt t m (pt_nt t m (pt_nt t m (pt_nt t m (pt_nt t m p)))))) 6713202 (d - 1) (by omega) U I397 12 0 v151 (by omega) (by omega) (by omega) (by show 0 ≤ (h374 90 7) ∧ (h374 90 7) ≤ N; omega) (by show (h374 93 ((h374 90 7))) = (pt_nt t m (pt_nt t m (pt_nt t m (pt_nt t m (pt_nt t m (pt_nt t m p)))))); omega) (by show 0 ≤ (h374 90 8); omega) (by show 0 ≤ (12 : Int) ∧ (12 : Int) ≤ 21; omega) (by rw [show (ov_up h374 96 ((350 + (4 * ((6 * v84) + v4))) + 2) v372) 92 = h 92 from E379, show (ov_up h374 96 ((350 + (4 * ((6 * v84) + v4))) + 2) v372) 93 = h 93 from E380, show (ov_up h374 96 ((350 + (4 * ((6 * v84) + v4))) + 2) v372) 94 = h 94 from E381]; exact mt) (by rw [show (ov_up h374 96 ((350 + (4 * ((6 * v84) + v4))) + 2) v372) 95 = h 95 from E382]; exact wd) (by decide +kernel)) ?_
                            rintro _ z400 h401 ⟨v399, rfl, I402, y403, y404, y405⟩
                            have E406 : h401 92 = h 92 := Eq.trans (y403 92 (by decide)) (show (ov_up h374 96 ((350 + (4 * ((6 * v84) + v4))) + 2) v372) 92 = h 92 from E379)
                            have E407 : h401 93 = h 93 := Eq.trans (y403 93 (by decide)) (show (ov_up h374 96 ((350 + (4 * ((6 * v84) + v4))) + 2) v372) 93 = h 93 from E380)
                            have E408 : h401 94 = h 94 := Eq.trans (y403 94 (by decide)) (show (ov_up h374 96 ((350 + (4 * ((6 * v84) + v4))) + 2) v372) 94 = h 94 from E381)
                            have E409 : h401 95 = h 95 := Eq.trans (y403 95 (by decide)) (show (ov_up h374 96 ((350 + (4 * ((6 * v84) + v4))) + 2) v372) 95 = h 95 from E382)
                            have R411 : h401 96 = (ov_rs (ov_rs (ov_rs (ov_rs (h 96) 349 (A 9)) (350 + (4 * ((6 * v84) + v4))) (1 + v144)) ((350 + (4 * ((6 * v84) + v4))) + 1) v151) ((350 + (4 * ((6 * v84) + v4))) + 2) v372) := Eq.trans (y403 96 (by decide)) (Eq.trans (ov_up_row h374 96 ((350 + (4 * ((6 * v84) + v4))) + 2) v372) (congrArg (fun f => ov_rs f ((350 + (4 * ((6 * v84) + v4))) + 2) v372) R384))
                            have E412 : h401 99 = h 99 := Eq.trans (y403 99 (by decide)) (show (ov_up h374 96 ((350 + (4 * ((6 * v84) + v4))) + 2) v372) 99 = h 99 from E385)
                            have fr413 : ∀ a : Int, a ≠ 90 ∧ a ≠ 96 → h401 a = h a := fun a ca => Eq.trans (y403 a (by omega)) (Eq.trans (by show (ov_up h374 96 ((350 + (4 * ((6 * v84) + v4))) + 2) v372) a = h374 a; rw [ov_up_ne (by omega)]) (fr386 a ca))
                            have y404_ : ∀ k : Int, k ≠ 7 → k ≠ 8 → (h401 90) k = (h374 90) k := y404
                            have rk414 : ∀ k : Int, k ≠ 7 → k ≠ 8 → h401 90 k = h 90 k := fun k n0 n1 => Eq.trans (y404_ k n0 n1) (Eq.trans (by show (ov_up h374 96 ((350 + (4 * ((6 * v84) + v4))) + 2) v372) 90 k = h374 90 k; rw [ov_up_ne (by decide)]) (rk387 k n0 n1))
                            have g415 : h401 90 2 = (h374 90 2) := y404_ 2 (by decide) (by decide)
                            have g416 : h401 90 3 = (h374 90 3) := y404_ 3 (by decide) (by decide)
                            have g417 : h401 90 13 = (h374 90 13) := y404_ 13 (by decide) (by decide)
                            have g418 : h401 90 15 = (h374 90 15) := y404_ 15 (by decide) (by decide)
                            rcases y405 with f419 | f420 | f421 | f422
                            · skip
                              show ov_R u d ov_m219 292 [(0, ov_r 90), (1, ov_i v4), (2, ov_i v84), (3, ov_i (350 + (4 * ((6 * v84) + v4)))), (4, ov_i v144), (5, ov_i v151), (6, ov_i (A 9))] [ov_i v399, ov_i ((350 + (4 * ((6 * v84) + v4))) + 3), ov_r 96] z400 h401 (P_fMo_readLight_90 F z h t m N p A)
                              have f423 : v399 = 0 ∧ (h374 90 8) ≠ 0 ∧ (h401 90 8) = (h374 90 8) ∧ (h401 90 7) = (h374 90 7) ∧ (h401 93 ((h401 90 7))) = (pt_nt t m (pt_nt t m (pt_nt t m (pt_nt t m (pt_nt t m (pt_nt t m p)))))) := f419
                              clear f419
                              refine ov_iast d_219_292 (zb_96 I402) (zs_96 I402) (by omega) ?_
                              have I424 := ua_96 (k := ((350 + (4 * ((6 * v84) + v4))) + 3)) (x := v399) I402 (by refine ⟨?_, ?_, ?_, ?_, ?_, ?_, ?_, ?_, ?_, ?_, ?_, ?_, ?_, ?_, ?_, ?_, ?_, ?_, ?_, ?_, ?_, ?_, ?_, ?_, ?_, ?_, ?_, ?_, ?_⟩ <;> omega)
                              refine ov_blk (ls2 := [(0, ov_r 90), (1, ov_i v4), (2, ov_i v84), (3, ov_i (350 + (4 * ((6 * v84) + v4)))), (4, ov_i v144), (5, ov_i v151), (6, ov_i (A 9))]) (st2 := [ov_r 90]) (pc2 := 294) b_219_293_1 rfl rfl ?_
                              refine ov_getf (v := ov_r 96) d_219_294 fl_Mo_81 (zb_90 I424) (zs_90 I424) (congrArg ov_r (rg_90_10 I424)) ?_
                              refine ov_blk (ls2 := [(0, ov_r 90), (1, ov_i v4), (2, ov_i v84), (3, ov_i (350 + (4 * ((6 * v84) + v4)))), (4, ov_i v144), (5, ov_i v151), (6, ov_i (A 9))]) (st2 := [ov_i 347, ov_r 96, ov_i 347, ov_r 96]) (pc2 := 301) b_219_297_2 rfl rfl ?_
                              refine ov_iald d_219_301 (zb_96 I424) (zs_96 I424) (by omega) ?_
                              show ov_R u d ov_m219 302 [(0, ov_r 90), (1, ov_i v4), (2, ov_i v84), (3, ov_i (350 + (4 * ((6 * v84) + v4)))), (4, ov_i v144), (5, ov_i v151), (6, ov_i (A 9))] [ov_i ((ov_up h401 96 ((350 + (4 * ((6 * v84) + v4))) + 3) v399) 96 347), ov_i 347, ov_r 96] z400 (ov_up h401 96 ((350 + (4 * ((6 * v84) + v4))) + 3) v399) (P_fMo_readLight_90 F z h t m N p A)
                              have k7 : (ov_up h401 96 ((350 + (4 * ((6 * v84) + v4))) + 3) v399) 96 347 = A 7 := by rw [show (ov_up h401 96 ((350 + (4 * ((6 * v84) + v4))) + 3) v399) 96 = (ov_rs (ov_rs (ov_rs (ov_rs (ov_rs (h 96) 349 (A 9)) (350 + (4 * ((6 * v84) + v4))) (1 + v144)) ((350 + (4 * ((6 * v84) + v4))) + 1) v151) ((350 + (4 * ((6 * v84) + v4))) + 2) v372) ((350 + (4 * ((6 * v84) + v4))) + 3) v399) from (Eq.trans (ov_up_row h401 96 ((350 + (4 * ((6 * v84) + v4))) + 3) v399) (congrArg (fun f => ov_rs f ((350 + (4 * ((6 * v84) + v4))) + 3) v399) R411)), ov_rs_ne (by omega), ov_rs_ne (by omega), ov_rs_ne (by omega), ov_rs_ne (by omega), ov_rs_ne (by omega)]; exact pt_MR_c mr (j := 7) (by omega)
                              refine ov_blk (ls2 := [(0, ov_r 90), (1, ov_i v4), (2, ov_i v84), (3, ov_i (350 + (4 * ((6 * v84) + v4)))), (4, ov_i v144), (5, ov_i v151), (6, ov_i (A 9))]) (st2 := [ov_i (((ov_up h401 96 ((350 + (4 * ((6 * v84) + v4))) + 3) v399) 96 347) + 1), ov_i 347, ov_r 96]) (pc2 := 304) b_219_302_2 rfl rfl ?_
                              refine ov_nrm ?_
                              have g425 := ov_wg (((ov_up h401 96 ((350 + (4 * ((6 * v84) + v4))) + 3) v399) 96 347) + 1)
                              refine ov_iast d_219_304 (zb_96 I424) (zs_96 I424) (by omega) ?_
                              have I426 := ua_96 (k := 347) (x := (ov_w (((ov_up h401 96 ((350 + (4 * ((6 * v84) + v4))) + 3) v399) 96 347) + 1))) I424 (by refine ⟨?_, ?_, ?_, ?_, ?_, ?_, ?_, ?_, ?_, ?_, ?_, ?_, ?_, ?_, ?_, ?_, ?_, ?_, ?_, ?_, ?_, ?_, ?_, ?_, ?_, ?_, ?_, ?_, ?_⟩ <;> omega)
                              have eg1 : pt_fN t m 0 ((pt_nm t m (pt_nt t m (pt_nt t m (pt_nt t m (pt_nt t m (pt_nt t m p)))))) - 1) (pt_nt t m (pt_nt t m (pt_nt t m (pt_nt t m (pt_nt t m (pt_nt t m (pt_nt t m p))))))) = pt_fN t m 0 (v151 - 1) (pt_nt t m (pt_nt t m (pt_nt t m (pt_nt t m (pt_nt t m (pt_nt t m (pt_nt t m p))))))) := by rw [e5]
                              have eg2 : pt_fN t m 0 (pt_nm t m (pt_nt t m (pt_nt t m (pt_nt t m (pt_nt t m (pt_nt t m p)))))) (pt_nt t m (pt_nt t m (pt_nt t m (pt_nt t m (pt_nt t m (pt_nt t m (pt_nt t m (pt_nt t m (pt_nt t m p))))))))) = pt_fN t m 0 v151 (pt_nt t m (pt_nt t m (pt_nt t m (pt_nt t m (pt_nt t m (pt_nt t m (pt_nt t m (pt_nt t m (pt_nt t m p))))))))) := by rw [e5]
                              have hg : pt_grF t m (pt_nm t m (pt_nt t m (pt_nt t m (pt_nt t m (pt_nt t m (pt_nt t m p)))))) (pt_nt t m (pt_nt t m (pt_nt t m (pt_nt t m (pt_nt t m (pt_nt t m p)))))) = (h401 90 8) := by unfold pt_grF pt_fW; (repeat' split) <;> omega
                              have hF : (pt_liF t m A p) = (h401 90 8) := by unfold pt_liF; (repeat' split) <;> omega
                              exact ov_retv (st := []) d_219_305 rfl ⟨rfl, I426, (fun a ca => Eq.trans (by show (ov_up (ov_up h401 96 ((350 + (4 * ((6 * v84) + v4))) + 3) v399) 96 347 (ov_w (((ov_up h401 96 ((350 + (4 * ((6 * v84) + v4))) + 3) v399) 96 347) + 1))) a = h401 a; rw [ov_up_ne (by omega), ov_up_ne (by omega)]) (fr413 a ca)), (fun k n0 n1 => (Eq.trans (by show (ov_up (ov_up h401 96 ((350 + (4 * ((6 * v84) + v4))) + 3) v399) 96 347 (ov_w (((ov_up h401 96 ((350 + (4 * ((6 * v84) + v4))) + 3) v399) 96 347) + 1))) 90 k = h401 90 k; rw [ov_up_ne (by decide), ov_up_ne (by decide)]) (rk414 k n0 n1))), (Or.inl (by show (h401 90 8) = (pt_liF t m A p) ∧ 1 ≤ (h401 90 8) ∧ (h 90 7) ≤ (h401 90 7) ∧ (h401 90 7) ≤ N; omega))⟩
                            · have q9 : v399 = 0 ∧ (h374 90 8) = 0 ∧ pt_iw t m (pt_nt t m (pt_nt t m (pt_nt t m (pt_nt t m (pt_nt t m (pt_nt t m p)))))) (6713202 : Int) = 0 ∧ (h401 90 8) = 1 + 16 * (pt_nt t m (pt_nt t m (pt_nt t m (pt_nt t m (pt_nt t m (pt_nt t m p)))))) ∧ 1 ≤ (h401 90 8) ∧ (h401 90 7) = (h374 90 7) ∧ (h401 93 ((h401 90 7))) = (pt_nt t m (pt_nt t m (pt_nt t m (pt_nt t m (pt_nt t m (pt_nt t m p)))))) := f420
                              omega
                            · have q9 : v399 = 0 ∧ (h374 90 8) = 0 ∧ pt_iw t m (pt_nt t m (pt_nt t m (pt_nt t m (pt_nt t m (pt_nt t m (pt_nt t m p)))))) (6713202 : Int) = 1 ∧ (h401 90 8) = pt_fN t m (0 : Int) v151 (pt_nt t m (pt_nt t m (pt_nt t m (pt_nt t m (pt_nt t m (pt_nt t m (pt_nt t m p))))))) ∧ 1 ≤ (h401 90 8) ∧ (h401 90 7) = (h374 90 7) + 1 ∧ (h401 90 7) ≤ N ∧ (h401 93 ((h401 90 7))) = pt_nt t m (pt_nt t m (pt_nt t m (pt_nt t m (pt_nt t m (pt_nt t m (pt_nt t m p)))))) := f421
                              omega
                            · have q9 : (h374 90 8) = 0 ∧ pt_iw t m (pt_nt t m (pt_nt t m (pt_nt t m (pt_nt t m (pt_nt t m (pt_nt t m p)))))) (6713202 : Int) = 1 ∧ (h401 90 8) = 0 ∧ pt_fN t m (0 : Int) v151 (pt_nt t m (pt_nt t m (pt_nt t m (pt_nt t m (pt_nt t m (pt_nt t m (pt_nt t m p))))))) = 0 ∧ (0 : Int) ≤ v399 ∧ v399 ≤ v151 ∧ v399 = pt_nm t m (pt_nt t m (pt_nt t m (pt_nt t m (pt_nt t m (pt_nt t m (pt_nt t m (pt_nt t m p))))))) ∧ 0 ≤ v399 ∧ v399 ≤ 9999 ∧ (h401 90 7) = (h374 90 7) + 2 ∧ (h401 90 7) ≤ N ∧ (h401 93 ((h401 90 7))) = pt_nt t m (pt_nt t m (pt_nt t m (pt_nt t m (pt_nt t m (pt_nt t m (pt_nt t m (pt_nt t m p))))))) := f422
                              omega
                          · skip
                            show ov_R u d ov_m219 275 [(0, ov_r 90), (1, ov_i v4), (2, ov_i v84), (3, ov_i (350 + (4 * ((6 * v84) + v4)))), (4, ov_i v144), (5, ov_i v151), (6, ov_i (A 9))] [ov_i v372, ov_i ((350 + (4 * ((6 * v84) + v4))) + 2), ov_r 96] z373 h374 (P_fMo_readLight_90 F z h t m N p A)
                            have f427 : v372 = 0 ∧ (h153 90 8) = 0 ∧ pt_iw t m (pt_nt t m (pt_nt t m (pt_nt t m (pt_nt t m (pt_nt t m (pt_nt t m p)))))) (1870030194 : Int) = 1 ∧ (h374 90 8) = pt_fN t m (0 : Int) (v151 - 1) (pt_nt t m (pt_nt t m (pt_nt t m (pt_nt t m (pt_nt t m (pt_nt t m (pt_nt t m p))))))) ∧ 1 ≤ (h374 90 8) ∧ (h374 90 7) = (h153 90 7) + 1 ∧ (h374 90 7) ≤ N ∧ (h374 93 ((h374 90 7))) = pt_nt t m (pt_nt t m (pt_nt t m (pt_nt t m (pt_nt t m (pt_nt t m (pt_nt t m p)))))) := f394
                            clear f394
                            refine ov_iast d_219_275 (zb_96 I375) (zs_96 I375) (by omega) ?_
                            have I428 := ua_96 (k := ((350 + (4 * ((6 * v84) + v4))) + 2)) (x := v372) I375 (by refine ⟨?_, ?_, ?_, ?_, ?_, ?_, ?_, ?_, ?_, ?_, ?_, ?_, ?_, ?_, ?_, ?_, ?_, ?_, ?_, ?_, ?_, ?_, ?_, ?_, ?_, ?_, ?_, ?_, ?_⟩ <;> omega)
                            refine ov_blk (ls2 := [(0, ov_r 90), (1, ov_i v4), (2, ov_i v84), (3, ov_i (350 + (4 * ((6 * v84) + v4)))), (4, ov_i v144), (5, ov_i v151), (6, ov_i (A 9))]) (st2 := [ov_r 90]) (pc2 := 277) b_219_276_1 rfl rfl ?_
                            refine ov_getf (v := ov_r 96) d_219_277 fl_Mo_81 (zb_90 I428) (zs_90 I428) (congrArg ov_r (rg_90_10 I428)) ?_
                            refine ov_blk (ls2 := [(0, ov_r 90), (1, ov_i v4), (2, ov_i v84), (3, ov_i (350 + (4 * ((6 * v84) + v4)))), (4, ov_i v144), (5, ov_i v151), (6, ov_i (A 9))]) (st2 := [ov_i v151, ov_i 0, ov_i 12, ov_r 90, ov_i ((350 + (4 * ((6 * v84) + v4))) + 3), ov_r 96]) (pc2 := 289) b_219_280_7 rfl rfl ?_
                            have cf429 : h374 93 ((h374 90 7)) = h 93 ((h374 90 7)) := congrFun E380 ((h374 90 7))
                            refine ov_cV (as := [ov_i 12, ov_i 0, ov_i v151]) (st := [ov_i ((350 + (4 * ((6 * v84) + v4))) + 3), ov_r 96]) (d2 := d - 1) d_219_289 lk_Mo_232 rfl (Nat.le_of_ble_eq_true rfl) (c := 1) (zb_90 I428) (zs_90 I428) ⟨by decide, rfl⟩ (by omega) (c_fMo_takeAfter_90 t m N (pt_nt t m (pt_nt t m (pt_nt t m (pt_nt t m (pt_nt t m (pt_nt t m (pt_nt t m p))))))) 6713202 (d - 1) (by omega) U I428 12 0 v151 (by omega) (by omega) (by omega) (by show 0 ≤ (h374 90 7) ∧ (h374 90 7) ≤ N; omega) (by show (h374 93 ((h374 90 7))) = (pt_nt t m (pt_nt t m (pt_nt t m (pt_nt t m (pt_nt t m (pt_nt t m (pt_nt t m p))))))); omega) (by show 0 ≤ (h374 90 8); omega) (by show 0 ≤ (12 : Int) ∧ (12 : Int) ≤ 21; omega) (by rw [show (ov_up h374 96 ((350 + (4 * ((6 * v84) + v4))) + 2) v372) 92 = h 92 from E379, show (ov_up h374 96 ((350 + (4 * ((6 * v84) + v4))) + 2) v372) 93 = h 93 from E380, show (ov_up h374 96 ((350 + (4 * ((6 * v84) + v4))) + 2) v372) 94 = h 94 from E381]; exact mt) (by rw [show (ov_up h374 96 ((350 + (4 * ((6 * v84) + v4))) + 2) v372) 95 = h 95 from E382]; exact wd) (by decide +kernel)) ?_
                            rintro _ z431 h432 ⟨v430, rfl, I433, y434, y435, y436⟩
                            have E437 : h432 92 = h 92 := Eq.trans (y434 92 (by decide)) (show (ov_up h374 96 ((350 + (4 * ((6 * v84) + v4))) + 2) v372) 92 = h 92 from E379)
                            have E438 : h432 93 = h 93 := Eq.trans (y434 93 (by decide)) (show (ov_up h374 96 ((350 + (4 * ((6 * v84) + v4))) + 2) v372) 93 = h 93 from E380)
                            have E439 : h432 94 = h 94 := Eq.trans (y434 94 (by decide)) (show (ov_up h374 96 ((350 + (4 * ((6 * v84) + v4))) + 2) v372) 94 = h 94 from E381)
                            have E440 : h432 95 = h 95 := Eq.trans (y434 95 (by decide)) (show (ov_up h374 96 ((350 + (4 * ((6 * v84) + v4))) + 2) v372) 95 = h 95 from E382)
                            have R442 : h432 96 = (ov_rs (ov_rs (ov_rs (ov_rs (h 96) 349 (A 9)) (350 + (4 * ((6 * v84) + v4))) (1 + v144)) ((350 + (4 * ((6 * v84) + v4))) + 1) v151) ((350 + (4 * ((6 * v84) + v4))) + 2) v372) := Eq.trans (y434 96 (by decide)) (Eq.trans (ov_up_row h374 96 ((350 + (4 * ((6 * v84) + v4))) + 2) v372) (congrArg (fun f => ov_rs f ((350 + (4 * ((6 * v84) + v4))) + 2) v372) R384))
                            have E443 : h432 99 = h 99 := Eq.trans (y434 99 (by decide)) (show (ov_up h374 96 ((350 + (4 * ((6 * v84) + v4))) + 2) v372) 99 = h 99 from E385)
                            have fr444 : ∀ a : Int, a ≠ 90 ∧ a ≠ 96 → h432 a = h a := fun a ca => Eq.trans (y434 a (by omega)) (Eq.trans (by show (ov_up h374 96 ((350 + (4 * ((6 * v84) + v4))) + 2) v372) a = h374 a; rw [ov_up_ne (by omega)]) (fr386 a ca))
                            have y435_ : ∀ k : Int, k ≠ 7 → k ≠ 8 → (h432 90) k = (h374 90) k := y435
                            have rk445 : ∀ k : Int, k ≠ 7 → k ≠ 8 → h432 90 k = h 90 k := fun k n0 n1 => Eq.trans (y435_ k n0 n1) (Eq.trans (by show (ov_up h374 96 ((350 + (4 * ((6 * v84) + v4))) + 2) v372) 90 k = h374 90 k; rw [ov_up_ne (by decide)]) (rk387 k n0 n1))
                            have g446 : h432 90 2 = (h374 90 2) := y435_ 2 (by decide) (by decide)
                            have g447 : h432 90 3 = (h374 90 3) := y435_ 3 (by decide) (by decide)
                            have g448 : h432 90 13 = (h374 90 13) := y435_ 13 (by decide) (by decide)
                            have g449 : h432 90 15 = (h374 90 15) := y435_ 15 (by decide) (by decide)
                            rcases y436 with f450 | f451 | f452 | f453
                            · skip
                              show ov_R u d ov_m219 292 [(0, ov_r 90), (1, ov_i v4), (2, ov_i v84), (3, ov_i (350 + (4 * ((6 * v84) + v4)))), (4, ov_i v144), (5, ov_i v151), (6, ov_i (A 9))] [ov_i v430, ov_i ((350 + (4 * ((6 * v84) + v4))) + 3), ov_r 96] z431 h432 (P_fMo_readLight_90 F z h t m N p A)
                              have f454 : v430 = 0 ∧ (h374 90 8) ≠ 0 ∧ (h432 90 8) = (h374 90 8) ∧ (h432 90 7) = (h374 90 7) ∧ (h432 93 ((h432 90 7))) = (pt_nt t m (pt_nt t m (pt_nt t m (pt_nt t m (pt_nt t m (pt_nt t m (pt_nt t m p))))))) := f450
                              clear f450
                              refine ov_iast d_219_292 (zb_96 I433) (zs_96 I433) (by omega) ?_
                              have I455 := ua_96 (k := ((350 + (4 * ((6 * v84) + v4))) + 3)) (x := v430) I433 (by refine ⟨?_, ?_, ?_, ?_, ?_, ?_, ?_, ?_, ?_, ?_, ?_, ?_, ?_, ?_, ?_, ?_, ?_, ?_, ?_, ?_, ?_, ?_, ?_, ?_, ?_, ?_, ?_, ?_, ?_⟩ <;> omega)
                              refine ov_blk (ls2 := [(0, ov_r 90), (1, ov_i v4), (2, ov_i v84), (3, ov_i (350 + (4 * ((6 * v84) + v4)))), (4, ov_i v144), (5, ov_i v151), (6, ov_i (A 9))]) (st2 := [ov_r 90]) (pc2 := 294) b_219_293_1 rfl rfl ?_
                              refine ov_getf (v := ov_r 96) d_219_294 fl_Mo_81 (zb_90 I455) (zs_90 I455) (congrArg ov_r (rg_90_10 I455)) ?_
                              refine ov_blk (ls2 := [(0, ov_r 90), (1, ov_i v4), (2, ov_i v84), (3, ov_i (350 + (4 * ((6 * v84) + v4)))), (4, ov_i v144), (5, ov_i v151), (6, ov_i (A 9))]) (st2 := [ov_i 347, ov_r 96, ov_i 347, ov_r 96]) (pc2 := 301) b_219_297_2 rfl rfl ?_
                              refine ov_iald d_219_301 (zb_96 I455) (zs_96 I455) (by omega) ?_
                              show ov_R u d ov_m219 302 [(0, ov_r 90), (1, ov_i v4), (2, ov_i v84), (3, ov_i (350 + (4 * ((6 * v84) + v4)))), (4, ov_i v144), (5, ov_i v151), (6, ov_i (A 9))] [ov_i ((ov_up h432 96 ((350 + (4 * ((6 * v84) + v4))) + 3) v430) 96 347), ov_i 347, ov_r 96] z431 (ov_up h432 96 ((350 + (4 * ((6 * v84) + v4))) + 3) v430) (P_fMo_readLight_90 F z h t m N p A)
                              have k7 : (ov_up h432 96 ((350 + (4 * ((6 * v84) + v4))) + 3) v430) 96 347 = A 7 := by rw [show (ov_up h432 96 ((350 + (4 * ((6 * v84) + v4))) + 3) v430) 96 = (ov_rs (ov_rs (ov_rs (ov_rs (ov_rs (h 96) 349 (A 9)) (350 + (4 * ((6 * v84) + v4))) (1 + v144)) ((350 + (4 * ((6 * v84) + v4))) + 1) v151) ((350 + (4 * ((6 * v84) + v4))) + 2) v372) ((350 + (4 * ((6 * v84) + v4))) + 3) v430) from (Eq.trans (ov_up_row h432 96 ((350 + (4 * ((6 * v84) + v4))) + 3) v430) (congrArg (fun f => ov_rs f ((350 + (4 * ((6 * v84) + v4))) + 3) v430) R442)), ov_rs_ne (by omega), ov_rs_ne (by omega), ov_rs_ne (by omega), ov_rs_ne (by omega), ov_rs_ne (by omega)]; exact pt_MR_c mr (j := 7) (by omega)
                              refine ov_blk (ls2 := [(0, ov_r 90), (1, ov_i v4), (2, ov_i v84), (3, ov_i (350 + (4 * ((6 * v84) + v4)))), (4, ov_i v144), (5, ov_i v151), (6, ov_i (A 9))]) (st2 := [ov_i (((ov_up h432 96 ((350 + (4 * ((6 * v84) + v4))) + 3) v430) 96 347) + 1), ov_i 347, ov_r 96]) (pc2 := 304) b_219_302_2 rfl rfl ?_
                              refine ov_nrm ?_
                              have g456 := ov_wg (((ov_up h432 96 ((350 + (4 * ((6 * v84) + v4))) + 3) v430) 96 347) + 1)
                              refine ov_iast d_219_304 (zb_96 I455) (zs_96 I455) (by omega) ?_
                              have I457 := ua_96 (k := 347) (x := (ov_w (((ov_up h432 96 ((350 + (4 * ((6 * v84) + v4))) + 3) v430) 96 347) + 1))) I455 (by refine ⟨?_, ?_, ?_, ?_, ?_, ?_, ?_, ?_, ?_, ?_, ?_, ?_, ?_, ?_, ?_, ?_, ?_, ?_, ?_, ?_, ?_, ?_, ?_, ?_, ?_, ?_, ?_, ?_, ?_⟩ <;> omega)
                              have eg1 : pt_fN t m 0 ((pt_nm t m (pt_nt t m (pt_nt t m (pt_nt t m (pt_nt t m (pt_nt t m p)))))) - 1) (pt_nt t m (pt_nt t m (pt_nt t m (pt_nt t m (pt_nt t m (pt_nt t m (pt_nt t m p))))))) = pt_fN t m 0 (v151 - 1) (pt_nt t m (pt_nt t m (pt_nt t m (pt_nt t m (pt_nt t m (pt_nt t m (pt_nt t m p))))))) := by rw [e5]
                              have eg2 : pt_fN t m 0 (pt_nm t m (pt_nt t m (pt_nt t m (pt_nt t m (pt_nt t m (pt_nt t m p)))))) (pt_nt t m (pt_nt t m (pt_nt t m (pt_nt t m (pt_nt t m (pt_nt t m (pt_nt t m (pt_nt t m (pt_nt t m p))))))))) = pt_fN t m 0 v151 (pt_nt t m (pt_nt t m (pt_nt t m (pt_nt t m (pt_nt t m (pt_nt t m (pt_nt t m (pt_nt t m (pt_nt t m p))))))))) := by rw [e5]
                              have hg : pt_grF t m (pt_nm t m (pt_nt t m (pt_nt t m (pt_nt t m (pt_nt t m (pt_nt t m p)))))) (pt_nt t m (pt_nt t m (pt_nt t m (pt_nt t m (pt_nt t m (pt_nt t m p)))))) = (h432 90 8) := by unfold pt_grF pt_fW; (repeat' split) <;> omega
                              have hF : (pt_liF t m A p) = (h432 90 8) := by unfold pt_liF; (repeat' split) <;> omega
                              exact ov_retv (st := []) d_219_305 rfl ⟨rfl, I457, (fun a ca => Eq.trans (by show (ov_up (ov_up h432 96 ((350 + (4 * ((6 * v84) + v4))) + 3) v430) 96 347 (ov_w (((ov_up h432 96 ((350 + (4 * ((6 * v84) + v4))) + 3) v430) 96 347) + 1))) a = h432 a; rw [ov_up_ne (by omega), ov_up_ne (by omega)]) (fr444 a ca)), (fun k n0 n1 => (Eq.trans (by show (ov_up (ov_up h432 96 ((350 + (4 * ((6 * v84) + v4))) + 3) v430) 96 347 (ov_w (((ov_up h432 96 ((350 + (4 * ((6 * v84) + v4))) + 3) v430) 96 347) + 1))) 90 k = h432 90 k; rw [ov_up_ne (by decide), ov_up_ne (by decide)]) (rk445 k n0 n1))), (Or.inl (by show (h432 90 8) = (pt_liF t m A p) ∧ 1 ≤ (h432 90 8) ∧ (h 90 7) ≤ (h432 90 7) ∧ (h432 90 7) ≤ N; omega))⟩
                            · have q9 : v430 = 0 ∧ (h374 90 8) = 0 ∧ pt_iw t m (pt_nt t m (pt_nt t m (pt_nt t m (pt_nt t m (pt_nt t m (pt_nt t m (pt_nt t m p))))))) (6713202 : Int) = 0 ∧ (h432 90 8) = 1 + 16 * (pt_nt t m (pt_nt t m (pt_nt t m (pt_nt t m (pt_nt t m (pt_nt t m (pt_nt t m p))))))) ∧ 1 ≤ (h432 90 8) ∧ (h432 90 7) = (h374 90 7) ∧ (h432 93 ((h432 90 7))) = (pt_nt t m (pt_nt t m (pt_nt t m (pt_nt t m (pt_nt t m (pt_nt t m (pt_nt t m p))))))) := f451
                              omega
                            · have q9 : v430 = 0 ∧ (h374 90 8) = 0 ∧ pt_iw t m (pt_nt t m (pt_nt t m (pt_nt t m (pt_nt t m (pt_nt t m (pt_nt t m (pt_nt t m p))))))) (6713202 : Int) = 1 ∧ (h432 90 8) = pt_fN t m (0 : Int) v151 (pt_nt t m (pt_nt t m (pt_nt t m (pt_nt t m (pt_nt t m (pt_nt t m (pt_nt t m (pt_nt t m p)))))))) ∧ 1 ≤ (h432 90 8) ∧ (h432 90 7) = (h374 90 7) + 1 ∧ (h432 90 7) ≤ N ∧ (h432 93 ((h432 90 7))) = pt_nt t m (pt_nt t m (pt_nt t m (pt_nt t m (pt_nt t m (pt_nt t m (pt_nt t m (pt_nt t m p))))))) := f452
                              omega
                            · have q9 : (h374 90 8) = 0 ∧ pt_iw t m (pt_nt t m (pt_nt t m (pt_nt t m (pt_nt t m (pt_nt t m (pt_nt t m (pt_nt t m p))))))) (6713202 : Int) = 1 ∧ (h432 90 8) = 0 ∧ pt_fN t m (0 : Int) v151 (pt_nt t m (pt_nt t m (pt_nt t m (pt_nt t m (pt_nt t m (pt_nt t m (pt_nt t m (pt_nt t m p)))))))) = 0 ∧ (0 : Int) ≤ v430 ∧ v430 ≤ v151 ∧ v430 = pt_nm t m (pt_nt t m (pt_nt t m (pt_nt t m (pt_nt t m (pt_nt t m (pt_nt t m (pt_nt t m (pt_nt t m p)))))))) ∧ 0 ≤ v430 ∧ v430 ≤ 9999 ∧ (h432 90 7) = (h374 90 7) + 2 ∧ (h432 90 7) ≤ N ∧ (h432 93 ((h432 90 7))) = pt_nt t m (pt_nt t m (pt_nt t m (pt_nt t m (pt_nt t m (pt_nt t m (pt_nt t m (pt_nt t m (pt_nt t m p)))))))) := f453
                              omega
                          · skip
                            show ov_R u d ov_m219 275 [(0, ov_r 90), (1, ov_i v4), (2, ov_i v84), (3, ov_i (350 + (4 * ((6 * v84) + v4)))), (4, ov_i v144), (5, ov_i v151), (6, ov_i (A 9))] [ov_i v372, ov_i ((350 + (4 * ((6 * v84) + v4))) + 2), ov_r 96] z373 h374 (P_fMo_readLight_90 F z h t m N p A)
                            have f458 : (h153 90 8) = 0 ∧ pt_iw t m (pt_nt t m (pt_nt t m (pt_nt t m (pt_nt t m (pt_nt t m (pt_nt t m p)))))) (1870030194 : Int) = 1 ∧ (h374 90 8) = 0 ∧ pt_fN t m (0 : Int) (v151 - 1) (pt_nt t m (pt_nt t m (pt_nt t m (pt_nt t m (pt_nt t m (pt_nt t m (pt_nt t m p))))))) = 0 ∧ (0 : Int) ≤ v372 ∧ v372 ≤ (v151 - 1) ∧ v372 = pt_nm t m (pt_nt t m (pt_nt t m (pt_nt t m (pt_nt t m (pt_nt t m (pt_nt t m (pt_nt t m p))))))) ∧ 0 ≤ v372 ∧ v372 ≤ 9999 ∧ (h374 90 7) = (h153 90 7) + 2 ∧ (h374 90 7) ≤ N ∧ (h374 93 ((h374 90 7))) = pt_nt t m (pt_nt t m (pt_nt t m (pt_nt t m (pt_nt t m (pt_nt t m (pt_nt t m (pt_nt t m p))))))) := f395
                            clear f395
                            have bw459_ : h 93 ((h153 90 7)) = (pt_nt t m (pt_nt t m (pt_nt t m (pt_nt t m (pt_nt t m (pt_nt t m p)))))) := Eq.trans (congrFun (show h 93 = h153 93 from (E159).symm) _) (by show h153 93 ((h153 90 7)) = (pt_nt t m (pt_nt t m (pt_nt t m (pt_nt t m (pt_nt t m (pt_nt t m p)))))); omega)
                            have bw459 := pt_MT_nx mt (k := (h153 90 7)) ⟨by omega, by omega⟩
                            rw [bw459_] at bw459
                            refine ov_iast d_219_275 (zb_96 I375) (zs_96 I375) (by omega) ?_
                            have I460 := ua_96 (k := ((350 + (4 * ((6 * v84) + v4))) + 2)) (x := v372) I375 (by refine ⟨?_, ?_, ?_, ?_, ?_, ?_, ?_, ?_, ?_, ?_, ?_, ?_, ?_, ?_, ?_, ?_, ?_, ?_, ?_, ?_, ?_, ?_, ?_, ?_, ?_, ?_, ?_, ?_, ?_⟩ <;> omega)
                            refine ov_blk (ls2 := [(0, ov_r 90), (1, ov_i v4), (2, ov_i v84), (3, ov_i (350 + (4 * ((6 * v84) + v4)))), (4, ov_i v144), (5, ov_i v151), (6, ov_i (A 9))]) (st2 := [ov_r 90]) (pc2 := 277) b_219_276_1 rfl rfl ?_
                            refine ov_getf (v := ov_r 96) d_219_277 fl_Mo_81 (zb_90 I460) (zs_90 I460) (congrArg ov_r (rg_90_10 I460)) ?_
                            refine ov_blk (ls2 := [(0, ov_r 90), (1, ov_i v4), (2, ov_i v84), (3, ov_i (350 + (4 * ((6 * v84) + v4)))), (4, ov_i v144), (5, ov_i v151), (6, ov_i (A 9))]) (st2 := [ov_i v151, ov_i 0, ov_i 12, ov_r 90, ov_i ((350 + (4 * ((6 * v84) + v4))) + 3), ov_r 96]) (pc2 := 289) b_219_280_7 rfl rfl ?_
                            have cf461 : h374 93 ((h374 90 7)) = h 93 ((h374 90 7)) := congrFun E380 ((h374 90 7))
                            refine ov_cV (as := [ov_i 12, ov_i 0, ov_i v151]) (st := [ov_i ((350 + (4 * ((6 * v84) + v4))) + 3), ov_r 96]) (d2 := d - 1) d_219_289 lk_Mo_232 rfl (Nat.le_of_ble_eq_true rfl) (c := 1) (zb_90 I460) (zs_90 I460) ⟨by decide, rfl⟩ (by omega) (c_fMo_takeAfter_90 t m N (pt_nt t m (pt_nt t m (pt_nt t m (pt_nt t m (pt_nt t m (pt_nt t m (pt_nt t m (pt_nt t m p)))))))) 6713202 (d - 1) (by omega) U I460 12 0 v151 (by omega) (by omega) (by omega) (by show 0 ≤ (h374 90 7) ∧ (h374 90 7) ≤ N; omega) (by show (h374 93 ((h374 90 7))) = (pt_nt t m (pt_nt t m (pt_nt t m (pt_nt t m (pt_nt t m (pt_nt t m (pt_nt t m (pt_nt t m p)))))))); omega) (by show 0 ≤ (h374 90 8); omega) (by show 0 ≤ (12 : Int) ∧ (12 : Int) ≤ 21; omega) (by rw [show (ov_up h374 96 ((350 + (4 * ((6 * v84) + v4))) + 2) v372) 92 = h 92 from E379, show (ov_up h374 96 ((350 + (4 * ((6 * v84) + v4))) + 2) v372) 93 = h 93 from E380, show (ov_up h374 96 ((350 + (4 * ((6 * v84) + v4))) + 2) v372) 94 = h 94 from E381]; exact mt) (by rw [show (ov_up h374 96 ((350 + (4 * ((6 * v84) + v4))) + 2) v372) 95 = h 95 from E382]; exact wd) (by decide +kernel)) ?_
                            rintro _ z463 h464 ⟨v462, rfl, I465, y466, y467, y468⟩
                            have E469 : h464 92 = h 92 := Eq.trans (y466 92 (by decide)) (show (ov_up h374 96 ((350 + (4 * ((6 * v84) + v4))) + 2) v372) 92 = h 92 from E379)
                            have E470 : h464 93 = h 93 := Eq.trans (y466 93 (by decide)) (show (ov_up h374 96 ((350 + (4 * ((6 * v84) + v4))) + 2) v372) 93 = h 93 from E380)
                            have E471 : h464 94 = h 94 := Eq.trans (y466 94 (by decide)) (show (ov_up h374 96 ((350 + (4 * ((6 * v84) + v4))) + 2) v372) 94 = h 94 from E381)
                            have E472 : h464 95 = h 95 := Eq.trans (y466 95 (by decide)) (show (ov_up h374 96 ((350 + (4 * ((6 * v84) + v4))) + 2) v372) 95 = h 95 from E382)
                            have R474 : h464 96 = (ov_rs (ov_rs (ov_rs (ov_rs (h 96) 349 (A 9)) (350 + (4 * ((6 * v84) + v4))) (1 + v144)) ((350 + (4 * ((6 * v84) + v4))) + 1) v151) ((350 + (4 * ((6 * v84) + v4))) + 2) v372) := Eq.trans (y466 96 (by decide)) (Eq.trans (ov_up_row h374 96 ((350 + (4 * ((6 * v84) + v4))) + 2) v372) (congrArg (fun f => ov_rs f ((350 + (4 * ((6 * v84) + v4))) + 2) v372) R384))
                            have E475 : h464 99 = h 99 := Eq.trans (y466 99 (by decide)) (show (ov_up h374 96 ((350 + (4 * ((6 * v84) + v4))) + 2) v372) 99 = h 99 from E385)
                            have fr476 : ∀ a : Int, a ≠ 90 ∧ a ≠ 96 → h464 a = h a := fun a ca => Eq.trans (y466 a (by omega)) (Eq.trans (by show (ov_up h374 96 ((350 + (4 * ((6 * v84) + v4))) + 2) v372) a = h374 a; rw [ov_up_ne (by omega)]) (fr386 a ca))
                            have y467_ : ∀ k : Int, k ≠ 7 → k ≠ 8 → (h464 90) k = (h374 90) k := y467
                            have rk477 : ∀ k : Int, k ≠ 7 → k ≠ 8 → h464 90 k = h 90 k := fun k n0 n1 => Eq.trans (y467_ k n0 n1) (Eq.trans (by show (ov_up h374 96 ((350 + (4 * ((6 * v84) + v4))) + 2) v372) 90 k = h374 90 k; rw [ov_up_ne (by decide)]) (rk387 k n0 n1))
                            have g478 : h464 90 2 = (h374 90 2) := y467_ 2 (by decide) (by decide)
                            have g479 : h464 90 3 = (h374 90 3) := y467_ 3 (by decide) (by decide)
                            have g480 : h464 90 13 = (h374 90 13) := y467_ 13 (by decide) (by decide)
                            have g481 : h464 90 15 = (h374 90 15) := y467_ 15 (by decide) (by decide)
                            rcases y468 with f482 | f483 | f484 | f485
                            · have q9 : v462 = 0 ∧ (h374 90 8) ≠ 0 ∧ (h464 90 8) = (h374 90 8) ∧ (h464 90 7) = (h374 90 7) ∧ (h464 93 ((h464 90 7))) = (pt_nt t m (pt_nt t m (pt_nt t m (pt_nt t m (pt_nt t m (pt_nt t m (pt_nt t m (pt_nt t m p)))))))) := f482
                              omega
                            · skip
                              show ov_R u d ov_m219 292 [(0, ov_r 90), (1, ov_i v4), (2, ov_i v84), (3, ov_i (350 + (4 * ((6 * v84) + v4)))), (4, ov_i v144), (5, ov_i v151), (6, ov_i (A 9))] [ov_i v462, ov_i ((350 + (4 * ((6 * v84) + v4))) + 3), ov_r 96] z463 h464 (P_fMo_readLight_90 F z h t m N p A)
                              have f486 : v462 = 0 ∧ (h374 90 8) = 0 ∧ pt_iw t m (pt_nt t m (pt_nt t m (pt_nt t m (pt_nt t m (pt_nt t m (pt_nt t m (pt_nt t m (pt_nt t m p)))))))) (6713202 : Int) = 0 ∧ (h464 90 8) = 1 + 16 * (pt_nt t m (pt_nt t m (pt_nt t m (pt_nt t m (pt_nt t m (pt_nt t m (pt_nt t m (pt_nt t m p)))))))) ∧ 1 ≤ (h464 90 8) ∧ (h464 90 7) = (h374 90 7) ∧ (h464 93 ((h464 90 7))) = (pt_nt t m (pt_nt t m (pt_nt t m (pt_nt t m (pt_nt t m (pt_nt t m (pt_nt t m (pt_nt t m p)))))))) := f483
                              clear f483
                              refine ov_iast d_219_292 (zb_96 I465) (zs_96 I465) (by omega) ?_
                              have I487 := ua_96 (k := ((350 + (4 * ((6 * v84) + v4))) + 3)) (x := v462) I465 (by refine ⟨?_, ?_, ?_, ?_, ?_, ?_, ?_, ?_, ?_, ?_, ?_, ?_, ?_, ?_, ?_, ?_, ?_, ?_, ?_, ?_, ?_, ?_, ?_, ?_, ?_, ?_, ?_, ?_, ?_⟩ <;> omega)
                              refine ov_blk (ls2 := [(0, ov_r 90), (1, ov_i v4), (2, ov_i v84), (3, ov_i (350 + (4 * ((6 * v84) + v4)))), (4, ov_i v144), (5, ov_i v151), (6, ov_i (A 9))]) (st2 := [ov_r 90]) (pc2 := 294) b_219_293_1 rfl rfl ?_
                              refine ov_getf (v := ov_r 96) d_219_294 fl_Mo_81 (zb_90 I487) (zs_90 I487) (congrArg ov_r (rg_90_10 I487)) ?_
                              refine ov_blk (ls2 := [(0, ov_r 90), (1, ov_i v4), (2, ov_i v84), (3, ov_i (350 + (4 * ((6 * v84) + v4)))), (4, ov_i v144), (5, ov_i v151), (6, ov_i (A 9))]) (st2 := [ov_i 347, ov_r 96, ov_i 347, ov_r 96]) (pc2 := 301) b_219_297_2 rfl rfl ?_
                              refine ov_iald d_219_301 (zb_96 I487) (zs_96 I487) (by omega) ?_
                              show ov_R u d ov_m219 302 [(0, ov_r 90), (1, ov_i v4), (2, ov_i v84), (3, ov_i (350 + (4 * ((6 * v84) + v4)))), (4, ov_i v144), (5, ov_i v151), (6, ov_i (A 9))] [ov_i ((ov_up h464 96 ((350 + (4 * ((6 * v84) + v4))) + 3) v462) 96 347), ov_i 347, ov_r 96] z463 (ov_up h464 96 ((350 + (4 * ((6 * v84) + v4))) + 3) v462) (P_fMo_readLight_90 F z h t m N p A)
                              have k7 : (ov_up h464 96 ((350 + (4 * ((6 * v84) + v4))) + 3) v462) 96 347 = A 7 := by rw [show (ov_up h464 96 ((350 + (4 * ((6 * v84) + v4))) + 3) v462) 96 = (ov_rs (ov_rs (ov_rs (ov_rs (ov_rs (h 96) 349 (A 9)) (350 + (4 * ((6 * v84) + v4))) (1 + v144)) ((350 + (4 * ((6 * v84) + v4))) + 1) v151) ((350 + (4 * ((6 * v84) + v4))) + 2) v372) ((350 + (4 * ((6 * v84) + v4))) + 3) v462) from (Eq.trans (ov_up_row h464 96 ((350 + (4 * ((6 * v84) + v4))) + 3) v462) (congrArg (fun f => ov_rs f ((350 + (4 * ((6 * v84) + v4))) + 3) v462) R474)), ov_rs_ne (by omega), ov_rs_ne (by omega), ov_rs_ne (by omega), ov_rs_ne (by omega), ov_rs_ne (by omega)]; exact pt_MR_c mr (j := 7) (by omega)
                              refine ov_blk (ls2 := [(0, ov_r 90), (1, ov_i v4), (2, ov_i v84), (3, ov_i (350 + (4 * ((6 * v84) + v4)))), (4, ov_i v144), (5, ov_i v151), (6, ov_i (A 9))]) (st2 := [ov_i (((ov_up h464 96 ((350 + (4 * ((6 * v84) + v4))) + 3) v462) 96 347) + 1), ov_i 347, ov_r 96]) (pc2 := 304) b_219_302_2 rfl rfl ?_
                              refine ov_nrm ?_
                              have g488 := ov_wg (((ov_up h464 96 ((350 + (4 * ((6 * v84) + v4))) + 3) v462) 96 347) + 1)
                              refine ov_iast d_219_304 (zb_96 I487) (zs_96 I487) (by omega) ?_
                              have I489 := ua_96 (k := 347) (x := (ov_w (((ov_up h464 96 ((350 + (4 * ((6 * v84) + v4))) + 3) v462) 96 347) + 1))) I487 (by refine ⟨?_, ?_, ?_, ?_, ?_, ?_, ?_, ?_, ?_, ?_, ?_, ?_, ?_, ?_, ?_, ?_, ?_, ?_, ?_, ?_, ?_, ?_, ?_, ?_, ?_, ?_, ?_, ?_, ?_⟩ <;> omega)
                              have eg1 : pt_fN t m 0 ((pt_nm t m (pt_nt t m (pt_nt t m (pt_nt t m (pt_nt t m (pt_nt t m p)))))) - 1) (pt_nt t m (pt_nt t m (pt_nt t m (pt_nt t m (pt_nt t m (pt_nt t m (pt_nt t m p))))))) = pt_fN t m 0 (v151 - 1) (pt_nt t m (pt_nt t m (pt_nt t m (pt_nt t m (pt_nt t m (pt_nt t m (pt_nt t m p))))))) := by rw [e5]
                              have eg2 : pt_fN t m 0 (pt_nm t m (pt_nt t m (pt_nt t m (pt_nt t m (pt_nt t m (pt_nt t m p)))))) (pt_nt t m (pt_nt t m (pt_nt t m (pt_nt t m (pt_nt t m (pt_nt t m (pt_nt t m (pt_nt t m (pt_nt t m p))))))))) = pt_fN t m 0 v151 (pt_nt t m (pt_nt t m (pt_nt t m (pt_nt t m (pt_nt t m (pt_nt t m (pt_nt t m (pt_nt t m (pt_nt t m p))))))))) := by rw [e5]
                              have hg : pt_grF t m (pt_nm t m (pt_nt t m (pt_nt t m (pt_nt t m (pt_nt t m (pt_nt t m p)))))) (pt_nt t m (pt_nt t m (pt_nt t m (pt_nt t m (pt_nt t m (pt_nt t m p)))))) = (h464 90 8) := by unfold pt_grF pt_fW; (repeat' split) <;> omega
                              have hF : (pt_liF t m A p) = (h464 90 8) := by unfold pt_liF; (repeat' split) <;> omega
                              exact ov_retv (st := []) d_219_305 rfl ⟨rfl, I489, (fun a ca => Eq.trans (by show (ov_up (ov_up h464 96 ((350 + (4 * ((6 * v84) + v4))) + 3) v462) 96 347 (ov_w (((ov_up h464 96 ((350 + (4 * ((6 * v84) + v4))) + 3) v462) 96 347) + 1))) a = h464 a; rw [ov_up_ne (by omega), ov_up_ne (by omega)]) (fr476 a ca)), (fun k n0 n1 => (Eq.trans (by show (ov_up (ov_up h464 96 ((350 + (4 * ((6 * v84) + v4))) + 3) v462) 96 347 (ov_w (((ov_up h464 96 ((350 + (4 * ((6 * v84) + v4))) + 3) v462) 96 347) + 1))) 90 k = h464 90 k; rw [ov_up_ne (by decide), ov_up_ne (by decide)]) (rk477 k n0 n1))), (Or.inl (by show (h464 90 8) = (pt_liF t m A p) ∧ 1 ≤ (h464 90 8) ∧ (h 90 7) ≤ (h464 90 7) ∧ (h464 90 7) ≤ N; omega))⟩
                            · skip
                              show ov_R u d ov_m219 292 [(0, ov_r 90), (1, ov_i v4), (2, ov_i v84), (3, ov_i (350 + (4 * ((6 * v84) + v4)))), (4, ov_i v144), (5, ov_i v151), (6, ov_i (A 9))] [ov_i v462, ov_i ((350 + (4 * ((6 * v84) + v4))) + 3), ov_r 96] z463 h464 (P_fMo_readLight_90 F z h t m N p A)
                              have f490 : v462 = 0 ∧ (h374 90 8) = 0 ∧ pt_iw t m (pt_nt t m (pt_nt t m (pt_nt t m (pt_nt t m (pt_nt t m (pt_nt t m (pt_nt t m (pt_nt t m p)))))))) (6713202 : Int) = 1 ∧ (h464 90 8) = pt_fN t m (0 : Int) v151 (pt_nt t m (pt_nt t m (pt_nt t m (pt_nt t m (pt_nt t m (pt_nt t m (pt_nt t m (pt_nt t m (pt_nt t m p))))))))) ∧ 1 ≤ (h464 90 8) ∧ (h464 90 7) = (h374 90 7) + 1 ∧ (h464 90 7) ≤ N ∧ (h464 93 ((h464 90 7))) = pt_nt t m (pt_nt t m (pt_nt t m (pt_nt t m (pt_nt t m (pt_nt t m (pt_nt t m (pt_nt t m (pt_nt t m p)))))))) := f484
                              clear f484
                              refine ov_iast d_219_292 (zb_96 I465) (zs_96 I465) (by omega) ?_
                              have I491 := ua_96 (k := ((350 + (4 * ((6 * v84) + v4))) + 3)) (x := v462) I465 (by refine ⟨?_, ?_, ?_, ?_, ?_, ?_, ?_, ?_, ?_, ?_, ?_, ?_, ?_, ?_, ?_, ?_, ?_, ?_, ?_, ?_, ?_, ?_, ?_, ?_, ?_, ?_, ?_, ?_, ?_⟩ <;> omega)
                              refine ov_blk (ls2 := [(0, ov_r 90), (1, ov_i v4), (2, ov_i v84), (3, ov_i (350 + (4 * ((6 * v84) + v4)))), (4, ov_i v144), (5, ov_i v151), (6, ov_i (A 9))]) (st2 := [ov_r 90]) (pc2 := 294) b_219_293_1 rfl rfl ?_
                              refine ov_getf (v := ov_r 96) d_219_294 fl_Mo_81 (zb_90 I491) (zs_90 I491) (congrArg ov_r (rg_90_10 I491)) ?_
                              refine ov_blk (ls2 := [(0, ov_r 90), (1, ov_i v4), (2, ov_i v84), (3, ov_i (350 + (4 * ((6 * v84) + v4)))), (4, ov_i v144), (5, ov_i v151), (6, ov_i (A 9))]) (st2 := [ov_i 347, ov_r 96, ov_i 347, ov_r 96]) (pc2 := 301) b_219_297_2 rfl rfl ?_
                              refine ov_iald d_219_301 (zb_96 I491) (zs_96 I491) (by omega) ?_
                              show ov_R u d ov_m219 302 [(0, ov_r 90), (1, ov_i v4), (2, ov_i v84), (3, ov_i (350 + (4 * ((6 * v84) + v4)))), (4, ov_i v144), (5, ov_i v151), (6, ov_i (A 9))] [ov_i ((ov_up h464 96 ((350 + (4 * ((6 * v84) + v4))) + 3) v462) 96 347), ov_i 347, ov_r 96] z463 (ov_up h464 96 ((350 + (4 * ((6 * v84) + v4))) + 3) v462) (P_fMo_readLight_90 F z h t m N p A)
                              have k7 : (ov_up h464 96 ((350 + (4 * ((6 * v84) + v4))) + 3) v462) 96 347 = A 7 := by rw [show (ov_up h464 96 ((350 + (4 * ((6 * v84) + v4))) + 3) v462) 96 = (ov_rs (ov_rs (ov_rs (ov_rs (ov_rs (h 96) 349 (A 9)) (350 + (4 * ((6 * v84) + v4))) (1 + v144)) ((350 + (4 * ((6 * v84) + v4))) + 1) v151) ((350 + (4 * ((6 * v84) + v4))) + 2) v372) ((350 + (4 * ((6 * v84) + v4))) + 3) v462) from (Eq.trans (ov_up_row h464 96 ((350 + (4 * ((6 * v84) + v4))) + 3) v462) (congrArg (fun f => ov_rs f ((350 + (4 * ((6 * v84) + v4))) + 3) v462) R474)), ov_rs_ne (by omega), ov_rs_ne (by omega), ov_rs_ne (by omega), ov_rs_ne (by omega), ov_rs_ne (by omega)]; exact pt_MR_c mr (j := 7) (by omega)
                              refine ov_blk (ls2 := [(0, ov_r 90), (1, ov_i v4), (2, ov_i v84), (3, ov_i (350 + (4 * ((6 * v84) + v4)))), (4, ov_i v144), (5, ov_i v151), (6, ov_i (A 9))]) (st2 := [ov_i (((ov_up h464 96 ((350 + (4 * ((6 * v84) + v4))) + 3) v462) 96 347) + 1), ov_i 347, ov_r 96]) (pc2 := 304) b_219_302_2 rfl rfl ?_
                              refine ov_nrm ?_
                              have g492 := ov_wg (((ov_up h464 96 ((350 + (4 * ((6 * v84) + v4))) + 3) v462) 96 347) + 1)
                              refine ov_iast d_219_304 (zb_96 I491) (zs_96 I491) (by omega) ?_
                              have I493 := ua_96 (k := 347) (x := (ov_w (((ov_up h464 96 ((350 + (4 * ((6 * v84) + v4))) + 3) v462) 96 347) + 1))) I491 (by refine ⟨?_, ?_, ?_, ?_, ?_, ?_, ?_, ?_, ?_, ?_, ?_, ?_, ?_, ?_, ?_, ?_, ?_, ?_, ?_, ?_, ?_, ?_, ?_, ?_, ?_, ?_, ?_, ?_, ?_⟩ <;> omega)
                              have eg1 : pt_fN t m 0 ((pt_nm t m (pt_nt t m (pt_nt t m (pt_nt t m (pt_nt t m (pt_nt t m p)))))) - 1) (pt_nt t m (pt_nt t m (pt_nt t m (pt_nt t m (pt_nt t m (pt_nt t m (pt_nt t m p))))))) = pt_fN t m 0 (v151 - 1) (pt_nt t m (pt_nt t m (pt_nt t m (pt_nt t m (pt_nt t m (pt_nt t m (pt_nt t m p))))))) := by rw [e5]
                              have eg2 : pt_fN t m 0 (pt_nm t m (pt_nt t m (pt_nt t m (pt_nt t m (pt_nt t m (pt_nt t m p)))))) (pt_nt t m (pt_nt t m (pt_nt t m (pt_nt t m (pt_nt t m (pt_nt t m (pt_nt t m (pt_nt t m (pt_nt t m p))))))))) = pt_fN t m 0 v151 (pt_nt t m (pt_nt t m (pt_nt t m (pt_nt t m (pt_nt t m (pt_nt t m (pt_nt t m (pt_nt t m (pt_nt t m p))))))))) := by rw [e5]
                              have hg : pt_grF t m (pt_nm t m (pt_nt t m (pt_nt t m (pt_nt t m (pt_nt t m (pt_nt t m p)))))) (pt_nt t m (pt_nt t m (pt_nt t m (pt_nt t m (pt_nt t m (pt_nt t m p)))))) = (h464 90 8) := by unfold pt_grF pt_fW; (repeat' split) <;> omega
                              have hF : (pt_liF t m A p) = (h464 90 8) := by unfold pt_liF; (repeat' split) <;> omega
                              exact ov_retv (st := []) d_219_305 rfl ⟨rfl, I493, (fun a ca => Eq.trans (by show (ov_up (ov_up h464 96 ((350 + (4 * ((6 * v84) + v4))) + 3) v462) 96 347 (ov_w (((ov_up h464 96 ((350 + (4 * ((6 * v84) + v4))) + 3) v462) 96 347) + 1))) a = h464 a; rw [ov_up_ne (by omega), ov_up_ne (by omega)]) (fr476 a ca)), (fun k n0 n1 => (Eq.trans (by show (ov_up (ov_up h464 96 ((350 + (4 * ((6 * v84) + v4))) + 3) v462) 96 347 (ov_w (((ov_up h464 96 ((350 + (4 * ((6 * v84) + v4))) + 3) v462) 96 347) + 1))) 90 k = h464 90 k; rw [ov_up_ne (by decide), ov_up_ne (by decide)]) (rk477 k n0 n1))), (Or.inl (by show (h464 90 8) = (pt_liF t m A p) ∧ 1 ≤ (h464 90 8) ∧ (h 90 7) ≤ (h464 90 7) ∧ (h464 90 7) ≤ N; omega))⟩
                            · skip
                              show ov_R u d ov_m219 292 [(0, ov_r 90), (1, ov_i v4), (2, ov_i v84), (3, ov_i (350 + (4 * ((6 * v84) + v4)))), (4, ov_i v144), (5, ov_i v151), (6, ov_i (A 9))] [ov_i v462, ov_i ((350 + (4 * ((6 * v84) + v4))) + 3), ov_r 96] z463 h464 (P_fMo_readLight_90 F z h t m N p A)
                              have f494 : (h374 90 8) = 0 ∧ pt_iw t m (pt_nt t m (pt_nt t m (pt_nt t m (pt_nt t m (pt_nt t m (pt_nt t m (pt_nt t m (pt_nt t m p)))))))) (6713202 : Int) = 1 ∧ (h464 90 8) = 0 ∧ pt_fN t m (0 : Int) v151 (pt_nt t m (pt_nt t m (pt_nt t m (pt_nt t m (pt_nt t m (pt_nt t m (pt_nt t m (pt_nt t m (pt_nt t m p))))))))) = 0 ∧ (0 : Int) ≤ v462 ∧ v462 ≤ v151 ∧ v462 = pt_nm t m (pt_nt t m (pt_nt t m (pt_nt t m (pt_nt t m (pt_nt t m (pt_nt t m (pt_nt t m (pt_nt t m (pt_nt t m p))))))))) ∧ 0 ≤ v462 ∧ v462 ≤ 9999 ∧ (h464 90 7) = (h374 90 7) + 2 ∧ (h464 90 7) ≤ N ∧ (h464 93 ((h464 90 7))) = pt_nt t m (pt_nt t m (pt_nt t m (pt_nt t m (pt_nt t m (pt_nt t m (pt_nt t m (pt_nt t m (pt_nt t m (pt_nt t m p))))))))) := f485
                              clear f485
                              have bw495_ : h 93 ((h374 90 7)) = (pt_nt t m (pt_nt t m (pt_nt t m (pt_nt t m (pt_nt t m (pt_nt t m (pt_nt t m (pt_nt t m p)))))))) := Eq.trans (congrFun (show h 93 = h374 93 from (E380).symm) _) (by show h374 93 ((h374 90 7)) = (pt_nt t m (pt_nt t m (pt_nt t m (pt_nt t m (pt_nt t m (pt_nt t m (pt_nt t m (pt_nt t m p)))))))); omega)
                              have bw495 := pt_MT_nx mt (k := (h374 90 7)) ⟨by omega, by omega⟩
                              rw [bw495_] at bw495
                              refine ov_iast d_219_292 (zb_96 I465) (zs_96 I465) (by omega) ?_
                              have I496 := ua_96 (k := ((350 + (4 * ((6 * v84) + v4))) + 3)) (x := v462) I465 (by refine ⟨?_, ?_, ?_, ?_, ?_, ?_, ?_, ?_, ?_, ?_, ?_, ?_, ?_, ?_, ?_, ?_, ?_, ?_, ?_, ?_, ?_, ?_, ?_, ?_, ?_, ?_, ?_, ?_, ?_⟩ <;> omega)
                              refine ov_blk (ls2 := [(0, ov_r 90), (1, ov_i v4), (2, ov_i v84), (3, ov_i (350 + (4 * ((6 * v84) + v4)))), (4, ov_i v144), (5, ov_i v151), (6, ov_i (A 9))]) (st2 := [ov_r 90]) (pc2 := 294) b_219_293_1 rfl rfl ?_
                              refine ov_getf (v := ov_r 96) d_219_294 fl_Mo_81 (zb_90 I496) (zs_90 I496) (congrArg ov_r (rg_90_10 I496)) ?_
                              refine ov_blk (ls2 := [(0, ov_r 90), (1, ov_i v4), (2, ov_i v84), (3, ov_i (350 + (4 * ((6 * v84) + v4)))), (4, ov_i v144), (5, ov_i v151), (6, ov_i (A 9))]) (st2 := [ov_i 347, ov_r 96, ov_i 347, ov_r 96]) (pc2 := 301) b_219_297_2 rfl rfl ?_
                              refine ov_iald d_219_301 (zb_96 I496) (zs_96 I496) (by omega) ?_
                              show ov_R u d ov_m219 302 [(0, ov_r 90), (1, ov_i v4), (2, ov_i v84), (3, ov_i (350 + (4 * ((6 * v84) + v4)))), (4, ov_i v144), (5, ov_i v151), (6, ov_i (A 9))] [ov_i ((ov_up h464 96 ((350 + (4 * ((6 * v84) + v4))) + 3) v462) 96 347), ov_i 347, ov_r 96] z463 (ov_up h464 96 ((350 + (4 * ((6 * v84) + v4))) + 3) v462) (P_fMo_readLight_90 F z h t m N p A)
                              have k7 : (ov_up h464 96 ((350 + (4 * ((6 * v84) + v4))) + 3) v462) 96 347 = A 7 := by rw [show (ov_up h464 96 ((350 + (4 * ((6 * v84) + v4))) + 3) v462) 96 = (ov_rs (ov_rs (ov_rs (ov_rs (ov_rs (h 96) 349 (A 9)) (350 + (4 * ((6 * v84) + v4))) (1 + v144)) ((350 + (4 * ((6 * v84) + v4))) + 1) v151) ((350 + (4 * ((6 * v84) + v4))) + 2) v372) ((350 + (4 * ((6 * v84) + v4))) + 3) v462) from (Eq.trans (ov_up_row h464 96 ((350 + (4 * ((6 * v84) + v4))) + 3) v462) (congrArg (fun f => ov_rs f ((350 + (4 * ((6 * v84) + v4))) + 3) v462) R474)), ov_rs_ne (by omega), ov_rs_ne (by omega), ov_rs_ne (by omega), ov_rs_ne (by omega), ov_rs_ne (by omega)]; exact pt_MR_c mr (j := 7) (by omega)
                              refine ov_blk (ls2 := [(0, ov_r 90), (1, ov_i v4), (2, ov_i v84), (3, ov_i (350 + (4 * ((6 * v84) + v4)))), (4, ov_i v144), (5, ov_i v151), (6, ov_i (A 9))]) (st2 := [ov_i (((ov_up h464 96 ((350 + (4 * ((6 * v84) + v4))) + 3) v462) 96 347) + 1), ov_i 347, ov_r 96]) (pc2 := 304) b_219_302_2 rfl rfl ?_
                              refine ov_nrm ?_
                              have g497 := ov_wg (((ov_up h464 96 ((350 + (4 * ((6 * v84) + v4))) + 3) v462) 96 347) + 1)
                              refine ov_iast d_219_304 (zb_96 I496) (zs_96 I496) (by omega) ?_
                              have I498 := ua_96 (k := 347) (x := (ov_w (((ov_up h464 96 ((350 + (4 * ((6 * v84) + v4))) + 3) v462) 96 347) + 1))) I496 (by refine ⟨?_, ?_, ?_, ?_, ?_, ?_, ?_, ?_, ?_, ?_, ?_, ?_, ?_, ?_, ?_, ?_, ?_, ?_, ?_, ?_, ?_, ?_, ?_, ?_, ?_, ?_, ?_, ?_, ?_⟩ <;> omega)
                              have eg1 : pt_fN t m 0 ((pt_nm t m (pt_nt t m (pt_nt t m (pt_nt t m (pt_nt t m (pt_nt t m p)))))) - 1) (pt_nt t m (pt_nt t m (pt_nt t m (pt_nt t m (pt_nt t m (pt_nt t m (pt_nt t m p))))))) = pt_fN t m 0 (v151 - 1) (pt_nt t m (pt_nt t m (pt_nt t m (pt_nt t m (pt_nt t m (pt_nt t m (pt_nt t m p))))))) := by rw [e5]
                              have eg2 : pt_fN t m 0 (pt_nm t m (pt_nt t m (pt_nt t m (pt_nt t m (pt_nt t m (pt_nt t m p)))))) (pt_nt t m (pt_nt t m (pt_nt t m (pt_nt t m (pt_nt t m (pt_nt t m (pt_nt t m (pt_nt t m (pt_nt t m p))))))))) = pt_fN t m 0 v151 (pt_nt t m (pt_nt t m (pt_nt t m (pt_nt t m (pt_nt t m (pt_nt t m (pt_nt t m (pt_nt t m (pt_nt t m p))))))))) := by rw [e5]
                              have hg : pt_grF t m (pt_nm t m (pt_nt t m (pt_nt t m (pt_nt t m (pt_nt t m (pt_nt t m p)))))) (pt_nt t m (pt_nt t m (pt_nt t m (pt_nt t m (pt_nt t m (pt_nt t m p)))))) = 0 := by unfold pt_grF pt_fW; (repeat' split) <;> omega
                              have hF : (pt_liF t m A p) = 0 := by unfold pt_liF; (repeat' split) <;> omega
                              have ei : (350 + (4 * ((6 * v84) + v4))) = 350 + 4 * ((pt_nm t m (pt_nt t m p)) + 6 * (pt_nm t m (pt_nt t m (pt_nt t m p)))) := by omega
                              have hcr : 1 ≤ (pt_rdC (pt_kt t m (pt_nt t m (pt_nt t m (pt_nt t m p)))) (A 9) (pt_nm t m (pt_nt t m (pt_nt t m (pt_nt t m (pt_nt t m (pt_nt t m p))))))) ∧ (pt_rdC (pt_kt t m (pt_nt t m (pt_nt t m (pt_nt t m p)))) (A 9) (pt_nm t m (pt_nt t m (pt_nt t m (pt_nt t m (pt_nt t m (pt_nt t m p))))))) ≤ 1200 := by omega
                              have m1 : (ov_up (ov_up h464 96 ((350 + (4 * ((6 * v84) + v4))) + 3) v462) 96 347 (ov_w (((ov_up h464 96 ((350 + (4 * ((6 * v84) + v4))) + 3) v462) 96 347) + 1))) 96 = ov_rs (ov_rs (ov_rs (ov_rs (ov_rs (ov_rs (h 96) 349 (pt_rdC (pt_kt t m (pt_nt t m (pt_nt t m (pt_nt t m p)))) (A 9) (pt_nm t m (pt_nt t m (pt_nt t m (pt_nt t m (pt_nt t m (pt_nt t m p)))))))) (350 + 4 * ((pt_nm t m (pt_nt t m p)) + 6 * (pt_nm t m (pt_nt t m (pt_nt t m p))))) (1 + (pt_kt t m (pt_nt t m (pt_nt t m (pt_nt t m p)))))) (351 + 4 * ((pt_nm t m (pt_nt t m p)) + 6 * (pt_nm t m (pt_nt t m (pt_nt t m p))))) (pt_nm t m (pt_nt t m (pt_nt t m (pt_nt t m (pt_nt t m (pt_nt t m p))))))) (352 + 4 * ((pt_nm t m (pt_nt t m p)) + 6 * (pt_nm t m (pt_nt t m (pt_nt t m p))))) (pt_nm t m (pt_nt t m (pt_nt t m (pt_nt t m (pt_nt t m (pt_nt t m (pt_nt t m (pt_nt t m p))))))))) (353 + 4 * ((pt_nm t m (pt_nt t m p)) + 6 * (pt_nm t m (pt_nt t m (pt_nt t m p))))) (pt_nm t m (pt_nt t m (pt_nt t m (pt_nt t m (pt_nt t m (pt_nt t m (pt_nt t m (pt_nt t m (pt_nt t m (pt_nt t m p))))))))))) 347 (ov_w (A 7 + 1)) := by rw [show (ov_up (ov_up h464 96 ((350 + (4 * ((6 * v84) + v4))) + 3) v462) 96 347 (ov_w (((ov_up h464 96 ((350 + (4 * ((6 * v84) + v4))) + 3) v462) 96 347) + 1))) 96 = (ov_rs (ov_rs (ov_rs (ov_rs (ov_rs (ov_rs (h 96) 349 (A 9)) (350 + (4 * ((6 * v84) + v4))) (1 + v144)) ((350 + (4 * ((6 * v84) + v4))) + 1) v151) ((350 + (4 * ((6 * v84) + v4))) + 2) v372) ((350 + (4 * ((6 * v84) + v4))) + 3) v462) 347 (ov_w (((ov_up h464 96 ((350 + (4 * ((6 * v84) + v4))) + 3) v462) 96 347) + 1))) from (Eq.trans (ov_up_row (ov_up h464 96 ((350 + (4 * ((6 * v84) + v4))) + 3) v462) 96 347 (ov_w (((ov_up h464 96 ((350 + (4 * ((6 * v84) + v4))) + 3) v462) 96 347) + 1))) (congrArg (fun f => ov_rs f 347 (ov_w (((ov_up h464 96 ((350 + (4 * ((6 * v84) + v4))) + 3) v462) 96 347) + 1))) (Eq.trans (ov_up_row h464 96 ((350 + (4 * ((6 * v84) + v4))) + 3) v462) (congrArg (fun f => ov_rs f ((350 + (4 * ((6 * v84) + v4))) + 3) v462) R474)))), ← hc, k7, show ((350 + (4 * ((6 * v84) + v4))) + 1 : Int) = 351 + 4 * ((pt_nm t m (pt_nt t m p)) + 6 * (pt_nm t m (pt_nt t m (pt_nt t m p)))) by omega, show ((350 + (4 * ((6 * v84) + v4))) + 2 : Int) = 352 + 4 * ((pt_nm t m (pt_nt t m p)) + 6 * (pt_nm t m (pt_nt t m (pt_nt t m p)))) by omega, show ((350 + (4 * ((6 * v84) + v4))) + 3 : Int) = 353 + 4 * ((pt_nm t m (pt_nt t m p)) + 6 * (pt_nm t m (pt_nt t m (pt_nt t m p)))) by omega, ei, show (1 + v144 : Int) = 1 + (pt_kt t m (pt_nt t m (pt_nt t m (pt_nt t m p)))) by omega, show v151 = (pt_nm t m (pt_nt t m (pt_nt t m (pt_nt t m (pt_nt t m (pt_nt t m p)))))) by omega, show v372 = (pt_nm t m (pt_nt t m (pt_nt t m (pt_nt t m (pt_nt t m (pt_nt t m (pt_nt t m (pt_nt t m p)))))))) by omega, show v462 = (pt_nm t m (pt_nt t m (pt_nt t m (pt_nt t m (pt_nt t m (pt_nt t m (pt_nt t m (pt_nt t m (pt_nt t m (pt_nt t m p)))))))))) by omega]
                              have m2 : (h464 90 15) = (h 90 15) := by omega
                              have m3 : (ov_up (ov_up h464 96 ((350 + (4 * ((6 * v84) + v4))) + 3) v462) 96 347 (ov_w (((ov_up h464 96 ((350 + (4 * ((6 * v84) + v4))) + 3) v462) 96 347) + 1))) 99 = h 99 := E475
                              exact ov_retv (st := []) d_219_305 rfl ⟨rfl, I498, (fun a ca => Eq.trans (by show (ov_up (ov_up h464 96 ((350 + (4 * ((6 * v84) + v4))) + 3) v462) 96 347 (ov_w (((ov_up h464 96 ((350 + (4 * ((6 * v84) + v4))) + 3) v462) 96 347) + 1))) a = h464 a; rw [ov_up_ne (by omega), ov_up_ne (by omega)]) (fr476 a ca)), (fun k n0 n1 => (Eq.trans (by show (ov_up (ov_up h464 96 ((350 + (4 * ((6 * v84) + v4))) + 3) v462) 96 347 (ov_w (((ov_up h464 96 ((350 + (4 * ((6 * v84) + v4))) + 3) v462) 96 347) + 1))) 90 k = h464 90 k; rw [ov_up_ne (by decide), ov_up_ne (by decide)]) (rk477 k n0 n1))), (Or.inr ⟨(by show (pt_liF t m A p) = 0 ∧ (h464 90 8) = 0 ∧ (h 90 7) ≤ (h464 90 7) ∧ (h464 90 7) ≤ N ∧ 0 ≤ (h464 90 13) ∧ (h464 90 13) ≤ (h464 90 7) ∧ (h464 93 ((h464 90 7))) = (pt_nt t m (pt_nt t m (pt_nt t m (pt_nt t m (pt_nt t m (pt_nt t m (pt_nt t m (pt_nt t m (pt_nt t m (pt_nt t m p)))))))))); omega), (by show pt_MR t m (pt_liA t m A p) ((ov_up (ov_up h464 96 ((350 + (4 * ((6 * v84) + v4))) + 3) v462) 96 347 (ov_w (((ov_up h464 96 ((350 + (4 * ((6 * v84) + v4))) + 3) v462) 96 347) + 1))) 96) ((h464 90 15)) ((ov_up (ov_up h464 96 ((350 + (4 * ((6 * v84) + v4))) + 3) v462) 96 347 (ov_w (((ov_up h464 96 ((350 + (4 * ((6 * v84) + v4))) + 3) v462) 96 347) + 1))) 99); rw [m1, m2, m3]; exact pt_MR_light mr (C := ((pt_nm t m (pt_nt t m p)) + 6 * (pt_nm t m (pt_nt t m (pt_nt t m p))))) (by omega) hcr)⟩)⟩
                        · omega
                      · omega
            · skip
              refine ov_blk (ls2 := [(0, ov_r 90), (1, ov_i v4), (2, ov_i v84), (3, ov_i (350 + (4 * ((6 * v84) + v4)))), (4, ov_i v144)]) (st2 := [ov_i 1, ov_r 90]) (pc2 := 113) b_219_111_2 rfl rfl ?_
              refine ov_cV (as := [ov_i 1]) (st := []) (d2 := d - 1) d_219_113 lk_Mo_186 rfl (Nat.le_of_ble_eq_true rfl) (c := 1) (zb_90 I87) (zs_90 I87) ⟨by decide, rfl⟩ (by omega) (c_fMo_wrong_90 t m N (pt_nt t m (pt_nt t m (pt_nt t m p))) (d - 1) (by omega) U I87 1 (by omega) (by show 0 ≤ (h86 90 7) ∧ (h86 90 7) ≤ N; omega) (by show (h86 93 ((h86 90 7))) = (pt_nt t m (pt_nt t m (pt_nt t m p))); omega) (by show 0 ≤ (h86 90 8); omega) (by show 1 ≤ (1 : Int) ∧ (1 : Int) ≤ 5; omega) (by rw [show h86 92 = h 92 from E91, show h86 93 = h 93 from E92, show h86 94 = h 94 from E93]; exact mt)) ?_
              rintro _ z499 h500 ⟨rfl, I501, y502, y503, y504⟩
              have E505 : h500 92 = h 92 := Eq.trans (y502 92 (by decide)) (show h86 92 = h 92 from E91)
              have E506 : h500 93 = h 93 := Eq.trans (y502 93 (by decide)) (show h86 93 = h 93 from E92)
              have E507 : h500 94 = h 94 := Eq.trans (y502 94 (by decide)) (show h86 94 = h 94 from E93)
              have E508 : h500 95 = h 95 := Eq.trans (y502 95 (by decide)) (show h86 95 = h 95 from E94)
              have E509 : h500 96 = h 96 := Eq.trans (y502 96 (by decide)) (show h86 96 = h 96 from E95)
              have E510 : h500 99 = h 99 := Eq.trans (y502 99 (by decide)) (show h86 99 = h 99 from E96)
              have fr511 : ∀ a : Int, a ≠ 90 ∧ a ≠ 96 → h500 a = h a := fun a ca => Eq.trans (y502 a (by omega)) (fr97 a ca)
              have y503_ : ∀ k : Int, k ≠ 8 → (h500 90) k = (h86 90) k := y503
              have rk512 : ∀ k : Int, k ≠ 7 → k ≠ 8 → h500 90 k = h 90 k := fun k n0 n1 => Eq.trans (y503_ k n1) (rk98 k n0 n1)
              have g513 : h500 90 2 = (h86 90 2) := y503_ 2 (by decide)
              have g514 : h500 90 3 = (h86 90 3) := y503_ 3 (by decide)
              have g515 : h500 90 7 = (h86 90 7) := y503_ 7 (by decide)
              have g516 : h500 90 13 = (h86 90 13) := y503_ 13 (by decide)
              have g517 : h500 90 15 = (h86 90 15) := y503_ 15 (by decide)
              rcases y504 with f518 | f519
              · omega
              · skip
                show ov_R u d ov_m219 116 [(0, ov_r 90), (1, ov_i v4), (2, ov_i v84), (3, ov_i (350 + (4 * ((6 * v84) + v4)))), (4, ov_i v144)] [] z499 h500 (P_fMo_readLight_90 F z h t m N p A)
                have f520 : (h86 90 8) = 0 ∧ (h500 90 8) = (1 : Int) + 16 * (pt_nt t m (pt_nt t m (pt_nt t m p))) ∧ (h500 93 ((h500 90 7))) = (pt_nt t m (pt_nt t m (pt_nt t m p))) := f519
                clear f519
                have hF : (pt_liF t m A p) = (h500 90 8) := by unfold pt_liF; (repeat' split) <;> omega
                exact ov_retv (st := []) d_219_116 rfl ⟨rfl, I501, (fun a ca => (fr511 a ca)), (fun k n0 n1 => (rk512 k n0 n1)), (Or.inl (by show (h500 90 8) = (pt_liF t m A p) ∧ 1 ≤ (h500 90 8) ∧ (h 90 7) ≤ (h500 90 7) ∧ (h500 90 7) ≤ N; omega))⟩
          · omega
        · skip
          refine ov_blk (ls2 := [(0, ov_r 90), (1, ov_i v4), (2, ov_i v84), (3, ov_i (350 + (4 * ((6 * v84) + v4))))]) (st2 := [ov_r 90, ov_r 90]) (pc2 := 73) b_219_71_2 rfl rfl ?_
          refine ov_getf (v := ov_i (h86 90 7)) d_219_73 fl_Mo_177 (zb_90 I87) (zs_90 I87) rfl ?_
          have g521 := rg_90_7 I87
          refine ov_blk (ls2 := [(0, ov_r 90), (1, ov_i v4), (2, ov_i v84), (3, ov_i (350 + (4 * ((6 * v84) + v4))))]) (st2 := [ov_i ((h86 90 7) - 1), ov_r 90]) (pc2 := 78) b_219_76_2 rfl rfl ?_
          have bk : h86 93 (((h86 90 7) - 1)) = (pt_nt t m (pt_nt t m p)) := by rw [show ((h86 90 7) - 1) = (h6 90 7) by omega]; exact Eq.trans (congrFun (show h86 93 = h 93 from E92) _) bw136
          refine ov_putf (x := ((h86 90 7) - 1)) d_219_78 fl_Mo_177 (zb_90 I87) (zs_90 I87) rfl nk_0 rfl ?_
          have I522 := up_90_7 (x := ((h86 90 7) - 1)) I87 (by omega)
          show ov_R u d ov_m219 81 [(0, ov_r 90), (1, ov_i v4), (2, ov_i v84), (3, ov_i (350 + (4 * ((6 * v84) + v4))))] [] z85 (ov_up h86 90 7 ((h86 90 7) - 1)) (P_fMo_readLight_90 F z h t m N p A)
          refine ov_blk (ls2 := [(0, ov_r 90), (1, ov_i v4), (2, ov_i v84), (3, ov_i (350 + (4 * ((6 * v84) + v4))))]) (st2 := [ov_i 3, ov_r 90]) (pc2 := 83) b_219_81_2 rfl rfl ?_
          have cf523 : h86 93 (((h86 90 7) - 1)) = h 93 (((h86 90 7) - 1)) := congrFun E92 (((h86 90 7) - 1))
          refine ov_cV (as := [ov_i 3]) (st := []) (d2 := d - 1) d_219_83 lk_Mo_186 rfl (Nat.le_of_ble_eq_true rfl) (c := 1) (zb_90 I522) (zs_90 I522) ⟨by decide, rfl⟩ (by omega) (c_fMo_wrong_90 t m N (pt_nt t m (pt_nt t m p)) (d - 1) (by omega) U I522 3 (by omega) (by show 0 ≤ ((h86 90 7) - 1) ∧ ((h86 90 7) - 1) ≤ N; omega) (by show (h86 93 (((h86 90 7) - 1))) = (pt_nt t m (pt_nt t m p)); omega) (by show 0 ≤ (h86 90 8); omega) (by show 1 ≤ (3 : Int) ∧ (3 : Int) ≤ 5; omega) (by rw [show (ov_up h86 90 7 ((h86 90 7) - 1)) 92 = h 92 from E91, show (ov_up h86 90 7 ((h86 90 7) - 1)) 93 = h 93 from E92, show (ov_up h86 90 7 ((h86 90 7) - 1)) 94 = h 94 from E93]; exact mt)) ?_
          rintro _ z524 h525 ⟨rfl, I526, y527, y528, y529⟩
          have E530 : h525 92 = h 92 := Eq.trans (y527 92 (by decide)) (show (ov_up h86 90 7 ((h86 90 7) - 1)) 92 = h 92 from E91)
          have E531 : h525 93 = h 93 := Eq.trans (y527 93 (by decide)) (show (ov_up h86 90 7 ((h86 90 7) - 1)) 93 = h 93 from E92)
          have E532 : h525 94 = h 94 := Eq.trans (y527 94 (by decide)) (show (ov_up h86 90 7 ((h86 90 7) - 1)) 94 = h 94 from E93)
          have E533 : h525 95 = h 95 := Eq.trans (y527 95 (by decide)) (show (ov_up h86 90 7 ((h86 90 7) - 1)) 95 = h 95 from E94)
          have E534 : h525 96 = h 96 := Eq.trans (y527 96 (by decide)) (show (ov_up h86 90 7 ((h86 90 7) - 1)) 96 = h 96 from E95)
          have E535 : h525 99 = h 99 := Eq.trans (y527 99 (by decide)) (show (ov_up h86 90 7 ((h86 90 7) - 1)) 99 = h 99 from E96)
          have fr536 : ∀ a : Int, a ≠ 90 ∧ a ≠ 96 → h525 a = h a := fun a ca => Eq.trans (y527 a (by omega)) (Eq.trans (by show (ov_up h86 90 7 ((h86 90 7) - 1)) a = h86 a; rw [ov_up_ne (by omega)]) (fr97 a ca))
          have y528_ : ∀ k : Int, k ≠ 8 → (h525 90) k = ((ov_up h86 90 7 ((h86 90 7) - 1)) 90) k := y528
          have rk537 : ∀ k : Int, k ≠ 7 → k ≠ 8 → h525 90 k = h 90 k := fun k n0 n1 => Eq.trans (y528_ k n1) (Eq.trans (by show (ov_up h86 90 7 ((h86 90 7) - 1)) 90 k = h86 90 k; rw [ov_up_j n0]) (rk98 k n0 n1))
          have g538 : h525 90 2 = (h86 90 2) := y528_ 2 (by decide)
          have g539 : h525 90 3 = (h86 90 3) := y528_ 3 (by decide)
          have g540 : h525 90 7 = ((h86 90 7) - 1) := y528_ 7 (by decide)
          have g541 : h525 90 13 = (h86 90 13) := y528_ 13 (by decide)
          have g542 : h525 90 15 = (h86 90 15) := y528_ 15 (by decide)
          rcases y529 with f543 | f544
          · have q9 : (h86 90 8) ≠ 0 ∧ (h525 90 8) = (h86 90 8) ∧ (h525 93 ((h525 90 7))) = (pt_nt t m (pt_nt t m p)) := f543
            omega
          · skip
            show ov_R u d ov_m219 86 [(0, ov_r 90), (1, ov_i v4), (2, ov_i v84), (3, ov_i (350 + (4 * ((6 * v84) + v4))))] [] z524 h525 (P_fMo_readLight_90 F z h t m N p A)
            have f545 : (h86 90 8) = 0 ∧ (h525 90 8) = (3 : Int) + 16 * (pt_nt t m (pt_nt t m p)) ∧ (h525 93 ((h525 90 7))) = (pt_nt t m (pt_nt t m p)) := f544
            clear f544
            refine ov_blk (ls2 := [(0, ov_r 90), (1, ov_i v4), (2, ov_i v84), (3, ov_i (350 + (4 * ((6 * v84) + v4))))]) (st2 := [ov_r 90]) (pc2 := 87) b_219_86_1 rfl rfl ?_
            refine ov_getf (v := ov_i (h525 90 8)) d_219_87 fl_Mo_180 (zb_90 I526) (zs_90 I526) rfl ?_
            have g546 := rg_90_8 I526
            refine ov_ifle (tgt := 97) d_219_90 (by decide) (by omega) (fun c547 => ?_) (fun c547 => ?_)
            · omega
            · skip
              refine ov_blk (ls2 := [(0, ov_r 90), (1, ov_i v4), (2, ov_i v84), (3, ov_i (350 + (4 * ((6 * v84) + v4))))]) (st2 := [ov_i (-1)]) (pc2 := 94) b_219_93_1 rfl rfl ?_
              refine ov_goto (tgt := 104) d_219_94 (by decide) ?_
              refine ov_blk (ls2 := [(0, ov_r 90), (1, ov_i v4), (2, ov_i v84), (3, ov_i (350 + (4 * ((6 * v84) + v4)))), (4, ov_i (-1))]) (st2 := [ov_i (-1)]) (pc2 := 108) b_219_104_2 rfl rfl ?_
              refine ov_ifge (tgt := 117) d_219_108 (by decide) (by omega) (fun c548 => ?_) (fun c548 => ?_)
              · omega
              · skip
                refine ov_blk (ls2 := [(0, ov_r 90), (1, ov_i v4), (2, ov_i v84), (3, ov_i (350 + (4 * ((6 * v84) + v4)))), (4, ov_i (-1))]) (st2 := [ov_i 1, ov_r 90]) (pc2 := 113) b_219_111_2 rfl rfl ?_
                have cf549 : h525 93 ((h525 90 7)) = h 93 ((h525 90 7)) := congrFun E531 ((h525 90 7))
                refine ov_cV (as := [ov_i 1]) (st := []) (d2 := d - 1) d_219_113 lk_Mo_186 rfl (Nat.le_of_ble_eq_true rfl) (c := 1) (zb_90 I526) (zs_90 I526) ⟨by decide, rfl⟩ (by omega) (c_fMo_wrong_90 t m N (pt_nt t m (pt_nt t m p)) (d - 1) (by omega) U I526 1 (by omega) (by show 0 ≤ (h525 90 7) ∧ (h525 90 7) ≤ N; omega) (by show (h525 93 ((h525 90 7))) = (pt_nt t m (pt_nt t m p)); omega) (by show 0 ≤ (h525 90 8); omega) (by show 1 ≤ (1 : Int) ∧ (1 : Int) ≤ 5; omega) (by rw [show h525 92 = h 92 from E530, show h525 93 = h 93 from E531, show h525 94 = h 94 from E532]; exact mt)) ?_
                rintro _ z550 h551 ⟨rfl, I552, y553, y554, y555⟩
                have E556 : h551 92 = h 92 := Eq.trans (y553 92 (by decide)) (show h525 92 = h 92 from E530)
                have E557 : h551 93 = h 93 := Eq.trans (y553 93 (by decide)) (show h525 93 = h 93 from E531)
                have E558 : h551 94 = h 94 := Eq.trans (y553 94 (by decide)) (show h525 94 = h 94 from E532)
                have E559 : h551 95 = h 95 := Eq.trans (y553 95 (by decide)) (show h525 95 = h 95 from E533)
                have E560 : h551 96 = h 96 := Eq.trans (y553 96 (by decide)) (show h525 96 = h 96 from E534)
                have E561 : h551 99 = h 99 := Eq.trans (y553 99 (by decide)) (show h525 99 = h 99 from E535)
                have fr562 : ∀ a : Int, a ≠ 90 ∧ a ≠ 96 → h551 a = h a := fun a ca => Eq.trans (y553 a (by omega)) (fr536 a ca)
                have y554_ : ∀ k : Int, k ≠ 8 → (h551 90) k = (h525 90) k := y554
                have rk563 : ∀ k : Int, k ≠ 7 → k ≠ 8 → h551 90 k = h 90 k := fun k n0 n1 => Eq.trans (y554_ k n1) (rk537 k n0 n1)
                have g564 : h551 90 2 = (h525 90 2) := y554_ 2 (by decide)
                have g565 : h551 90 3 = (h525 90 3) := y554_ 3 (by decide)
                have g566 : h551 90 7 = (h525 90 7) := y554_ 7 (by decide)
                have g567 : h551 90 13 = (h525 90 13) := y554_ 13 (by decide)
                have g568 : h551 90 15 = (h525 90 15) := y554_ 15 (by decide)
                rcases y555 with f569 | f570
                · skip
                  show ov_R u d ov_m219 116 [(0, ov_r 90), (1, ov_i v4), (2, ov_i v84), (3, ov_i (350 + (4 * ((6 * v84) + v4)))), (4, ov_i (-1))] [] z550 h551 (P_fMo_readLight_90 F z h t m N p A)
                  have f571 : (h525 90 8) ≠ 0 ∧ (h551 90 8) = (h525 90 8) ∧ (h551 93 ((h551 90 7))) = (pt_nt t m (pt_nt t m p)) := f569
                  clear f569
                  have hF : (pt_liF t m A p) = (h551 90 8) := by unfold pt_liF; (repeat' split) <;> omega
                  exact ov_retv (st := []) d_219_116 rfl ⟨rfl, I552, (fun a ca => (fr562 a ca)), (fun k n0 n1 => (rk563 k n0 n1)), (Or.inl (by show (h551 90 8) = (pt_liF t m A p) ∧ 1 ≤ (h551 90 8) ∧ (h 90 7) ≤ (h551 90 7) ∧ (h551 90 7) ≤ N; omega))⟩
                · omega

set_option maxHeartbeats 4000000 in
theorem c_fMo_takePart_90 {u : ov_U} {F : ov_H × ov_Z} (t : Int → Int) (m : Int) (N : Int) (p : Int) (k : Nat) (HE : ∀ k' : Nat, k' + 1 = k → ∀ {z : ov_Z} {h : ov_H} (t : Int → Int) (m N p : Int) (d : Nat) (hd : (10 + 5 * k' + 4) ≤ d) (U : ov_cap u) (I : ov_N F z h) (dep : Int) (g_dep : ov_g dep) (p0 : 0 ≤ (h 90 7) ∧ (h 90 7) ≤ N) (p1 : (h 93 ((h 90 7))) = p) (p2 : 0 ≤ (h 90 8)) (p3 : 0 ≤ dep ∧ dep + (k' : Int) = 5) (p4 : 0 ≤ (h 90 13) ∧ (h 90 13) ≤ (h 90 7)) (mt : pt_MT t m (h 92) (h 93) (h 94) N) (wd : pt_WD (h 95)), ov_T u d ov_m226 [ov_r 90, ov_i dep] z h (P_fMo_all_90 F z h t m N p dep)) (HP : ∀ k' : Nat, k' + 1 = k → ∀ {z : ov_Z} {h : ov_H} (t : Int → Int) (m N p : Int) (d : Nat) (hd : (10 + 5 * k' + 0) ≤ d) (U : ov_cap u) (I : ov_N F z h) (dep : Int) (g_dep : ov_g dep) (p0 : 0 ≤ (h 90 7) ∧ (h 90 7) ≤ N) (p1 : (h 93 ((h 90 7))) = p) (p2 : 0 ≤ (h 90 8)) (p3 : 0 ≤ dep ∧ dep + (k' : Int) = 5) (p4 : 0 ≤ (h 90 13) ∧ (h 90 13) ≤ (h 90 7)) (mt : pt_MT t m (h 92) (h 93) (h 94) N) (wd : pt_WD (h 95)), ov_T u d ov_m230 [ov_r 90, ov_i dep] z h (P_fMo_takePart_90 F z h t m N p dep)) {z : ov_Z} {h : ov_H} (d : Nat) (hd : (10 + 5 * k + 0) ≤ d) (U : ov_cap u) (I : ov_N F z h) (dep : Int) (g_dep : ov_g dep) (p0 : 0 ≤ (h 90 7) ∧ (h 90 7) ≤ N) (p1 : (h 93 ((h 90 7))) = p) (p2 : 0 ≤ (h 90 8)) (p3 : 0 ≤ dep ∧ dep + (k : Int) = 5) (p4 : 0 ≤ (h 90 13) ∧ (h 90 13) ≤ (h 90 7)) (mt : pt_MT t m (h 92) (h 93) (h 94) N) (wd : pt_WD (h 95)) : ov_T u d ov_m230 [ov_r 90, ov_i dep] z h (P_fMo_takePart_90 F z h t m N p dep) := by
  refine ov_en rfl (Nat.le_of_ble_eq_true rfl) ?_
  show ov_R u d ov_m230 0 [(0, ov_r 90), (1, ov_i dep)] [] z h (P_fMo_takePart_90 F z h t m N p dep)
  have ma := pt_MT_at mt (k := h 90 7) (by omega)
  rw [p1] at ma
  have mp := ma.2.1
  have m2 := ma.2.2.1
  have m3 := ma.2.2.2
  have mc := pt_cm_f (t := t) (m := m) (p := p)
  have mN := mt.1.2.1
  clear ma
  have ppm := pt_pp_m (t := t) (m := m) (p := p)
  have is4 := pt_is4 (t := t) (m := m) (p := p) (c := 40)
  have iw2 := pt_iw2 (t := t) (m := m) (p := p) (w := 7237492)
  refine ov_blk (ls2 := [(0, ov_r 90), (1, ov_i dep)]) (st2 := [ov_r 90]) (pc2 := 1) b_230_0_1 rfl rfl ?_
  refine ov_getf (v := ov_i (h 90 8)) d_230_1 fl_Mo_180 (zb_90 I) (zs_90 I) rfl ?_
  have g1 := rg_90_8 I
  refine ov_ifle (tgt := 8) d_230_4 (by decide) (by omega) (fun c2 => ?_) (fun c2 => ?_)
  · skip
    have J3 : ∀ (j4 : Int) (j5 : Int) (q6 : (j4 = 1 ∧ pt_ty t m p = 3 ∨ j4 = 0 ∧ pt_ty t m p ≠ 3) ∧ -1 ≤ j5 ∧ j5 ≤ 4 ∧ (0 ≤ j5 ∧ (0 ≤ pt_wh t m p 10 (Int.toNat 2) ∨ 0 ≤ pt_wh t m p 20 (Int.toNat 2)) ∨ j5 < 0 ∧ pt_wh t m p 10 (Int.toNat 2) < 0 ∧ pt_wh t m p 20 (Int.toNat 2) < 0)), ov_R u d ov_m230 67 [(0, ov_r 90), (1, ov_i dep), (2, ov_i j4), (5, ov_i j5)] [] z h (P_fMo_takePart_90 F z h t m N p dep) := by
      intro j4 j5 q6
      have J7 : ∀ (q8 : (0 ≤ j5 ∨ j4 = 1 ∨ pt_is t m p 40 = 1 ∨ pt_iw t m p 7237492 = 1)), ov_R u d ov_m230 102 [(0, ov_r 90), (1, ov_i dep), (2, ov_i j4), (5, ov_i j5)] [] z h (P_fMo_takePart_90 F z h t m N p dep) := by
        intro  q8
        refine ov_blk (ls2 := [(0, ov_r 90), (1, ov_i dep), (2, ov_i j4), (5, ov_i j5)]) (st2 := [ov_i 5, ov_i dep]) (pc2 := 104) b_230_102_2 rfl rfl ?_
        refine ov_icne (tgt := 112) d_230_104 (by decide) (by omega) (by omega) (fun c9 => ?_) (fun c9 => ?_)
        · skip
          refine ov_blk (ls2 := [(0, ov_r 90), (1, ov_i dep), (2, ov_i j4), (5, ov_i j5)]) (st2 := [ov_r 90]) (pc2 := 113) b_230_112_1 rfl rfl ?_
          refine ov_getf (v := ov_i (h 90 8)) d_230_113 fl_Mo_180 (zb_90 I) (zs_90 I) rfl ?_
          refine ov_ifle (tgt := 120) d_230_116 (by decide) (by omega) (fun c11 => ?_) (fun c11 => ?_)
          · skip
            refine ov_blk (ls2 := [(0, ov_r 90), (1, ov_i dep), (2, ov_i j4), (5, ov_i j5)]) (st2 := [ov_i 17, ov_r 90]) (pc2 := 123) b_230_120_2 rfl rfl ?_
            refine ov_cV (as := [ov_i 17]) (st := []) (d2 := d - 1) d_230_123 lk_Mo_192 rfl (Nat.le_of_ble_eq_true rfl) (c := 1) (zb_90 I) (zs_90 I) ⟨by decide, rfl⟩ (by omega) (c_fMo_hasWord_90 t m N p 7237492 (d - 1) (by omega) U I 17 (by omega) (by show 0 ≤ (h 90 7) ∧ (h 90 7) ≤ N; omega) (by show (h 93 ((h 90 7))) = p; omega) (by show 0 ≤ (h 90 8); omega) (by show 0 ≤ (17 : Int) ∧ (17 : Int) ≤ 21; omega) mt wd (by decide +kernel)) ?_
            rintro _ z13 h14 ⟨v12, rfl, I15, y16, y17, y18⟩
            have E19 : h14 92 = h 92 := Eq.trans (y16 92 (by decide)) (show h 92 = h 92 from rfl)
            have E20 : h14 93 = h 93 := Eq.trans (y16 93 (by decide)) (show h 93 = h 93 from rfl)
            have E21 : h14 94 = h 94 := Eq.trans (y16 94 (by decide)) (show h 94 = h 94 from rfl)
            have E22 : h14 95 = h 95 := Eq.trans (y16 95 (by decide)) (show h 95 = h 95 from rfl)
            have fr23 : ∀ a : Int, a ≠ 90 ∧ (a < 97 ∨ 98 < a) → h14 a = h a := fun a ca => Eq.trans (y16 a (by omega)) rfl
            have y17_ : ∀ k : Int, k ≠ 7 → (h14 90) k = (h 90) k := y17
            have rk24 : ∀ k : Int, k ≠ 7 → k ≠ 8 → k ≠ 13 → h14 90 k = h 90 k := fun k n0 n1 n2 => Eq.trans (y17_ k n0) rfl
            have g25 : h14 90 2 = (h 90 2) := y17_ 2 (by decide)
            have g26 : h14 90 3 = (h 90 3) := y17_ 3 (by decide)
            have g27 : h14 90 8 = (h 90 8) := y17_ 8 (by decide)
            have g28 : h14 90 13 = (h 90 13) := y17_ 13 (by decide)
            have g29 : h14 90 15 = (h 90 15) := y17_ 15 (by decide)
            rcases y18 with ⟨rfl, f30⟩ | ⟨rfl, f31⟩
            · skip
              show ov_R u d ov_m230 126 [(0, ov_r 90), (1, ov_i dep), (2, ov_i j4), (5, ov_i j5)] [ov_i 0] z13 h14 (P_fMo_takePart_90 F z h t m N p dep)
              have f32 : (h14 90 8) = (h 90 8) ∧ ((h 90 8) ≠ 0 ∨ pt_iw t m p (7237492 : Int) = 0) ∧ (h14 90 7) = (h 90 7) ∧ (h14 93 ((h14 90 7))) = p := f30
              clear f30
              refine ov_ifeq (tgt := 145) d_230_126 (by decide) (by omega) (fun c33 => ?_) (fun c33 => ?_)
              · skip
                refine ov_blk (ls2 := [(0, ov_r 90), (1, ov_i dep), (2, ov_i j4), (5, ov_i j5)]) (st2 := [ov_i 40, ov_r 90]) (pc2 := 148) b_230_145_2 rfl rfl ?_
                have cf34 : h14 93 ((h14 90 7)) = h 93 ((h14 90 7)) := congrFun E20 ((h14 90 7))
                refine ov_cV (as := [ov_i 40]) (st := []) (d2 := d - 1) d_230_148 lk_Mo_263 rfl (Nat.le_of_ble_eq_true rfl) (c := 1) (zb_90 I15) (zs_90 I15) ⟨by decide, rfl⟩ (by omega) (c_fMo_hasSign_90 t m N p (d - 1) (by omega) U I15 40 (by omega) (by show 0 ≤ (h14 90 7) ∧ (h14 90 7) ≤ N; omega) (by show (h14 93 ((h14 90 7))) = p; omega) (by show 0 ≤ (h14 90 8); omega) (by show 0 ≤ (40 : Int) ∧ (40 : Int) ≤ 65535; omega) (by rw [show h14 92 = h 92 from E19, show h14 93 = h 93 from E20, show h14 94 = h 94 from E21]; exact mt)) ?_
                rintro _ z36 h37 ⟨v35, rfl, I38, y39, y40, y41⟩
                have E42 : h37 92 = h 92 := Eq.trans (y39 92 (by decide)) (show h14 92 = h 92 from E19)
                have E43 : h37 93 = h 93 := Eq.trans (y39 93 (by decide)) (show h14 93 = h 93 from E20)
                have E44 : h37 94 = h 94 := Eq.trans (y39 94 (by decide)) (show h14 94 = h 94 from E21)
                have E45 : h37 95 = h 95 := Eq.trans (y39 95 (by decide)) (show h14 95 = h 95 from E22)
                have fr46 : ∀ a : Int, a ≠ 90 ∧ (a < 97 ∨ 98 < a) → h37 a = h a := fun a ca => Eq.trans (y39 a (by omega)) (fr23 a ca)
                have y40_ : ∀ k : Int, k ≠ 7 → (h37 90) k = (h14 90) k := y40
                have rk47 : ∀ k : Int, k ≠ 7 → k ≠ 8 → k ≠ 13 → h37 90 k = h 90 k := fun k n0 n1 n2 => Eq.trans (y40_ k n0) (rk24 k n0 n1 n2)
                have g48 : h37 90 2 = (h14 90 2) := y40_ 2 (by decide)
                have g49 : h37 90 3 = (h14 90 3) := y40_ 3 (by decide)
                have g50 : h37 90 8 = (h14 90 8) := y40_ 8 (by decide)
                have g51 : h37 90 13 = (h14 90 13) := y40_ 13 (by decide)
                have g52 : h37 90 15 = (h14 90 15) := y40_ 15 (by decide)
                rcases y41 with ⟨rfl, f53⟩ | ⟨rfl, f54⟩
                · skip
                  show ov_R u d ov_m230 151 [(0, ov_r 90), (1, ov_i dep), (2, ov_i j4), (5, ov_i j5)] [ov_i 0] z36 h37 (P_fMo_takePart_90 F z h t m N p dep)
                  have f55 : (h37 90 8) = (h14 90 8) ∧ ((h14 90 8) ≠ 0 ∨ pt_is t m p (40 : Int) = 0) ∧ (h37 90 7) = (h14 90 7) ∧ (h37 93 ((h37 90 7))) = p := f53
                  clear f53
                  refine ov_ifeq (tgt := 170) d_230_151 (by decide) (by omega) (fun c56 => ?_) (fun c56 => ?_)
                  · skip
                    have pl : h 93 (h37 90 7) = p := Eq.trans (congrFun (show h 93 = h37 93 from (E43).symm) _) (by show h37 93 (h37 90 7) = p; omega)
                    have kl := pt_MT_lt mt (k := h37 90 7) ⟨by omega, by omega⟩ (by rw [pl]; omega)
                    refine ov_blk (ls2 := [(0, ov_r 90), (1, ov_i dep), (2, ov_i j4), (5, ov_i j5)]) (st2 := [ov_i j4, ov_r 90]) (pc2 := 172) b_230_170_2 rfl rfl ?_
                    refine ov_ifeq (tgt := 179) d_230_172 (by decide) (by omega) (fun c57 => ?_) (fun c57 => ?_)
                    · skip
                      refine ov_blk (ls2 := [(0, ov_r 90), (1, ov_i dep), (2, ov_i j4), (5, ov_i j5)]) (st2 := [ov_i j4, ov_i 2, ov_r 90]) (pc2 := 181) b_230_179_2 rfl rfl ?_
                      refine ov_ifeq (tgt := 197) d_230_181 (by decide) (by omega) (fun c58 => ?_) (fun c58 => ?_)
                      · skip
                        refine ov_blk (ls2 := [(0, ov_r 90), (1, ov_i dep), (2, ov_i j4), (5, ov_i j5)]) (st2 := [ov_i j5, ov_i 2, ov_r 90]) (pc2 := 199) b_230_197_1 rfl rfl ?_
                        have cf59 : h37 93 ((h37 90 7)) = h 93 ((h37 90 7)) := congrFun E43 ((h37 90 7))
                        refine ov_cV (as := [ov_i 2, ov_i j5]) (st := []) (d2 := d - 1) d_230_199 lk_Mo_246 rfl (Nat.le_of_ble_eq_true rfl) (c := 1) (zb_90 I38) (zs_90 I38) ⟨by decide, rfl⟩ (by omega) (c_fMo_emit_90 p (d - 1) (by omega) U I38 2 j5 (by omega) (by omega) (by show 0 ≤ (2 : Int) ∧ (2 : Int) ≤ 10; omega) (by show (h37 90 13) ≤ 999; omega) (by show (h37 93 ((h37 90 7))) = p; omega)) ?_
                        rintro _ z60 h61 ⟨rfl, I62, y63, f64, y65⟩
                        have E66 : h61 92 = h 92 := Eq.trans (y63 92 (by decide)) (show h37 92 = h 92 from E42)
                        have E67 : h61 93 = h 93 := Eq.trans (y63 93 (by decide)) (show h37 93 = h 93 from E43)
                        have E68 : h61 94 = h 94 := Eq.trans (y63 94 (by decide)) (show h37 94 = h 94 from E44)
                        have E69 : h61 95 = h 95 := Eq.trans (y63 95 (by decide)) (show h37 95 = h 95 from E45)
                        have fr70 : ∀ a : Int, a ≠ 90 ∧ (a < 97 ∨ 98 < a) → h61 a = h a := fun a ca => Eq.trans (y63 a (by omega)) (fr46 a ca)
                        have f72 : (h61 90 13) = (h37 90 13) + 1 ∧ (h61 90 7) = (h37 90 7) ∧ (h61 90 8) = (h37 90 8) ∧ (h61 93 ((h61 90 7))) = p := f64
                        clear f64
                        have y65_ : ∀ k : Int, k ≠ 13 → (h61 90) k = (h37 90) k := y65
                        have rk71 : ∀ k : Int, k ≠ 7 → k ≠ 8 → k ≠ 13 → h61 90 k = h 90 k := fun k n0 n1 n2 => Eq.trans (y65_ k n2) (rk47 k n0 n1 n2)
                        have g73 : h61 90 2 = (h37 90 2) := y65_ 2 (by decide)
                        have g74 : h61 90 3 = (h37 90 3) := y65_ 3 (by decide)
                        have g75 : h61 90 7 = (h37 90 7) := y65_ 7 (by decide)
                        have g76 : h61 90 8 = (h37 90 8) := y65_ 8 (by decide)
                        have g77 : h61 90 15 = (h37 90 15) := y65_ 15 (by decide)
                        show ov_R u d ov_m230 202 [(0, ov_r 90), (1, ov_i dep), (2, ov_i j4), (5, ov_i j5)] [] z60 h61 (P_fMo_takePart_90 F z h t m N p dep)
                        refine ov_blk (ls2 := [(0, ov_r 90), (1, ov_i dep), (2, ov_i j4), (5, ov_i j5)]) (st2 := [ov_r 90, ov_r 90]) (pc2 := 204) b_230_202_2 rfl rfl ?_
                        refine ov_getf (v := ov_i (h61 90 7)) d_230_204 fl_Mo_177 (zb_90 I62) (zs_90 I62) rfl ?_
                        have g78 := rg_90_7 I62
                        refine ov_blk (ls2 := [(0, ov_r 90), (1, ov_i dep), (2, ov_i j4), (5, ov_i j5)]) (st2 := [ov_i ((h61 90 7) + 1), ov_r 90]) (pc2 := 209) b_230_207_2 rfl rfl ?_
                        have pp : h 93 (h61 90 7) = p := Eq.trans (congrFun (show h 93 = h61 93 from (E67).symm) _) (by show h61 93 (h61 90 7) = p; omega)
                        have kn := pt_MT_lt mt (k := h61 90 7) ⟨by omega, by omega⟩ (by rw [pp]; omega)
                        have mn := pt_MT_nx mt (k := h61 90 7) ⟨by omega, by omega⟩
                        rw [pp] at mn
                        have mq : h61 93 (h61 90 7 + 1) = pt_nt t m p := Eq.trans (congrFun (show h61 93 = h 93 from E67) _) mn
                        refine ov_putf (x := ((h61 90 7) + 1)) d_230_209 fl_Mo_177 (zb_90 I62) (zs_90 I62) rfl nk_0 rfl ?_
                        have I79 := up_90_7 (x := ((h61 90 7) + 1)) I62 (by omega)
                        show ov_R u d ov_m230 212 [(0, ov_r 90), (1, ov_i dep), (2, ov_i j4), (5, ov_i j5)] [] z60 (ov_up h61 90 7 ((h61 90 7) + 1)) (P_fMo_takePart_90 F z h t m N p dep)
                        exact ov_retv (st := []) d_230_212 rfl ⟨rfl, I79, (fun a ca => Eq.trans (by show (ov_up h61 90 7 ((h61 90 7) + 1)) a = h61 a; rw [ov_up_ne (by omega)]) (fr70 a ca)), (fun k n0 n1 n2 => (Eq.trans (by show (ov_up h61 90 7 ((h61 90 7) + 1)) 90 k = h61 90 k; rw [ov_up_j n0]) (rk71 k n0 n1 n2))), (Or.inr (Or.inr ⟨(pt_nt t m p), (by show (h 90 8) = 0 ∧ (h61 90 8) = 0 ∧ (h 90 13) ≤ (h61 90 13) ∧ (h61 90 13) - (h 90 13) ≤ ((h61 90 7) + 1) - (h 90 7) ∧ (h 90 7) ≤ ((h61 90 7) + 1) ∧ ((h61 90 7) + 1) ≤ N ∧ (h61 93 (((h61 90 7) + 1))) = (pt_nt t m p); omega), (pt_EV0 (by omega) (by omega) (by omega) (by omega))⟩))⟩
                      · omega
                    · skip
                      refine ov_blk (ls2 := [(0, ov_r 90), (1, ov_i dep), (2, ov_i j4), (5, ov_i j5)]) (st2 := [ov_i 1, ov_r 90]) (pc2 := 176) b_230_175_1 rfl rfl ?_
                      refine ov_goto (tgt := 180) d_230_176 (by decide) ?_
                      refine ov_blk (ls2 := [(0, ov_r 90), (1, ov_i dep), (2, ov_i j4), (5, ov_i j5)]) (st2 := [ov_i j4, ov_i 1, ov_r 90]) (pc2 := 181) b_230_180_1 rfl rfl ?_
                      refine ov_ifeq (tgt := 197) d_230_181 (by decide) (by omega) (fun c80 => ?_) (fun c80 => ?_)
                      · omega
                      · skip
                        refine ov_blk (ls2 := [(0, ov_r 90), (1, ov_i dep), (2, ov_i j4), (5, ov_i j5)]) (st2 := [ov_r 90, ov_i 1, ov_r 90]) (pc2 := 185) b_230_184_1 rfl rfl ?_
                        refine ov_getf (v := ov_r 94) d_230_185 fl_Mo_30 (zb_90 I38) (zs_90 I38) (congrArg ov_r (rg_90_6 I38)) ?_
                        refine ov_blk (ls2 := [(0, ov_r 90), (1, ov_i dep), (2, ov_i j4), (5, ov_i j5)]) (st2 := [ov_r 90, ov_r 94, ov_i 1, ov_r 90]) (pc2 := 189) b_230_188_1 rfl rfl ?_
                        refine ov_getf (v := ov_i (h37 90 7)) d_230_189 fl_Mo_177 (zb_90 I38) (zs_90 I38) rfl ?_
                        have g81 := rg_90_7 I38
                        refine ov_lald d_230_192 (zb_94 I38) (zs_94 I38) (by omega) ?_
                        have e82 : h37 94 (h37 90 7) = (h 94 (h37 90 7)) := congrFun (show h37 94 = h 94 from E44) (h37 90 7)
                        have g83 := ra_94 I38 (h37 90 7)
                        rw [e82] at g83
                        rw [e82]
                        show ov_R u d ov_m230 193 [(0, ov_r 90), (1, ov_i dep), (2, ov_i j4), (5, ov_i j5)] [ov_l (h 94 (h37 90 7)), ov_i 1, ov_r 90] z36 h37 (P_fMo_takePart_90 F z h t m N p dep)
                        refine ov_blk (ls2 := [(0, ov_r 90), (1, ov_i dep), (2, ov_i j4), (5, ov_i j5)]) (st2 := [ov_i (h 94 (h37 90 7)), ov_i 1, ov_r 90]) (pc2 := 194) b_230_193_1 rfl rfl ?_
                        refine ov_havw (fun w84 gw84 qw84 => ?_)
                        refine ov_goto (tgt := 199) d_230_194 (by decide) ?_
                        have cf85 : h37 93 ((h37 90 7)) = h 93 ((h37 90 7)) := congrFun E43 ((h37 90 7))
                        refine ov_cV (as := [ov_i 1, ov_i w84]) (st := []) (d2 := d - 1) d_230_199 lk_Mo_246 rfl (Nat.le_of_ble_eq_true rfl) (c := 1) (zb_90 I38) (zs_90 I38) ⟨by decide, rfl⟩ (by omega) (c_fMo_emit_90 p (d - 1) (by omega) U I38 1 w84 (by omega) (by omega) (by show 0 ≤ (1 : Int) ∧ (1 : Int) ≤ 10; omega) (by show (h37 90 13) ≤ 999; omega) (by show (h37 93 ((h37 90 7))) = p; omega)) ?_
                        rintro _ z86 h87 ⟨rfl, I88, y89, f90, y91⟩
                        have E92 : h87 92 = h 92 := Eq.trans (y89 92 (by decide)) (show h37 92 = h 92 from E42)
                        have E93 : h87 93 = h 93 := Eq.trans (y89 93 (by decide)) (show h37 93 = h 93 from E43)
                        have E94 : h87 94 = h 94 := Eq.trans (y89 94 (by decide)) (show h37 94 = h 94 from E44)
                        have E95 : h87 95 = h 95 := Eq.trans (y89 95 (by decide)) (show h37 95 = h 95 from E45)
                        have fr96 : ∀ a : Int, a ≠ 90 ∧ (a < 97 ∨ 98 < a) → h87 a = h a := fun a ca => Eq.trans (y89 a (by omega)) (fr46 a ca)
                        have f98 : (h87 90 13) = (h37 90 13) + 1 ∧ (h87 90 7) = (h37 90 7) ∧ (h87 90 8) = (h37 90 8) ∧ (h87 93 ((h87 90 7))) = p := f90
                        clear f90
                        have y91_ : ∀ k : Int, k ≠ 13 → (h87 90) k = (h37 90) k := y91
                        have rk97 : ∀ k : Int, k ≠ 7 → k ≠ 8 → k ≠ 13 → h87 90 k = h 90 k := fun k n0 n1 n2 => Eq.trans (y91_ k n2) (rk47 k n0 n1 n2)
                        have g99 : h87 90 2 = (h37 90 2) := y91_ 2 (by decide)
                        have g100 : h87 90 3 = (h37 90 3) := y91_ 3 (by decide)
                        have g101 : h87 90 7 = (h37 90 7) := y91_ 7 (by decide)
                        have g102 : h87 90 8 = (h37 90 8) := y91_ 8 (by decide)
                        have g103 : h87 90 15 = (h37 90 15) := y91_ 15 (by decide)
                        show ov_R u d ov_m230 202 [(0, ov_r 90), (1, ov_i dep), (2, ov_i j4), (5, ov_i j5)] [] z86 h87 (P_fMo_takePart_90 F z h t m N p dep)
                        refine ov_blk (ls2 := [(0, ov_r 90), (1, ov_i dep), (2, ov_i j4), (5, ov_i j5)]) (st2 := [ov_r 90, ov_r 90]) (pc2 := 204) b_230_202_2 rfl rfl ?_
                        refine ov_getf (v := ov_i (h87 90 7)) d_230_204 fl_Mo_177 (zb_90 I88) (zs_90 I88) rfl ?_
                        have g104 := rg_90_7 I88
                        refine ov_blk (ls2 := [(0, ov_r 90), (1, ov_i dep), (2, ov_i j4), (5, ov_i j5)]) (st2 := [ov_i ((h87 90 7) + 1), ov_r 90]) (pc2 := 209) b_230_207_2 rfl rfl ?_
                        have pp : h 93 (h87 90 7) = p := Eq.trans (congrFun (show h 93 = h87 93 from (E93).symm) _) (by show h87 93 (h87 90 7) = p; omega)
                        have kn := pt_MT_lt mt (k := h87 90 7) ⟨by omega, by omega⟩ (by rw [pp]; omega)
                        have mn := pt_MT_nx mt (k := h87 90 7) ⟨by omega, by omega⟩
                        rw [pp] at mn
                        have mq : h87 93 (h87 90 7 + 1) = pt_nt t m p := Eq.trans (congrFun (show h87 93 = h 93 from E93) _) mn
                        refine ov_putf (x := ((h87 90 7) + 1)) d_230_209 fl_Mo_177 (zb_90 I88) (zs_90 I88) rfl nk_0 rfl ?_
                        have I105 := up_90_7 (x := ((h87 90 7) + 1)) I88 (by omega)
                        show ov_R u d ov_m230 212 [(0, ov_r 90), (1, ov_i dep), (2, ov_i j4), (5, ov_i j5)] [] z86 (ov_up h87 90 7 ((h87 90 7) + 1)) (P_fMo_takePart_90 F z h t m N p dep)
                        exact ov_retv (st := []) d_230_212 rfl ⟨rfl, I105, (fun a ca => Eq.trans (by show (ov_up h87 90 7 ((h87 90 7) + 1)) a = h87 a; rw [ov_up_ne (by omega)]) (fr96 a ca)), (fun k n0 n1 n2 => (Eq.trans (by show (ov_up h87 90 7 ((h87 90 7) + 1)) 90 k = h87 90 k; rw [ov_up_j n0]) (rk97 k n0 n1 n2))), (Or.inr (Or.inr ⟨(pt_nt t m p), (by show (h 90 8) = 0 ∧ (h87 90 8) = 0 ∧ (h 90 13) ≤ (h87 90 13) ∧ (h87 90 13) - (h 90 13) ≤ ((h87 90 7) + 1) - (h 90 7) ∧ (h 90 7) ≤ ((h87 90 7) + 1) ∧ ((h87 90 7) + 1) ≤ N ∧ (h87 93 (((h87 90 7) + 1))) = (pt_nt t m p); omega), (pt_EV0 (by omega) (by omega) (by omega) (by omega))⟩))⟩
                  · omega
                · skip
                  show ov_R u d ov_m230 151 [(0, ov_r 90), (1, ov_i dep), (2, ov_i j4), (5, ov_i j5)] [ov_i 1] z36 h37 (P_fMo_takePart_90 F z h t m N p dep)
                  have f106 : (h14 90 8) = 0 ∧ pt_is t m p (40 : Int) = 1 ∧ pt_ty t m p = 4 ∧ (h37 90 7) = (h14 90 7) + 1 ∧ (h37 90 7) ≤ N ∧ (h37 93 ((h37 90 7))) = pt_nt t m p := f54
                  clear f54
                  refine ov_ifeq (tgt := 170) d_230_151 (by decide) (by omega) (fun c107 => ?_) (fun c107 => ?_)
                  · omega
                  · skip
                    refine ov_blk (ls2 := [(0, ov_r 90), (1, ov_i dep), (2, ov_i j4), (5, ov_i j5)]) (st2 := [ov_i (dep + 1), ov_r 90]) (pc2 := 158) b_230_154_4 rfl rfl ?_
                    have cf108 : h37 93 ((h37 90 7)) = h 93 ((h37 90 7)) := congrFun E43 ((h37 90 7))
                    refine ov_cV (as := [ov_i (dep + 1)]) (st := []) (d2 := d - 1) d_230_158 lk_Mo_243 rfl (Nat.le_of_ble_eq_true rfl) (c := 1) (zb_90 I38) (zs_90 I38) ⟨by decide, rfl⟩ (by omega) (HE (k - 1) (by omega) t m N (pt_nt t m p) (d - 1) (by omega) U I38 (dep + 1) (by omega) (by show 0 ≤ (h37 90 7) ∧ (h37 90 7) ≤ N; omega) (by show (h37 93 ((h37 90 7))) = (pt_nt t m p); omega) (by show 0 ≤ (h37 90 8); omega) (by show 0 ≤ (dep + 1) ∧ (dep + 1) + ((k - 1 : Nat) : Int) = 5; omega) (by show 0 ≤ (h37 90 13) ∧ (h37 90 13) ≤ (h37 90 7); omega) (by rw [show h37 92 = h 92 from E42, show h37 93 = h 93 from E43, show h37 94 = h 94 from E44]; exact mt) (by rw [show h37 95 = h 95 from E45]; exact wd)) ?_
                    rintro _ z109 h110 ⟨rfl, I111, y112, y113, y114⟩
                    have E115 : h110 92 = h 92 := Eq.trans (y112 92 (by decide)) (show h37 92 = h 92 from E42)
                    have E116 : h110 93 = h 93 := Eq.trans (y112 93 (by decide)) (show h37 93 = h 93 from E43)
                    have E117 : h110 94 = h 94 := Eq.trans (y112 94 (by decide)) (show h37 94 = h 94 from E44)
                    have E118 : h110 95 = h 95 := Eq.trans (y112 95 (by decide)) (show h37 95 = h 95 from E45)
                    have fr119 : ∀ a : Int, a ≠ 90 ∧ (a < 97 ∨ 98 < a) → h110 a = h a := fun a ca => Eq.trans (y112 a (by omega)) (fr46 a ca)
                    have y113_ : ∀ k : Int, k ≠ 7 → k ≠ 8 → k ≠ 13 → (h110 90) k = (h37 90) k := y113
                    have rk120 : ∀ k : Int, k ≠ 7 → k ≠ 8 → k ≠ 13 → h110 90 k = h 90 k := fun k n0 n1 n2 => Eq.trans (y113_ k n0 n1 n2) (rk47 k n0 n1 n2)
                    have g121 : h110 90 2 = (h37 90 2) := y113_ 2 (by decide) (by decide) (by decide)
                    have g122 : h110 90 3 = (h37 90 3) := y113_ 3 (by decide) (by decide) (by decide)
                    have g123 : h110 90 15 = (h37 90 15) := y113_ 15 (by decide) (by decide) (by decide)
                    rcases y114 with f124 | ⟨w125, w126, f127, y128⟩ | ⟨w129, f130, y131⟩
                    · omega
                    · skip
                      show ov_R u d ov_m230 161 [(0, ov_r 90), (1, ov_i dep), (2, ov_i j4), (5, ov_i j5)] [] z109 h110 (P_fMo_takePart_90 F z h t m N p dep)
                      have f132 : (h37 90 8) = 0 ∧ (h110 90 8) = w125 ∧ 1 ≤ w125 ∧ (h37 90 13) ≤ (h110 90 13) ∧ (h110 90 13) - (h37 90 13) ≤ (h110 90 7) - (h37 90 7) ∧ (h37 90 7) ≤ (h110 90 7) ∧ (h110 90 7) ≤ N := f127
                      clear f127
                      have y128_ : pt_EV t m 6 (dep + 1) (pt_nt t m p) w125 w126 := y128
                      refine ov_blk (ls2 := [(0, ov_r 90), (1, ov_i dep), (2, ov_i j4), (5, ov_i j5)]) (st2 := [ov_i 41, ov_r 90]) (pc2 := 164) b_230_161_2 rfl rfl ?_
                      have cf133 : h110 93 ((h110 90 7)) = h 93 ((h110 90 7)) := congrFun E116 ((h110 90 7))
                      refine ov_cV (as := [ov_i 41]) (st := []) (d2 := d - 1) d_230_164 lk_Mo_214 rfl (Nat.le_of_ble_eq_true rfl) (c := 1) (zb_90 I111) (zs_90 I111) ⟨by decide, rfl⟩ (by omega) (c_fMo_takeSign_90 t m N (h110 93 (h110 90 7)) (d - 1) (by omega) U I111 41 (by omega) (by show 0 ≤ (h110 90 7) ∧ (h110 90 7) ≤ N; omega) (by show (h110 93 ((h110 90 7))) = (h110 93 (h110 90 7)); omega) (by show 0 ≤ (h110 90 8); omega) (by show 0 ≤ (41 : Int) ∧ (41 : Int) ≤ 65535; omega) (by rw [show h110 92 = h 92 from E115, show h110 93 = h 93 from E116, show h110 94 = h 94 from E117]; exact mt)) ?_
                      rintro _ z134 h135 ⟨rfl, I136, y137, y138, y139⟩
                      have E140 : h135 92 = h 92 := Eq.trans (y137 92 (by decide)) (show h110 92 = h 92 from E115)
                      have E141 : h135 93 = h 93 := Eq.trans (y137 93 (by decide)) (show h110 93 = h 93 from E116)
                      have E142 : h135 94 = h 94 := Eq.trans (y137 94 (by decide)) (show h110 94 = h 94 from E117)
                      have E143 : h135 95 = h 95 := Eq.trans (y137 95 (by decide)) (show h110 95 = h 95 from E118)
                      have fr144 : ∀ a : Int, a ≠ 90 ∧ (a < 97 ∨ 98 < a) → h135 a = h a := fun a ca => Eq.trans (y137 a (by omega)) (fr119 a ca)
                      have y138_ : ∀ k : Int, k ≠ 7 → k ≠ 8 → (h135 90) k = (h110 90) k := y138
                      have rk145 : ∀ k : Int, k ≠ 7 → k ≠ 8 → k ≠ 13 → h135 90 k = h 90 k := fun k n0 n1 n2 => Eq.trans (y138_ k n0 n1) (rk120 k n0 n1 n2)
                      have g146 : h135 90 2 = (h110 90 2) := y138_ 2 (by decide) (by decide)
                      have g147 : h135 90 3 = (h110 90 3) := y138_ 3 (by decide) (by decide)
                      have g148 : h135 90 13 = (h110 90 13) := y138_ 13 (by decide) (by decide)
                      have g149 : h135 90 15 = (h110 90 15) := y138_ 15 (by decide) (by decide)
                      rcases y139 with f150 | f151 | f152
                      · skip
                        show ov_R u d ov_m230 167 [(0, ov_r 90), (1, ov_i dep), (2, ov_i j4), (5, ov_i j5)] [] z134 h135 (P_fMo_takePart_90 F z h t m N p dep)
                        have f153 : (h110 90 8) ≠ 0 ∧ (h135 90 8) = (h110 90 8) ∧ (h135 90 7) = (h110 90 7) ∧ (h135 93 ((h135 90 7))) = (h110 93 (h110 90 7)) := f150
                        clear f150
                        refine ov_goto (tgt := 212) d_230_167 (by decide) ?_
                        exact ov_retv (st := []) d_230_212 rfl ⟨rfl, I136, (fun a ca => (fr144 a ca)), (fun k n0 n1 n2 => (rk145 k n0 n1 n2)), (Or.inr (Or.inl ⟨w125, w126, (by show (h 90 8) = 0 ∧ (h135 90 8) = w125 ∧ 1 ≤ w125 ∧ (h 90 13) ≤ (h135 90 13) ∧ (h135 90 13) - (h 90 13) ≤ (h135 90 7) - (h 90 7) ∧ (h 90 7) ≤ (h135 90 7) ∧ (h135 90 7) ≤ N; omega), (pt_EV0_bf (by omega) (by omega) y128_ (by omega))⟩))⟩
                      · omega
                      · omega
                    · skip
                      show ov_R u d ov_m230 161 [(0, ov_r 90), (1, ov_i dep), (2, ov_i j4), (5, ov_i j5)] [] z109 h110 (P_fMo_takePart_90 F z h t m N p dep)
                      have f154 : (h37 90 8) = 0 ∧ (h110 90 8) = 0 ∧ (h37 90 13) ≤ (h110 90 13) ∧ (h110 90 13) - (h37 90 13) ≤ (h110 90 7) - (h37 90 7) ∧ (h37 90 7) ≤ (h110 90 7) ∧ (h110 90 7) ≤ N ∧ (h110 93 ((h110 90 7))) = w129 := f130
                      clear f130
                      have y131_ : pt_EV t m 6 (dep + 1) (pt_nt t m p) 0 w129 := y131
                      refine ov_blk (ls2 := [(0, ov_r 90), (1, ov_i dep), (2, ov_i j4), (5, ov_i j5)]) (st2 := [ov_i 41, ov_r 90]) (pc2 := 164) b_230_161_2 rfl rfl ?_
                      have cf155 : h110 93 ((h110 90 7)) = h 93 ((h110 90 7)) := congrFun E116 ((h110 90 7))
                      refine ov_cV (as := [ov_i 41]) (st := []) (d2 := d - 1) d_230_164 lk_Mo_214 rfl (Nat.le_of_ble_eq_true rfl) (c := 1) (zb_90 I111) (zs_90 I111) ⟨by decide, rfl⟩ (by omega) (c_fMo_takeSign_90 t m N w129 (d - 1) (by omega) U I111 41 (by omega) (by show 0 ≤ (h110 90 7) ∧ (h110 90 7) ≤ N; omega) (by show (h110 93 ((h110 90 7))) = w129; omega) (by show 0 ≤ (h110 90 8); omega) (by show 0 ≤ (41 : Int) ∧ (41 : Int) ≤ 65535; omega) (by rw [show h110 92 = h 92 from E115, show h110 93 = h 93 from E116, show h110 94 = h 94 from E117]; exact mt)) ?_
                      rintro _ z156 h157 ⟨rfl, I158, y159, y160, y161⟩
                      have E162 : h157 92 = h 92 := Eq.trans (y159 92 (by decide)) (show h110 92 = h 92 from E115)
                      have E163 : h157 93 = h 93 := Eq.trans (y159 93 (by decide)) (show h110 93 = h 93 from E116)
                      have E164 : h157 94 = h 94 := Eq.trans (y159 94 (by decide)) (show h110 94 = h 94 from E117)
                      have E165 : h157 95 = h 95 := Eq.trans (y159 95 (by decide)) (show h110 95 = h 95 from E118)
                      have fr166 : ∀ a : Int, a ≠ 90 ∧ (a < 97 ∨ 98 < a) → h157 a = h a := fun a ca => Eq.trans (y159 a (by omega)) (fr119 a ca)
                      have y160_ : ∀ k : Int, k ≠ 7 → k ≠ 8 → (h157 90) k = (h110 90) k := y160
                      have rk167 : ∀ k : Int, k ≠ 7 → k ≠ 8 → k ≠ 13 → h157 90 k = h 90 k := fun k n0 n1 n2 => Eq.trans (y160_ k n0 n1) (rk120 k n0 n1 n2)
                      have g168 : h157 90 2 = (h110 90 2) := y160_ 2 (by decide) (by decide)
                      have g169 : h157 90 3 = (h110 90 3) := y160_ 3 (by decide) (by decide)
                      have g170 : h157 90 13 = (h110 90 13) := y160_ 13 (by decide) (by decide)
                      have g171 : h157 90 15 = (h110 90 15) := y160_ 15 (by decide) (by decide)
                      rcases y161 with f172 | f173 | f174
                      · omega
                      · skip
                        show ov_R u d ov_m230 167 [(0, ov_r 90), (1, ov_i dep), (2, ov_i j4), (5, ov_i j5)] [] z156 h157 (P_fMo_takePart_90 F z h t m N p dep)
                        have f175 : (h110 90 8) = 0 ∧ pt_is t m w129 (41 : Int) = 0 ∧ (h157 90 8) = 1 + 16 * w129 ∧ 1 ≤ (h157 90 8) ∧ (h157 90 7) = (h110 90 7) ∧ (h157 93 ((h157 90 7))) = w129 := f173
                        clear f173
                        refine ov_goto (tgt := 212) d_230_167 (by decide) ?_
                        exact ov_retv (st := []) d_230_212 rfl ⟨rfl, I158, (fun a ca => (fr166 a ca)), (fun k n0 n1 n2 => (rk167 k n0 n1 n2)), (Or.inr (Or.inl ⟨(1 + 16 * w129), w129, (by show (h 90 8) = 0 ∧ (h157 90 8) = (1 + 16 * w129) ∧ 1 ≤ (1 + 16 * w129) ∧ (h 90 13) ≤ (h157 90 13) ∧ (h157 90 13) - (h 90 13) ≤ (h157 90 7) - (h 90 7) ∧ (h 90 7) ≤ (h157 90 7) ∧ (h157 90 7) ≤ N; omega), (pt_EV0_bs (by omega) (by omega) y131_ (by omega))⟩))⟩
                      · skip
                        show ov_R u d ov_m230 167 [(0, ov_r 90), (1, ov_i dep), (2, ov_i j4), (5, ov_i j5)] [] z156 h157 (P_fMo_takePart_90 F z h t m N p dep)
                        have f176 : (h110 90 8) = 0 ∧ pt_is t m w129 (41 : Int) = 1 ∧ (h157 90 8) = 0 ∧ (h157 90 7) = (h110 90 7) + 1 ∧ (h157 90 7) ≤ N ∧ (h157 93 ((h157 90 7))) = pt_nt t m w129 := f174
                        clear f174
                        refine ov_goto (tgt := 212) d_230_167 (by decide) ?_
                        exact ov_retv (st := []) d_230_212 rfl ⟨rfl, I158, (fun a ca => (fr166 a ca)), (fun k n0 n1 n2 => (rk167 k n0 n1 n2)), (Or.inr (Or.inr ⟨(pt_nt t m w129), (by show (h 90 8) = 0 ∧ (h157 90 8) = 0 ∧ (h 90 13) ≤ (h157 90 13) ∧ (h157 90 13) - (h 90 13) ≤ (h157 90 7) - (h 90 7) ∧ (h 90 7) ≤ (h157 90 7) ∧ (h157 90 7) ≤ N ∧ (h157 93 ((h157 90 7))) = (pt_nt t m w129); omega), (pt_EV0_b (by omega) (by omega) y131_ (by omega))⟩))⟩
              · omega
            · skip
              show ov_R u d ov_m230 126 [(0, ov_r 90), (1, ov_i dep), (2, ov_i j4), (5, ov_i j5)] [ov_i 1] z13 h14 (P_fMo_takePart_90 F z h t m N p dep)
              have f177 : (h 90 8) = 0 ∧ pt_iw t m p (7237492 : Int) = 1 ∧ pt_ty t m p = 2 ∧ (h14 90 7) = (h 90 7) + 1 ∧ (h14 90 7) ≤ N ∧ (h14 93 ((h14 90 7))) = pt_nt t m p := f31
              clear f31
              refine ov_ifeq (tgt := 145) d_230_126 (by decide) (by omega) (fun c178 => ?_) (fun c178 => ?_)
              · omega
              · skip
                refine ov_blk (ls2 := [(0, ov_r 90), (1, ov_i dep), (2, ov_i j4), (5, ov_i j5)]) (st2 := [ov_i (dep + 1), ov_r 90]) (pc2 := 133) b_230_129_4 rfl rfl ?_
                have cf179 : h14 93 ((h14 90 7)) = h 93 ((h14 90 7)) := congrFun E20 ((h14 90 7))
                refine ov_cV (as := [ov_i (dep + 1)]) (st := []) (d2 := d - 1) d_230_133 lk_Mo_269 rfl (Nat.le_of_ble_eq_true rfl) (c := 1) (zb_90 I15) (zs_90 I15) ⟨by decide, rfl⟩ (by omega) (HP (k - 1) (by omega) t m N (pt_nt t m p) (d - 1) (by omega) U I15 (dep + 1) (by omega) (by show 0 ≤ (h14 90 7) ∧ (h14 90 7) ≤ N; omega) (by show (h14 93 ((h14 90 7))) = (pt_nt t m p); omega) (by show 0 ≤ (h14 90 8); omega) (by show 0 ≤ (dep + 1) ∧ (dep + 1) + ((k - 1 : Nat) : Int) = 5; omega) (by show 0 ≤ (h14 90 13) ∧ (h14 90 13) ≤ (h14 90 7); omega) (by rw [show h14 92 = h 92 from E19, show h14 93 = h 93 from E20, show h14 94 = h 94 from E21]; exact mt) (by rw [show h14 95 = h 95 from E22]; exact wd)) ?_
                rintro _ z180 h181 ⟨rfl, I182, y183, y184, y185⟩
                have E186 : h181 92 = h 92 := Eq.trans (y183 92 (by decide)) (show h14 92 = h 92 from E19)
                have E187 : h181 93 = h 93 := Eq.trans (y183 93 (by decide)) (show h14 93 = h 93 from E20)
                have E188 : h181 94 = h 94 := Eq.trans (y183 94 (by decide)) (show h14 94 = h 94 from E21)
                have E189 : h181 95 = h 95 := Eq.trans (y183 95 (by decide)) (show h14 95 = h 95 from E22)
                have fr190 : ∀ a : Int, a ≠ 90 ∧ (a < 97 ∨ 98 < a) → h181 a = h a := fun a ca => Eq.trans (y183 a (by omega)) (fr23 a ca)
                have y184_ : ∀ k : Int, k ≠ 7 → k ≠ 8 → k ≠ 13 → (h181 90) k = (h14 90) k := y184
                have rk191 : ∀ k : Int, k ≠ 7 → k ≠ 8 → k ≠ 13 → h181 90 k = h 90 k := fun k n0 n1 n2 => Eq.trans (y184_ k n0 n1 n2) (rk24 k n0 n1 n2)
                have g192 : h181 90 2 = (h14 90 2) := y184_ 2 (by decide) (by decide) (by decide)
                have g193 : h181 90 3 = (h14 90 3) := y184_ 3 (by decide) (by decide) (by decide)
                have g194 : h181 90 15 = (h14 90 15) := y184_ 15 (by decide) (by decide) (by decide)
                rcases y185 with f195 | ⟨w196, w197, f198, y199⟩ | ⟨w200, f201, y202⟩
                · omega
                · skip
                  show ov_R u d ov_m230 136 [(0, ov_r 90), (1, ov_i dep), (2, ov_i j4), (5, ov_i j5)] [] z180 h181 (P_fMo_takePart_90 F z h t m N p dep)
                  have f203 : (h14 90 8) = 0 ∧ (h181 90 8) = w196 ∧ 1 ≤ w196 ∧ (h14 90 13) ≤ (h181 90 13) ∧ (h181 90 13) - (h14 90 13) ≤ (h181 90 7) - (h14 90 7) ∧ (h14 90 7) ≤ (h181 90 7) ∧ (h181 90 7) ≤ N := f198
                  clear f198
                  have y199_ : pt_EV t m 0 (dep + 1) (pt_nt t m p) w196 w197 := y199
                  refine ov_blk (ls2 := [(0, ov_r 90), (1, ov_i dep), (2, ov_i j4), (5, ov_i j5)]) (st2 := [ov_i 0, ov_i 3, ov_r 90]) (pc2 := 139) b_230_136_3 rfl rfl ?_
                  have cf204 : h181 93 ((h181 90 7)) = h 93 ((h181 90 7)) := congrFun E187 ((h181 90 7))
                  refine ov_cV (as := [ov_i 3, ov_i 0]) (st := []) (d2 := d - 1) d_230_139 lk_Mo_246 rfl (Nat.le_of_ble_eq_true rfl) (c := 1) (zb_90 I182) (zs_90 I182) ⟨by decide, rfl⟩ (by omega) (c_fMo_emit_90 (h181 93 (h181 90 7)) (d - 1) (by omega) U I182 3 0 (by omega) (by omega) (by show 0 ≤ (3 : Int) ∧ (3 : Int) ≤ 10; omega) (by show (h181 90 13) ≤ 999; omega) (by show (h181 93 ((h181 90 7))) = (h181 93 (h181 90 7)); omega)) ?_
                  rintro _ z205 h206 ⟨rfl, I207, y208, f209, y210⟩
                  have E211 : h206 92 = h 92 := Eq.trans (y208 92 (by decide)) (show h181 92 = h 92 from E186)
                  have E212 : h206 93 = h 93 := Eq.trans (y208 93 (by decide)) (show h181 93 = h 93 from E187)
                  have E213 : h206 94 = h 94 := Eq.trans (y208 94 (by decide)) (show h181 94 = h 94 from E188)
                  have E214 : h206 95 = h 95 := Eq.trans (y208 95 (by decide)) (show h181 95 = h 95 from E189)
                  have fr215 : ∀ a : Int, a ≠ 90 ∧ (a < 97 ∨ 98 < a) → h206 a = h a := fun a ca => Eq.trans (y208 a (by omega)) (fr190 a ca)
                  have f217 : (h206 90 13) = (h181 90 13) + 1 ∧ (h206 90 7) = (h181 90 7) ∧ (h206 90 8) = (h181 90 8) ∧ (h206 93 ((h206 90 7))) = (h181 93 (h181 90 7)) := f209
                  clear f209
                  have y210_ : ∀ k : Int, k ≠ 13 → (h206 90) k = (h181 90) k := y210
                  have rk216 : ∀ k : Int, k ≠ 7 → k ≠ 8 → k ≠ 13 → h206 90 k = h 90 k := fun k n0 n1 n2 => Eq.trans (y210_ k n2) (rk191 k n0 n1 n2)
                  have g218 : h206 90 2 = (h181 90 2) := y210_ 2 (by decide)
                  have g219 : h206 90 3 = (h181 90 3) := y210_ 3 (by decide)
                  have g220 : h206 90 7 = (h181 90 7) := y210_ 7 (by decide)
                  have g221 : h206 90 8 = (h181 90 8) := y210_ 8 (by decide)
                  have g222 : h206 90 15 = (h181 90 15) := y210_ 15 (by decide)
                  show ov_R u d ov_m230 142 [(0, ov_r 90), (1, ov_i dep), (2, ov_i j4), (5, ov_i j5)] [] z205 h206 (P_fMo_takePart_90 F z h t m N p dep)
                  refine ov_goto (tgt := 212) d_230_142 (by decide) ?_
                  exact ov_retv (st := []) d_230_212 rfl ⟨rfl, I207, (fun a ca => (fr215 a ca)), (fun k n0 n1 n2 => (rk216 k n0 n1 n2)), (Or.inr (Or.inl ⟨w196, w197, (by show (h 90 8) = 0 ∧ (h206 90 8) = w196 ∧ 1 ≤ w196 ∧ (h 90 13) ≤ (h206 90 13) ∧ (h206 90 13) - (h 90 13) ≤ (h206 90 7) - (h 90 7) ∧ (h 90 7) ≤ (h206 90 7) ∧ (h206 90 7) ≤ N; omega), (pt_EV0_not (by omega) (by omega) (by omega) y199_)⟩))⟩
                · skip
                  show ov_R u d ov_m230 136 [(0, ov_r 90), (1, ov_i dep), (2, ov_i j4), (5, ov_i j5)] [] z180 h181 (P_fMo_takePart_90 F z h t m N p dep)
                  have f223 : (h14 90 8) = 0 ∧ (h181 90 8) = 0 ∧ (h14 90 13) ≤ (h181 90 13) ∧ (h181 90 13) - (h14 90 13) ≤ (h181 90 7) - (h14 90 7) ∧ (h14 90 7) ≤ (h181 90 7) ∧ (h181 90 7) ≤ N ∧ (h181 93 ((h181 90 7))) = w200 := f201
                  clear f201
                  have y202_ : pt_EV t m 0 (dep + 1) (pt_nt t m p) 0 w200 := y202
                  refine ov_blk (ls2 := [(0, ov_r 90), (1, ov_i dep), (2, ov_i j4), (5, ov_i j5)]) (st2 := [ov_i 0, ov_i 3, ov_r 90]) (pc2 := 139) b_230_136_3 rfl rfl ?_
                  have cf224 : h181 93 ((h181 90 7)) = h 93 ((h181 90 7)) := congrFun E187 ((h181 90 7))
                  refine ov_cV (as := [ov_i 3, ov_i 0]) (st := []) (d2 := d - 1) d_230_139 lk_Mo_246 rfl (Nat.le_of_ble_eq_true rfl) (c := 1) (zb_90 I182) (zs_90 I182) ⟨by decide, rfl⟩ (by omega) (c_fMo_emit_90 w200 (d - 1) (by omega) U I182 3 0 (by omega) (by omega) (by show 0 ≤ (3 : Int) ∧ (3 : Int) ≤ 10; omega) (by show (h181 90 13) ≤ 999; omega) (by show (h181 93 ((h181 90 7))) = w200; omega)) ?_
                  rintro _ z225 h226 ⟨rfl, I227, y228, f229, y230⟩
                  have E231 : h226 92 = h 92 := Eq.trans (y228 92 (by decide)) (show h181 92 = h 92 from E186)
                  have E232 : h226 93 = h 93 := Eq.trans (y228 93 (by decide)) (show h181 93 = h 93 from E187)
                  have E233 : h226 94 = h 94 := Eq.trans (y228 94 (by decide)) (show h181 94 = h 94 from E188)
                  have E234 : h226 95 = h 95 := Eq.trans (y228 95 (by decide)) (show h181 95 = h 95 from E189)
                  have fr235 : ∀ a : Int, a ≠ 90 ∧ (a < 97 ∨ 98 < a) → h226 a = h a := fun a ca => Eq.trans (y228 a (by omega)) (fr190 a ca)
                  have f237 : (h226 90 13) = (h181 90 13) + 1 ∧ (h226 90 7) = (h181 90 7) ∧ (h226 90 8) = (h181 90 8) ∧ (h226 93 ((h226 90 7))) = w200 := f229
                  clear f229
                  have y230_ : ∀ k : Int, k ≠ 13 → (h226 90) k = (h181 90) k := y230
                  have rk236 : ∀ k : Int, k ≠ 7 → k ≠ 8 → k ≠ 13 → h226 90 k = h 90 k := fun k n0 n1 n2 => Eq.trans (y230_ k n2) (rk191 k n0 n1 n2)
                  have g238 : h226 90 2 = (h181 90 2) := y230_ 2 (by decide)
                  have g239 : h226 90 3 = (h181 90 3) := y230_ 3 (by decide)
                  have g240 : h226 90 7 = (h181 90 7) := y230_ 7 (by decide)
                  have g241 : h226 90 8 = (h181 90 8) := y230_ 8 (by decide)
                  have g242 : h226 90 15 = (h181 90 15) := y230_ 15 (by decide)
                  show ov_R u d ov_m230 142 [(0, ov_r 90), (1, ov_i dep), (2, ov_i j4), (5, ov_i j5)] [] z225 h226 (P_fMo_takePart_90 F z h t m N p dep)
                  refine ov_goto (tgt := 212) d_230_142 (by decide) ?_
                  exact ov_retv (st := []) d_230_212 rfl ⟨rfl, I227, (fun a ca => (fr235 a ca)), (fun k n0 n1 n2 => (rk236 k n0 n1 n2)), (Or.inr (Or.inr ⟨w200, (by show (h 90 8) = 0 ∧ (h226 90 8) = 0 ∧ (h 90 13) ≤ (h226 90 13) ∧ (h226 90 13) - (h 90 13) ≤ (h226 90 7) - (h 90 7) ∧ (h 90 7) ≤ (h226 90 7) ∧ (h226 90 7) ≤ N ∧ (h226 93 ((h226 90 7))) = w200; omega), (pt_EV0_not (by omega) (by omega) (by omega) y202_)⟩))⟩
          · omega
        · skip
          refine ov_blk (ls2 := [(0, ov_r 90), (1, ov_i dep), (2, ov_i j4), (5, ov_i j5)]) (st2 := [ov_i 5, ov_r 90]) (pc2 := 109) b_230_107_2 rfl rfl ?_
          refine ov_cV (as := [ov_i 5]) (st := []) (d2 := d - 1) d_230_109 lk_Mo_186 rfl (Nat.le_of_ble_eq_true rfl) (c := 1) (zb_90 I) (zs_90 I) ⟨by decide, rfl⟩ (by omega) (c_fMo_wrong_90 t m N p (d - 1) (by omega) U I 5 (by omega) (by show 0 ≤ (h 90 7) ∧ (h 90 7) ≤ N; omega) (by show (h 93 ((h 90 7))) = p; omega) (by show 0 ≤ (h 90 8); omega) (by show 1 ≤ (5 : Int) ∧ (5 : Int) ≤ 5; omega) mt) ?_
          rintro _ z243 h244 ⟨rfl, I245, y246, y247, y248⟩
          have E249 : h244 92 = h 92 := Eq.trans (y246 92 (by decide)) (show h 92 = h 92 from rfl)
          have E250 : h244 93 = h 93 := Eq.trans (y246 93 (by decide)) (show h 93 = h 93 from rfl)
          have E251 : h244 94 = h 94 := Eq.trans (y246 94 (by decide)) (show h 94 = h 94 from rfl)
          have E252 : h244 95 = h 95 := Eq.trans (y246 95 (by decide)) (show h 95 = h 95 from rfl)
          have fr253 : ∀ a : Int, a ≠ 90 ∧ (a < 97 ∨ 98 < a) → h244 a = h a := fun a ca => Eq.trans (y246 a (by omega)) rfl
          have y247_ : ∀ k : Int, k ≠ 8 → (h244 90) k = (h 90) k := y247
          have rk254 : ∀ k : Int, k ≠ 7 → k ≠ 8 → k ≠ 13 → h244 90 k = h 90 k := fun k n0 n1 n2 => Eq.trans (y247_ k n1) rfl
          have g255 : h244 90 2 = (h 90 2) := y247_ 2 (by decide)
          have g256 : h244 90 3 = (h 90 3) := y247_ 3 (by decide)
          have g257 : h244 90 7 = (h 90 7) := y247_ 7 (by decide)
          have g258 : h244 90 13 = (h 90 13) := y247_ 13 (by decide)
          have g259 : h244 90 15 = (h 90 15) := y247_ 15 (by decide)
          rcases y248 with f260 | f261
          · omega
          · skip
            show ov_R u d ov_m230 112 [(0, ov_r 90), (1, ov_i dep), (2, ov_i j4), (5, ov_i j5)] [] z243 h244 (P_fMo_takePart_90 F z h t m N p dep)
            have f262 : (h 90 8) = 0 ∧ (h244 90 8) = (5 : Int) + 16 * p ∧ (h244 93 ((h244 90 7))) = p := f261
            clear f261
            refine ov_blk (ls2 := [(0, ov_r 90), (1, ov_i dep), (2, ov_i j4), (5, ov_i j5)]) (st2 := [ov_r 90]) (pc2 := 113) b_230_112_1 rfl rfl ?_
            refine ov_getf (v := ov_i (h244 90 8)) d_230_113 fl_Mo_180 (zb_90 I245) (zs_90 I245) rfl ?_
            have g263 := rg_90_8 I245
            refine ov_ifle (tgt := 120) d_230_116 (by decide) (by omega) (fun c264 => ?_) (fun c264 => ?_)
            · omega
            · skip
              exact ov_retv (st := []) d_230_119 rfl ⟨rfl, I245, (fun a ca => (fr253 a ca)), (fun k n0 n1 n2 => (rk254 k n0 n1 n2)), (Or.inr (Or.inl ⟨(5 + 16 * p), p, (by show (h 90 8) = 0 ∧ (h244 90 8) = (5 + 16 * p) ∧ 1 ≤ (5 + 16 * p) ∧ (h 90 13) ≤ (h244 90 13) ∧ (h244 90 13) - (h 90 13) ≤ (h244 90 7) - (h 90 7) ∧ (h 90 7) ≤ (h244 90 7) ∧ (h244 90 7) ≤ N; omega), (pt_EV0_deep (fun w => by omega) (by omega))⟩))⟩
      refine ov_blk (ls2 := [(0, ov_r 90), (1, ov_i dep), (2, ov_i j4), (5, ov_i j5)]) (st2 := [ov_i j5]) (pc2 := 69) b_230_67_1 rfl rfl ?_
      refine ov_ifge (tgt := 102) d_230_69 (by decide) (by omega) (fun c265 => ?_) (fun c265 => ?_)
      · skip
        exact J7  (by show (0 ≤ j5 ∨ j4 = 1 ∨ pt_is t m p 40 = 1 ∨ pt_iw t m p 7237492 = 1); omega)
      · skip
        refine ov_blk (ls2 := [(0, ov_r 90), (1, ov_i dep), (2, ov_i j4), (5, ov_i j5)]) (st2 := [ov_i j4]) (pc2 := 73) b_230_72_1 rfl rfl ?_
        refine ov_ifne (tgt := 102) d_230_73 (by decide) (by omega) (fun c266 => ?_) (fun c266 => ?_)
        · skip
          exact J7  (by show (0 ≤ j5 ∨ j4 = 1 ∨ pt_is t m p 40 = 1 ∨ pt_iw t m p 7237492 = 1); omega)
        · skip
          refine ov_blk (ls2 := [(0, ov_r 90), (1, ov_i dep), (2, ov_i j4), (5, ov_i j5)]) (st2 := [ov_i 40, ov_r 90]) (pc2 := 79) b_230_76_2 rfl rfl ?_
          refine ov_cV (as := [ov_i 40]) (st := []) (d2 := d - 1) d_230_79 lk_Mo_183 rfl (Nat.le_of_ble_eq_true rfl) (c := 1) (zb_90 I) (zs_90 I) ⟨by decide, rfl⟩ (by omega) (c_fMo_isSign_90 t m N p (d - 1) (by omega) U I 40 (by omega) (by show 0 ≤ (h 90 7) ∧ (h 90 7) ≤ N; omega) (by show (h 93 ((h 90 7))) = p; omega) (by show 0 ≤ (h 90 8); omega) (by show 0 ≤ (40 : Int) ∧ (40 : Int) ≤ 65535; omega) mt) ?_
          rintro _ _ _ ⟨v267, rfl, rfl, rfl, y268⟩
          rcases y268 with ⟨rfl, f269⟩ | ⟨rfl, f270⟩
          · skip
            show ov_R u d ov_m230 82 [(0, ov_r 90), (1, ov_i dep), (2, ov_i j4), (5, ov_i j5)] [ov_i 0] z h (P_fMo_takePart_90 F z h t m N p dep)
            have f271 : (h 90 8) ≠ 0 ∨ pt_is t m p (40 : Int) = 0 := f269
            clear f269
            refine ov_ifne (tgt := 102) d_230_82 (by decide) (by omega) (fun c272 => ?_) (fun c272 => ?_)
            · omega
            · skip
              refine ov_blk (ls2 := [(0, ov_r 90), (1, ov_i dep), (2, ov_i j4), (5, ov_i j5)]) (st2 := [ov_i 17, ov_r 90]) (pc2 := 88) b_230_85_2 rfl rfl ?_
              refine ov_cV (as := [ov_i 17]) (st := []) (d2 := d - 1) d_230_88 lk_Mo_189 rfl (Nat.le_of_ble_eq_true rfl) (c := 1) (zb_90 I) (zs_90 I) ⟨by decide, rfl⟩ (by omega) (c_fMo_isWord_90 t m N p 7237492 (d - 1) (by omega) U I 17 (by omega) (by show 0 ≤ (h 90 7) ∧ (h 90 7) ≤ N; omega) (by show (h 93 ((h 90 7))) = p; omega) (by show 0 ≤ (h 90 8); omega) (by show 0 ≤ (17 : Int) ∧ (17 : Int) ≤ 21; omega) mt wd (by decide +kernel)) ?_
              rintro _ _ _ ⟨v273, rfl, rfl, rfl, y274⟩
              rcases y274 with ⟨rfl, f275⟩ | ⟨rfl, f276⟩
              · skip
                show ov_R u d ov_m230 91 [(0, ov_r 90), (1, ov_i dep), (2, ov_i j4), (5, ov_i j5)] [ov_i 0] z h (P_fMo_takePart_90 F z h t m N p dep)
                have f277 : (h 90 8) ≠ 0 ∨ pt_iw t m p (7237492 : Int) = 0 := f275
                clear f275
                refine ov_ifne (tgt := 102) d_230_91 (by decide) (by omega) (fun c278 => ?_) (fun c278 => ?_)
                · omega
                · skip
                  refine ov_blk (ls2 := [(0, ov_r 90), (1, ov_i dep), (2, ov_i j4), (5, ov_i j5)]) (st2 := [ov_i 1, ov_r 90]) (pc2 := 96) b_230_94_2 rfl rfl ?_
                  refine ov_cV (as := [ov_i 1]) (st := []) (d2 := d - 1) d_230_96 lk_Mo_186 rfl (Nat.le_of_ble_eq_true rfl) (c := 1) (zb_90 I) (zs_90 I) ⟨by decide, rfl⟩ (by omega) (c_fMo_wrong_90 t m N p (d - 1) (by omega) U I 1 (by omega) (by show 0 ≤ (h 90 7) ∧ (h 90 7) ≤ N; omega) (by show (h 93 ((h 90 7))) = p; omega) (by show 0 ≤ (h 90 8); omega) (by show 1 ≤ (1 : Int) ∧ (1 : Int) ≤ 5; omega) mt) ?_
                  rintro _ z279 h280 ⟨rfl, I281, y282, y283, y284⟩
                  have E285 : h280 92 = h 92 := Eq.trans (y282 92 (by decide)) (show h 92 = h 92 from rfl)
                  have E286 : h280 93 = h 93 := Eq.trans (y282 93 (by decide)) (show h 93 = h 93 from rfl)
                  have E287 : h280 94 = h 94 := Eq.trans (y282 94 (by decide)) (show h 94 = h 94 from rfl)
                  have E288 : h280 95 = h 95 := Eq.trans (y282 95 (by decide)) (show h 95 = h 95 from rfl)
                  have fr289 : ∀ a : Int, a ≠ 90 ∧ (a < 97 ∨ 98 < a) → h280 a = h a := fun a ca => Eq.trans (y282 a (by omega)) rfl
                  have y283_ : ∀ k : Int, k ≠ 8 → (h280 90) k = (h 90) k := y283
                  have rk290 : ∀ k : Int, k ≠ 7 → k ≠ 8 → k ≠ 13 → h280 90 k = h 90 k := fun k n0 n1 n2 => Eq.trans (y283_ k n1) rfl
                  have g291 : h280 90 2 = (h 90 2) := y283_ 2 (by decide)
                  have g292 : h280 90 3 = (h 90 3) := y283_ 3 (by decide)
                  have g293 : h280 90 7 = (h 90 7) := y283_ 7 (by decide)
                  have g294 : h280 90 13 = (h 90 13) := y283_ 13 (by decide)
                  have g295 : h280 90 15 = (h 90 15) := y283_ 15 (by decide)
                  rcases y284 with f296 | f297
                  · omega
                  · skip
                    show ov_R u d ov_m230 99 [(0, ov_r 90), (1, ov_i dep), (2, ov_i j4), (5, ov_i j5)] [] z279 h280 (P_fMo_takePart_90 F z h t m N p dep)
                    have f298 : (h 90 8) = 0 ∧ (h280 90 8) = (1 : Int) + 16 * p ∧ (h280 93 ((h280 90 7))) = p := f297
                    clear f297
                    refine ov_goto (tgt := 112) d_230_99 (by decide) ?_
                    refine ov_blk (ls2 := [(0, ov_r 90), (1, ov_i dep), (2, ov_i j4), (5, ov_i j5)]) (st2 := [ov_r 90]) (pc2 := 113) b_230_112_1 rfl rfl ?_
                    refine ov_getf (v := ov_i (h280 90 8)) d_230_113 fl_Mo_180 (zb_90 I281) (zs_90 I281) rfl ?_
                    have g299 := rg_90_8 I281
                    refine ov_ifle (tgt := 120) d_230_116 (by decide) (by omega) (fun c300 => ?_) (fun c300 => ?_)
                    · omega
                    · skip
                      exact ov_retv (st := []) d_230_119 rfl ⟨rfl, I281, (fun a ca => (fr289 a ca)), (fun k n0 n1 n2 => (rk290 k n0 n1 n2)), (Or.inr (Or.inl ⟨(1 + 16 * p), p, (by show (h 90 8) = 0 ∧ (h280 90 8) = (1 + 16 * p) ∧ 1 ≤ (1 + 16 * p) ∧ (h 90 13) ≤ (h280 90 13) ∧ (h280 90 13) - (h 90 13) ≤ (h280 90 7) - (h 90 7) ∧ (h 90 7) ≤ (h280 90 7) ∧ (h280 90 7) ≤ N; omega), (pt_EV0_bad ⟨by omega, by omega, by omega⟩)⟩))⟩
              · skip
                show ov_R u d ov_m230 91 [(0, ov_r 90), (1, ov_i dep), (2, ov_i j4), (5, ov_i j5)] [ov_i 1] z h (P_fMo_takePart_90 F z h t m N p dep)
                have f301 : (h 90 8) = 0 ∧ pt_iw t m p (7237492 : Int) = 1 ∧ pt_ty t m p = 2 := f276
                clear f276
                refine ov_ifne (tgt := 102) d_230_91 (by decide) (by omega) (fun c302 => ?_) (fun c302 => ?_)
                · skip
                  exact J7  (by show (0 ≤ j5 ∨ j4 = 1 ∨ pt_is t m p 40 = 1 ∨ pt_iw t m p 7237492 = 1); omega)
                · omega
          · skip
            show ov_R u d ov_m230 82 [(0, ov_r 90), (1, ov_i dep), (2, ov_i j4), (5, ov_i j5)] [ov_i 1] z h (P_fMo_takePart_90 F z h t m N p dep)
            have f303 : (h 90 8) = 0 ∧ pt_is t m p (40 : Int) = 1 ∧ pt_ty t m p = 4 := f270
            clear f270
            refine ov_ifne (tgt := 102) d_230_82 (by decide) (by omega) (fun c304 => ?_) (fun c304 => ?_)
            · skip
              exact J7  (by show (0 ≤ j5 ∨ j4 = 1 ∨ pt_is t m p 40 = 1 ∨ pt_iw t m p 7237492 = 1); omega)
            · omega
    refine ov_blk (ls2 := [(0, ov_r 90), (1, ov_i dep)]) (st2 := [ov_r 90]) (pc2 := 9) b_230_8_1 rfl rfl ?_
    refine ov_getf (v := ov_r 92) d_230_9 fl_Mo_24 (zb_90 I) (zs_90 I) (congrArg ov_r (rg_90_4 I)) ?_
    refine ov_blk (ls2 := [(0, ov_r 90), (1, ov_i dep)]) (st2 := [ov_r 90, ov_r 92]) (pc2 := 13) b_230_12_1 rfl rfl ?_
    refine ov_getf (v := ov_i (h 90 7)) d_230_13 fl_Mo_177 (zb_90 I) (zs_90 I) rfl ?_
    have g305 := rg_90_7 I
    refine ov_iald d_230_16 (zb_92 I) (zs_92 I) (by omega) ?_
    have g307 := ra_92 I (h 90 7)
    have e306 : h 92 (h 90 7) = (pt_cm (pt_ty t m p)) := m2
    rw [e306] at g307
    rw [e306]
    show ov_R u d ov_m230 17 [(0, ov_r 90), (1, ov_i dep)] [ov_i (pt_cm (pt_ty t m p))] z h (P_fMo_takePart_90 F z h t m N p dep)
    refine ov_blk (ls2 := [(0, ov_r 90), (1, ov_i dep)]) (st2 := [ov_i 2, ov_i (pt_cm (pt_ty t m p))]) (pc2 := 18) b_230_17_1 rfl rfl ?_
    refine ov_icne (tgt := 25) d_230_18 (by decide) (by omega) (by omega) (fun c308 => ?_) (fun c308 => ?_)
    · skip
      refine ov_blk (ls2 := [(0, ov_r 90), (1, ov_i dep), (2, ov_i 0)]) (st2 := [ov_i 2, ov_i 10, ov_r 90]) (pc2 := 31) b_230_25_5 rfl rfl ?_
      refine ov_cV (as := [ov_i 10, ov_i 2]) (st := []) (d2 := d - 1) d_230_31 lk_Mo_202 rfl (Nat.le_of_ble_eq_true rfl) (c := 1) (zb_90 I) (zs_90 I) ⟨by decide, rfl⟩ (by omega) (c_fMo_wordHere_90 t m N p (d - 1) (by omega) U I 10 2 (by omega) (by omega) (by show 0 ≤ (h 90 7) ∧ (h 90 7) ≤ N; omega) (by show (h 93 ((h 90 7))) = p; omega) (by show 0 ≤ (h 90 8); omega) (by show 0 ≤ (10 : Int) ∧ 0 ≤ (2 : Int) ∧ (10 : Int) + (2 : Int) ≤ 22; omega) mt wd) ?_
      rintro _ _ _ ⟨v309, rfl, rfl, rfl, f310⟩
      have f311 : ((h 90 8) ≠ 0 ∧ v309 = -1 ∨ (h 90 8) = 0 ∧ v309 = pt_wh t m p (10 : Int) (Int.toNat (2 : Int))) ∧ -1 ≤ v309 ∧ v309 ≤ (2 : Int) := f310
      clear f310
      show ov_R u d ov_m230 34 [(0, ov_r 90), (1, ov_i dep), (2, ov_i 0)] [ov_i v309] z h (P_fMo_takePart_90 F z h t m N p dep)
      refine ov_blk (ls2 := [(0, ov_r 90), (1, ov_i dep), (2, ov_i 0), (3, ov_i v309)]) (st2 := [ov_i 2, ov_i 20, ov_r 90]) (pc2 := 39) b_230_34_4 rfl rfl ?_
      refine ov_cV (as := [ov_i 20, ov_i 2]) (st := []) (d2 := d - 1) d_230_39 lk_Mo_202 rfl (Nat.le_of_ble_eq_true rfl) (c := 1) (zb_90 I) (zs_90 I) ⟨by decide, rfl⟩ (by omega) (c_fMo_wordHere_90 t m N p (d - 1) (by omega) U I 20 2 (by omega) (by omega) (by show 0 ≤ (h 90 7) ∧ (h 90 7) ≤ N; omega) (by show (h 93 ((h 90 7))) = p; omega) (by show 0 ≤ (h 90 8); omega) (by show 0 ≤ (20 : Int) ∧ 0 ≤ (2 : Int) ∧ (20 : Int) + (2 : Int) ≤ 22; omega) mt wd) ?_
      rintro _ _ _ ⟨v312, rfl, rfl, rfl, f313⟩
      have f314 : ((h 90 8) ≠ 0 ∧ v312 = -1 ∨ (h 90 8) = 0 ∧ v312 = pt_wh t m p (20 : Int) (Int.toNat (2 : Int))) ∧ -1 ≤ v312 ∧ v312 ≤ (2 : Int) := f313
      clear f313
      show ov_R u d ov_m230 42 [(0, ov_r 90), (1, ov_i dep), (2, ov_i 0), (3, ov_i v309)] [ov_i v312] z h (P_fMo_takePart_90 F z h t m N p dep)
      refine ov_blk (ls2 := [(0, ov_r 90), (1, ov_i dep), (2, ov_i 0), (3, ov_i v309), (4, ov_i v312)]) (st2 := [ov_i v309]) (pc2 := 45) b_230_42_2 rfl rfl ?_
      refine ov_iflt (tgt := 52) d_230_45 (by decide) (by omega) (fun c315 => ?_) (fun c315 => ?_)
      · skip
        refine ov_blk (ls2 := [(0, ov_r 90), (1, ov_i dep), (2, ov_i 0), (3, ov_i v309), (4, ov_i v312)]) (st2 := [ov_i v312]) (pc2 := 54) b_230_52_1 rfl rfl ?_
        refine ov_iflt (tgt := 64) d_230_54 (by decide) (by omega) (fun c316 => ?_) (fun c316 => ?_)
        · skip
          refine ov_blk (ls2 := [(0, ov_r 90), (1, ov_i dep), (2, ov_i 0), (3, ov_i v309), (4, ov_i v312), (5, ov_i (-1))]) (st2 := []) (pc2 := 67) b_230_64_2 rfl rfl ?_
          refine ov_sub (ls2 := [(0, ov_r 90), (1, ov_i dep), (2, ov_i 0), (5, ov_i (-1))]) (List.Sublist.subset (by repeat (first | exact List.Sublist.refl _ | apply List.Sublist.cons_cons | apply List.Sublist.cons))) ?_
          exact J3 0 (-1) (by show (0 = 1 ∧ pt_ty t m p = 3 ∨ 0 = 0 ∧ pt_ty t m p ≠ 3) ∧ -1 ≤ (-1) ∧ (-1) ≤ 4 ∧ (0 ≤ (-1) ∧ (0 ≤ pt_wh t m p 10 (Int.toNat 2) ∨ 0 ≤ pt_wh t m p 20 (Int.toNat 2)) ∨ (-1) < 0 ∧ pt_wh t m p 10 (Int.toNat 2) < 0 ∧ pt_wh t m p 20 (Int.toNat 2) < 0); omega)
        · skip
          refine ov_blk (ls2 := [(0, ov_r 90), (1, ov_i dep), (2, ov_i 0), (3, ov_i v309), (4, ov_i v312)]) (st2 := [ov_i (2 + v312)]) (pc2 := 61) b_230_57_3 rfl rfl ?_
          refine ov_goto (tgt := 65) d_230_61 (by decide) ?_
          refine ov_blk (ls2 := [(0, ov_r 90), (1, ov_i dep), (2, ov_i 0), (3, ov_i v309), (4, ov_i v312), (5, ov_i (2 + v312))]) (st2 := []) (pc2 := 67) b_230_65_1 rfl rfl ?_
          refine ov_sub (ls2 := [(0, ov_r 90), (1, ov_i dep), (2, ov_i 0), (5, ov_i (2 + v312))]) (List.Sublist.subset (by repeat (first | exact List.Sublist.refl _ | apply List.Sublist.cons_cons | apply List.Sublist.cons))) ?_
          exact J3 0 (2 + v312) (by show (0 = 1 ∧ pt_ty t m p = 3 ∨ 0 = 0 ∧ pt_ty t m p ≠ 3) ∧ -1 ≤ (2 + v312) ∧ (2 + v312) ≤ 4 ∧ (0 ≤ (2 + v312) ∧ (0 ≤ pt_wh t m p 10 (Int.toNat 2) ∨ 0 ≤ pt_wh t m p 20 (Int.toNat 2)) ∨ (2 + v312) < 0 ∧ pt_wh t m p 10 (Int.toNat 2) < 0 ∧ pt_wh t m p 20 (Int.toNat 2) < 0); omega)
      · skip
        refine ov_blk (ls2 := [(0, ov_r 90), (1, ov_i dep), (2, ov_i 0), (3, ov_i v309), (4, ov_i v312)]) (st2 := [ov_i v309]) (pc2 := 49) b_230_48_1 rfl rfl ?_
        refine ov_goto (tgt := 65) d_230_49 (by decide) ?_
        refine ov_blk (ls2 := [(0, ov_r 90), (1, ov_i dep), (2, ov_i 0), (3, ov_i v309), (4, ov_i v312), (5, ov_i v309)]) (st2 := []) (pc2 := 67) b_230_65_1 rfl rfl ?_
        refine ov_sub (ls2 := [(0, ov_r 90), (1, ov_i dep), (2, ov_i 0), (5, ov_i v309)]) (List.Sublist.subset (by repeat (first | exact List.Sublist.refl _ | apply List.Sublist.cons_cons | apply List.Sublist.cons))) ?_
        exact J3 0 v309 (by show (0 = 1 ∧ pt_ty t m p = 3 ∨ 0 = 0 ∧ pt_ty t m p ≠ 3) ∧ -1 ≤ v309 ∧ v309 ≤ 4 ∧ (0 ≤ v309 ∧ (0 ≤ pt_wh t m p 10 (Int.toNat 2) ∨ 0 ≤ pt_wh t m p 20 (Int.toNat 2)) ∨ v309 < 0 ∧ pt_wh t m p 10 (Int.toNat 2) < 0 ∧ pt_wh t m p 20 (Int.toNat 2) < 0); omega)
    · skip
      refine ov_blk (ls2 := [(0, ov_r 90), (1, ov_i dep)]) (st2 := [ov_i 1]) (pc2 := 22) b_230_21_1 rfl rfl ?_
      refine ov_goto (tgt := 26) d_230_22 (by decide) ?_
      refine ov_blk (ls2 := [(0, ov_r 90), (1, ov_i dep), (2, ov_i 1)]) (st2 := [ov_i 2, ov_i 10, ov_r 90]) (pc2 := 31) b_230_26_4 rfl rfl ?_
      refine ov_cV (as := [ov_i 10, ov_i 2]) (st := []) (d2 := d - 1) d_230_31 lk_Mo_202 rfl (Nat.le_of_ble_eq_true rfl) (c := 1) (zb_90 I) (zs_90 I) ⟨by decide, rfl⟩ (by omega) (c_fMo_wordHere_90 t m N p (d - 1) (by omega) U I 10 2 (by omega) (by omega) (by show 0 ≤ (h 90 7) ∧ (h 90 7) ≤ N; omega) (by show (h 93 ((h 90 7))) = p; omega) (by show 0 ≤ (h 90 8); omega) (by show 0 ≤ (10 : Int) ∧ 0 ≤ (2 : Int) ∧ (10 : Int) + (2 : Int) ≤ 22; omega) mt wd) ?_
      rintro _ _ _ ⟨v317, rfl, rfl, rfl, f318⟩
      have f319 : ((h 90 8) ≠ 0 ∧ v317 = -1 ∨ (h 90 8) = 0 ∧ v317 = pt_wh t m p (10 : Int) (Int.toNat (2 : Int))) ∧ -1 ≤ v317 ∧ v317 ≤ (2 : Int) := f318
      clear f318
      show ov_R u d ov_m230 34 [(0, ov_r 90), (1, ov_i dep), (2, ov_i 1)] [ov_i v317] z h (P_fMo_takePart_90 F z h t m N p dep)
      refine ov_blk (ls2 := [(0, ov_r 90), (1, ov_i dep), (2, ov_i 1), (3, ov_i v317)]) (st2 := [ov_i 2, ov_i 20, ov_r 90]) (pc2 := 39) b_230_34_4 rfl rfl ?_
      refine ov_cV (as := [ov_i 20, ov_i 2]) (st := []) (d2 := d - 1) d_230_39 lk_Mo_202 rfl (Nat.le_of_ble_eq_true rfl) (c := 1) (zb_90 I) (zs_90 I) ⟨by decide, rfl⟩ (by omega) (c_fMo_wordHere_90 t m N p (d - 1) (by omega) U I 20 2 (by omega) (by omega) (by show 0 ≤ (h 90 7) ∧ (h 90 7) ≤ N; omega) (by show (h 93 ((h 90 7))) = p; omega) (by show 0 ≤ (h 90 8); omega) (by show 0 ≤ (20 : Int) ∧ 0 ≤ (2 : Int) ∧ (20 : Int) + (2 : Int) ≤ 22; omega) mt wd) ?_
      rintro _ _ _ ⟨v320, rfl, rfl, rfl, f321⟩
      have f322 : ((h 90 8) ≠ 0 ∧ v320 = -1 ∨ (h 90 8) = 0 ∧ v320 = pt_wh t m p (20 : Int) (Int.toNat (2 : Int))) ∧ -1 ≤ v320 ∧ v320 ≤ (2 : Int) := f321
      clear f321
      show ov_R u d ov_m230 42 [(0, ov_r 90), (1, ov_i dep), (2, ov_i 1), (3, ov_i v317)] [ov_i v320] z h (P_fMo_takePart_90 F z h t m N p dep)
      refine ov_blk (ls2 := [(0, ov_r 90), (1, ov_i dep), (2, ov_i 1), (3, ov_i v317), (4, ov_i v320)]) (st2 := [ov_i v317]) (pc2 := 45) b_230_42_2 rfl rfl ?_
      refine ov_iflt (tgt := 52) d_230_45 (by decide) (by omega) (fun c323 => ?_) (fun c323 => ?_)
      · skip
        refine ov_blk (ls2 := [(0, ov_r 90), (1, ov_i dep), (2, ov_i 1), (3, ov_i v317), (4, ov_i v320)]) (st2 := [ov_i v320]) (pc2 := 54) b_230_52_1 rfl rfl ?_
        refine ov_iflt (tgt := 64) d_230_54 (by decide) (by omega) (fun c324 => ?_) (fun c324 => ?_)
        · skip
          refine ov_blk (ls2 := [(0, ov_r 90), (1, ov_i dep), (2, ov_i 1), (3, ov_i v317), (4, ov_i v320), (5, ov_i (-1))]) (st2 := []) (pc2 := 67) b_230_64_2 rfl rfl ?_
          refine ov_sub (ls2 := [(0, ov_r 90), (1, ov_i dep), (2, ov_i 1), (5, ov_i (-1))]) (List.Sublist.subset (by repeat (first | exact List.Sublist.refl _ | apply List.Sublist.cons_cons | apply List.Sublist.cons))) ?_
          exact J3 1 (-1) (by show (1 = 1 ∧ pt_ty t m p = 3 ∨ 1 = 0 ∧ pt_ty t m p ≠ 3) ∧ -1 ≤ (-1) ∧ (-1) ≤ 4 ∧ (0 ≤ (-1) ∧ (0 ≤ pt_wh t m p 10 (Int.toNat 2) ∨ 0 ≤ pt_wh t m p 20 (Int.toNat 2)) ∨ (-1) < 0 ∧ pt_wh t m p 10 (Int.toNat 2) < 0 ∧ pt_wh t m p 20 (Int.toNat 2) < 0); omega)
        · skip
          refine ov_blk (ls2 := [(0, ov_r 90), (1, ov_i dep), (2, ov_i 1), (3, ov_i v317), (4, ov_i v320)]) (st2 := [ov_i (2 + v320)]) (pc2 := 61) b_230_57_3 rfl rfl ?_
          refine ov_goto (tgt := 65) d_230_61 (by decide) ?_
          refine ov_blk (ls2 := [(0, ov_r 90), (1, ov_i dep), (2, ov_i 1), (3, ov_i v317), (4, ov_i v320), (5, ov_i (2 + v320))]) (st2 := []) (pc2 := 67) b_230_65_1 rfl rfl ?_
          refine ov_sub (ls2 := [(0, ov_r 90), (1, ov_i dep), (2, ov_i 1), (5, ov_i (2 + v320))]) (List.Sublist.subset (by repeat (first | exact List.Sublist.refl _ | apply List.Sublist.cons_cons | apply List.Sublist.cons))) ?_
          exact J3 1 (2 + v320) (by show (1 = 1 ∧ pt_ty t m p = 3 ∨ 1 = 0 ∧ pt_ty t m p ≠ 3) ∧ -1 ≤ (2 + v320) ∧ (2 + v320) ≤ 4 ∧ (0 ≤ (2 + v320) ∧ (0 ≤ pt_wh t m p 10 (Int.toNat 2) ∨ 0 ≤ pt_wh t m p 20 (Int.toNat 2)) ∨ (2 + v320) < 0 ∧ pt_wh t m p 10 (Int.toNat 2) < 0 ∧ pt_wh t m p 20 (Int.toNat 2) < 0); omega)
      · skip
        refine ov_blk (ls2 := [(0, ov_r 90), (1, ov_i dep), (2, ov_i 1), (3, ov_i v317), (4, ov_i v320)]) (st2 := [ov_i v317]) (pc2 := 49) b_230_48_1 rfl rfl ?_
        refine ov_goto (tgt := 65) d_230_49 (by decide) ?_
        refine ov_blk (ls2 := [(0, ov_r 90), (1, ov_i dep), (2, ov_i 1), (3, ov_i v317), (4, ov_i v320), (5, ov_i v317)]) (st2 := []) (pc2 := 67) b_230_65_1 rfl rfl ?_
        refine ov_sub (ls2 := [(0, ov_r 90), (1, ov_i dep), (2, ov_i 1), (5, ov_i v317)]) (List.Sublist.subset (by repeat (first | exact List.Sublist.refl _ | apply List.Sublist.cons_cons | apply List.Sublist.cons))) ?_
        exact J3 1 v317 (by show (1 = 1 ∧ pt_ty t m p = 3 ∨ 1 = 0 ∧ pt_ty t m p ≠ 3) ∧ -1 ≤ v317 ∧ v317 ≤ 4 ∧ (0 ≤ v317 ∧ (0 ≤ pt_wh t m p 10 (Int.toNat 2) ∨ 0 ≤ pt_wh t m p 20 (Int.toNat 2)) ∨ v317 < 0 ∧ pt_wh t m p 10 (Int.toNat 2) < 0 ∧ pt_wh t m p 20 (Int.toNat 2) < 0); omega)
  · skip
    exact ov_retv (st := []) d_230_7 rfl ⟨rfl, I, (fun a ca => rfl), (fun k n0 n1 n2 => rfl), (Or.inl (by show (h 90 8) ≠ 0 ∧ (h 90 8) = (h 90 8) ∧ (h 90 13) = (h 90 13) ∧ (h 90 7) = (h 90 7) ∧ (h 93 ((h 90 7))) = p; omega))⟩

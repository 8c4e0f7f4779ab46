abbrev P_fMo_readRule_90 (F : ov_H × ov_Z) (z : ov_Z) (h : ov_H) (t : Int → Int) (m : Int) (N : Int) (p : Int) (A : Int → Int) : Option ov_V → ov_Z → ov_H → Prop := fun r0 z' h' => r0 = none ∧ ov_N F z' h' ∧ (∀ a : Int, a ≠ 90 ∧ (a < 96 ∨ 99 < a) → h' a = h a) ∧ (∀ k : Int, k ≠ 7 → k ≠ 8 → k ≠ 13 → (h' 90) k = (h 90) k) ∧ ((((h' 90 8) = (pt_ruF t m A p) ∧ 1 ≤ (h' 90 8) ∧ (h 90 7) ≤ (h' 90 7) ∧ (h' 90 7) ≤ N)) ∨ (∃ f : Int, ∃ q : Int, ((pt_ruF t m A p) = 0 ∧ (h' 90 8) = f ∧ 1 ≤ f ∧ (h 90 7) ≤ (h' 90 7) ∧ (h' 90 7) ≤ N) ∧ (pt_EV t m 6 0 (pt_nt t m (pt_nt t m p)) f q)) ∨ (∃ q : Int, ((pt_ruF t m A p) = 0 ∧ (h' 90 8) = 0 ∧ (h 90 7) ≤ (h' 90 7) ∧ (h' 90 7) ≤ N ∧ 0 ≤ (h' 90 13) ∧ (h' 90 13) ≤ (h' 90 7) ∧ (h' 93 ((h' 90 7))) = q) ∧ (pt_EV t m 6 0 (pt_nt t m (pt_nt t m p)) 0 q) ∧ (pt_MR t m (pt_ruA t m A p) (h' 96) (h' 90 15) (h' 99))))
set_option maxHeartbeats 4000000 in
theorem c_fMo_readRule_90 {u : ov_U} {F : ov_H × ov_Z} (t : Int → Int) (m : Int) (N : Int) (p : Int) (A : Int → Int) {z : ov_Z} {h : ov_H} (d : Nat) (hd : 40 ≤ d) (U : ov_cap u) (I : ov_N F z h) (p0 : 0 ≤ (h 90 7) ∧ (h 90 7) ≤ N) (p1 : (h 93 ((h 90 7))) = p) (p2 : 0 ≤ (h 90 8)) (p3 : (h 90 8) = 0) (p4 : 0 ≤ (h 90 13) ∧ (h 90 13) ≤ (h 90 7)) (p5 : pt_ty t m p = 2) (mt : pt_MT t m (h 92) (h 93) (h 94) N) (wd : pt_WD (h 95)) (mr : pt_MR t m A (h 96) (h 90 15) (h 99)) : ov_T u d ov_m224 [ov_r 90] z h (P_fMo_readRule_90 F z h t m N p A) := by
  refine ov_en rfl (Nat.le_of_ble_eq_true rfl) ?_
  show ov_R u d ov_m224 0 [(0, ov_r 90)] [] z h (P_fMo_readRule_90 F z h t m N p A)
  have ma := pt_MT_at mt (k := h 90 7) (by omega)
  rw [p1] at ma
  have mp := ma.2.1
  have m2 := ma.2.2.1
  have m3 := ma.2.2.2
  have mc := pt_cm_f (t := t) (m := m) (p := p)
  have mN := mt.1.2.1
  clear ma
  have rA := pt_MR_r mr
  refine ov_blk (ls2 := [(0, ov_r 90)]) (st2 := [ov_r 90]) (pc2 := 1) b_224_0_1 rfl rfl ?_
  refine ov_getf (v := ov_r 96) d_224_1 fl_Mo_81 (zb_90 I) (zs_90 I) (congrArg ov_r (rg_90_10 I)) ?_
  refine ov_blk (ls2 := [(0, ov_r 90)]) (st2 := [ov_i 348, ov_r 96]) (pc2 := 7) b_224_4_1 rfl rfl ?_
  refine ov_iald d_224_7 (zb_96 I) (zs_96 I) (by omega) ?_
  have e1 : h 96 348 = (A 8) := (pt_MR_c mr (j := 8) (by omega))
  rw [e1]
  show ov_R u d ov_m224 8 [(0, ov_r 90)] [ov_i (A 8)] z h (P_fMo_readRule_90 F z h t m N p A)
  refine ov_blk (ls2 := [(0, ov_r 90), (1, ov_i (A 8))]) (st2 := [ov_i 4, ov_i (A 8)]) (pc2 := 11) b_224_8_3 rfl rfl ?_
  refine ov_icne (tgt := 20) d_224_11 (by decide) (by omega) (by omega) (fun c2 => ?_) (fun c2 => ?_)
  · skip
    refine ov_blk (ls2 := [(0, ov_r 90), (1, ov_i (A 8))]) (st2 := [ov_r 90, ov_r 90]) (pc2 := 22) b_224_20_2 rfl rfl ?_
    refine ov_getf (v := ov_i (h 90 7)) d_224_22 fl_Mo_177 (zb_90 I) (zs_90 I) rfl ?_
    have g3 := rg_90_7 I
    refine ov_blk (ls2 := [(0, ov_r 90), (1, ov_i (A 8))]) (st2 := [ov_i ((h 90 7) + 1), ov_r 90]) (pc2 := 27) b_224_25_2 rfl rfl ?_
    have kn := pt_MT_lt mt (k := h 90 7) (by omega) (by rw [p1]; omega)
    have mn := pt_MT_nx mt (k := h 90 7) ⟨by omega, by omega⟩
    rw [p1] at mn
    have nb := pt_nt_le (t := t) (n := m) (p := p) (by omega)
    refine ov_putf (x := ((h 90 7) + 1)) d_224_27 fl_Mo_177 (zb_90 I) (zs_90 I) rfl nk_0 rfl ?_
    have I4 := up_90_7 (x := ((h 90 7) + 1)) I (by omega)
    show ov_R u d ov_m224 30 [(0, ov_r 90), (1, ov_i (A 8))] [] z (ov_up h 90 7 ((h 90 7) + 1)) (P_fMo_readRule_90 F z h t m N p A)
    refine ov_blk (ls2 := [(0, ov_r 90), (1, ov_i (A 8)), (2, ov_i 0), (3, ov_i 0)]) (st2 := []) (pc2 := 34) b_224_30_4 rfl rfl ?_
    have L8 : ∀ (n5 : Nat) (x2 : Int) (x3 : Int) (xm : x2 = 1 ↔ ∃ i : Int, 0 ≤ i ∧ i < x3 ∧ h 99 i = (h 94 ((h 90 7) + 1))) (q7 : 0 ≤ x3 ∧ x3 ≤ A 8 ∧ (x2 = 0 ∨ x2 = 1)), A 8 - x3 < (n5 : Int) → ov_R u d ov_m224 34 [(0, ov_r 90), (1, ov_i (A 8)), (2, ov_i x2), (3, ov_i x3)] [] z (ov_up h 90 7 ((h 90 7) + 1)) (P_fMo_readRule_90 F z h t m N p A) := by
      intro n5
      induction n5 with
      | zero =>
        intro x2 x3 xm q7 hn9
        exact absurd hn9 (by omega)
      | succ n5 ih6 =>
        intro x2 x3 xm q7 hn9
        refine ov_blk (ls2 := [(0, ov_r 90), (1, ov_i (A 8)), (2, ov_i x2), (3, ov_i x3)]) (st2 := [ov_i (A 8), ov_i x3]) (pc2 := 36) b_224_34_2 rfl rfl ?_
        refine ov_icge (tgt := 81) d_224_36 (by decide) (by omega) (by omega) (fun c10 => ?_) (fun c10 => ?_)
        · skip
          refine ov_blk (ls2 := [(0, ov_r 90), (1, ov_i (A 8)), (2, ov_i x2), (3, ov_i x3)]) (st2 := [ov_r 90]) (pc2 := 82) b_224_81_1 rfl rfl ?_
          refine ov_cV (as := []) (st := []) (d2 := d - 1) d_224_82 lk_Mo_239 rfl (Nat.le_of_ble_eq_true rfl) (c := 1) (zb_90 I4) (zs_90 I4) ⟨by decide, rfl⟩ (by omega) (c_fMo_isName_90 t m N (pt_nt t m p) (d - 1) (by omega) U I4 (by show 0 ≤ ((h 90 7) + 1) ∧ ((h 90 7) + 1) ≤ N; omega) (by show (h 93 (((h 90 7) + 1))) = (pt_nt t m p); omega) (by show 0 ≤ (h 90 8); omega) (by rw [show (ov_up h 90 7 ((h 90 7) + 1)) 92 = h 92 from rfl, show (ov_up h 90 7 ((h 90 7) + 1)) 93 = h 93 from rfl, show (ov_up h 90 7 ((h 90 7) + 1)) 94 = h 94 from rfl]; exact mt) (by rw [show (ov_up h 90 7 ((h 90 7) + 1)) 95 = h 95 from rfl]; exact wd)) ?_
          rintro _ _ _ ⟨v11, rfl, rfl, rfl, y12⟩
          rcases y12 with ⟨rfl, f13⟩ | ⟨rfl, f14⟩
          · skip
            show ov_R u d ov_m224 85 [(0, ov_r 90), (1, ov_i (A 8)), (2, ov_i x2), (3, ov_i x3)] [ov_i 0] z (ov_up h 90 7 ((h 90 7) + 1)) (P_fMo_readRule_90 F z h t m N p A)
            have f15 : (h 90 8) ≠ 0 ∨ pt_ty t m (pt_nt t m p) ≠ 2 ∨ 0 ≤ pt_wh t m (pt_nt t m p) 0 (Int.toNat 20) := f13
            clear f13
            refine ov_ifne (tgt := 96) d_224_85 (by decide) (by omega) (fun c16 => ?_) (fun c16 => ?_)
            · omega
            · skip
              refine ov_blk (ls2 := [(0, ov_r 90), (1, ov_i (A 8)), (2, ov_i x2), (3, ov_i x3)]) (st2 := [ov_i 1, ov_r 90]) (pc2 := 90) b_224_88_2 rfl rfl ?_
              refine ov_cV (as := [ov_i 1]) (st := []) (d2 := d - 1) d_224_90 lk_Mo_186 rfl (Nat.le_of_ble_eq_true rfl) (c := 1) (zb_90 I4) (zs_90 I4) ⟨by decide, rfl⟩ (by omega) (c_fMo_wrong_90 t m N (pt_nt t m p) (d - 1) (by omega) U I4 1 (by omega) (by show 0 ≤ ((h 90 7) + 1) ∧ ((h 90 7) + 1) ≤ N; omega) (by show (h 93 (((h 90 7) + 1))) = (pt_nt t m p); omega) (by show 0 ≤ (h 90 8); omega) (by show 1 ≤ (1 : Int) ∧ (1 : Int) ≤ 5; omega) (by rw [show (ov_up h 90 7 ((h 90 7) + 1)) 92 = h 92 from rfl, show (ov_up h 90 7 ((h 90 7) + 1)) 93 = h 93 from rfl, show (ov_up h 90 7 ((h 90 7) + 1)) 94 = h 94 from rfl]; exact mt)) ?_
              rintro _ z17 h18 ⟨rfl, I19, y20, y21, y22⟩
              have E23 : h18 92 = h 92 := Eq.trans (y20 92 (by decide)) (show (ov_up h 90 7 ((h 90 7) + 1)) 92 = h 92 from rfl)
              have E24 : h18 93 = h 93 := Eq.trans (y20 93 (by decide)) (show (ov_up h 90 7 ((h 90 7) + 1)) 93 = h 93 from rfl)
              have E25 : h18 94 = h 94 := Eq.trans (y20 94 (by decide)) (show (ov_up h 90 7 ((h 90 7) + 1)) 94 = h 94 from rfl)
              have E26 : h18 95 = h 95 := Eq.trans (y20 95 (by decide)) (show (ov_up h 90 7 ((h 90 7) + 1)) 95 = h 95 from rfl)
              have E27 : h18 96 = h 96 := Eq.trans (y20 96 (by decide)) (show (ov_up h 90 7 ((h 90 7) + 1)) 96 = h 96 from rfl)
              have E28 : h18 99 = h 99 := Eq.trans (y20 99 (by decide)) (show (ov_up h 90 7 ((h 90 7) + 1)) 99 = h 99 from rfl)
              have fr29 : ∀ a : Int, a ≠ 90 ∧ (a < 96 ∨ 99 < a) → h18 a = h a := fun a ca => Eq.trans (y20 a (by omega)) (Eq.trans (by show (ov_up h 90 7 ((h 90 7) + 1)) a = h a; rw [ov_up_ne (by omega)]) rfl)
              have y21_ : ∀ k : Int, k ≠ 8 → (h18 90) k = ((ov_up h 90 7 ((h 90 7) + 1)) 90) k := y21
              have rk30 : ∀ k : Int, k ≠ 7 → k ≠ 8 → k ≠ 13 → h18 90 k = h 90 k := fun k n0 n1 n2 => Eq.trans (y21_ k n1) (Eq.trans (by show (ov_up h 90 7 ((h 90 7) + 1)) 90 k = h 90 k; rw [ov_up_j n0]) rfl)
              have g31 : h18 90 2 = (h 90 2) := y21_ 2 (by decide)
              have g32 : h18 90 3 = (h 90 3) := y21_ 3 (by decide)
              have g33 : h18 90 7 = ((h 90 7) + 1) := y21_ 7 (by decide)
              have g34 : h18 90 13 = (h 90 13) := y21_ 13 (by decide)
              have g35 : h18 90 15 = (h 90 15) := y21_ 15 (by decide)
              rcases y22 with f36 | f37
              · have q9 : (h 90 8) ≠ 0 ∧ (h18 90 8) = (h 90 8) ∧ (h18 93 ((h18 90 7))) = (pt_nt t m p) := f36
                omega
              · skip
                show ov_R u d ov_m224 93 [(0, ov_r 90), (1, ov_i (A 8)), (2, ov_i x2), (3, ov_i x3)] [] z17 h18 (P_fMo_readRule_90 F z h t m N p A)
                have f38 : (h 90 8) = 0 ∧ (h18 90 8) = (1 : Int) + 16 * (pt_nt t m p) ∧ (h18 93 ((h18 90 7))) = (pt_nt t m p) := f37
                clear f37
                refine ov_goto (tgt := 105) d_224_93 (by decide) ?_
                refine ov_blk (ls2 := [(0, ov_r 90), (1, ov_i (A 8)), (2, ov_i x2), (3, ov_i x3)]) (st2 := [ov_r 90]) (pc2 := 106) b_224_105_1 rfl rfl ?_
                refine ov_getf (v := ov_i (h18 90 8)) d_224_106 fl_Mo_180 (zb_90 I19) (zs_90 I19) rfl ?_
                have g39 := rg_90_8 I19
                refine ov_ifle (tgt := 113) d_224_109 (by decide) (by omega) (fun c40 => ?_) (fun c40 => ?_)
                · omega
                · skip
                  clear xm
                  have nb1 : ¬ (pt_ty t m (pt_nt t m p) = 2 ∧ ¬ pt_RS t m (pt_nt t m p)) := fun q => by
                    have q1 := q.1
                    exact q.2 ((pt_RS_wh q1).mpr (by omega))
                  have hF : (pt_ruF t m A p) = 1 + 16 * (pt_nt t m p) := by unfold pt_ruF; rw [if_neg (by omega), pt_ite_t nb1]
                  exact ov_retv (st := []) d_224_112 rfl ⟨rfl, I19, (fun a ca => (fr29 a ca)), (fun k n0 n1 n2 => (rk30 k n0 n1 n2)), (Or.inl (by show (h18 90 8) = (pt_ruF t m A p) ∧ 1 ≤ (h18 90 8) ∧ (h 90 7) ≤ (h18 90 7) ∧ (h18 90 7) ≤ N; omega))⟩
          · skip
            show ov_R u d ov_m224 85 [(0, ov_r 90), (1, ov_i (A 8)), (2, ov_i x2), (3, ov_i x3)] [ov_i 1] z (ov_up h 90 7 ((h 90 7) + 1)) (P_fMo_readRule_90 F z h t m N p A)
            have f41 : (h 90 8) = 0 ∧ pt_ty t m (pt_nt t m p) = 2 ∧ pt_wh t m (pt_nt t m p) 0 (Int.toNat 20) < 0 := f14
            clear f14
            refine ov_ifne (tgt := 96) d_224_85 (by decide) (by omega) (fun c42 => ?_) (fun c42 => ?_)
            · skip
              have x8 : x3 = A 8 := by omega
              have ty1 : pt_ty t m (pt_nt t m p) = 2 := by omega
              have mb := pt_MT_at mt (k := h 90 7 + 1) (by omega)
              rw [mn] at mb
              have vv : (h 94 ((h 90 7) + 1)) = pt_w37 t m (pt_nt t m p) := mb.2.2.2.1 ty1
              clear mb
              have kni : x2 = 1 ↔ pt_KN t m A (pt_nt t m p) := by rw [xm, x8]; exact pt_KN_i mr ty1 vv
              clear xm
              have nb1 : ¬ ¬ (pt_ty t m (pt_nt t m p) = 2 ∧ ¬ pt_RS t m (pt_nt t m p)) := fun q => q ⟨ty1, fun rs => absurd ((pt_RS_wh ty1).mp rs) (by omega)⟩
              refine ov_blk (ls2 := [(0, ov_r 90), (1, ov_i (A 8)), (2, ov_i x2), (3, ov_i x3)]) (st2 := [ov_i x2]) (pc2 := 97) b_224_96_1 rfl rfl ?_
              refine ov_ifeq (tgt := 105) d_224_97 (by decide) (by omega) (fun c43 => ?_) (fun c43 => ?_)
              · skip
                refine ov_blk (ls2 := [(0, ov_r 90), (1, ov_i (A 8)), (2, ov_i x2), (3, ov_i x3)]) (st2 := [ov_r 90]) (pc2 := 106) b_224_105_1 rfl rfl ?_
                refine ov_getf (v := ov_i (h 90 8)) d_224_106 fl_Mo_180 (zb_90 I4) (zs_90 I4) rfl ?_
                have g44 := rg_90_8 I
                refine ov_ifle (tgt := 113) d_224_109 (by decide) (by omega) (fun c45 => ?_) (fun c45 => ?_)
                · skip
                  refine ov_blk (ls2 := [(0, ov_r 90), (1, ov_i (A 8)), (2, ov_i x2), (3, ov_i x3)]) (st2 := [ov_r 90]) (pc2 := 114) b_224_113_1 rfl rfl ?_
                  refine ov_getf (v := ov_r 99) d_224_114 fl_Mo_90 (zb_90 I4) (zs_90 I4) (congrArg ov_r (rg_90_14 I4)) ?_
                  refine ov_blk (ls2 := [(0, ov_r 90), (1, ov_i (A 8)), (2, ov_i x2), (3, ov_i x3)]) (st2 := [ov_r 90, ov_i (A 8), ov_r 99]) (pc2 := 119) b_224_117_2 rfl rfl ?_
                  refine ov_getf (v := ov_r 94) d_224_119 fl_Mo_30 (zb_90 I4) (zs_90 I4) (congrArg ov_r (rg_90_6 I4)) ?_
                  refine ov_blk (ls2 := [(0, ov_r 90), (1, ov_i (A 8)), (2, ov_i x2), (3, ov_i x3)]) (st2 := [ov_r 90, ov_r 94, ov_i (A 8), ov_r 99]) (pc2 := 123) b_224_122_1 rfl rfl ?_
                  refine ov_getf (v := ov_i ((h 90 7) + 1)) d_224_123 fl_Mo_177 (zb_90 I4) (zs_90 I4) rfl ?_
                  refine ov_lald d_224_126 (zb_94 I4) (zs_94 I4) (by omega) ?_
                  have g47 := ra_94 I4 ((h 90 7) + 1)
                  have e46 : (ov_up h 90 7 ((h 90 7) + 1)) 94 ((h 90 7) + 1) = (h 94 ((h 90 7) + 1)) := rfl
                  rw [e46] at g47
                  show ov_R u d ov_m224 127 [(0, ov_r 90), (1, ov_i (A 8)), (2, ov_i x2), (3, ov_i x3)] [ov_l ((ov_up h 90 7 ((h 90 7) + 1)) 94 ((h 90 7) + 1)), ov_i (A 8), ov_r 99] z (ov_up h 90 7 ((h 90 7) + 1)) (P_fMo_readRule_90 F z h t m N p A)
                  rw [e46]
                  show ov_R u d ov_m224 127 [(0, ov_r 90), (1, ov_i (A 8)), (2, ov_i x2), (3, ov_i x3)] [ov_l (h 94 ((h 90 7) + 1)), ov_i (A 8), ov_r 99] z (ov_up h 90 7 ((h 90 7) + 1)) (P_fMo_readRule_90 F z h t m N p A)
                  refine ov_last d_224_127 (zb_99 I4) (zs_99 I4) (by omega) ?_
                  have I48 := ua_99 (k := (A 8)) (x := (h 94 ((h 90 7) + 1))) I4
                  refine ov_blk (ls2 := [(0, ov_r 90), (1, ov_i (A 8)), (2, ov_i x2), (3, ov_i x3)]) (st2 := [ov_r 90, ov_r 90]) (pc2 := 130) b_224_128_2 rfl rfl ?_
                  refine ov_getf (v := ov_i ((h 90 7) + 1)) d_224_130 fl_Mo_177 (zb_90 I48) (zs_90 I48) rfl ?_
                  refine ov_blk (ls2 := [(0, ov_r 90), (1, ov_i (A 8)), (2, ov_i x2), (3, ov_i x3)]) (st2 := [ov_i (((h 90 7) + 1) + 1), ov_r 90]) (pc2 := 135) b_224_133_2 rfl rfl ?_
                  have kn2 := pt_MT_lt mt (k := h 90 7 + 1) ⟨by omega, by omega⟩ (by rw [mn]; omega)
                  have mn2 := pt_MT_nx mt (k := h 90 7 + 1) ⟨by omega, by omega⟩
                  rw [mn] at mn2
                  have nb2 := pt_nt_le (t := t) (n := m) (p := (pt_nt t m p)) (by omega)
                  refine ov_putf (x := (((h 90 7) + 1) + 1)) d_224_135 fl_Mo_177 (zb_90 I48) (zs_90 I48) rfl nk_0 rfl ?_
                  have I49 := up_90_7 (x := (((h 90 7) + 1) + 1)) I48 (by omega)
                  show ov_R u d ov_m224 138 [(0, ov_r 90), (1, ov_i (A 8)), (2, ov_i x2), (3, ov_i x3)] [] z (ov_up (ov_up (ov_up h 90 7 ((h 90 7) + 1)) 99 (A 8) (h 94 ((h 90 7) + 1))) 90 7 (((h 90 7) + 1) + 1)) (P_fMo_readRule_90 F z h t m N p A)
                  refine ov_blk (ls2 := [(0, ov_r 90), (1, ov_i (A 8)), (2, ov_i x2), (3, ov_i x3)]) (st2 := [ov_r 90]) (pc2 := 139) b_224_138_1 rfl rfl ?_
                  refine ov_getf (v := ov_r 96) d_224_139 fl_Mo_81 (zb_90 I49) (zs_90 I49) (congrArg ov_r (rg_90_10 I49)) ?_
                  refine ov_blk (ls2 := [(0, ov_r 90), (1, ov_i (A 8)), (2, ov_i x2), (3, ov_i x3)]) (st2 := [ov_r 90, ov_i (620 + (A 8)), ov_r 96]) (pc2 := 148) b_224_142_4 rfl rfl ?_
                  refine ov_getf (v := ov_i (h 90 13)) d_224_148 fl_Mo_208 (zb_90 I49) (zs_90 I49) rfl ?_
                  have g50 := rg_90_13 I
                  refine ov_iast d_224_151 (zb_96 I49) (zs_96 I49) (by omega) ?_
                  have I51 := ua_96 (k := (620 + (A 8))) (x := (h 90 13)) I49 (by refine ⟨?_, ?_, ?_, ?_, ?_, ?_, ?_, ?_, ?_, ?_, ?_, ?_, ?_, ?_, ?_, ?_, ?_, ?_, ?_, ?_, ?_, ?_, ?_, ?_, ?_, ?_, ?_, ?_, ?_⟩ <;> omega)
                  refine ov_blk (ls2 := [(0, ov_r 90), (1, ov_i (A 8)), (2, ov_i x2), (3, ov_i x3)]) (st2 := [ov_i 0, ov_r 90]) (pc2 := 154) b_224_152_2 rfl rfl ?_
                  refine ov_cV (as := [ov_i 0]) (st := []) (d2 := d - 1) d_224_154 lk_Mo_243 rfl (Nat.le_of_ble_eq_true rfl) (c := 1) (zb_90 I51) (zs_90 I51) ⟨by decide, rfl⟩ (by omega) (c_fMo_all_90_all t m N (pt_nt t m (pt_nt t m p)) 5 (d - 1) (by omega) U I51 0 (by omega) (by show 0 ≤ (((h 90 7) + 1) + 1) ∧ (((h 90 7) + 1) + 1) ≤ N; omega) (by show (h 93 ((((h 90 7) + 1) + 1))) = (pt_nt t m (pt_nt t m p)); omega) (by show 0 ≤ (h 90 8); omega) (by show 0 ≤ (0 : Int) ∧ (0 : Int) + ((5 : Nat) : Int) = 5; omega) (by show 0 ≤ (h 90 13) ∧ (h 90 13) ≤ (((h 90 7) + 1) + 1); omega) (by rw [show (ov_up (ov_up (ov_up (ov_up h 90 7 ((h 90 7) + 1)) 99 (A 8) (h 94 ((h 90 7) + 1))) 90 7 (((h 90 7) + 1) + 1)) 96 (620 + (A 8)) (h 90 13)) 92 = h 92 from rfl, show (ov_up (ov_up (ov_up (ov_up h 90 7 ((h 90 7) + 1)) 99 (A 8) (h 94 ((h 90 7) + 1))) 90 7 (((h 90 7) + 1) + 1)) 96 (620 + (A 8)) (h 90 13)) 93 = h 93 from rfl, show (ov_up (ov_up (ov_up (ov_up h 90 7 ((h 90 7) + 1)) 99 (A 8) (h 94 ((h 90 7) + 1))) 90 7 (((h 90 7) + 1) + 1)) 96 (620 + (A 8)) (h 90 13)) 94 = h 94 from rfl]; exact mt) (by rw [show (ov_up (ov_up (ov_up (ov_up h 90 7 ((h 90 7) + 1)) 99 (A 8) (h 94 ((h 90 7) + 1))) 90 7 (((h 90 7) + 1) + 1)) 96 (620 + (A 8)) (h 90 13)) 95 = h 95 from rfl]; exact wd)) ?_
                  rintro _ z52 h53 ⟨rfl, I54, y55, y56, y57⟩
                  have E58 : h53 92 = h 92 := Eq.trans (y55 92 (by decide)) (show (ov_up (ov_up (ov_up (ov_up h 90 7 ((h 90 7) + 1)) 99 (A 8) (h 94 ((h 90 7) + 1))) 90 7 (((h 90 7) + 1) + 1)) 96 (620 + (A 8)) (h 90 13)) 92 = h 92 from rfl)
                  have E59 : h53 93 = h 93 := Eq.trans (y55 93 (by decide)) (show (ov_up (ov_up (ov_up (ov_up h 90 7 ((h 90 7) + 1)) 99 (A 8) (h 94 ((h 90 7) + 1))) 90 7 (((h 90 7) + 1) + 1)) 96 (620 + (A 8)) (h 90 13)) 93 = h 93 from rfl)
                  have E60 : h53 94 = h 94 := Eq.trans (y55 94 (by decide)) (show (ov_up (ov_up (ov_up (ov_up h 90 7 ((h 90 7) + 1)) 99 (A 8) (h 94 ((h 90 7) + 1))) 90 7 (((h 90 7) + 1) + 1)) 96 (620 + (A 8)) (h 90 13)) 94 = h 94 from rfl)
                  have E61 : h53 95 = h 95 := Eq.trans (y55 95 (by decide)) (show (ov_up (ov_up (ov_up (ov_up h 90 7 ((h 90 7) + 1)) 99 (A 8) (h 94 ((h 90 7) + 1))) 90 7 (((h 90 7) + 1) + 1)) 96 (620 + (A 8)) (h 90 13)) 95 = h 95 from rfl)
                  have R63 : h53 96 = (ov_rs (h 96) (620 + (A 8)) (h 90 13)) := Eq.trans (y55 96 (by decide)) (Eq.trans (ov_up_row (ov_up (ov_up (ov_up h 90 7 ((h 90 7) + 1)) 99 (A 8) (h 94 ((h 90 7) + 1))) 90 7 (((h 90 7) + 1) + 1)) 96 (620 + (A 8)) (h 90 13)) (congrArg (fun f => ov_rs f (620 + (A 8)) (h 90 13)) (Eq.trans (show (ov_up (ov_up (ov_up h 90 7 ((h 90 7) + 1)) 99 (A 8) (h 94 ((h 90 7) + 1))) 90 7 (((h 90 7) + 1) + 1)) 96 = (ov_up (ov_up h 90 7 ((h 90 7) + 1)) 99 (A 8) (h 94 ((h 90 7) + 1))) 96 from rfl) (Eq.trans (show (ov_up (ov_up h 90 7 ((h 90 7) + 1)) 99 (A 8) (h 94 ((h 90 7) + 1))) 96 = (ov_up h 90 7 ((h 90 7) + 1)) 96 from rfl) (Eq.trans (show (ov_up h 90 7 ((h 90 7) + 1)) 96 = h 96 from rfl) rfl)))))
                  have R65 : h53 99 = (ov_rs (h 99) (A 8) (h 94 ((h 90 7) + 1))) := Eq.trans (y55 99 (by decide)) (Eq.trans (show (ov_up (ov_up (ov_up (ov_up h 90 7 ((h 90 7) + 1)) 99 (A 8) (h 94 ((h 90 7) + 1))) 90 7 (((h 90 7) + 1) + 1)) 96 (620 + (A 8)) (h 90 13)) 99 = (ov_up (ov_up (ov_up h 90 7 ((h 90 7) + 1)) 99 (A 8) (h 94 ((h 90 7) + 1))) 90 7 (((h 90 7) + 1) + 1)) 99 from rfl) (Eq.trans (show (ov_up (ov_up (ov_up h 90 7 ((h 90 7) + 1)) 99 (A 8) (h 94 ((h 90 7) + 1))) 90 7 (((h 90 7) + 1) + 1)) 99 = (ov_up (ov_up h 90 7 ((h 90 7) + 1)) 99 (A 8) (h 94 ((h 90 7) + 1))) 99 from rfl) (Eq.trans (ov_up_row (ov_up h 90 7 ((h 90 7) + 1)) 99 (A 8) (h 94 ((h 90 7) + 1))) (congrArg (fun f => ov_rs f (A 8) (h 94 ((h 90 7) + 1))) (Eq.trans (show (ov_up h 90 7 ((h 90 7) + 1)) 99 = h 99 from rfl) rfl)))))
                  have fr66 : ∀ a : Int, a ≠ 90 ∧ (a < 96 ∨ 99 < a) → h53 a = h a := fun a ca => Eq.trans (y55 a (by omega)) (Eq.trans (by show (ov_up (ov_up (ov_up (ov_up h 90 7 ((h 90 7) + 1)) 99 (A 8) (h 94 ((h 90 7) + 1))) 90 7 (((h 90 7) + 1) + 1)) 96 (620 + (A 8)) (h 90 13)) a = h a; rw [ov_up_ne (by omega), ov_up_ne (by omega), ov_up_ne (by omega), ov_up_ne (by omega)]) rfl)
                  have y56_ : ∀ k : Int, k ≠ 7 → k ≠ 8 → k ≠ 13 → (h53 90) k = ((ov_up (ov_up (ov_up (ov_up h 90 7 ((h 90 7) + 1)) 99 (A 8) (h 94 ((h 90 7) + 1))) 90 7 (((h 90 7) + 1) + 1)) 96 (620 + (A 8)) (h 90 13)) 90) k := y56
                  have rk67 : ∀ k : Int, k ≠ 7 → k ≠ 8 → k ≠ 13 → h53 90 k = h 90 k := fun k n0 n1 n2 => Eq.trans (y56_ k n0 n1 n2) (Eq.trans (by show (ov_up (ov_up (ov_up (ov_up h 90 7 ((h 90 7) + 1)) 99 (A 8) (h 94 ((h 90 7) + 1))) 90 7 (((h 90 7) + 1) + 1)) 96 (620 + (A 8)) (h 90 13)) 90 k = h 90 k; rw [ov_up_ne (by decide), ov_up_j n0, ov_up_ne (by decide), ov_up_j n0]) rfl)
                  have g68 : h53 90 2 = (h 90 2) := y56_ 2 (by decide) (by decide) (by decide)
                  have g69 : h53 90 3 = (h 90 3) := y56_ 3 (by decide) (by decide) (by decide)
                  have g70 : h53 90 15 = (h 90 15) := y56_ 15 (by decide) (by decide) (by decide)
                  rcases y57 with f71 | ⟨w72, w73, f74, y75⟩ | ⟨w76, f77, y78⟩
                  · have q9 : (h 90 8) ≠ 0 ∧ (h53 90 8) = (h 90 8) ∧ (h53 90 13) = (h 90 13) ∧ (h53 90 7) = (((h 90 7) + 1) + 1) ∧ (h53 93 ((h53 90 7))) = (pt_nt t m (pt_nt t m p)) := f71
                    omega
                  · skip
                    show ov_R u d ov_m224 157 [(0, ov_r 90), (1, ov_i (A 8)), (2, ov_i x2), (3, ov_i x3)] [] z52 h53 (P_fMo_readRule_90 F z h t m N p A)
                    have f79 : (h 90 8) = 0 ∧ (h53 90 8) = w72 ∧ 1 ≤ w72 ∧ (h 90 13) ≤ (h53 90 13) ∧ (h53 90 13) - (h 90 13) ≤ (h53 90 7) - (((h 90 7) + 1) + 1) ∧ (((h 90 7) + 1) + 1) ≤ (h53 90 7) ∧ (h53 90 7) ≤ N := f74
                    clear f74
                    have y75_ : pt_EV t m 6 (0 : Int) (pt_nt t m (pt_nt t m p)) w72 w73 := y75
                    refine ov_blk (ls2 := [(0, ov_r 90), (1, ov_i (A 8)), (2, ov_i x2), (3, ov_i x3)]) (st2 := [ov_i 0, ov_i 0, ov_r 90]) (pc2 := 160) b_224_157_3 rfl rfl ?_
                    have cf80 : h53 93 ((h53 90 7)) = h 93 ((h53 90 7)) := congrFun E59 ((h53 90 7))
                    refine ov_cV (as := [ov_i 0, ov_i 0]) (st := []) (d2 := d - 1) d_224_160 lk_Mo_246 rfl (Nat.le_of_ble_eq_true rfl) (c := 1) (zb_90 I54) (zs_90 I54) ⟨by decide, rfl⟩ (by omega) (c_fMo_emit_90 (h53 93 (h53 90 7)) (d - 1) (by omega) U I54 0 0 (by omega) (by omega) (by show 0 ≤ (0 : Int) ∧ (0 : Int) ≤ 10; omega) (by show (h53 90 13) ≤ 999; omega) (by show (h53 93 ((h53 90 7))) = (h53 93 (h53 90 7)); omega)) ?_
                    rintro _ z81 h82 ⟨rfl, I83, y84, f85, y86⟩
                    have E87 : h82 92 = h 92 := Eq.trans (y84 92 (by decide)) (show h53 92 = h 92 from E58)
                    have E88 : h82 93 = h 93 := Eq.trans (y84 93 (by decide)) (show h53 93 = h 93 from E59)
                    have E89 : h82 94 = h 94 := Eq.trans (y84 94 (by decide)) (show h53 94 = h 94 from E60)
                    have E90 : h82 95 = h 95 := Eq.trans (y84 95 (by decide)) (show h53 95 = h 95 from E61)
                    have E91 : h82 96 = h53 96 := Eq.trans (y84 96 (by decide)) (show h53 96 = h53 96 from rfl)
                    have E92 : h82 99 = h53 99 := Eq.trans (y84 99 (by decide)) (show h53 99 = h53 99 from rfl)
                    have fr93 : ∀ a : Int, a ≠ 90 ∧ (a < 96 ∨ 99 < a) → h82 a = h a := fun a ca => Eq.trans (y84 a (by omega)) (fr66 a ca)
                    have f95 : (h82 90 13) = (h53 90 13) + 1 ∧ (h82 90 7) = (h53 90 7) ∧ (h82 90 8) = (h53 90 8) ∧ (h82 93 ((h82 90 7))) = (h53 93 (h53 90 7)) := f85
                    clear f85
                    have y86_ : ∀ k : Int, k ≠ 13 → (h82 90) k = (h53 90) k := y86
                    have rk94 : ∀ k : Int, k ≠ 7 → k ≠ 8 → k ≠ 13 → h82 90 k = h 90 k := fun k n0 n1 n2 => Eq.trans (y86_ k n2) (rk67 k n0 n1 n2)
                    have g96 : h82 90 2 = (h53 90 2) := y86_ 2 (by decide)
                    have g97 : h82 90 3 = (h53 90 3) := y86_ 3 (by decide)
                    have g98 : h82 90 7 = (h53 90 7) := y86_ 7 (by decide)
                    have g99 : h82 90 8 = (h53 90 8) := y86_ 8 (by decide)
                    have g100 : h82 90 15 = (h53 90 15) := y86_ 15 (by decide)
                    show ov_R u d ov_m224 163 [(0, ov_r 90), (1, ov_i (A 8)), (2, ov_i x2), (3, ov_i x3)] [] z81 h82 (P_fMo_readRule_90 F z h t m N p A)
                    refine ov_blk (ls2 := [(0, ov_r 90), (1, ov_i (A 8)), (2, ov_i x2), (3, ov_i x3)]) (st2 := [ov_r 90]) (pc2 := 164) b_224_163_1 rfl rfl ?_
                    refine ov_getf (v := ov_r 96) d_224_164 fl_Mo_81 (zb_90 I83) (zs_90 I83) (congrArg ov_r (rg_90_10 I83)) ?_
                    refine ov_blk (ls2 := [(0, ov_r 90), (1, ov_i (A 8)), (2, ov_i x2), (3, ov_i x3)]) (st2 := [ov_i 348, ov_r 96, ov_i 348, ov_r 96]) (pc2 := 171) b_224_167_2 rfl rfl ?_
                    refine ov_iald d_224_171 (zb_96 I83) (zs_96 I83) (by omega) ?_
                    have e101 : h82 96 348 = (h53 96 348) := congrFun (show h82 96 = h53 96 from E91) 348
                    rw [e101]
                    show ov_R u d ov_m224 172 [(0, ov_r 90), (1, ov_i (A 8)), (2, ov_i x2), (3, ov_i x3)] [ov_i (h53 96 348), ov_i 348, ov_r 96] z81 h82 (P_fMo_readRule_90 F z h t m N p A)
                    have k8 : h53 96 348 = A 8 := by rw [show h53 96 = (ov_rs (h 96) (620 + (A 8)) (h 90 13)) from R63, ov_rs_ne (by omega)]; exact pt_MR_c mr (j := 8) (by omega)
                    refine ov_blk (ls2 := [(0, ov_r 90), (1, ov_i (A 8)), (2, ov_i x2), (3, ov_i x3)]) (st2 := [ov_i ((h53 96 348) + 1), ov_i 348, ov_r 96]) (pc2 := 174) b_224_172_2 rfl rfl ?_
                    refine ov_iast d_224_174 (zb_96 I83) (zs_96 I83) (by omega) ?_
                    have I102 := ua_96 (k := 348) (x := ((h53 96 348) + 1)) I83 (by refine ⟨?_, ?_, ?_, ?_, ?_, ?_, ?_, ?_, ?_, ?_, ?_, ?_, ?_, ?_, ?_, ?_, ?_, ?_, ?_, ?_, ?_, ?_, ?_, ?_, ?_, ?_, ?_, ?_, ?_⟩ <;> omega)
                    have hF : (pt_ruF t m A p) = 0 := by unfold pt_ruF; rw [if_neg (by omega), pt_ite_f nb1, pt_ite_f (fun y => absurd (kni.mpr y) (by omega))]
                    exact ov_retv (st := []) d_224_175 rfl ⟨rfl, I102, (fun a ca => Eq.trans (by show (ov_up h82 96 348 ((h53 96 348) + 1)) a = h82 a; rw [ov_up_ne (by omega)]) (fr93 a ca)), (fun k n0 n1 n2 => (Eq.trans (by show (ov_up h82 96 348 ((h53 96 348) + 1)) 90 k = h82 90 k; rw [ov_up_ne (by decide)]) (rk94 k n0 n1 n2))), (Or.inr (Or.inl ⟨w72, w73, (by show (pt_ruF t m A p) = 0 ∧ (h82 90 8) = w72 ∧ 1 ≤ w72 ∧ (h 90 7) ≤ (h82 90 7) ∧ (h82 90 7) ≤ N; omega), y75_⟩))⟩
                  · skip
                    show ov_R u d ov_m224 157 [(0, ov_r 90), (1, ov_i (A 8)), (2, ov_i x2), (3, ov_i x3)] [] z52 h53 (P_fMo_readRule_90 F z h t m N p A)
                    have f103 : (h 90 8) = 0 ∧ (h53 90 8) = 0 ∧ (h 90 13) ≤ (h53 90 13) ∧ (h53 90 13) - (h 90 13) ≤ (h53 90 7) - (((h 90 7) + 1) + 1) ∧ (((h 90 7) + 1) + 1) ≤ (h53 90 7) ∧ (h53 90 7) ≤ N ∧ (h53 93 ((h53 90 7))) = w76 := f77
                    clear f77
                    have y78_ : pt_EV t m 6 (0 : Int) (pt_nt t m (pt_nt t m p)) 0 w76 := y78
                    refine ov_blk (ls2 := [(0, ov_r 90), (1, ov_i (A 8)), (2, ov_i x2), (3, ov_i x3)]) (st2 := [ov_i 0, ov_i 0, ov_r 90]) (pc2 := 160) b_224_157_3 rfl rfl ?_
                    have cf104 : h53 93 ((h53 90 7)) = h 93 ((h53 90 7)) := congrFun E59 ((h53 90 7))
                    refine ov_cV (as := [ov_i 0, ov_i 0]) (st := []) (d2 := d - 1) d_224_160 lk_Mo_246 rfl (Nat.le_of_ble_eq_true rfl) (c := 1) (zb_90 I54) (zs_90 I54) ⟨by decide, rfl⟩ (by omega) (c_fMo_emit_90 w76 (d - 1) (by omega) U I54 0 0 (by omega) (by omega) (by show 0 ≤ (0 : Int) ∧ (0 : Int) ≤ 10; omega) (by show (h53 90 13) ≤ 999; omega) (by show (h53 93 ((h53 90 7))) = w76; omega)) ?_
                    rintro _ z105 h106 ⟨rfl, I107, y108, f109, y110⟩
                    have E111 : h106 92 = h 92 := Eq.trans (y108 92 (by decide)) (show h53 92 = h 92 from E58)
                    have E112 : h106 93 = h 93 := Eq.trans (y108 93 (by decide)) (show h53 93 = h 93 from E59)
                    have E113 : h106 94 = h 94 := Eq.trans (y108 94 (by decide)) (show h53 94 = h 94 from E60)
                    have E114 : h106 95 = h 95 := Eq.trans (y108 95 (by decide)) (show h53 95 = h 95 from E61)
                    have E115 : h106 96 = h53 96 := Eq.trans (y108 96 (by decide)) (show h53 96 = h53 96 from rfl)
                    have E116 : h106 99 = h53 99 := Eq.trans (y108 99 (by decide)) (show h53 99 = h53 99 from rfl)
                    have fr117 : ∀ a : Int, a ≠ 90 ∧ (a < 96 ∨ 99 < a) → h106 a = h a := fun a ca => Eq.trans (y108 a (by omega)) (fr66 a ca)
                    have f119 : (h106 90 13) = (h53 90 13) + 1 ∧ (h106 90 7) = (h53 90 7) ∧ (h106 90 8) = (h53 90 8) ∧ (h106 93 ((h106 90 7))) = w76 := f109
                    clear f109
                    have y110_ : ∀ k : Int, k ≠ 13 → (h106 90) k = (h53 90) k := y110
                    have rk118 : ∀ k : Int, k ≠ 7 → k ≠ 8 → k ≠ 13 → h106 90 k = h 90 k := fun k n0 n1 n2 => Eq.trans (y110_ k n2) (rk67 k n0 n1 n2)
                    have g120 : h106 90 2 = (h53 90 2) := y110_ 2 (by decide)
                    have g121 : h106 90 3 = (h53 90 3) := y110_ 3 (by decide)
                    have g122 : h106 90 7 = (h53 90 7) := y110_ 7 (by decide)
                    have g123 : h106 90 8 = (h53 90 8) := y110_ 8 (by decide)
                    have g124 : h106 90 15 = (h53 90 15) := y110_ 15 (by decide)
                    show ov_R u d ov_m224 163 [(0, ov_r 90), (1, ov_i (A 8)), (2, ov_i x2), (3, ov_i x3)] [] z105 h106 (P_fMo_readRule_90 F z h t m N p A)
                    refine ov_blk (ls2 := [(0, ov_r 90), (1, ov_i (A 8)), (2, ov_i x2), (3, ov_i x3)]) (st2 := [ov_r 90]) (pc2 := 164) b_224_163_1 rfl rfl ?_
                    refine ov_getf (v := ov_r 96) d_224_164 fl_Mo_81 (zb_90 I107) (zs_90 I107) (congrArg ov_r (rg_90_10 I107)) ?_
                    refine ov_blk (ls2 := [(0, ov_r 90), (1, ov_i (A 8)), (2, ov_i x2), (3, ov_i x3)]) (st2 := [ov_i 348, ov_r 96, ov_i 348, ov_r 96]) (pc2 := 171) b_224_167_2 rfl rfl ?_
                    refine ov_iald d_224_171 (zb_96 I107) (zs_96 I107) (by omega) ?_
                    have e125 : h106 96 348 = (h53 96 348) := congrFun (show h106 96 = h53 96 from E115) 348
                    rw [e125]
                    show ov_R u d ov_m224 172 [(0, ov_r 90), (1, ov_i (A 8)), (2, ov_i x2), (3, ov_i x3)] [ov_i (h53 96 348), ov_i 348, ov_r 96] z105 h106 (P_fMo_readRule_90 F z h t m N p A)
                    have k8 : h53 96 348 = A 8 := by rw [show h53 96 = (ov_rs (h 96) (620 + (A 8)) (h 90 13)) from R63, ov_rs_ne (by omega)]; exact pt_MR_c mr (j := 8) (by omega)
                    refine ov_blk (ls2 := [(0, ov_r 90), (1, ov_i (A 8)), (2, ov_i x2), (3, ov_i x3)]) (st2 := [ov_i ((h53 96 348) + 1), ov_i 348, ov_r 96]) (pc2 := 174) b_224_172_2 rfl rfl ?_
                    refine ov_iast d_224_174 (zb_96 I107) (zs_96 I107) (by omega) ?_
                    have I126 := ua_96 (k := 348) (x := ((h53 96 348) + 1)) I107 (by refine ⟨?_, ?_, ?_, ?_, ?_, ?_, ?_, ?_, ?_, ?_, ?_, ?_, ?_, ?_, ?_, ?_, ?_, ?_, ?_, ?_, ?_, ?_, ?_, ?_, ?_, ?_, ?_, ?_, ?_⟩ <;> omega)
                    have hF : (pt_ruF t m A p) = 0 := by unfold pt_ruF; rw [if_neg (by omega), pt_ite_f nb1, pt_ite_f (fun y => absurd (kni.mpr y) (by omega))]
                    have m1 : (ov_up h106 96 348 ((h53 96 348) + 1)) 96 = ov_rs (ov_rs (h 96) (620 + A 8) (h 90 13)) 348 (A 8 + 1) := by rw [show (ov_up h106 96 348 ((h53 96 348) + 1)) 96 = (ov_rs (ov_rs (h 96) (620 + (A 8)) (h 90 13)) 348 ((h53 96 348) + 1)) from (Eq.trans (ov_up_row h106 96 348 ((h53 96 348) + 1)) (congrArg (fun f => ov_rs f 348 ((h53 96 348) + 1)) (Eq.trans E115 R63))), k8]
                    have m2 : (h106 90 15) = (h 90 15) := by omega
                    have m3 : (ov_up h106 96 348 ((h53 96 348) + 1)) 99 = ov_rs (h 99) (A 8) (pt_w37 t m (pt_nt t m p)) := by rw [show (ov_up h106 96 348 ((h53 96 348) + 1)) 99 = (ov_rs (h 99) (A 8) (h 94 ((h 90 7) + 1))) from (Eq.trans (show (ov_up h106 96 348 ((h53 96 348) + 1)) 99 = h106 99 from rfl) (Eq.trans E116 R65)), vv]
                    exact ov_retv (st := []) d_224_175 rfl ⟨rfl, I126, (fun a ca => Eq.trans (by show (ov_up h106 96 348 ((h53 96 348) + 1)) a = h106 a; rw [ov_up_ne (by omega)]) (fr117 a ca)), (fun k n0 n1 n2 => (Eq.trans (by show (ov_up h106 96 348 ((h53 96 348) + 1)) 90 k = h106 90 k; rw [ov_up_ne (by decide)]) (rk118 k n0 n1 n2))), (Or.inr (Or.inr ⟨w76, (by show (pt_ruF t m A p) = 0 ∧ (h106 90 8) = 0 ∧ (h 90 7) ≤ (h106 90 7) ∧ (h106 90 7) ≤ N ∧ 0 ≤ (h106 90 13) ∧ (h106 90 13) ≤ (h106 90 7) ∧ (h106 93 ((h106 90 7))) = w76; omega), y78_, (by show pt_MR t m (pt_ruA t m A p) ((ov_up h106 96 348 ((h53 96 348) + 1)) 96) ((h106 90 15)) ((ov_up h106 96 348 ((h53 96 348) + 1)) 99); rw [m1, m2, m3]; exact pt_MR_rule mr (by omega) ty1)⟩))⟩
                · omega
              · skip
                refine ov_blk (ls2 := [(0, ov_r 90), (1, ov_i (A 8)), (2, ov_i x2), (3, ov_i x3)]) (st2 := [ov_i 3, ov_r 90]) (pc2 := 102) b_224_100_2 rfl rfl ?_
                refine ov_cV (as := [ov_i 3]) (st := []) (d2 := d - 1) d_224_102 lk_Mo_186 rfl (Nat.le_of_ble_eq_true rfl) (c := 1) (zb_90 I4) (zs_90 I4) ⟨by decide, rfl⟩ (by omega) (c_fMo_wrong_90 t m N (pt_nt t m p) (d - 1) (by omega) U I4 3 (by omega) (by show 0 ≤ ((h 90 7) + 1) ∧ ((h 90 7) + 1) ≤ N; omega) (by show (h 93 (((h 90 7) + 1))) = (pt_nt t m p); omega) (by show 0 ≤ (h 90 8); omega) (by show 1 ≤ (3 : Int) ∧ (3 : Int) ≤ 5; omega) (by rw [show (ov_up h 90 7 ((h 90 7) + 1)) 92 = h 92 from rfl, show (ov_up h 90 7 ((h 90 7) + 1)) 93 = h 93 from rfl, show (ov_up h 90 7 ((h 90 7) + 1)) 94 = h 94 from rfl]; exact mt)) ?_
                rintro _ z127 h128 ⟨rfl, I129, y130, y131, y132⟩
                have E133 : h128 92 = h 92 := Eq.trans (y130 92 (by decide)) (show (ov_up h 90 7 ((h 90 7) + 1)) 92 = h 92 from rfl)
                have E134 : h128 93 = h 93 := Eq.trans (y130 93 (by decide)) (show (ov_up h 90 7 ((h 90 7) + 1)) 93 = h 93 from rfl)
                have E135 : h128 94 = h 94 := Eq.trans (y130 94 (by decide)) (show (ov_up h 90 7 ((h 90 7) + 1)) 94 = h 94 from rfl)
                have E136 : h128 95 = h 95 := Eq.trans (y130 95 (by decide)) (show (ov_up h 90 7 ((h 90 7) + 1)) 95 = h 95 from rfl)
                have E137 : h128 96 = h 96 := Eq.trans (y130 96 (by decide)) (show (ov_up h 90 7 ((h 90 7) + 1)) 96 = h 96 from rfl)
                have E138 : h128 99 = h 99 := Eq.trans (y130 99 (by decide)) (show (ov_up h 90 7 ((h 90 7) + 1)) 99 = h 99 from rfl)
                have fr139 : ∀ a : Int, a ≠ 90 ∧ (a < 96 ∨ 99 < a) → h128 a = h a := fun a ca => Eq.trans (y130 a (by omega)) (Eq.trans (by show (ov_up h 90 7 ((h 90 7) + 1)) a = h a; rw [ov_up_ne (by omega)]) rfl)
                have y131_ : ∀ k : Int, k ≠ 8 → (h128 90) k = ((ov_up h 90 7 ((h 90 7) + 1)) 90) k := y131
                have rk140 : ∀ k : Int, k ≠ 7 → k ≠ 8 → k ≠ 13 → h128 90 k = h 90 k := fun k n0 n1 n2 => Eq.trans (y131_ k n1) (Eq.trans (by show (ov_up h 90 7 ((h 90 7) + 1)) 90 k = h 90 k; rw [ov_up_j n0]) rfl)
                have g141 : h128 90 2 = (h 90 2) := y131_ 2 (by decide)
                have g142 : h128 90 3 = (h 90 3) := y131_ 3 (by decide)
                have g143 : h128 90 7 = ((h 90 7) + 1) := y131_ 7 (by decide)
                have g144 : h128 90 13 = (h 90 13) := y131_ 13 (by decide)
                have g145 : h128 90 15 = (h 90 15) := y131_ 15 (by decide)
                rcases y132 with f146 | f147
                · have q9 : (h 90 8) ≠ 0 ∧ (h128 90 8) = (h 90 8) ∧ (h128 93 ((h128 90 7))) = (pt_nt t m p) := f146
                  omega
                · skip
                  show ov_R u d ov_m224 105 [(0, ov_r 90), (1, ov_i (A 8)), (2, ov_i x2), (3, ov_i x3)] [] z127 h128 (P_fMo_readRule_90 F z h t m N p A)
                  have f148 : (h 90 8) = 0 ∧ (h128 90 8) = (3 : Int) + 16 * (pt_nt t m p) ∧ (h128 93 ((h128 90 7))) = (pt_nt t m p) := f147
                  clear f147
                  refine ov_blk (ls2 := [(0, ov_r 90), (1, ov_i (A 8)), (2, ov_i x2), (3, ov_i x3)]) (st2 := [ov_r 90]) (pc2 := 106) b_224_105_1 rfl rfl ?_
                  refine ov_getf (v := ov_i (h128 90 8)) d_224_106 fl_Mo_180 (zb_90 I129) (zs_90 I129) rfl ?_
                  have g149 := rg_90_8 I129
                  refine ov_ifle (tgt := 113) d_224_109 (by decide) (by omega) (fun c150 => ?_) (fun c150 => ?_)
                  · omega
                  · skip
                    have hF : (pt_ruF t m A p) = 3 + 16 * (pt_nt t m p) := by unfold pt_ruF; rw [if_neg (by omega), pt_ite_f nb1, pt_ite_t (kni.mp (by omega))]
                    exact ov_retv (st := []) d_224_112 rfl ⟨rfl, I129, (fun a ca => (fr139 a ca)), (fun k n0 n1 n2 => (rk140 k n0 n1 n2)), (Or.inl (by show (h128 90 8) = (pt_ruF t m A p) ∧ 1 ≤ (h128 90 8) ∧ (h 90 7) ≤ (h128 90 7) ∧ (h128 90 7) ≤ N; omega))⟩
            · omega
        · skip
          refine ov_blk (ls2 := [(0, ov_r 90), (1, ov_i (A 8)), (2, ov_i x2), (3, ov_i x3)]) (st2 := [ov_r 90]) (pc2 := 40) b_224_39_1 rfl rfl ?_
          refine ov_getf (v := ov_i (h 90 8)) d_224_40 fl_Mo_180 (zb_90 I4) (zs_90 I4) rfl ?_
          have g151 := rg_90_8 I
          refine ov_ifne (tgt := 81) d_224_43 (by decide) (by omega) (fun c152 => ?_) (fun c152 => ?_)
          · omega
          · skip
            refine ov_blk (ls2 := [(0, ov_r 90), (1, ov_i (A 8)), (2, ov_i x2), (3, ov_i x3)]) (st2 := [ov_i x2]) (pc2 := 47) b_224_46_1 rfl rfl ?_
            refine ov_ifne (tgt := 69) d_224_47 (by decide) (by omega) (fun c153 => ?_) (fun c153 => ?_)
            · skip
              refine ov_blk (ls2 := [(0, ov_r 90), (1, ov_i (A 8)), (2, ov_i x2), (3, ov_i x3)]) (st2 := [ov_i 1]) (pc2 := 70) b_224_69_1 rfl rfl ?_
              refine ov_goto (tgt := 74) d_224_70 (by decide) ?_
              refine ov_blk (ls2 := [(0, ov_r 90), (1, ov_i (A 8)), (2, ov_i 1), (3, ov_i (x3 + 1))]) (st2 := []) (pc2 := 78) b_224_74_2 rfl rfl ?_
              refine ov_goto (tgt := 34) d_224_78 (by decide) ?_
              exact ih6 1 (x3 + 1) (pt_met_y xm (by omega)) (by show 0 ≤ (x3 + 1) ∧ (x3 + 1) ≤ A 8 ∧ (1 = 0 ∨ 1 = 1); omega) (by omega)
            · skip
              refine ov_blk (ls2 := [(0, ov_r 90), (1, ov_i (A 8)), (2, ov_i x2), (3, ov_i x3)]) (st2 := [ov_r 90]) (pc2 := 51) b_224_50_1 rfl rfl ?_
              refine ov_getf (v := ov_r 99) d_224_51 fl_Mo_90 (zb_90 I4) (zs_90 I4) (congrArg ov_r (rg_90_14 I4)) ?_
              refine ov_blk (ls2 := [(0, ov_r 90), (1, ov_i (A 8)), (2, ov_i x2), (3, ov_i x3)]) (st2 := [ov_i x3, ov_r 99]) (pc2 := 55) b_224_54_1 rfl rfl ?_
              have nn := pt_MR_n mr (i := x3) (by omega)
              have n1 := nn.1
              have nw := pt_w37_b nn.2
              rw [← n1] at nw
              clear n1
              refine ov_lald d_224_55 (zb_99 I4) (zs_99 I4) (by omega) ?_
              have e154 : (ov_up h 90 7 ((h 90 7) + 1)) 99 x3 = (h 99 x3) := rfl
              show ov_R u d ov_m224 56 [(0, ov_r 90), (1, ov_i (A 8)), (2, ov_i x2), (3, ov_i x3)] [ov_l ((ov_up h 90 7 ((h 90 7) + 1)) 99 x3)] z (ov_up h 90 7 ((h 90 7) + 1)) (P_fMo_readRule_90 F z h t m N p A)
              rw [e154]
              show ov_R u d ov_m224 56 [(0, ov_r 90), (1, ov_i (A 8)), (2, ov_i x2), (3, ov_i x3)] [ov_l (h 99 x3)] z (ov_up h 90 7 ((h 90 7) + 1)) (P_fMo_readRule_90 F z h t m N p A)
              refine ov_blk (ls2 := [(0, ov_r 90), (1, ov_i (A 8)), (2, ov_i x2), (3, ov_i x3)]) (st2 := [ov_r 90, ov_l (h 99 x3)]) (pc2 := 57) b_224_56_1 rfl rfl ?_
              refine ov_getf (v := ov_r 94) d_224_57 fl_Mo_30 (zb_90 I4) (zs_90 I4) (congrArg ov_r (rg_90_6 I4)) ?_
              refine ov_blk (ls2 := [(0, ov_r 90), (1, ov_i (A 8)), (2, ov_i x2), (3, ov_i x3)]) (st2 := [ov_r 90, ov_r 94, ov_l (h 99 x3)]) (pc2 := 61) b_224_60_1 rfl rfl ?_
              refine ov_getf (v := ov_i ((h 90 7) + 1)) d_224_61 fl_Mo_177 (zb_90 I4) (zs_90 I4) rfl ?_
              refine ov_lald d_224_64 (zb_94 I4) (zs_94 I4) (by omega) ?_
              have g156 := ra_94 I4 ((h 90 7) + 1)
              have e155 : (ov_up h 90 7 ((h 90 7) + 1)) 94 ((h 90 7) + 1) = (h 94 ((h 90 7) + 1)) := rfl
              rw [e155] at g156
              show ov_R u d ov_m224 65 [(0, ov_r 90), (1, ov_i (A 8)), (2, ov_i x2), (3, ov_i x3)] [ov_l ((ov_up h 90 7 ((h 90 7) + 1)) 94 ((h 90 7) + 1)), ov_l (h 99 x3)] z (ov_up h 90 7 ((h 90 7) + 1)) (P_fMo_readRule_90 F z h t m N p A)
              rw [e155]
              show ov_R u d ov_m224 65 [(0, ov_r 90), (1, ov_i (A 8)), (2, ov_i x2), (3, ov_i x3)] [ov_l (h 94 ((h 90 7) + 1)), ov_l (h 99 x3)] z (ov_up h 90 7 ((h 90 7) + 1)) (P_fMo_readRule_90 F z h t m N p A)
              refine ov_blk (ls2 := [(0, ov_r 90), (1, ov_i (A 8)), (2, ov_i x2), (3, ov_i x3)]) (st2 := [ov_i (ov_lcmp (h 99 x3) (h 94 ((h 90 7) + 1)))]) (pc2 := 66) b_224_65_1 rfl rfl ?_
              have g157 := ov_lcg (h 99 x3) (h 94 ((h 90 7) + 1))
              have g158 := ov_lcs (a := (h 99 x3)) (b := (h 94 ((h 90 7) + 1))) (by omega) (by omega)
              refine ov_ifne (tgt := 73) d_224_66 (by decide) (by omega) (fun c159 => ?_) (fun c159 => ?_)
              · skip
                refine ov_blk (ls2 := [(0, ov_r 90), (1, ov_i (A 8)), (2, ov_i 0), (3, ov_i (x3 + 1))]) (st2 := []) (pc2 := 78) b_224_73_3 rfl rfl ?_
                refine ov_goto (tgt := 34) d_224_78 (by decide) ?_
                exact ih6 0 (x3 + 1) (pt_met_n xm (by omega) (by omega)) (by show 0 ≤ (x3 + 1) ∧ (x3 + 1) ≤ A 8 ∧ (0 = 0 ∨ 0 = 1); omega) (by omega)
              · skip
                refine ov_blk (ls2 := [(0, ov_r 90), (1, ov_i (A 8)), (2, ov_i x2), (3, ov_i x3)]) (st2 := [ov_i 1]) (pc2 := 70) b_224_69_1 rfl rfl ?_
                refine ov_goto (tgt := 74) d_224_70 (by decide) ?_
                refine ov_blk (ls2 := [(0, ov_r 90), (1, ov_i (A 8)), (2, ov_i 1), (3, ov_i (x3 + 1))]) (st2 := []) (pc2 := 78) b_224_74_2 rfl rfl ?_
                refine ov_goto (tgt := 34) d_224_78 (by decide) ?_
                exact ih6 1 (x3 + 1) (pt_met_h (by omega) (by omega)) (by show 0 ≤ (x3 + 1) ∧ (x3 + 1) ≤ A 8 ∧ (1 = 0 ∨ 1 = 1); omega) (by omega)
    exact L8 5 0 0 pt_met_0 (by show 0 ≤ 0 ∧ 0 ≤ A 8 ∧ (0 = 0 ∨ 0 = 1); omega) (by omega)
  · skip
    refine ov_blk (ls2 := [(0, ov_r 90), (1, ov_i (A 8))]) (st2 := [ov_i 5, ov_r 90]) (pc2 := 16) b_224_14_2 rfl rfl ?_
    refine ov_cV (as := [ov_i 5]) (st := []) (d2 := d - 1) d_224_16 lk_Mo_186 rfl (Nat.le_of_ble_eq_true rfl) (c := 1) (zb_90 I) (zs_90 I) ⟨by decide, rfl⟩ (by omega) (c_fMo_wrong_90 t m N p (d - 1) (by omega) U I 5 (by omega) (by show 0 ≤ (h 90 7) ∧ (h 90 7) ≤ N; omega) (by show (h 93 ((h 90 7))) = p; omega) (by show 0 ≤ (h 90 8); omega) (by show 1 ≤ (5 : Int) ∧ (5 : Int) ≤ 5; omega) mt) ?_
    rintro _ z160 h161 ⟨rfl, I162, y163, y164, y165⟩
    have E166 : h161 92 = h 92 := Eq.trans (y163 92 (by decide)) (show h 92 = h 92 from rfl)
    have E167 : h161 93 = h 93 := Eq.trans (y163 93 (by decide)) (show h 93 = h 93 from rfl)
    have E168 : h161 94 = h 94 := Eq.trans (y163 94 (by decide)) (show h 94 = h 94 from rfl)
    have E169 : h161 95 = h 95 := Eq.trans (y163 95 (by decide)) (show h 95 = h 95 from rfl)
    have E170 : h161 96 = h 96 := Eq.trans (y163 96 (by decide)) (show h 96 = h 96 from rfl)
    have E171 : h161 99 = h 99 := Eq.trans (y163 99 (by decide)) (show h 99 = h 99 from rfl)
    have fr172 : ∀ a : Int, a ≠ 90 ∧ (a < 96 ∨ 99 < a) → h161 a = h a := fun a ca => Eq.trans (y163 a (by omega)) rfl
    have y164_ : ∀ k : Int, k ≠ 8 → (h161 90) k = (h 90) k := y164
    have rk173 : ∀ k : Int, k ≠ 7 → k ≠ 8 → k ≠ 13 → h161 90 k = h 90 k := fun k n0 n1 n2 => Eq.trans (y164_ k n1) rfl
    have g174 : h161 90 2 = (h 90 2) := y164_ 2 (by decide)
    have g175 : h161 90 3 = (h 90 3) := y164_ 3 (by decide)
    have g176 : h161 90 7 = (h 90 7) := y164_ 7 (by decide)
    have g177 : h161 90 13 = (h 90 13) := y164_ 13 (by decide)
    have g178 : h161 90 15 = (h 90 15) := y164_ 15 (by decide)
    rcases y165 with f179 | f180
    · omega
    · skip
      show ov_R u d ov_m224 19 [(0, ov_r 90), (1, ov_i (A 8))] [] z160 h161 (P_fMo_readRule_90 F z h t m N p A)
      have f181 : (h 90 8) = 0 ∧ (h161 90 8) = (5 : Int) + 16 * p ∧ (h161 93 ((h161 90 7))) = p := f180
      clear f180
      have hF : (pt_ruF t m A p) = 5 + 16 * p := by unfold pt_ruF; rw [if_pos (by omega)]
      exact ov_retv (st := []) d_224_19 rfl ⟨rfl, I162, (fun a ca => (fr172 a ca)), (fun k n0 n1 n2 => (rk173 k n0 n1 n2)), (Or.inl (by show (h161 90 8) = (pt_ruF t m A p) ∧ 1 ≤ (h161 90 8) ∧ (h 90 7) ≤ (h161 90 7) ∧ (h161 90 7) ≤ N; omega))⟩

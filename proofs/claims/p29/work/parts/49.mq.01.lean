abbrev P_Mo_judged_90 (F : ov_H × ov_Z) (z : ov_Z) (h : ov_H) : Option ov_V → ov_Z → ov_H → Prop := fun r0 z' h' => ∃ r : Int, r0 = some (ov_i r) ∧ ov_N F z' h' ∧ ((h' 90 2) = (h 90 2) ∧ (h' 90 7) = (h 90 7) ∧ (h' 90 8) = (h 90 8) ∧ (h' 90 13) = (h 90 13) ∧ (h' 90 20) = (h 90 20) ∧ (h' 90 22) = (h 90 22) ∧ (h' 90 25) = (h 90 25) ∧ (h' 90 26) = (h 90 26) ∧ (h' 90 28) = (h 90 28) ∧ (h' 90 29) = (h 90 29) ∧ (h' 90 30) = (h 90 30) ∧ (h' 90 34) = (h 90 34) ∧ -2147483648 ≤ r ∧ r ≤ 2147483647) ∧ h' 91 = h 91 ∧ h' 92 = h 92 ∧ h' 93 = h 93 ∧ h' 94 = h 94 ∧ h' 95 = h 95 ∧ h' 96 = h 96 ∧ h' 97 = h 97 ∧ h' 98 = h 98 ∧ h' 99 = h 99 ∧ h' 100 = h 100 ∧ h' 103 = h 103 ∧ h' 104 = h 104 ∧ h' 105 = h 105 ∧ h' 106 = h 106 ∧ h' 109 = h 109 ∧ h' 114 = h 114
set_option maxHeartbeats 4000000 in
theorem c_Mo_judged_90 {u : ov_U} {F : ov_H × ov_Z} {z : ov_Z} {h : ov_H} (d : Nat) (hd : 2 ≤ d) (U : ov_cap u) (I : ov_N F z h) (W : ov_WT (h 96)) (W2 : ov_WK (h 100)) : ov_T u d ov_m260 [ov_r 90] z h (P_Mo_judged_90 F z h) := by
  refine ov_en rfl (Nat.le_of_ble_eq_true rfl) ?_
  show ov_R u d ov_m260 0 [(0, ov_r 90)] [] z h (P_Mo_judged_90 F z h)
  have t0 := t96_0 I
  have t1 := t96_1 I
  have wk : ∀ j : Int, 0 ≤ j → j ≤ 12 → 0 ≤ h 100 (1 + 2 * j) ∧ h 100 (1 + 2 * j) ≤ 1 := fun j h1 h2 => s100_w I ⟨h1, h2⟩
  have wz := s100_0 I
  have wn : ov_sx (h 100) (Int.toNat 0) = 0 := rfl
  refine ov_blk (ls2 := [(0, ov_r 90)]) (st2 := [ov_i 0, ov_r 90]) (pc2 := 2) b_260_0_2 rfl rfl ?_
  refine ov_putf (x := 0) d_260_2 fl_Mo_1 (zb_90 I) (zs_90 I) rfl nk_0 rfl ?_
  have I1 := up_90_0 (x := 0) I (by omega)
  refine ov_blk (ls2 := [(0, ov_r 90), (1, ov_i 0), (2, ov_i 0), (3, ov_i 0), (4, ov_i 0)]) (st2 := []) (pc2 := 14) b_260_5_8 rfl rfl ?_
  have L5 : ∀ (n2 : Nat) (x1 : Int) (x2 : Int) (x3 : Int) (x4 : Int) (q4 : 0 ≤ x4 ∧ x4 ≤ (h 100 0) ∧ x1 = ov_sx (h 100) (Int.toNat x4) ∧ x2 = x4 - x1 ∧ -10000 ≤ x3 ∧ x3 ≤ 20000), 13 - x4 < (n2 : Int) → ov_R u d ov_m260 14 [(0, ov_r 90), (1, ov_i x1), (2, ov_i x2), (3, ov_i x3), (4, ov_i x4)] [] z (ov_up h 90 0 0) (P_Mo_judged_90 F z h) := by
    intro n2
    induction n2 with
    | zero =>
      intro x1 x2 x3 x4 q4 hn6
      exact absurd hn6 (by omega)
    | succ n2 ih3 =>
      intro x1 x2 x3 x4 q4 hn6
      refine ov_blk (ls2 := [(0, ov_r 90), (1, ov_i x1), (2, ov_i x2), (3, ov_i x3), (4, ov_i x4)]) (st2 := [ov_r 90, ov_i x4]) (pc2 := 17) b_260_14_2 rfl rfl ?_
      refine ov_getf (v := ov_r 100) d_260_17 fl_Mo_93 (zb_90 I1) (zs_90 I1) (congrArg ov_r (rg_90_16 I1)) ?_
      refine ov_blk (ls2 := [(0, ov_r 90), (1, ov_i x1), (2, ov_i x2), (3, ov_i x3), (4, ov_i x4)]) (st2 := [ov_i 0, ov_r 100, ov_i x4]) (pc2 := 21) b_260_20_1 rfl rfl ?_
      refine ov_iald d_260_21 (zb_100 I1) (zs_100 I1) (by omega) ?_
      show ov_R u d ov_m260 22 [(0, ov_r 90), (1, ov_i x1), (2, ov_i x2), (3, ov_i x3), (4, ov_i x4)] [ov_i (h 100 0), ov_i x4] z (ov_up h 90 0 0) (P_Mo_judged_90 F z h)
      have g7 := s100_0 I
      refine ov_icge (tgt := 141) d_260_22 (by decide) (by omega) (by omega) (fun c8 => ?_) (fun c8 => ?_)
      · skip
        refine ov_blk (ls2 := [(0, ov_r 90), (1, ov_i x1), (2, ov_i x2), (3, ov_i x3), (4, ov_i x4)]) (st2 := [ov_i (-1)]) (pc2 := 142) b_260_141_1 rfl rfl ?_
        exact ov_reti (st := []) d_260_142 rfl ⟨_, rfl, I1, ⟨rfl, rfl, rfl, rfl, rfl, rfl, rfl, rfl, rfl, rfl, rfl, rfl, (by show -2147483648 ≤ (-1) ∧ (-1) ≤ 2147483647; omega)⟩, rfl, rfl, rfl, rfl, rfl, rfl, rfl, rfl, rfl, rfl, rfl, rfl, rfl, rfl, rfl, rfl⟩
      · skip
        have wi := ov_WK_in W2 wk (by omega) (k := x4) (by omega)
        have ws := ov_sx_s (h 100) (k := x4) (by omega)
        have ww := wk x4 (by omega) (by omega)
        refine ov_blk (ls2 := [(0, ov_r 90), (1, ov_i x1), (2, ov_i x2), (3, ov_i x3), (4, ov_i x4)]) (st2 := [ov_r 90]) (pc2 := 26) b_260_25_1 rfl rfl ?_
        refine ov_getf (v := ov_r 100) d_260_26 fl_Mo_93 (zb_90 I1) (zs_90 I1) (congrArg ov_r (rg_90_16 I1)) ?_
        refine ov_blk (ls2 := [(0, ov_r 90), (1, ov_i x1), (2, ov_i x2), (3, ov_i x3), (4, ov_i x4)]) (st2 := [ov_i (1 + (2 * x4)), ov_r 100]) (pc2 := 35) b_260_29_5 rfl rfl ?_
        refine ov_iald d_260_35 (zb_100 I1) (zs_100 I1) (by omega) ?_
        show ov_R u d ov_m260 36 [(0, ov_r 90), (1, ov_i x1), (2, ov_i x2), (3, ov_i x3), (4, ov_i x4)] [ov_i (h 100 (1 + (2 * x4)))] z (ov_up h 90 0 0) (P_Mo_judged_90 F z h)
        have g9 := s100_g I (1 + (2 * x4))
        refine ov_blk (ls2 := [(0, ov_r 90), (1, ov_i x1), (2, ov_i x2), (3, ov_i x3), (4, ov_i x4), (5, ov_i (h 100 (1 + (2 * x4))))]) (st2 := [ov_r 90]) (pc2 := 39) b_260_36_2 rfl rfl ?_
        refine ov_getf (v := ov_r 100) d_260_39 fl_Mo_93 (zb_90 I1) (zs_90 I1) (congrArg ov_r (rg_90_16 I1)) ?_
        refine ov_blk (ls2 := [(0, ov_r 90), (1, ov_i x1), (2, ov_i x2), (3, ov_i x3), (4, ov_i x4), (5, ov_i (h 100 (1 + (2 * x4))))]) (st2 := [ov_i (2 + (2 * x4)), ov_r 100]) (pc2 := 48) b_260_42_5 rfl rfl ?_
        refine ov_iald d_260_48 (zb_100 I1) (zs_100 I1) (by omega) ?_
        show ov_R u d ov_m260 49 [(0, ov_r 90), (1, ov_i x1), (2, ov_i x2), (3, ov_i x3), (4, ov_i x4), (5, ov_i (h 100 (1 + (2 * x4))))] [ov_i (h 100 (2 + (2 * x4)))] z (ov_up h 90 0 0) (P_Mo_judged_90 F z h)
        have g10 := s100_g I (2 + (2 * x4))
        refine ov_blk (ls2 := [(0, ov_r 90), (1, ov_i x1), (2, ov_i x2), (3, ov_i x3), (4, ov_i x4), (5, ov_i (h 100 (1 + (2 * x4)))), (6, ov_i (h 100 (2 + (2 * x4))))]) (st2 := [ov_i x2, ov_i x1, ov_r 90]) (pc2 := 54) b_260_49_4 rfl rfl ?_
        refine ov_cV (as := [ov_i x1, ov_i x2]) (st := []) (d2 := d - 1) d_260_54 lk_Mo_282 rfl (Nat.le_of_ble_eq_true rfl) (c := 1) (zb_90 I1) (zs_90 I1) ⟨by decide, rfl⟩ (by omega) (c_Mo_kindAt_90 (d - 1) (by omega) U I1 x1 x2 (by omega) (by omega) (by omega)) ?_
        rintro _ _ _ ⟨v12, rfl, rfl, rfl, f11⟩
        show ov_R u d ov_m260 57 [(0, ov_r 90), (1, ov_i x1), (2, ov_i x2), (3, ov_i x3), (4, ov_i x4), (5, ov_i (h 100 (1 + (2 * x4)))), (6, ov_i (h 100 (2 + (2 * x4))))] [ov_i v12] z (ov_up h 90 0 0) (P_Mo_judged_90 F z h)
        have f13 : v12 = (h 96 (10 + 4 * (6 * x2 + x1))) - 1 ∧ -1 ≤ v12 ∧ v12 ≤ 3 := f11
        clear f11
        refine ov_blk (ls2 := [(0, ov_r 90), (1, ov_i x1), (2, ov_i x2), (3, ov_i x3), (4, ov_i x4), (5, ov_i (h 100 (1 + (2 * x4)))), (6, ov_i (h 100 (2 + (2 * x4))))]) (st2 := [ov_i 2, ov_i v12]) (pc2 := 58) b_260_57_1 rfl rfl ?_
        refine ov_icne (tgt := 78) d_260_58 (by decide) (by omega) (by omega) (fun c14 => ?_) (fun c14 => ?_)
        · skip
          refine ov_blk (ls2 := [(0, ov_r 90), (1, ov_i x1), (2, ov_i x2), (3, ov_i x3), (4, ov_i x4), (5, ov_i (h 100 (1 + (2 * x4)))), (6, ov_i (h 100 (2 + (2 * x4)))), (7, ov_i x3)]) (st2 := [ov_i x3, ov_i (h 100 (2 + (2 * x4)))]) (pc2 := 85) b_260_78_4 rfl rfl ?_
          refine ov_iclt (tgt := 110) d_260_85 (by decide) (by omega) (by omega) (fun c15 => ?_) (fun c15 => ?_)
          · skip
            refine ov_blk (ls2 := [(0, ov_r 90), (1, ov_i x1), (2, ov_i x2), (3, ov_i x3), (4, ov_i x4), (5, ov_i (h 100 (1 + (2 * x4)))), (6, ov_i (h 100 (2 + (2 * x4)))), (7, ov_i x3)]) (st2 := [ov_i x4]) (pc2 := 112) b_260_110_1 rfl rfl ?_
            exact ov_reti (st := []) d_260_112 rfl ⟨_, rfl, I1, ⟨rfl, rfl, rfl, rfl, rfl, rfl, rfl, rfl, rfl, rfl, rfl, rfl, (by show -2147483648 ≤ x4 ∧ x4 ≤ 2147483647; omega)⟩, rfl, rfl, rfl, rfl, rfl, rfl, rfl, rfl, rfl, rfl, rfl, rfl, rfl, rfl, rfl, rfl⟩
          · skip
            refine ov_blk (ls2 := [(0, ov_r 90), (1, ov_i x1), (2, ov_i x2), (3, ov_i x3), (4, ov_i x4), (5, ov_i (h 100 (1 + (2 * x4)))), (6, ov_i (h 100 (2 + (2 * x4)))), (7, ov_i x3)]) (st2 := [ov_i x2, ov_i x1, ov_r 90]) (pc2 := 91) b_260_88_3 rfl rfl ?_
            refine ov_cV (as := [ov_i x1, ov_i x2]) (st := []) (d2 := d - 1) d_260_91 lk_Mo_285 rfl (Nat.le_of_ble_eq_true rfl) (c := 1) (zb_90 I1) (zs_90 I1) ⟨by decide, rfl⟩ (by omega) (c_Mo_isTimed_90 (d - 1) (by omega) U I1 x1 x2 (by omega) (by omega) (by omega)) ?_
            rintro _ _ _ ⟨v17, rfl, rfl, rfl, f16⟩
            show ov_R u d ov_m260 94 [(0, ov_r 90), (1, ov_i x1), (2, ov_i x2), (3, ov_i x3), (4, ov_i x4), (5, ov_i (h 100 (1 + (2 * x4)))), (6, ov_i (h 100 (2 + (2 * x4)))), (7, ov_i x3)] [ov_i v17] z (ov_up h 90 0 0) (P_Mo_judged_90 F z h)
            have f18 : (v17 = 0 ∨ v17 = 1) ∧ (v17 = 1 → ((h 96 (10 + 4 * (6 * x2 + x1))) = 1 ∨ (h 96 (10 + 4 * (6 * x2 + x1))) = 2)) ∧ (v17 = 0 → ¬ ((h 96 (10 + 4 * (6 * x2 + x1))) = 1 ∨ (h 96 (10 + 4 * (6 * x2 + x1))) = 2)) := f16
            clear f16
            refine ov_ifeq (tgt := 113) d_260_94 (by decide) (by omega) (fun c19 => ?_) (fun c19 => ?_)
            · skip
              have f18_ : v17 = 0 := by omega
              have f20 : ¬ ((h 96 (10 + 4 * (6 * x2 + x1))) = 1 ∨ (h 96 (10 + 4 * (6 * x2 + x1))) = 2) := f18.2.2 (by omega)
              clear f18
              refine ov_blk (ls2 := [(0, ov_r 90), (1, ov_i x1), (2, ov_i x2), (3, ov_i x3), (4, ov_i x4), (5, ov_i (h 100 (1 + (2 * x4)))), (6, ov_i (h 100 (2 + (2 * x4)))), (7, ov_i x3)]) (st2 := [ov_r 90, ov_i (h 100 (2 + (2 * x4)))]) (pc2 := 116) b_260_113_2 rfl rfl ?_
              refine ov_getf (v := ov_r 96) d_260_116 fl_Mo_81 (zb_90 I1) (zs_90 I1) (congrArg ov_r (rg_90_10 I1)) ?_
              refine ov_blk (ls2 := [(0, ov_r 90), (1, ov_i x1), (2, ov_i x2), (3, ov_i x3), (4, ov_i x4), (5, ov_i (h 100 (1 + (2 * x4)))), (6, ov_i (h 100 (2 + (2 * x4)))), (7, ov_i x3)]) (st2 := [ov_i 2, ov_r 96, ov_i (h 100 (2 + (2 * x4)))]) (pc2 := 120) b_260_119_1 rfl rfl ?_
              refine ov_iald d_260_120 (zb_96 I1) (zs_96 I1) (by omega) ?_
              show ov_R u d ov_m260 121 [(0, ov_r 90), (1, ov_i x1), (2, ov_i x2), (3, ov_i x3), (4, ov_i x4), (5, ov_i (h 100 (1 + (2 * x4)))), (6, ov_i (h 100 (2 + (2 * x4)))), (7, ov_i x3)] [ov_i (h 96 2), ov_i (h 100 (2 + (2 * x4)))] z (ov_up h 90 0 0) (P_Mo_judged_90 F z h)
              have g21 := t96_2 I
              refine ov_blk (ls2 := [(0, ov_r 90), (1, ov_i (x1 + (1 - (h 100 (1 + (2 * x4)))))), (2, ov_i (x2 + (h 100 (1 + (2 * x4))))), (3, ov_i ((h 100 (2 + (2 * x4))) + (h 96 2))), (4, ov_i (x4 + 1)), (5, ov_i (h 100 (1 + (2 * x4)))), (6, ov_i (h 100 (2 + (2 * x4)))), (7, ov_i x3)]) (st2 := []) (pc2 := 138) b_260_121_13 rfl rfl ?_
              refine ov_goto (tgt := 14) d_260_138 (by decide) ?_
              refine ov_sub (ls2 := [(0, ov_r 90), (1, ov_i (x1 + (1 - (h 100 (1 + (2 * x4)))))), (2, ov_i (x2 + (h 100 (1 + (2 * x4))))), (3, ov_i ((h 100 (2 + (2 * x4))) + (h 96 2))), (4, ov_i (x4 + 1))]) (List.Sublist.subset (by repeat (first | exact List.Sublist.refl _ | apply List.Sublist.cons_cons | apply List.Sublist.cons))) ?_
              exact ih3 (x1 + (1 - (h 100 (1 + (2 * x4))))) (x2 + (h 100 (1 + (2 * x4)))) ((h 100 (2 + (2 * x4))) + (h 96 2)) (x4 + 1) (by show 0 ≤ (x4 + 1) ∧ (x4 + 1) ≤ (h 100 0) ∧ (x1 + (1 - (h 100 (1 + (2 * x4))))) = ov_sx (h 100) (Int.toNat (x4 + 1)) ∧ (x2 + (h 100 (1 + (2 * x4)))) = (x4 + 1) - (x1 + (1 - (h 100 (1 + (2 * x4))))) ∧ -10000 ≤ ((h 100 (2 + (2 * x4))) + (h 96 2)) ∧ ((h 100 (2 + (2 * x4))) + (h 96 2)) ≤ 20000; omega) (by omega)
            · skip
              have f18_ : v17 = 1 := by omega
              have f22 : ((h 96 (10 + 4 * (6 * x2 + x1))) = 1 ∨ (h 96 (10 + 4 * (6 * x2 + x1))) = 2) := f18.2.1 (by omega)
              clear f18
              have w1 := ov_WT_at W (c := 6 * x2 + x1) (by omega)
              refine ov_blk (ls2 := [(0, ov_r 90), (1, ov_i x1), (2, ov_i x2), (3, ov_i x3), (4, ov_i x4), (5, ov_i (h 100 (1 + (2 * x4)))), (6, ov_i (h 100 (2 + (2 * x4)))), (7, ov_i x3)]) (st2 := [ov_i (h 100 (2 + (2 * x4))), ov_i (h 100 (1 + (2 * x4))), ov_i x2, ov_i x1, ov_r 90]) (pc2 := 104) b_260_97_5 rfl rfl ?_
              refine ov_cV (as := [ov_i x1, ov_i x2, ov_i (h 100 (1 + (2 * x4))), ov_i (h 100 (2 + (2 * x4)))]) (st := []) (d2 := d - 1) d_260_104 lk_Mo_292 rfl (Nat.le_of_ble_eq_true rfl) (c := 1) (zb_90 I1) (zs_90 I1) ⟨by decide, rfl⟩ (by omega) (c_Mo_isGreen_90 (d - 1) (by omega) U I1 x1 x2 (h 100 (1 + (2 * x4))) (h 100 (2 + (2 * x4))) (by omega) (by omega) (by omega) (by omega) (by omega) (by show 1 ≤ (h 96 (10 + 4 * (6 * x2 + x1) + 1)); omega) (by omega)) ?_
              rintro _ _ _ ⟨v24, rfl, rfl, rfl, f23⟩
              show ov_R u d ov_m260 107 [(0, ov_r 90), (1, ov_i x1), (2, ov_i x2), (3, ov_i x3), (4, ov_i x4), (5, ov_i (h 100 (1 + (2 * x4)))), (6, ov_i (h 100 (2 + (2 * x4)))), (7, ov_i x3)] [ov_i v24] z (ov_up h 90 0 0) (P_Mo_judged_90 F z h)
              have f25 : (v24 = 0 ∨ v24 = 1) ∧ (v24 = 1 → (ov_ph (h 100 (2 + (2 * x4))) ((h 96 (10 + 4 * (6 * x2 + x1) + 2))) ((h 96 (10 + 4 * (6 * x2 + x1) + 1))) < (h 96 (10 + 4 * (6 * x2 + x1) + 3)) ∧ (h 100 (1 + (2 * x4))) = 0) ∨ (¬ ov_ph (h 100 (2 + (2 * x4))) ((h 96 (10 + 4 * (6 * x2 + x1) + 2))) ((h 96 (10 + 4 * (6 * x2 + x1) + 1))) < (h 96 (10 + 4 * (6 * x2 + x1) + 3)) ∧ ¬ (h 100 (1 + (2 * x4))) = 0)) ∧ (v24 = 0 → (ov_ph (h 100 (2 + (2 * x4))) ((h 96 (10 + 4 * (6 * x2 + x1) + 2))) ((h 96 (10 + 4 * (6 * x2 + x1) + 1))) < (h 96 (10 + 4 * (6 * x2 + x1) + 3)) ∧ ¬ (h 100 (1 + (2 * x4))) = 0) ∨ (¬ ov_ph (h 100 (2 + (2 * x4))) ((h 96 (10 + 4 * (6 * x2 + x1) + 2))) ((h 96 (10 + 4 * (6 * x2 + x1) + 1))) < (h 96 (10 + 4 * (6 * x2 + x1) + 3)) ∧ (h 100 (1 + (2 * x4))) = 0)) := f23
              clear f23
              refine ov_ifne (tgt := 113) d_260_107 (by decide) (by omega) (fun c26 => ?_) (fun c26 => ?_)
              · skip
                have f25_ : v24 = 1 := by omega
                have f27 : (ov_ph (h 100 (2 + (2 * x4))) ((h 96 (10 + 4 * (6 * x2 + x1) + 2))) ((h 96 (10 + 4 * (6 * x2 + x1) + 1))) < (h 96 (10 + 4 * (6 * x2 + x1) + 3)) ∧ (h 100 (1 + (2 * x4))) = 0) ∨ (¬ ov_ph (h 100 (2 + (2 * x4))) ((h 96 (10 + 4 * (6 * x2 + x1) + 2))) ((h 96 (10 + 4 * (6 * x2 + x1) + 1))) < (h 96 (10 + 4 * (6 * x2 + x1) + 3)) ∧ ¬ (h 100 (1 + (2 * x4))) = 0) := f25.2.1 (by omega)
                clear f25
                refine ov_blk (ls2 := [(0, ov_r 90), (1, ov_i x1), (2, ov_i x2), (3, ov_i x3), (4, ov_i x4), (5, ov_i (h 100 (1 + (2 * x4)))), (6, ov_i (h 100 (2 + (2 * x4)))), (7, ov_i x3)]) (st2 := [ov_r 90, ov_i (h 100 (2 + (2 * x4)))]) (pc2 := 116) b_260_113_2 rfl rfl ?_
                refine ov_getf (v := ov_r 96) d_260_116 fl_Mo_81 (zb_90 I1) (zs_90 I1) (congrArg ov_r (rg_90_10 I1)) ?_
                refine ov_blk (ls2 := [(0, ov_r 90), (1, ov_i x1), (2, ov_i x2), (3, ov_i x3), (4, ov_i x4), (5, ov_i (h 100 (1 + (2 * x4)))), (6, ov_i (h 100 (2 + (2 * x4)))), (7, ov_i x3)]) (st2 := [ov_i 2, ov_r 96, ov_i (h 100 (2 + (2 * x4)))]) (pc2 := 120) b_260_119_1 rfl rfl ?_
                refine ov_iald d_260_120 (zb_96 I1) (zs_96 I1) (by omega) ?_
                show ov_R u d ov_m260 121 [(0, ov_r 90), (1, ov_i x1), (2, ov_i x2), (3, ov_i x3), (4, ov_i x4), (5, ov_i (h 100 (1 + (2 * x4)))), (6, ov_i (h 100 (2 + (2 * x4)))), (7, ov_i x3)] [ov_i (h 96 2), ov_i (h 100 (2 + (2 * x4)))] z (ov_up h 90 0 0) (P_Mo_judged_90 F z h)
                have g28 := t96_2 I
                refine ov_blk (ls2 := [(0, ov_r 90), (1, ov_i (x1 + (1 - (h 100 (1 + (2 * x4)))))), (2, ov_i (x2 + (h 100 (1 + (2 * x4))))), (3, ov_i ((h 100 (2 + (2 * x4))) + (h 96 2))), (4, ov_i (x4 + 1)), (5, ov_i (h 100 (1 + (2 * x4)))), (6, ov_i (h 100 (2 + (2 * x4)))), (7, ov_i x3)]) (st2 := []) (pc2 := 138) b_260_121_13 rfl rfl ?_
                refine ov_goto (tgt := 14) d_260_138 (by decide) ?_
                refine ov_sub (ls2 := [(0, ov_r 90), (1, ov_i (x1 + (1 - (h 100 (1 + (2 * x4)))))), (2, ov_i (x2 + (h 100 (1 + (2 * x4))))), (3, ov_i ((h 100 (2 + (2 * x4))) + (h 96 2))), (4, ov_i (x4 + 1))]) (List.Sublist.subset (by repeat (first | exact List.Sublist.refl _ | apply List.Sublist.cons_cons | apply List.Sublist.cons))) ?_
                exact ih3 (x1 + (1 - (h 100 (1 + (2 * x4))))) (x2 + (h 100 (1 + (2 * x4)))) ((h 100 (2 + (2 * x4))) + (h 96 2)) (x4 + 1) (by show 0 ≤ (x4 + 1) ∧ (x4 + 1) ≤ (h 100 0) ∧ (x1 + (1 - (h 100 (1 + (2 * x4))))) = ov_sx (h 100) (Int.toNat (x4 + 1)) ∧ (x2 + (h 100 (1 + (2 * x4)))) = (x4 + 1) - (x1 + (1 - (h 100 (1 + (2 * x4))))) ∧ -10000 ≤ ((h 100 (2 + (2 * x4))) + (h 96 2)) ∧ ((h 100 (2 + (2 * x4))) + (h 96 2)) ≤ 20000; omega) (by omega)
              · skip
                have f25_ : v24 = 0 := by omega
                have f29 : (ov_ph (h 100 (2 + (2 * x4))) ((h 96 (10 + 4 * (6 * x2 + x1) + 2))) ((h 96 (10 + 4 * (6 * x2 + x1) + 1))) < (h 96 (10 + 4 * (6 * x2 + x1) + 3)) ∧ ¬ (h 100 (1 + (2 * x4))) = 0) ∨ (¬ ov_ph (h 100 (2 + (2 * x4))) ((h 96 (10 + 4 * (6 * x2 + x1) + 2))) ((h 96 (10 + 4 * (6 * x2 + x1) + 1))) < (h 96 (10 + 4 * (6 * x2 + x1) + 3)) ∧ (h 100 (1 + (2 * x4))) = 0) := f25.2.2 (by omega)
                clear f25
                refine ov_blk (ls2 := [(0, ov_r 90), (1, ov_i x1), (2, ov_i x2), (3, ov_i x3), (4, ov_i x4), (5, ov_i (h 100 (1 + (2 * x4)))), (6, ov_i (h 100 (2 + (2 * x4)))), (7, ov_i x3)]) (st2 := [ov_i x4]) (pc2 := 112) b_260_110_1 rfl rfl ?_
                exact ov_reti (st := []) d_260_112 rfl ⟨_, rfl, I1, ⟨rfl, rfl, rfl, rfl, rfl, rfl, rfl, rfl, rfl, rfl, rfl, rfl, (by show -2147483648 ≤ x4 ∧ x4 ≤ 2147483647; omega)⟩, rfl, rfl, rfl, rfl, rfl, rfl, rfl, rfl, rfl, rfl, rfl, rfl, rfl, rfl, rfl, rfl⟩
        · skip
          refine ov_blk (ls2 := [(0, ov_r 90), (1, ov_i x1), (2, ov_i x2), (3, ov_i x3), (4, ov_i x4), (5, ov_i (h 100 (1 + (2 * x4)))), (6, ov_i (h 100 (2 + (2 * x4))))]) (st2 := [ov_i (h 100 (1 + (2 * x4)))]) (pc2 := 63) b_260_61_1 rfl rfl ?_
          refine ov_ifne (tgt := 78) d_260_63 (by decide) (by omega) (fun c30 => ?_) (fun c30 => ?_)
          · skip
            refine ov_blk (ls2 := [(0, ov_r 90), (1, ov_i x1), (2, ov_i x2), (3, ov_i x3), (4, ov_i x4), (5, ov_i (h 100 (1 + (2 * x4)))), (6, ov_i (h 100 (2 + (2 * x4)))), (7, ov_i x3)]) (st2 := [ov_i x3, ov_i (h 100 (2 + (2 * x4)))]) (pc2 := 85) b_260_78_4 rfl rfl ?_
            refine ov_iclt (tgt := 110) d_260_85 (by decide) (by omega) (by omega) (fun c31 => ?_) (fun c31 => ?_)
            · skip
              refine ov_blk (ls2 := [(0, ov_r 90), (1, ov_i x1), (2, ov_i x2), (3, ov_i x3), (4, ov_i x4), (5, ov_i (h 100 (1 + (2 * x4)))), (6, ov_i (h 100 (2 + (2 * x4)))), (7, ov_i x3)]) (st2 := [ov_i x4]) (pc2 := 112) b_260_110_1 rfl rfl ?_
              exact ov_reti (st := []) d_260_112 rfl ⟨_, rfl, I1, ⟨rfl, rfl, rfl, rfl, rfl, rfl, rfl, rfl, rfl, rfl, rfl, rfl, (by show -2147483648 ≤ x4 ∧ x4 ≤ 2147483647; omega)⟩, rfl, rfl, rfl, rfl, rfl, rfl, rfl, rfl, rfl, rfl, rfl, rfl, rfl, rfl, rfl, rfl⟩
            · skip
              refine ov_blk (ls2 := [(0, ov_r 90), (1, ov_i x1), (2, ov_i x2), (3, ov_i x3), (4, ov_i x4), (5, ov_i (h 100 (1 + (2 * x4)))), (6, ov_i (h 100 (2 + (2 * x4)))), (7, ov_i x3)]) (st2 := [ov_i x2, ov_i x1, ov_r 90]) (pc2 := 91) b_260_88_3 rfl rfl ?_
              refine ov_cV (as := [ov_i x1, ov_i x2]) (st := []) (d2 := d - 1) d_260_91 lk_Mo_285 rfl (Nat.le_of_ble_eq_true rfl) (c := 1) (zb_90 I1) (zs_90 I1) ⟨by decide, rfl⟩ (by omega) (c_Mo_isTimed_90 (d - 1) (by omega) U I1 x1 x2 (by omega) (by omega) (by omega)) ?_
              rintro _ _ _ ⟨v33, rfl, rfl, rfl, f32⟩
              show ov_R u d ov_m260 94 [(0, ov_r 90), (1, ov_i x1), (2, ov_i x2), (3, ov_i x3), (4, ov_i x4), (5, ov_i (h 100 (1 + (2 * x4)))), (6, ov_i (h 100 (2 + (2 * x4)))), (7, ov_i x3)] [ov_i v33] z (ov_up h 90 0 0) (P_Mo_judged_90 F z h)
              have f34 : (v33 = 0 ∨ v33 = 1) ∧ (v33 = 1 → ((h 96 (10 + 4 * (6 * x2 + x1))) = 1 ∨ (h 96 (10 + 4 * (6 * x2 + x1))) = 2)) ∧ (v33 = 0 → ¬ ((h 96 (10 + 4 * (6 * x2 + x1))) = 1 ∨ (h 96 (10 + 4 * (6 * x2 + x1))) = 2)) := f32
              clear f32
              refine ov_ifeq (tgt := 113) d_260_94 (by decide) (by omega) (fun c35 => ?_) (fun c35 => ?_)
              · skip
                have f34_ : v33 = 0 := by omega
                have f36 : ¬ ((h 96 (10 + 4 * (6 * x2 + x1))) = 1 ∨ (h 96 (10 + 4 * (6 * x2 + x1))) = 2) := f34.2.2 (by omega)
                clear f34
                refine ov_blk (ls2 := [(0, ov_r 90), (1, ov_i x1), (2, ov_i x2), (3, ov_i x3), (4, ov_i x4), (5, ov_i (h 100 (1 + (2 * x4)))), (6, ov_i (h 100 (2 + (2 * x4)))), (7, ov_i x3)]) (st2 := [ov_r 90, ov_i (h 100 (2 + (2 * x4)))]) (pc2 := 116) b_260_113_2 rfl rfl ?_
                refine ov_getf (v := ov_r 96) d_260_116 fl_Mo_81 (zb_90 I1) (zs_90 I1) (congrArg ov_r (rg_90_10 I1)) ?_
                refine ov_blk (ls2 := [(0, ov_r 90), (1, ov_i x1), (2, ov_i x2), (3, ov_i x3), (4, ov_i x4), (5, ov_i (h 100 (1 + (2 * x4)))), (6, ov_i (h 100 (2 + (2 * x4)))), (7, ov_i x3)]) (st2 := [ov_i 2, ov_r 96, ov_i (h 100 (2 + (2 * x4)))]) (pc2 := 120) b_260_119_1 rfl rfl ?_
                refine ov_iald d_260_120 (zb_96 I1) (zs_96 I1) (by omega) ?_
                show ov_R u d ov_m260 121 [(0, ov_r 90), (1, ov_i x1), (2, ov_i x2), (3, ov_i x3), (4, ov_i x4), (5, ov_i (h 100 (1 + (2 * x4)))), (6, ov_i (h 100 (2 + (2 * x4)))), (7, ov_i x3)] [ov_i (h 96 2), ov_i (h 100 (2 + (2 * x4)))] z (ov_up h 90 0 0) (P_Mo_judged_90 F z h)
                have g37 := t96_2 I
                refine ov_blk (ls2 := [(0, ov_r 90), (1, ov_i (x1 + (1 - (h 100 (1 + (2 * x4)))))), (2, ov_i (x2 + (h 100 (1 + (2 * x4))))), (3, ov_i ((h 100 (2 + (2 * x4))) + (h 96 2))), (4, ov_i (x4 + 1)), (5, ov_i (h 100 (1 + (2 * x4)))), (6, ov_i (h 100 (2 + (2 * x4)))), (7, ov_i x3)]) (st2 := []) (pc2 := 138) b_260_121_13 rfl rfl ?_
                refine ov_goto (tgt := 14) d_260_138 (by decide) ?_
                refine ov_sub (ls2 := [(0, ov_r 90), (1, ov_i (x1 + (1 - (h 100 (1 + (2 * x4)))))), (2, ov_i (x2 + (h 100 (1 + (2 * x4))))), (3, ov_i ((h 100 (2 + (2 * x4))) + (h 96 2))), (4, ov_i (x4 + 1))]) (List.Sublist.subset (by repeat (first | exact List.Sublist.refl _ | apply List.Sublist.cons_cons | apply List.Sublist.cons))) ?_
                exact ih3 (x1 + (1 - (h 100 (1 + (2 * x4))))) (x2 + (h 100 (1 + (2 * x4)))) ((h 100 (2 + (2 * x4))) + (h 96 2)) (x4 + 1) (by show 0 ≤ (x4 + 1) ∧ (x4 + 1) ≤ (h 100 0) ∧ (x1 + (1 - (h 100 (1 + (2 * x4))))) = ov_sx (h 100) (Int.toNat (x4 + 1)) ∧ (x2 + (h 100 (1 + (2 * x4)))) = (x4 + 1) - (x1 + (1 - (h 100 (1 + (2 * x4))))) ∧ -10000 ≤ ((h 100 (2 + (2 * x4))) + (h 96 2)) ∧ ((h 100 (2 + (2 * x4))) + (h 96 2)) ≤ 20000; omega) (by omega)
              · skip
                have f34_ : v33 = 1 := by omega
                have f38 : ((h 96 (10 + 4 * (6 * x2 + x1))) = 1 ∨ (h 96 (10 + 4 * (6 * x2 + x1))) = 2) := f34.2.1 (by omega)
                clear f34
                have w1 := ov_WT_at W (c := 6 * x2 + x1) (by omega)
                refine ov_blk (ls2 := [(0, ov_r 90), (1, ov_i x1), (2, ov_i x2), (3, ov_i x3), (4, ov_i x4), (5, ov_i (h 100 (1 + (2 * x4)))), (6, ov_i (h 100 (2 + (2 * x4)))), (7, ov_i x3)]) (st2 := [ov_i (h 100 (2 + (2 * x4))), ov_i (h 100 (1 + (2 * x4))), ov_i x2, ov_i x1, ov_r 90]) (pc2 := 104) b_260_97_5 rfl rfl ?_
                refine ov_cV (as := [ov_i x1, ov_i x2, ov_i (h 100 (1 + (2 * x4))), ov_i (h 100 (2 + (2 * x4)))]) (st := []) (d2 := d - 1) d_260_104 lk_Mo_292 rfl (Nat.le_of_ble_eq_true rfl) (c := 1) (zb_90 I1) (zs_90 I1) ⟨by decide, rfl⟩ (by omega) (c_Mo_isGreen_90 (d - 1) (by omega) U I1 x1 x2 (h 100 (1 + (2 * x4))) (h 100 (2 + (2 * x4))) (by omega) (by omega) (by omega) (by omega) (by omega) (by show 1 ≤ (h 96 (10 + 4 * (6 * x2 + x1) + 1)); omega) (by omega)) ?_
                rintro _ _ _ ⟨v40, rfl, rfl, rfl, f39⟩
                show ov_R u d ov_m260 107 [(0, ov_r 90), (1, ov_i x1), (2, ov_i x2), (3, ov_i x3), (4, ov_i x4), (5, ov_i (h 100 (1 + (2 * x4)))), (6, ov_i (h 100 (2 + (2 * x4)))), (7, ov_i x3)] [ov_i v40] z (ov_up h 90 0 0) (P_Mo_judged_90 F z h)
                have f41 : (v40 = 0 ∨ v40 = 1) ∧ (v40 = 1 → (ov_ph (h 100 (2 + (2 * x4))) ((h 96 (10 + 4 * (6 * x2 + x1) + 2))) ((h 96 (10 + 4 * (6 * x2 + x1) + 1))) < (h 96 (10 + 4 * (6 * x2 + x1) + 3)) ∧ (h 100 (1 + (2 * x4))) = 0) ∨ (¬ ov_ph (h 100 (2 + (2 * x4))) ((h 96 (10 + 4 * (6 * x2 + x1) + 2))) ((h 96 (10 + 4 * (6 * x2 + x1) + 1))) < (h 96 (10 + 4 * (6 * x2 + x1) + 3)) ∧ ¬ (h 100 (1 + (2 * x4))) = 0)) ∧ (v40 = 0 → (ov_ph (h 100 (2 + (2 * x4))) ((h 96 (10 + 4 * (6 * x2 + x1) + 2))) ((h 96 (10 + 4 * (6 * x2 + x1) + 1))) < (h 96 (10 + 4 * (6 * x2 + x1) + 3)) ∧ ¬ (h 100 (1 + (2 * x4))) = 0) ∨ (¬ ov_ph (h 100 (2 + (2 * x4))) ((h 96 (10 + 4 * (6 * x2 + x1) + 2))) ((h 96 (10 + 4 * (6 * x2 + x1) + 1))) < (h 96 (10 + 4 * (6 * x2 + x1) + 3)) ∧ (h 100 (1 + (2 * x4))) = 0)) := f39
                clear f39
                refine ov_ifne (tgt := 113) d_260_107 (by decide) (by omega) (fun c42 => ?_) (fun c42 => ?_)
                · skip
                  have f41_ : v40 = 1 := by omega
                  have f43 : (ov_ph (h 100 (2 + (2 * x4))) ((h 96 (10 + 4 * (6 * x2 + x1) + 2))) ((h 96 (10 + 4 * (6 * x2 + x1) + 1))) < (h 96 (10 + 4 * (6 * x2 + x1) + 3)) ∧ (h 100 (1 + (2 * x4))) = 0) ∨ (¬ ov_ph (h 100 (2 + (2 * x4))) ((h 96 (10 + 4 * (6 * x2 + x1) + 2))) ((h 96 (10 + 4 * (6 * x2 + x1) + 1))) < (h 96 (10 + 4 * (6 * x2 + x1) + 3)) ∧ ¬ (h 100 (1 + (2 * x4))) = 0) := f41.2.1 (by omega)
                  clear f41
                  refine ov_blk (ls2 := [(0, ov_r 90), (1, ov_i x1), (2, ov_i x2), (3, ov_i x3), (4, ov_i x4), (5, ov_i (h 100 (1 + (2 * x4)))), (6, ov_i (h 100 (2 + (2 * x4)))), (7, ov_i x3)]) (st2 := [ov_r 90, ov_i (h 100 (2 + (2 * x4)))]) (pc2 := 116) b_260_113_2 rfl rfl ?_
                  refine ov_getf (v := ov_r 96) d_260_116 fl_Mo_81 (zb_90 I1) (zs_90 I1) (congrArg ov_r (rg_90_10 I1)) ?_
                  refine ov_blk (ls2 := [(0, ov_r 90), (1, ov_i x1), (2, ov_i x2), (3, ov_i x3), (4, ov_i x4), (5, ov_i (h 100 (1 + (2 * x4)))), (6, ov_i (h 100 (2 + (2 * x4)))), (7, ov_i x3)]) (st2 := [ov_i 2, ov_r 96, ov_i (h 100 (2 + (2 * x4)))]) (pc2 := 120) b_260_119_1 rfl rfl ?_
                  refine ov_iald d_260_120 (zb_96 I1) (zs_96 I1) (by omega) ?_
                  show ov_R u d ov_m260 121 [(0, ov_r 90), (1, ov_i x1), (2, ov_i x2), (3, ov_i x3), (4, ov_i x4), (5, ov_i (h 100 (1 + (2 * x4)))), (6, ov_i (h 100 (2 + (2 * x4)))), (7, ov_i x3)] [ov_i (h 96 2), ov_i (h 100 (2 + (2 * x4)))] z (ov_up h 90 0 0) (P_Mo_judged_90 F z h)
                  have g44 := t96_2 I
                  refine ov_blk (ls2 := [(0, ov_r 90), (1, ov_i (x1 + (1 - (h 100 (1 + (2 * x4)))))), (2, ov_i (x2 + (h 100 (1 + (2 * x4))))), (3, ov_i ((h 100 (2 + (2 * x4))) + (h 96 2))), (4, ov_i (x4 + 1)), (5, ov_i (h 100 (1 + (2 * x4)))), (6, ov_i (h 100 (2 + (2 * x4)))), (7, ov_i x3)]) (st2 := []) (pc2 := 138) b_260_121_13 rfl rfl ?_
                  refine ov_goto (tgt := 14) d_260_138 (by decide) ?_
                  refine ov_sub (ls2 := [(0, ov_r 90), (1, ov_i (x1 + (1 - (h 100 (1 + (2 * x4)))))), (2, ov_i (x2 + (h 100 (1 + (2 * x4))))), (3, ov_i ((h 100 (2 + (2 * x4))) + (h 96 2))), (4, ov_i (x4 + 1))]) (List.Sublist.subset (by repeat (first | exact List.Sublist.refl _ | apply List.Sublist.cons_cons | apply List.Sublist.cons))) ?_
                  exact ih3 (x1 + (1 - (h 100 (1 + (2 * x4))))) (x2 + (h 100 (1 + (2 * x4)))) ((h 100 (2 + (2 * x4))) + (h 96 2)) (x4 + 1) (by show 0 ≤ (x4 + 1) ∧ (x4 + 1) ≤ (h 100 0) ∧ (x1 + (1 - (h 100 (1 + (2 * x4))))) = ov_sx (h 100) (Int.toNat (x4 + 1)) ∧ (x2 + (h 100 (1 + (2 * x4)))) = (x4 + 1) - (x1 + (1 - (h 100 (1 + (2 * x4))))) ∧ -10000 ≤ ((h 100 (2 + (2 * x4))) + (h 96 2)) ∧ ((h 100 (2 + (2 * x4))) + (h 96 2)) ≤ 20000; omega) (by omega)
                · skip
                  have f41_ : v40 = 0 := by omega
                  have f45 : (ov_ph (h 100 (2 + (2 * x4))) ((h 96 (10 + 4 * (6 * x2 + x1) + 2))) ((h 96 (10 + 4 * (6 * x2 + x1) + 1))) < (h 96 (10 + 4 * (6 * x2 + x1) + 3)) ∧ ¬ (h 100 (1 + (2 * x4))) = 0) ∨ (¬ ov_ph (h 100 (2 + (2 * x4))) ((h 96 (10 + 4 * (6 * x2 + x1) + 2))) ((h 96 (10 + 4 * (6 * x2 + x1) + 1))) < (h 96 (10 + 4 * (6 * x2 + x1) + 3)) ∧ (h 100 (1 + (2 * x4))) = 0) := f41.2.2 (by omega)
                  clear f41
                  refine ov_blk (ls2 := [(0, ov_r 90), (1, ov_i x1), (2, ov_i x2), (3, ov_i x3), (4, ov_i x4), (5, ov_i (h 100 (1 + (2 * x4)))), (6, ov_i (h 100 (2 + (2 * x4)))), (7, ov_i x3)]) (st2 := [ov_i x4]) (pc2 := 112) b_260_110_1 rfl rfl ?_
                  exact ov_reti (st := []) d_260_112 rfl ⟨_, rfl, I1, ⟨rfl, rfl, rfl, rfl, rfl, rfl, rfl, rfl, rfl, rfl, rfl, rfl, (by show -2147483648 ≤ x4 ∧ x4 ≤ 2147483647; omega)⟩, rfl, rfl, rfl, rfl, rfl, rfl, rfl, rfl, rfl, rfl, rfl, rfl, rfl, rfl, rfl, rfl⟩
          · skip
            refine ov_blk (ls2 := [(0, ov_r 90), (1, ov_i x1), (2, ov_i x2), (3, ov_i x3), (4, ov_i x4), (5, ov_i (h 100 (1 + (2 * x4)))), (6, ov_i (h 100 (2 + (2 * x4))))]) (st2 := [ov_i 2, ov_i x2, ov_i x1, ov_r 90, ov_i x3]) (pc2 := 71) b_260_66_5 rfl rfl ?_
            refine ov_cV (as := [ov_i x1, ov_i x2, ov_i 2]) (st := [ov_i x3]) (d2 := d - 1) d_260_71 lk_Mo_289 rfl (Nat.le_of_ble_eq_true rfl) (c := 1) (zb_90 I1) (zs_90 I1) ⟨by decide, rfl⟩ (by omega) (c_Mo_lightAt_90 (d - 1) (by omega) U I1 x1 x2 2 (by omega) (by omega) (by omega) (by omega) (by omega)) ?_
            rintro _ _ _ ⟨v47, rfl, rfl, rfl, f46⟩
            show ov_R u d ov_m260 74 [(0, ov_r 90), (1, ov_i x1), (2, ov_i x2), (3, ov_i x3), (4, ov_i x4), (5, ov_i (h 100 (1 + (2 * x4)))), (6, ov_i (h 100 (2 + (2 * x4))))] [ov_i v47, ov_i x3] z (ov_up h 90 0 0) (P_Mo_judged_90 F z h)
            have f48 : v47 = (h 96 (10 + 4 * (6 * x2 + x1) + (2 : Int))) ∧ ((2 : Int) = 1 → 0 ≤ v47 ∧ v47 ≤ 60) ∧ ((2 : Int) = 2 → 0 ≤ v47 ∧ v47 ≤ 59) ∧ ((2 : Int) = 3 → 0 ≤ v47 ∧ v47 ≤ 60) := f46
            clear f46
            refine ov_blk (ls2 := [(0, ov_r 90), (1, ov_i x1), (2, ov_i x2), (3, ov_i x3), (4, ov_i x4), (5, ov_i (h 100 (1 + (2 * x4)))), (6, ov_i (h 100 (2 + (2 * x4))))]) (st2 := [ov_i (x3 + v47)]) (pc2 := 75) b_260_74_1 rfl rfl ?_
            refine ov_goto (tgt := 79) d_260_75 (by decide) ?_
            refine ov_blk (ls2 := [(0, ov_r 90), (1, ov_i x1), (2, ov_i x2), (3, ov_i x3), (4, ov_i x4), (5, ov_i (h 100 (1 + (2 * x4)))), (6, ov_i (h 100 (2 + (2 * x4)))), (7, ov_i (x3 + v47))]) (st2 := [ov_i (x3 + v47), ov_i (h 100 (2 + (2 * x4)))]) (pc2 := 85) b_260_79_3 rfl rfl ?_
            refine ov_iclt (tgt := 110) d_260_85 (by decide) (by omega) (by omega) (fun c49 => ?_) (fun c49 => ?_)
            · skip
              refine ov_blk (ls2 := [(0, ov_r 90), (1, ov_i x1), (2, ov_i x2), (3, ov_i x3), (4, ov_i x4), (5, ov_i (h 100 (1 + (2 * x4)))), (6, ov_i (h 100 (2 + (2 * x4)))), (7, ov_i (x3 + v47))]) (st2 := [ov_i x4]) (pc2 := 112) b_260_110_1 rfl rfl ?_
              exact ov_reti (st := []) d_260_112 rfl ⟨_, rfl, I1, ⟨rfl, rfl, rfl, rfl, rfl, rfl, rfl, rfl, rfl, rfl, rfl, rfl, (by show -2147483648 ≤ x4 ∧ x4 ≤ 2147483647; omega)⟩, rfl, rfl, rfl, rfl, rfl, rfl, rfl, rfl, rfl, rfl, rfl, rfl, rfl, rfl, rfl, rfl⟩
            · skip
              refine ov_blk (ls2 := [(0, ov_r 90), (1, ov_i x1), (2, ov_i x2), (3, ov_i x3), (4, ov_i x4), (5, ov_i (h 100 (1 + (2 * x4)))), (6, ov_i (h 100 (2 + (2 * x4)))), (7, ov_i (x3 + v47))]) (st2 := [ov_i x2, ov_i x1, ov_r 90]) (pc2 := 91) b_260_88_3 rfl rfl ?_
              refine ov_cV (as := [ov_i x1, ov_i x2]) (st := []) (d2 := d - 1) d_260_91 lk_Mo_285 rfl (Nat.le_of_ble_eq_true rfl) (c := 1) (zb_90 I1) (zs_90 I1) ⟨by decide, rfl⟩ (by omega) (c_Mo_isTimed_90 (d - 1) (by omega) U I1 x1 x2 (by omega) (by omega) (by omega)) ?_
              rintro _ _ _ ⟨v51, rfl, rfl, rfl, f50⟩
              show ov_R u d ov_m260 94 [(0, ov_r 90), (1, ov_i x1), (2, ov_i x2), (3, ov_i x3), (4, ov_i x4), (5, ov_i (h 100 (1 + (2 * x4)))), (6, ov_i (h 100 (2 + (2 * x4)))), (7, ov_i (x3 + v47))] [ov_i v51] z (ov_up h 90 0 0) (P_Mo_judged_90 F z h)
              have f52 : (v51 = 0 ∨ v51 = 1) ∧ (v51 = 1 → ((h 96 (10 + 4 * (6 * x2 + x1))) = 1 ∨ (h 96 (10 + 4 * (6 * x2 + x1))) = 2)) ∧ (v51 = 0 → ¬ ((h 96 (10 + 4 * (6 * x2 + x1))) = 1 ∨ (h 96 (10 + 4 * (6 * x2 + x1))) = 2)) := f50
              clear f50
              refine ov_ifeq (tgt := 113) d_260_94 (by decide) (by omega) (fun c53 => ?_) (fun c53 => ?_)
              · skip
                have f52_ : v51 = 0 := by omega
                have f54 : ¬ ((h 96 (10 + 4 * (6 * x2 + x1))) = 1 ∨ (h 96 (10 + 4 * (6 * x2 + x1))) = 2) := f52.2.2 (by omega)
                clear f52
                refine ov_blk (ls2 := [(0, ov_r 90), (1, ov_i x1), (2, ov_i x2), (3, ov_i x3), (4, ov_i x4), (5, ov_i (h 100 (1 + (2 * x4)))), (6, ov_i (h 100 (2 + (2 * x4)))), (7, ov_i (x3 + v47))]) (st2 := [ov_r 90, ov_i (h 100 (2 + (2 * x4)))]) (pc2 := 116) b_260_113_2 rfl rfl ?_
                refine ov_getf (v := ov_r 96) d_260_116 fl_Mo_81 (zb_90 I1) (zs_90 I1) (congrArg ov_r (rg_90_10 I1)) ?_
                refine ov_blk (ls2 := [(0, ov_r 90), (1, ov_i x1), (2, ov_i x2), (3, ov_i x3), (4, ov_i x4), (5, ov_i (h 100 (1 + (2 * x4)))), (6, ov_i (h 100 (2 + (2 * x4)))), (7, ov_i (x3 + v47))]) (st2 := [ov_i 2, ov_r 96, ov_i (h 100 (2 + (2 * x4)))]) (pc2 := 120) b_260_119_1 rfl rfl ?_
                refine ov_iald d_260_120 (zb_96 I1) (zs_96 I1) (by omega) ?_
                show ov_R u d ov_m260 121 [(0, ov_r 90), (1, ov_i x1), (2, ov_i x2), (3, ov_i x3), (4, ov_i x4), (5, ov_i (h 100 (1 + (2 * x4)))), (6, ov_i (h 100 (2 + (2 * x4)))), (7, ov_i (x3 + v47))] [ov_i (h 96 2), ov_i (h 100 (2 + (2 * x4)))] z (ov_up h 90 0 0) (P_Mo_judged_90 F z h)
                have g55 := t96_2 I
                refine ov_blk (ls2 := [(0, ov_r 90), (1, ov_i (x1 + (1 - (h 100 (1 + (2 * x4)))))), (2, ov_i (x2 + (h 100 (1 + (2 * x4))))), (3, ov_i ((h 100 (2 + (2 * x4))) + (h 96 2))), (4, ov_i (x4 + 1)), (5, ov_i (h 100 (1 + (2 * x4)))), (6, ov_i (h 100 (2 + (2 * x4)))), (7, ov_i (x3 + v47))]) (st2 := []) (pc2 := 138) b_260_121_13 rfl rfl ?_
                refine ov_goto (tgt := 14) d_260_138 (by decide) ?_
                refine ov_sub (ls2 := [(0, ov_r 90), (1, ov_i (x1 + (1 - (h 100 (1 + (2 * x4)))))), (2, ov_i (x2 + (h 100 (1 + (2 * x4))))), (3, ov_i ((h 100 (2 + (2 * x4))) + (h 96 2))), (4, ov_i (x4 + 1))]) (List.Sublist.subset (by repeat (first | exact List.Sublist.refl _ | apply List.Sublist.cons_cons | apply List.Sublist.cons))) ?_
                exact ih3 (x1 + (1 - (h 100 (1 + (2 * x4))))) (x2 + (h 100 (1 + (2 * x4)))) ((h 100 (2 + (2 * x4))) + (h 96 2)) (x4 + 1) (by show 0 ≤ (x4 + 1) ∧ (x4 + 1) ≤ (h 100 0) ∧ (x1 + (1 - (h 100 (1 + (2 * x4))))) = ov_sx (h 100) (Int.toNat (x4 + 1)) ∧ (x2 + (h 100 (1 + (2 * x4)))) = (x4 + 1) - (x1 + (1 - (h 100 (1 + (2 * x4))))) ∧ -10000 ≤ ((h 100 (2 + (2 * x4))) + (h 96 2)) ∧ ((h 100 (2 + (2 * x4))) + (h 96 2)) ≤ 20000; omega) (by omega)
              · skip
                have f52_ : v51 = 1 := by omega
                have f56 : ((h 96 (10 + 4 * (6 * x2 + x1))) = 1 ∨ (h 96 (10 + 4 * (6 * x2 + x1))) = 2) := f52.2.1 (by omega)
                clear f52
                have w1 := ov_WT_at W (c := 6 * x2 + x1) (by omega)
                refine ov_blk (ls2 := [(0, ov_r 90), (1, ov_i x1), (2, ov_i x2), (3, ov_i x3), (4, ov_i x4), (5, ov_i (h 100 (1 + (2 * x4)))), (6, ov_i (h 100 (2 + (2 * x4)))), (7, ov_i (x3 + v47))]) (st2 := [ov_i (h 100 (2 + (2 * x4))), ov_i (h 100 (1 + (2 * x4))), ov_i x2, ov_i x1, ov_r 90]) (pc2 := 104) b_260_97_5 rfl rfl ?_
                refine ov_cV (as := [ov_i x1, ov_i x2, ov_i (h 100 (1 + (2 * x4))), ov_i (h 100 (2 + (2 * x4)))]) (st := []) (d2 := d - 1) d_260_104 lk_Mo_292 rfl (Nat.le_of_ble_eq_true rfl) (c := 1) (zb_90 I1) (zs_90 I1) ⟨by decide, rfl⟩ (by omega) (c_Mo_isGreen_90 (d - 1) (by omega) U I1 x1 x2 (h 100 (1 + (2 * x4))) (h 100 (2 + (2 * x4))) (by omega) (by omega) (by omega) (by omega) (by omega) (by show 1 ≤ (h 96 (10 + 4 * (6 * x2 + x1) + 1)); omega) (by omega)) ?_
                rintro _ _ _ ⟨v58, rfl, rfl, rfl, f57⟩
                show ov_R u d ov_m260 107 [(0, ov_r 90), (1, ov_i x1), (2, ov_i x2), (3, ov_i x3), (4, ov_i x4), (5, ov_i (h 100 (1 + (2 * x4)))), (6, ov_i (h 100 (2 + (2 * x4)))), (7, ov_i (x3 + v47))] [ov_i v58] z (ov_up h 90 0 0) (P_Mo_judged_90 F z h)
                have f59 : (v58 = 0 ∨ v58 = 1) ∧ (v58 = 1 → (ov_ph (h 100 (2 + (2 * x4))) ((h 96 (10 + 4 * (6 * x2 + x1) + 2))) ((h 96 (10 + 4 * (6 * x2 + x1) + 1))) < (h 96 (10 + 4 * (6 * x2 + x1) + 3)) ∧ (h 100 (1 + (2 * x4))) = 0) ∨ (¬ ov_ph (h 100 (2 + (2 * x4))) ((h 96 (10 + 4 * (6 * x2 + x1) + 2))) ((h 96 (10 + 4 * (6 * x2 + x1) + 1))) < (h 96 (10 + 4 * (6 * x2 + x1) + 3)) ∧ ¬ (h 100 (1 + (2 * x4))) = 0)) ∧ (v58 = 0 → (ov_ph (h 100 (2 + (2 * x4))) ((h 96 (10 + 4 * (6 * x2 + x1) + 2))) ((h 96 (10 + 4 * (6 * x2 + x1) + 1))) < (h 96 (10 + 4 * (6 * x2 + x1) + 3)) ∧ ¬ (h 100 (1 + (2 * x4))) = 0) ∨ (¬ ov_ph (h 100 (2 + (2 * x4))) ((h 96 (10 + 4 * (6 * x2 + x1) + 2))) ((h 96 (10 + 4 * (6 * x2 + x1) + 1))) < (h 96 (10 + 4 * (6 * x2 + x1) + 3)) ∧ (h 100 (1 + (2 * x4))) = 0)) := f57
                clear f57
                refine ov_ifne (tgt := 113) d_260_107 (by decide) (by omega) (fun c60 => ?_) (fun c60 => ?_)
                · skip
                  have f59_ : v58 = 1 := by omega
                  have f61 : (ov_ph (h 100 (2 + (2 * x4))) ((h 96 (10 + 4 * (6 * x2 + x1) + 2))) ((h 96 (10 + 4 * (6 * x2 + x1) + 1))) < (h 96 (10 + 4 * (6 * x2 + x1) + 3)) ∧ (h 100 (1 + (2 * x4))) = 0) ∨ (¬ ov_ph (h 100 (2 + (2 * x4))) ((h 96 (10 + 4 * (6 * x2 + x1) + 2))) ((h 96 (10 + 4 * (6 * x2 + x1) + 1))) < (h 96 (10 + 4 * (6 * x2 + x1) + 3)) ∧ ¬ (h 100 (1 + (2 * x4))) = 0) := f59.2.1 (by omega)
                  clear f59
                  refine ov_blk (ls2 := [(0, ov_r 90), (1, ov_i x1), (2, ov_i x2), (3, ov_i x3), (4, ov_i x4), (5, ov_i (h 100 (1 + (2 * x4)))), (6, ov_i (h 100 (2 + (2 * x4)))), (7, ov_i (x3 + v47))]) (st2 := [ov_r 90, ov_i (h 100 (2 + (2 * x4)))]) (pc2 := 116) b_260_113_2 rfl rfl ?_
                  refine ov_getf (v := ov_r 96) d_260_116 fl_Mo_81 (zb_90 I1) (zs_90 I1) (congrArg ov_r (rg_90_10 I1)) ?_
                  refine ov_blk (ls2 := [(0, ov_r 90), (1, ov_i x1), (2, ov_i x2), (3, ov_i x3), (4, ov_i x4), (5, ov_i (h 100 (1 + (2 * x4)))), (6, ov_i (h 100 (2 + (2 * x4)))), (7, ov_i (x3 + v47))]) (st2 := [ov_i 2, ov_r 96, ov_i (h 100 (2 + (2 * x4)))]) (pc2 := 120) b_260_119_1 rfl rfl ?_
                  refine ov_iald d_260_120 (zb_96 I1) (zs_96 I1) (by omega) ?_
                  show ov_R u d ov_m260 121 [(0, ov_r 90), (1, ov_i x1), (2, ov_i x2), (3, ov_i x3), (4, ov_i x4), (5, ov_i (h 100 (1 + (2 * x4)))), (6, ov_i (h 100 (2 + (2 * x4)))), (7, ov_i (x3 + v47))] [ov_i (h 96 2), ov_i (h 100 (2 + (2 * x4)))] z (ov_up h 90 0 0) (P_Mo_judged_90 F z h)
                  have g62 := t96_2 I
                  refine ov_blk (ls2 := [(0, ov_r 90), (1, ov_i (x1 + (1 - (h 100 (1 + (2 * x4)))))), (2, ov_i (x2 + (h 100 (1 + (2 * x4))))), (3, ov_i ((h 100 (2 + (2 * x4))) + (h 96 2))), (4, ov_i (x4 + 1)), (5, ov_i (h 100 (1 + (2 * x4)))), (6, ov_i (h 100 (2 + (2 * x4)))), (7, ov_i (x3 + v47))]) (st2 := []) (pc2 := 138) b_260_121_13 rfl rfl ?_
                  refine ov_goto (tgt := 14) d_260_138 (by decide) ?_
                  refine ov_sub (ls2 := [(0, ov_r 90), (1, ov_i (x1 + (1 - (h 100 (1 + (2 * x4)))))), (2, ov_i (x2 + (h 100 (1 + (2 * x4))))), (3, ov_i ((h 100 (2 + (2 * x4))) + (h 96 2))), (4, ov_i (x4 + 1))]) (List.Sublist.subset (by repeat (first | exact List.Sublist.refl _ | apply List.Sublist.cons_cons | apply List.Sublist.cons))) ?_
                  exact ih3 (x1 + (1 - (h 100 (1 + (2 * x4))))) (x2 + (h 100 (1 + (2 * x4)))) ((h 100 (2 + (2 * x4))) + (h 96 2)) (x4 + 1) (by show 0 ≤ (x4 + 1) ∧ (x4 + 1) ≤ (h 100 0) ∧ (x1 + (1 - (h 100 (1 + (2 * x4))))) = ov_sx (h 100) (Int.toNat (x4 + 1)) ∧ (x2 + (h 100 (1 + (2 * x4)))) = (x4 + 1) - (x1 + (1 - (h 100 (1 + (2 * x4))))) ∧ -10000 ≤ ((h 100 (2 + (2 * x4))) + (h 96 2)) ∧ ((h 100 (2 + (2 * x4))) + (h 96 2)) ≤ 20000; omega) (by omega)
                · skip
                  have f59_ : v58 = 0 := by omega
                  have f63 : (ov_ph (h 100 (2 + (2 * x4))) ((h 96 (10 + 4 * (6 * x2 + x1) + 2))) ((h 96 (10 + 4 * (6 * x2 + x1) + 1))) < (h 96 (10 + 4 * (6 * x2 + x1) + 3)) ∧ ¬ (h 100 (1 + (2 * x4))) = 0) ∨ (¬ ov_ph (h 100 (2 + (2 * x4))) ((h 96 (10 + 4 * (6 * x2 + x1) + 2))) ((h 96 (10 + 4 * (6 * x2 + x1) + 1))) < (h 96 (10 + 4 * (6 * x2 + x1) + 3)) ∧ (h 100 (1 + (2 * x4))) = 0) := f59.2.2 (by omega)
                  clear f59
                  refine ov_blk (ls2 := [(0, ov_r 90), (1, ov_i x1), (2, ov_i x2), (3, ov_i x3), (4, ov_i x4), (5, ov_i (h 100 (1 + (2 * x4)))), (6, ov_i (h 100 (2 + (2 * x4)))), (7, ov_i (x3 + v47))]) (st2 := [ov_i x4]) (pc2 := 112) b_260_110_1 rfl rfl ?_
                  exact ov_reti (st := []) d_260_112 rfl ⟨_, rfl, I1, ⟨rfl, rfl, rfl, rfl, rfl, rfl, rfl, rfl, rfl, rfl, rfl, rfl, (by show -2147483648 ≤ x4 ∧ x4 ≤ 2147483647; omega)⟩, rfl, rfl, rfl, rfl, rfl, rfl, rfl, rfl, rfl, rfl, rfl, rfl, rfl, rfl, rfl, rfl⟩
  exact L5 14 0 0 0 0 (by show 0 ≤ 0 ∧ 0 ≤ (h 100 0) ∧ 0 = ov_sx (h 100) (Int.toNat 0) ∧ 0 = 0 - 0 ∧ -10000 ≤ 0 ∧ 0 ≤ 20000; omega) (by omega)
abbrev P_Mo_soonestFrom_90 (F : ov_H × ov_Z) (z : ov_Z) (h : ov_H) (x : Int) (y : Int) (s : Int) : Option ov_V → ov_Z → ov_H → Prop := fun r0 z' h' => ∃ r : Int, r0 = some (ov_i r) ∧ z = z' ∧ h = h' ∧ (0 ≤ r ∧ r ≤ 2000000000 ∧ r = ov_so (h 96) x y s)
abbrev P_Mo_soonestBy_90 (F : ov_H × ov_Z) (z : ov_Z) (h : ov_H) (x : Int) (y : Int) (way : Int) (s : Int) : Option ov_V → ov_Z → ov_H → Prop := fun r0 z' h' => ∃ r : Int, r0 = some (ov_i r) ∧ z = z' ∧ h = h' ∧ (0 ≤ r ∧ r ≤ 2000000000 ∧ r = ov_so (h 96) (x + 1 - way) (y + way) (s + ov_wm (h 96) (6 * y + x) way s + (h 96 2)))
set_option maxHeartbeats 4000000 in
theorem c_Mo_soonestBy_90 {u : ov_U} {F : ov_H × ov_Z} (k : Nat) (HV : ∀ k' : Nat, k' < k → ∀ {z : ov_Z} {h : ov_H} (d : Nat) (hd : (10 + 2 * k' + 1) ≤ d) (U : ov_cap u) (I : ov_N F z h) (x : Int) (y : Int) (s : Int) (g_x : ov_g x) (g_y : ov_g y) (g_s : ov_g s) (p0 : 0 ≤ x ∧ x ≤ 5 ∧ 0 ≤ y ∧ y ≤ 8) (p1 : x < (h 96 0) ∧ y < (h 96 1)) (p2 : x + y + (k' : Int) = 13) (p3 : 0 ≤ s ∧ s + 89 * (k' : Int) ≤ 3000000) (W : ov_WT (h 96)), ov_T u d ov_m262 [ov_r 90, ov_i x, ov_i y, ov_i s] z h (P_Mo_soonestFrom_90 F z h x y s)) {z : ov_Z} {h : ov_H} (d : Nat) (hd : (10 + 2 * k + 0) ≤ d) (U : ov_cap u) (I : ov_N F z h) (x : Int) (y : Int) (way : Int) (s : Int) (g_x : ov_g x) (g_y : ov_g y) (g_way : ov_g way) (g_s : ov_g s) (p0 : 0 ≤ x ∧ x ≤ 5 ∧ 0 ≤ y ∧ y ≤ 8) (p1 : x < (h 96 0) ∧ y < (h 96 1)) (p2 : 0 ≤ way ∧ way ≤ 1) (p3 : x + y + (k : Int) = 13) (p4 : 0 ≤ s ∧ s + 89 * (k : Int) ≤ 3000000) (p5 : ((way = 0 → x < (h 96 0) - 1) ∧ (¬ way = 0 → y < (h 96 1) - 1)) ∧ (((h 96 (10 + 4 * (6 * y + x))) = 1 ∨ (h 96 (10 + 4 * (6 * y + x))) = 2) → (way = 0 → 0 < (h 96 (10 + 4 * (6 * y + x) + 3))) ∧ (¬ way = 0 → (h 96 (10 + 4 * (6 * y + x) + 3)) < (h 96 (10 + 4 * (6 * y + x) + 1))))) (W : ov_WT (h 96)) : ov_T u d ov_m264 [ov_r 90, ov_i x, ov_i y, ov_i way, ov_i s] z h (P_Mo_soonestBy_90 F z h x y way s) := by
  refine ov_en rfl (Nat.le_of_ble_eq_true rfl) ?_
  show ov_R u d ov_m264 0 [(0, ov_r 90), (1, ov_i x), (2, ov_i y), (3, ov_i way), (4, ov_i s)] [] z h (P_Mo_soonestBy_90 F z h x y way s)
  have t0 := t96_0 I
  have t1 := t96_1 I
  refine ov_blk (ls2 := [(0, ov_r 90), (1, ov_i x), (2, ov_i y), (3, ov_i way), (4, ov_i s)]) (st2 := [ov_i s, ov_i way, ov_i y, ov_i x, ov_r 90, ov_i s, ov_i (y + way), ov_i ((x + 1) - way), ov_r 90]) (pc2 := 17) b_264_0_15 rfl rfl ?_
  refine ov_cV (as := [ov_i x, ov_i y, ov_i way, ov_i s]) (st := [ov_i s, ov_i (y + way), ov_i ((x + 1) - way), ov_r 90]) (d2 := d - 1) d_264_17 lk_Mo_315 rfl (Nat.le_of_ble_eq_true rfl) (c := 1) (zb_90 I) (zs_90 I) ⟨by decide, rfl⟩ (by omega) (c_Mo_waitFor_90 (d - 1) (by omega) U I x y way s (by omega) (by omega) (by omega) (by omega) (by omega) (by omega) (by omega) (by show (((h 96 (10 + 4 * (6 * y + x))) = 1 ∨ (h 96 (10 + 4 * (6 * y + x))) = 2) → (way = 0 → 0 < (h 96 (10 + 4 * (6 * y + x) + 3))) ∧ (¬ way = 0 → (h 96 (10 + 4 * (6 * y + x) + 3)) < (h 96 (10 + 4 * (6 * y + x) + 1)))); omega) W) ?_
  rintro _ _ _ ⟨v2, rfl, rfl, rfl, f1⟩
  show ov_R u d ov_m264 20 [(0, ov_r 90), (1, ov_i x), (2, ov_i y), (3, ov_i way), (4, ov_i s)] [ov_i v2, ov_i s, ov_i (y + way), ov_i ((x + 1) - way), ov_r 90] z h (P_Mo_soonestBy_90 F z h x y way s)
  have f3 : 0 ≤ v2 ∧ v2 ≤ 59 ∧ v2 = ov_wm (h 96) (6 * y + x) way s := f1
  clear f1
  refine ov_blk (ls2 := [(0, ov_r 90), (1, ov_i x), (2, ov_i y), (3, ov_i way), (4, ov_i s)]) (st2 := [ov_r 90, ov_i (s + v2), ov_i (y + way), ov_i ((x + 1) - way), ov_r 90]) (pc2 := 22) b_264_20_2 rfl rfl ?_
  refine ov_getf (v := ov_r 96) d_264_22 fl_Mo_81 (zb_90 I) (zs_90 I) (congrArg ov_r (rg_90_10 I)) ?_
  refine ov_blk (ls2 := [(0, ov_r 90), (1, ov_i x), (2, ov_i y), (3, ov_i way), (4, ov_i s)]) (st2 := [ov_i 2, ov_r 96, ov_i (s + v2), ov_i (y + way), ov_i ((x + 1) - way), ov_r 90]) (pc2 := 26) b_264_25_1 rfl rfl ?_
  refine ov_iald d_264_26 (zb_96 I) (zs_96 I) (by omega) ?_
  have g4 := t96_2 I
  refine ov_blk (ls2 := [(0, ov_r 90), (1, ov_i x), (2, ov_i y), (3, ov_i way), (4, ov_i s)]) (st2 := [ov_i ((s + v2) + (h 96 2)), ov_i (y + way), ov_i ((x + 1) - way), ov_r 90]) (pc2 := 28) b_264_27_1 rfl rfl ?_
  refine ov_cV (as := [ov_i ((x + 1) - way), ov_i (y + way), ov_i ((s + v2) + (h 96 2))]) (st := []) (d2 := d - 1) d_264_28 lk_Mo_342 rfl (Nat.le_of_ble_eq_true rfl) (c := 1) (zb_90 I) (zs_90 I) ⟨by decide, rfl⟩ (by omega) (HV (Int.toNat (13 - (((x + 1) - way)) - ((y + way)))) (by omega) (d - 1) (by omega) U I ((x + 1) - way) (y + way) ((s + v2) + (h 96 2)) (by omega) (by omega) (by omega) (by omega) (by show ((x + 1) - way) < (h 96 0) ∧ (y + way) < (h 96 1); omega) (by omega) (by omega) W) ?_
  rintro _ _ _ ⟨v6, rfl, rfl, rfl, f5⟩
  show ov_R u d ov_m264 31 [(0, ov_r 90), (1, ov_i x), (2, ov_i y), (3, ov_i way), (4, ov_i s)] [ov_i v6] z h (P_Mo_soonestBy_90 F z h x y way s)
  have f7 : 0 ≤ v6 ∧ v6 ≤ 2000000000 ∧ v6 = ov_so (h 96) ((x + 1) - way) (y + way) ((s + v2) + (h 96 2)) := f5
  clear f5
  have qr : ov_so (h 96) ((x + 1) - way) (y + way) ((s + v2) + (h 96 2)) = ov_so (h 96) (x + 1 - way) (y + way) (s + ov_wm (h 96) (6 * y + x) way s + h 96 2) := by congr 1; omega
  exact ov_reti (st := []) d_264_31 rfl ⟨_, rfl, rfl, rfl, (by show 0 ≤ v6 ∧ v6 ≤ 2000000000 ∧ v6 = ov_so (h 96) (x + 1 - way) (y + way) (s + ov_wm (h 96) (6 * y + x) way s + (h 96 2)); omega)⟩
set_option maxHeartbeats 4000000 in
theorem c_Mo_soonestFrom_90 {u : ov_U} {F : ov_H × ov_Z} (k : Nat) (HV : ∀ k' : Nat, k' < k → ∀ {z : ov_Z} {h : ov_H} (d : Nat) (hd : (10 + 2 * k' + 1) ≤ d) (U : ov_cap u) (I : ov_N F z h) (x : Int) (y : Int) (s : Int) (g_x : ov_g x) (g_y : ov_g y) (g_s : ov_g s) (p0 : 0 ≤ x ∧ x ≤ 5 ∧ 0 ≤ y ∧ y ≤ 8) (p1 : x < (h 96 0) ∧ y < (h 96 1)) (p2 : x + y + (k' : Int) = 13) (p3 : 0 ≤ s ∧ s + 89 * (k' : Int) ≤ 3000000) (W : ov_WT (h 96)), ov_T u d ov_m262 [ov_r 90, ov_i x, ov_i y, ov_i s] z h (P_Mo_soonestFrom_90 F z h x y s)) {z : ov_Z} {h : ov_H} (d : Nat) (hd : (10 + 2 * k + 1) ≤ d) (U : ov_cap u) (I : ov_N F z h) (x : Int) (y : Int) (s : Int) (g_x : ov_g x) (g_y : ov_g y) (g_s : ov_g s) (p0 : 0 ≤ x ∧ x ≤ 5 ∧ 0 ≤ y ∧ y ≤ 8) (p1 : x < (h 96 0) ∧ y < (h 96 1)) (p2 : x + y + (k : Int) = 13) (p3 : 0 ≤ s ∧ s + 89 * (k : Int) ≤ 3000000) (W : ov_WT (h 96)) : ov_T u d ov_m262 [ov_r 90, ov_i x, ov_i y, ov_i s] z h (P_Mo_soonestFrom_90 F z h x y s) := by
  refine ov_en rfl (Nat.le_of_ble_eq_true rfl) ?_
  show ov_R u d ov_m262 0 [(0, ov_r 90), (1, ov_i x), (2, ov_i y), (3, ov_i s)] [] z h (P_Mo_soonestFrom_90 F z h x y s)
  have t0 := t96_0 I
  have t1 := t96_1 I
  refine ov_blk (ls2 := [(0, ov_r 90), (1, ov_i x), (2, ov_i y), (3, ov_i s)]) (st2 := [ov_i y, ov_i x, ov_r 90]) (pc2 := 3) b_262_0_3 rfl rfl ?_
  refine ov_cV (as := [ov_i x, ov_i y]) (st := []) (d2 := d - 1) d_262_3 lk_Mo_335 rfl (Nat.le_of_ble_eq_true rfl) (c := 1) (zb_90 I) (zs_90 I) ⟨by decide, rfl⟩ (by omega) (c_Mo_isHome_90 (d - 1) (by omega) U I x y (by omega) (by omega) (by omega)) ?_
  rintro _ _ _ ⟨v2, rfl, rfl, rfl, f1⟩
  show ov_R u d ov_m262 6 [(0, ov_r 90), (1, ov_i x), (2, ov_i y), (3, ov_i s)] [ov_i v2] z h (P_Mo_soonestFrom_90 F z h x y s)
  have f3 : (v2 = 0 ∨ v2 = 1) ∧ (v2 = 1 → x = (h 96 0) - 1 ∧ y = (h 96 1) - 1) ∧ (v2 = 0 → ¬ (x = (h 96 0) - 1 ∧ y = (h 96 1) - 1)) := f1
  clear f1
  refine ov_ifeq (tgt := 11) d_262_6 (by decide) (by omega) (fun c4 => ?_) (fun c4 => ?_)
  · skip
    have f3_ : v2 = 0 := by omega
    have f5 : ¬ (x = (h 96 0) - 1 ∧ y = (h 96 1) - 1) := f3.2.2 (by omega)
    clear f3
    refine ov_ldcw (n := 2000000000) d_262_11 kc_Mo_338 ?_
    refine ov_blk (ls2 := [(0, ov_r 90), (1, ov_i x), (2, ov_i y), (3, ov_i s), (4, ov_i 2000000000), (5, ov_i 0)]) (st2 := []) (pc2 := 19) b_262_14_3 rfl rfl ?_
    have L9 : ∀ (n6 : Nat) (x4 : Int) (x5 : Int) (q8 : 0 ≤ x5 ∧ x5 ≤ 2 ∧ 0 ≤ x4 ∧ x4 ≤ 2000000000 ∧ (1 ≤ x5 → x4 ≤ ov_sa (h 96) x y s 0) ∧ (2 ≤ x5 → x4 ≤ ov_sa (h 96) x y s 1) ∧ (x4 = 2000000000 ∨ (1 ≤ x5 ∧ x4 = ov_sa (h 96) x y s 0) ∨ (2 ≤ x5 ∧ x4 = ov_sa (h 96) x y s 1))), 2 - x5 < (n6 : Int) → ov_R u d ov_m262 19 [(0, ov_r 90), (1, ov_i x), (2, ov_i y), (3, ov_i s), (4, ov_i x4), (5, ov_i x5)] [] z h (P_Mo_soonestFrom_90 F z h x y s) := by
      intro n6
      induction n6 with
      | zero =>
        intro x4 x5 q8 hn10
        exact absurd hn10 (by omega)
      | succ n6 ih7 =>
        intro x4 x5 q8 hn10
        refine ov_blk (ls2 := [(0, ov_r 90), (1, ov_i x), (2, ov_i y), (3, ov_i s), (4, ov_i x4), (5, ov_i x5)]) (st2 := [ov_i 2, ov_i x5]) (pc2 := 22) b_262_19_2 rfl rfl ?_
        refine ov_icge (tgt := 69) d_262_22 (by decide) (by omega) (by omega) (fun c11 => ?_) (fun c11 => ?_)
        · skip
          have qe := ov_so_eq (f := h 96) (x := x) (y := y) (s := s) (by omega) (by omega)
          refine ov_blk (ls2 := [(0, ov_r 90), (1, ov_i x), (2, ov_i y), (3, ov_i s), (4, ov_i x4), (5, ov_i x5)]) (st2 := [ov_i x4]) (pc2 := 71) b_262_69_1 rfl rfl ?_
          exact ov_reti (st := []) d_262_71 rfl ⟨_, rfl, rfl, rfl, (by show 0 ≤ x4 ∧ x4 ≤ 2000000000 ∧ x4 = ov_so (h 96) x y s; omega)⟩
        · skip
          obtain rfl | rfl : x5 = 0 ∨ x5 = 1 := by omega
          · skip
            refine ov_blk (ls2 := [(0, ov_r 90), (1, ov_i x), (2, ov_i y), (3, ov_i s), (4, ov_i x4), (5, ov_i 0)]) (st2 := [ov_i 0, ov_i y, ov_i x, ov_r 90]) (pc2 := 30) b_262_25_4 rfl rfl ?_
            refine ov_cV (as := [ov_i x, ov_i y, ov_i 0]) (st := []) (d2 := d - 1) d_262_30 lk_Mo_309 rfl (Nat.le_of_ble_eq_true rfl) (c := 1) (zb_90 I) (zs_90 I) ⟨by decide, rfl⟩ (by omega) (c_Mo_canGo_90 (d - 1) (by omega) U I x y 0 (by omega) (by omega) (by omega) (by omega) (by omega)) ?_
            rintro _ _ _ ⟨v13, rfl, rfl, rfl, f12⟩
            show ov_R u d ov_m262 33 [(0, ov_r 90), (1, ov_i x), (2, ov_i y), (3, ov_i s), (4, ov_i x4), (5, ov_i 0)] [ov_i v13] z h (P_Mo_soonestFrom_90 F z h x y s)
            have f14 : (v13 = 0 ∨ v13 = 1) ∧ v13 = ov_cgi (h 96) x y (0 : Int) ∧ (v13 = 1 → (((0 : Int) = 0 → x < (h 96 0) - 1) ∧ (¬ (0 : Int) = 0 → y < (h 96 1) - 1)) ∧ (((h 96 (10 + 4 * (6 * y + x))) = 1 ∨ (h 96 (10 + 4 * (6 * y + x))) = 2) → ((0 : Int) = 0 → 0 < (h 96 (10 + 4 * (6 * y + x) + 3))) ∧ (¬ (0 : Int) = 0 → (h 96 (10 + 4 * (6 * y + x) + 3)) < (h 96 (10 + 4 * (6 * y + x) + 1))))) := f12
            clear f12
            refine ov_ifeq (tgt := 63) d_262_33 (by decide) (by omega) (fun c15 => ?_) (fun c15 => ?_)
            · skip
              have f14_ : v13 = 0 := by omega
              have f16 : v13 = ov_cgi (h 96) x y (0 : Int) := f14.2.1
              clear f14
              have q3 : ov_sa (h 96) x y s 0 = 2000000000 := ov_sa_0 (by omega)
              refine ov_blk (ls2 := [(0, ov_r 90), (1, ov_i x), (2, ov_i y), (3, ov_i s), (4, ov_i x4), (5, ov_i (0 + 1))]) (st2 := []) (pc2 := 66) b_262_63_1 rfl rfl ?_
              refine ov_goto (tgt := 19) d_262_66 (by decide) ?_
              exact ih7 x4 (0 + 1) (by show 0 ≤ (0 + 1) ∧ (0 + 1) ≤ 2 ∧ 0 ≤ x4 ∧ x4 ≤ 2000000000 ∧ (1 ≤ (0 + 1) → x4 ≤ ov_sa (h 96) x y s 0) ∧ (2 ≤ (0 + 1) → x4 ≤ ov_sa (h 96) x y s 1) ∧ (x4 = 2000000000 ∨ (1 ≤ (0 + 1) ∧ x4 = ov_sa (h 96) x y s 0) ∨ (2 ≤ (0 + 1) ∧ x4 = ov_sa (h 96) x y s 1)); omega) (by omega)
            · skip
              have f14_ : v13 = 1 := by omega
              have f17 : v13 = ov_cgi (h 96) x y (0 : Int) := f14.2.1
              have f18 : (((0 : Int) = 0 → x < (h 96 0) - 1) ∧ (¬ (0 : Int) = 0 → y < (h 96 1) - 1)) ∧ (((h 96 (10 + 4 * (6 * y + x))) = 1 ∨ (h 96 (10 + 4 * (6 * y + x))) = 2) → ((0 : Int) = 0 → 0 < (h 96 (10 + 4 * (6 * y + x) + 3))) ∧ (¬ (0 : Int) = 0 → (h 96 (10 + 4 * (6 * y + x) + 3)) < (h 96 (10 + 4 * (6 * y + x) + 1)))) := f14.2.2 (by omega)
              clear f14
              have q2 : ov_sa (h 96) x y s 0 = ov_so (h 96) (x + 1 - 0) (y + 0) (s + ov_wm (h 96) (6 * y + x) 0 s + h 96 2) := ov_sa_1 (by omega)
              refine ov_blk (ls2 := [(0, ov_r 90), (1, ov_i x), (2, ov_i y), (3, ov_i s), (4, ov_i x4), (5, ov_i 0)]) (st2 := [ov_i s, ov_i 0, ov_i y, ov_i x, ov_r 90]) (pc2 := 42) b_262_36_5 rfl rfl ?_
              refine ov_cV (as := [ov_i x, ov_i y, ov_i 0, ov_i s]) (st := []) (d2 := d - 1) d_262_42 lk_Mo_339 rfl (Nat.le_of_ble_eq_true rfl) (c := 1) (zb_90 I) (zs_90 I) ⟨by decide, rfl⟩ (by omega) (c_Mo_soonestBy_90 k HV (d - 1) (by omega) U I x y 0 s (by omega) (by omega) (by omega) (by omega) (by omega) (by show x < (h 96 0) ∧ y < (h 96 1); omega) (by omega) (by omega) (by omega) (by show (((0 : Int) = 0 → x < (h 96 0) - 1) ∧ (¬ (0 : Int) = 0 → y < (h 96 1) - 1)) ∧ (((h 96 (10 + 4 * (6 * y + x))) = 1 ∨ (h 96 (10 + 4 * (6 * y + x))) = 2) → ((0 : Int) = 0 → 0 < (h 96 (10 + 4 * (6 * y + x) + 3))) ∧ (¬ (0 : Int) = 0 → (h 96 (10 + 4 * (6 * y + x) + 3)) < (h 96 (10 + 4 * (6 * y + x) + 1)))); omega) W) ?_
              rintro _ _ _ ⟨v20, rfl, rfl, rfl, f19⟩
              show ov_R u d ov_m262 45 [(0, ov_r 90), (1, ov_i x), (2, ov_i y), (3, ov_i s), (4, ov_i x4), (5, ov_i 0)] [ov_i v20] z h (P_Mo_soonestFrom_90 F z h x y s)
              have f21 : 0 ≤ v20 ∧ v20 ≤ 2000000000 ∧ v20 = ov_so (h 96) (x + 1 - (0 : Int)) (y + (0 : Int)) (s + ov_wm (h 96) (6 * y + x) (0 : Int) s + (h 96 2)) := f19
              clear f19
              refine ov_blk (ls2 := [(0, ov_r 90), (1, ov_i x), (2, ov_i y), (3, ov_i s), (4, ov_i x4), (5, ov_i 0), (6, ov_i v20)]) (st2 := [ov_i x4, ov_i v20]) (pc2 := 51) b_262_45_3 rfl rfl ?_
              refine ov_icge (tgt := 59) d_262_51 (by decide) (by omega) (by omega) (fun c22 => ?_) (fun c22 => ?_)
              · skip
                refine ov_blk (ls2 := [(0, ov_r 90), (1, ov_i x), (2, ov_i y), (3, ov_i s), (4, ov_i x4), (5, ov_i 0), (6, ov_i v20)]) (st2 := []) (pc2 := 63) b_262_59_2 rfl rfl ?_
                refine ov_blk (ls2 := [(0, ov_r 90), (1, ov_i x), (2, ov_i y), (3, ov_i s), (4, ov_i x4), (5, ov_i (0 + 1)), (6, ov_i v20)]) (st2 := []) (pc2 := 66) b_262_63_1 rfl rfl ?_
                refine ov_goto (tgt := 19) d_262_66 (by decide) ?_
                refine ov_sub (ls2 := [(0, ov_r 90), (1, ov_i x), (2, ov_i y), (3, ov_i s), (4, ov_i x4), (5, ov_i (0 + 1))]) (List.Sublist.subset (by repeat (first | exact List.Sublist.refl _ | apply List.Sublist.cons_cons | apply List.Sublist.cons))) ?_
                exact ih7 x4 (0 + 1) (by show 0 ≤ (0 + 1) ∧ (0 + 1) ≤ 2 ∧ 0 ≤ x4 ∧ x4 ≤ 2000000000 ∧ (1 ≤ (0 + 1) → x4 ≤ ov_sa (h 96) x y s 0) ∧ (2 ≤ (0 + 1) → x4 ≤ ov_sa (h 96) x y s 1) ∧ (x4 = 2000000000 ∨ (1 ≤ (0 + 1) ∧ x4 = ov_sa (h 96) x y s 0) ∨ (2 ≤ (0 + 1) ∧ x4 = ov_sa (h 96) x y s 1)); omega) (by omega)
              · skip
                refine ov_blk (ls2 := [(0, ov_r 90), (1, ov_i x), (2, ov_i y), (3, ov_i s), (4, ov_i x4), (5, ov_i 0), (6, ov_i v20)]) (st2 := [ov_i v20]) (pc2 := 56) b_262_54_1 rfl rfl ?_
                refine ov_goto (tgt := 61) d_262_56 (by decide) ?_
                refine ov_blk (ls2 := [(0, ov_r 90), (1, ov_i x), (2, ov_i y), (3, ov_i s), (4, ov_i v20), (5, ov_i 0), (6, ov_i v20)]) (st2 := []) (pc2 := 63) b_262_61_1 rfl rfl ?_
                refine ov_blk (ls2 := [(0, ov_r 90), (1, ov_i x), (2, ov_i y), (3, ov_i s), (4, ov_i v20), (5, ov_i (0 + 1)), (6, ov_i v20)]) (st2 := []) (pc2 := 66) b_262_63_1 rfl rfl ?_
                refine ov_goto (tgt := 19) d_262_66 (by decide) ?_
                refine ov_sub (ls2 := [(0, ov_r 90), (1, ov_i x), (2, ov_i y), (3, ov_i s), (4, ov_i v20), (5, ov_i (0 + 1))]) (List.Sublist.subset (by repeat (first | exact List.Sublist.refl _ | apply List.Sublist.cons_cons | apply List.Sublist.cons))) ?_
                exact ih7 v20 (0 + 1) (by show 0 ≤ (0 + 1) ∧ (0 + 1) ≤ 2 ∧ 0 ≤ v20 ∧ v20 ≤ 2000000000 ∧ (1 ≤ (0 + 1) → v20 ≤ ov_sa (h 96) x y s 0) ∧ (2 ≤ (0 + 1) → v20 ≤ ov_sa (h 96) x y s 1) ∧ (v20 = 2000000000 ∨ (1 ≤ (0 + 1) ∧ v20 = ov_sa (h 96) x y s 0) ∨ (2 ≤ (0 + 1) ∧ v20 = ov_sa (h 96) x y s 1)); omega) (by omega)
          · skip
            refine ov_blk (ls2 := [(0, ov_r 90), (1, ov_i x), (2, ov_i y), (3, ov_i s), (4, ov_i x4), (5, ov_i 1)]) (st2 := [ov_i 1, ov_i y, ov_i x, ov_r 90]) (pc2 := 30) b_262_25_4 rfl rfl ?_
            refine ov_cV (as := [ov_i x, ov_i y, ov_i 1]) (st := []) (d2 := d - 1) d_262_30 lk_Mo_309 rfl (Nat.le_of_ble_eq_true rfl) (c := 1) (zb_90 I) (zs_90 I) ⟨by decide, rfl⟩ (by omega) (c_Mo_canGo_90 (d - 1) (by omega) U I x y 1 (by omega) (by omega) (by omega) (by omega) (by omega)) ?_
            rintro _ _ _ ⟨v24, rfl, rfl, rfl, f23⟩
            show ov_R u d ov_m262 33 [(0, ov_r 90), (1, ov_i x), (2, ov_i y), (3, ov_i s), (4, ov_i x4), (5, ov_i 1)] [ov_i v24] z h (P_Mo_soonestFrom_90 F z h x y s)
            have f25 : (v24 = 0 ∨ v24 = 1) ∧ v24 = ov_cgi (h 96) x y (1 : Int) ∧ (v24 = 1 → (((1 : Int) = 0 → x < (h 96 0) - 1) ∧ (¬ (1 : Int) = 0 → y < (h 96 1) - 1)) ∧ (((h 96 (10 + 4 * (6 * y + x))) = 1 ∨ (h 96 (10 + 4 * (6 * y + x))) = 2) → ((1 : Int) = 0 → 0 < (h 96 (10 + 4 * (6 * y + x) + 3))) ∧ (¬ (1 : Int) = 0 → (h 96 (10 + 4 * (6 * y + x) + 3)) < (h 96 (10 + 4 * (6 * y + x) + 1))))) := f23
            clear f23
            refine ov_ifeq (tgt := 63) d_262_33 (by decide) (by omega) (fun c26 => ?_) (fun c26 => ?_)
            · skip
              have f25_ : v24 = 0 := by omega
              have f27 : v24 = ov_cgi (h 96) x y (1 : Int) := f25.2.1
              clear f25
              have q3 : ov_sa (h 96) x y s 1 = 2000000000 := ov_sa_0 (by omega)
              refine ov_blk (ls2 := [(0, ov_r 90), (1, ov_i x), (2, ov_i y), (3, ov_i s), (4, ov_i x4), (5, ov_i (1 + 1))]) (st2 := []) (pc2 := 66) b_262_63_1 rfl rfl ?_
              refine ov_goto (tgt := 19) d_262_66 (by decide) ?_
              exact ih7 x4 (1 + 1) (by show 0 ≤ (1 + 1) ∧ (1 + 1) ≤ 2 ∧ 0 ≤ x4 ∧ x4 ≤ 2000000000 ∧ (1 ≤ (1 + 1) → x4 ≤ ov_sa (h 96) x y s 0) ∧ (2 ≤ (1 + 1) → x4 ≤ ov_sa (h 96) x y s 1) ∧ (x4 = 2000000000 ∨ (1 ≤ (1 + 1) ∧ x4 = ov_sa (h 96) x y s 0) ∨ (2 ≤ (1 + 1) ∧ x4 = ov_sa (h 96) x y s 1)); omega) (by omega)
            · skip
              have f25_ : v24 = 1 := by omega
              have f28 : v24 = ov_cgi (h 96) x y (1 : Int) := f25.2.1
              have f29 : (((1 : Int) = 0 → x < (h 96 0) - 1) ∧ (¬ (1 : Int) = 0 → y < (h 96 1) - 1)) ∧ (((h 96 (10 + 4 * (6 * y + x))) = 1 ∨ (h 96 (10 + 4 * (6 * y + x))) = 2) → ((1 : Int) = 0 → 0 < (h 96 (10 + 4 * (6 * y + x) + 3))) ∧ (¬ (1 : Int) = 0 → (h 96 (10 + 4 * (6 * y + x) + 3)) < (h 96 (10 + 4 * (6 * y + x) + 1)))) := f25.2.2 (by omega)
              clear f25
              have q2 : ov_sa (h 96) x y s 1 = ov_so (h 96) (x + 1 - 1) (y + 1) (s + ov_wm (h 96) (6 * y + x) 1 s + h 96 2) := ov_sa_1 (by omega)
              refine ov_blk (ls2 := [(0, ov_r 90), (1, ov_i x), (2, ov_i y), (3, ov_i s), (4, ov_i x4), (5, ov_i 1)]) (st2 := [ov_i s, ov_i 1, ov_i y, ov_i x, ov_r 90]) (pc2 := 42) b_262_36_5 rfl rfl ?_
              refine ov_cV (as := [ov_i x, ov_i y, ov_i 1, ov_i s]) (st := []) (d2 := d - 1) d_262_42 lk_Mo_339 rfl (Nat.le_of_ble_eq_true rfl) (c := 1) (zb_90 I) (zs_90 I) ⟨by decide, rfl⟩ (by omega) (c_Mo_soonestBy_90 k HV (d - 1) (by omega) U I x y 1 s (by omega) (by omega) (by omega) (by omega) (by omega) (by show x < (h 96 0) ∧ y < (h 96 1); omega) (by omega) (by omega) (by omega) (by show (((1 : Int) = 0 → x < (h 96 0) - 1) ∧ (¬ (1 : Int) = 0 → y < (h 96 1) - 1)) ∧ (((h 96 (10 + 4 * (6 * y + x))) = 1 ∨ (h 96 (10 + 4 * (6 * y + x))) = 2) → ((1 : Int) = 0 → 0 < (h 96 (10 + 4 * (6 * y + x) + 3))) ∧ (¬ (1 : Int) = 0 → (h 96 (10 + 4 * (6 * y + x) + 3)) < (h 96 (10 + 4 * (6 * y + x) + 1)))); omega) W) ?_
              rintro _ _ _ ⟨v31, rfl, rfl, rfl, f30⟩
              show ov_R u d ov_m262 45 [(0, ov_r 90), (1, ov_i x), (2, ov_i y), (3, ov_i s), (4, ov_i x4), (5, ov_i 1)] [ov_i v31] z h (P_Mo_soonestFrom_90 F z h x y s)
              have f32 : 0 ≤ v31 ∧ v31 ≤ 2000000000 ∧ v31 = ov_so (h 96) (x + 1 - (1 : Int)) (y + (1 : Int)) (s + ov_wm (h 96) (6 * y + x) (1 : Int) s + (h 96 2)) := f30
              clear f30
              refine ov_blk (ls2 := [(0, ov_r 90), (1, ov_i x), (2, ov_i y), (3, ov_i s), (4, ov_i x4), (5, ov_i 1), (6, ov_i v31)]) (st2 := [ov_i x4, ov_i v31]) (pc2 := 51) b_262_45_3 rfl rfl ?_
              refine ov_icge (tgt := 59) d_262_51 (by decide) (by omega) (by omega) (fun c33 => ?_) (fun c33 => ?_)
              · skip
                refine ov_blk (ls2 := [(0, ov_r 90), (1, ov_i x), (2, ov_i y), (3, ov_i s), (4, ov_i x4), (5, ov_i 1), (6, ov_i v31)]) (st2 := []) (pc2 := 63) b_262_59_2 rfl rfl ?_
                refine ov_blk (ls2 := [(0, ov_r 90), (1, ov_i x), (2, ov_i y), (3, ov_i s), (4, ov_i x4), (5, ov_i (1 + 1)), (6, ov_i v31)]) (st2 := []) (pc2 := 66) b_262_63_1 rfl rfl ?_
                refine ov_goto (tgt := 19) d_262_66 (by decide) ?_
                refine ov_sub (ls2 := [(0, ov_r 90), (1, ov_i x), (2, ov_i y), (3, ov_i s), (4, ov_i x4), (5, ov_i (1 + 1))]) (List.Sublist.subset (by repeat (first | exact List.Sublist.refl _ | apply List.Sublist.cons_cons | apply List.Sublist.cons))) ?_
                exact ih7 x4 (1 + 1) (by show 0 ≤ (1 + 1) ∧ (1 + 1) ≤ 2 ∧ 0 ≤ x4 ∧ x4 ≤ 2000000000 ∧ (1 ≤ (1 + 1) → x4 ≤ ov_sa (h 96) x y s 0) ∧ (2 ≤ (1 + 1) → x4 ≤ ov_sa (h 96) x y s 1) ∧ (x4 = 2000000000 ∨ (1 ≤ (1 + 1) ∧ x4 = ov_sa (h 96) x y s 0) ∨ (2 ≤ (1 + 1) ∧ x4 = ov_sa (h 96) x y s 1)); omega) (by omega)
              · skip
                refine ov_blk (ls2 := [(0, ov_r 90), (1, ov_i x), (2, ov_i y), (3, ov_i s), (4, ov_i x4), (5, ov_i 1), (6, ov_i v31)]) (st2 := [ov_i v31]) (pc2 := 56) b_262_54_1 rfl rfl ?_
                refine ov_goto (tgt := 61) d_262_56 (by decide) ?_
                refine ov_blk (ls2 := [(0, ov_r 90), (1, ov_i x), (2, ov_i y), (3, ov_i s), (4, ov_i v31), (5, ov_i 1), (6, ov_i v31)]) (st2 := []) (pc2 := 63) b_262_61_1 rfl rfl ?_
                refine ov_blk (ls2 := [(0, ov_r 90), (1, ov_i x), (2, ov_i y), (3, ov_i s), (4, ov_i v31), (5, ov_i (1 + 1)), (6, ov_i v31)]) (st2 := []) (pc2 := 66) b_262_63_1 rfl rfl ?_
                refine ov_goto (tgt := 19) d_262_66 (by decide) ?_
                refine ov_sub (ls2 := [(0, ov_r 90), (1, ov_i x), (2, ov_i y), (3, ov_i s), (4, ov_i v31), (5, ov_i (1 + 1))]) (List.Sublist.subset (by repeat (first | exact List.Sublist.refl _ | apply List.Sublist.cons_cons | apply List.Sublist.cons))) ?_
                exact ih7 v31 (1 + 1) (by show 0 ≤ (1 + 1) ∧ (1 + 1) ≤ 2 ∧ 0 ≤ v31 ∧ v31 ≤ 2000000000 ∧ (1 ≤ (1 + 1) → v31 ≤ ov_sa (h 96) x y s 0) ∧ (2 ≤ (1 + 1) → v31 ≤ ov_sa (h 96) x y s 1) ∧ (v31 = 2000000000 ∨ (1 ≤ (1 + 1) ∧ v31 = ov_sa (h 96) x y s 0) ∨ (2 ≤ (1 + 1) ∧ v31 = ov_sa (h 96) x y s 1)); omega) (by omega)
    exact L9 3 2000000000 0 (by show 0 ≤ 0 ∧ 0 ≤ 2 ∧ 0 ≤ 2000000000 ∧ 2000000000 ≤ 2000000000 ∧ (1 ≤ 0 → 2000000000 ≤ ov_sa (h 96) x y s 0) ∧ (2 ≤ 0 → 2000000000 ≤ ov_sa (h 96) x y s 1) ∧ (2000000000 = 2000000000 ∨ (1 ≤ 0 ∧ 2000000000 = ov_sa (h 96) x y s 0) ∨ (2 ≤ 0 ∧ 2000000000 = ov_sa (h 96) x y s 1)); omega) (by omega)
  · skip
    have f3_ : v2 = 1 := by omega
    have f34 : x = (h 96 0) - 1 ∧ y = (h 96 1) - 1 := f3.2.1 (by omega)
    clear f3
    have qh : ov_so (h 96) x y s = s := ov_so_home (by omega) (by omega)
    refine ov_blk (ls2 := [(0, ov_r 90), (1, ov_i x), (2, ov_i y), (3, ov_i s)]) (st2 := [ov_i s]) (pc2 := 10) b_262_9_1 rfl rfl ?_
    exact ov_reti (st := []) d_262_10 rfl ⟨_, rfl, rfl, rfl, (by show 0 ≤ s ∧ s ≤ 2000000000 ∧ s = ov_so (h 96) x y s; omega)⟩
theorem c_Mo_soonestFrom_90_all {u : ov_U} {F : ov_H × ov_Z} (k : Nat) : ∀ {z : ov_Z} {h : ov_H} (d : Nat) (hd : (10 + 2 * k + 1) ≤ d) (U : ov_cap u) (I : ov_N F z h) (x : Int) (y : Int) (s : Int) (g_x : ov_g x) (g_y : ov_g y) (g_s : ov_g s) (p0 : 0 ≤ x ∧ x ≤ 5 ∧ 0 ≤ y ∧ y ≤ 8) (p1 : x < (h 96 0) ∧ y < (h 96 1)) (p2 : x + y + (k : Int) = 13) (p3 : 0 ≤ s ∧ s + 89 * (k : Int) ≤ 3000000) (W : ov_WT (h 96)), ov_T u d ov_m262 [ov_r 90, ov_i x, ov_i y, ov_i s] z h (P_Mo_soonestFrom_90 F z h x y s) := by
  induction k using Nat.strongRecOn with
  | ind k ih => exact fun {z} {h} => @c_Mo_soonestFrom_90 u F k (fun k' hk => @ih k' hk) z h
theorem c_Mo_soonestBy_90_all {u : ov_U} {F : ov_H × ov_Z} (k : Nat) : ∀ {z : ov_Z} {h : ov_H} (d : Nat) (hd : (10 + 2 * k + 0) ≤ d) (U : ov_cap u) (I : ov_N F z h) (x : Int) (y : Int) (way : Int) (s : Int) (g_x : ov_g x) (g_y : ov_g y) (g_way : ov_g way) (g_s : ov_g s) (p0 : 0 ≤ x ∧ x ≤ 5 ∧ 0 ≤ y ∧ y ≤ 8) (p1 : x < (h 96 0) ∧ y < (h 96 1)) (p2 : 0 ≤ way ∧ way ≤ 1) (p3 : x + y + (k : Int) = 13) (p4 : 0 ≤ s ∧ s + 89 * (k : Int) ≤ 3000000) (p5 : ((way = 0 → x < (h 96 0) - 1) ∧ (¬ way = 0 → y < (h 96 1) - 1)) ∧ (((h 96 (10 + 4 * (6 * y + x))) = 1 ∨ (h 96 (10 + 4 * (6 * y + x))) = 2) → (way = 0 → 0 < (h 96 (10 + 4 * (6 * y + x) + 3))) ∧ (¬ way = 0 → (h 96 (10 + 4 * (6 * y + x) + 3)) < (h 96 (10 + 4 * (6 * y + x) + 1))))) (W : ov_WT (h 96)), ov_T u d ov_m264 [ov_r 90, ov_i x, ov_i y, ov_i way, ov_i s] z h (P_Mo_soonestBy_90 F z h x y way s) := fun {z} {h} => @c_Mo_soonestBy_90 u F k (fun k' _ => @c_Mo_soonestFrom_90_all u F k') z h
abbrev P_Mo_soonest_90 (F : ov_H × ov_Z) (z : ov_Z) (h : ov_H) (x : Int) (y : Int) (s : Int) (m : Int) : Option ov_V → ov_Z → ov_H → Prop := fun r0 z' h' => ∃ r : Int, r0 = some (ov_i r) ∧ ov_N F z' h' ∧ ((h' 90 2) = (h 90 2) ∧ (h' 90 7) = (h 90 7) ∧ (h' 90 8) = (h 90 8) ∧ (h' 90 13) = (h 90 13) ∧ (h' 90 20) = (h 90 20) ∧ (h' 90 22) = (h 90 22) ∧ (h' 90 25) = (h 90 25) ∧ (h' 90 26) = (h 90 26) ∧ (h' 90 28) = (h 90 28) ∧ (h' 90 29) = (h 90 29) ∧ (h' 90 30) = (h 90 30) ∧ (h' 90 34) = (h 90 34) ∧ -2147483648 ≤ r ∧ r ≤ 2147483647) ∧ h' 91 = h 91 ∧ h' 92 = h 92 ∧ h' 93 = h 93 ∧ h' 94 = h 94 ∧ h' 95 = h 95 ∧ h' 96 = h 96 ∧ h' 97 = h 97 ∧ h' 98 = h 98 ∧ h' 99 = h 99 ∧ h' 100 = h 100 ∧ h' 103 = h 103 ∧ h' 104 = h 104 ∧ h' 105 = h 105 ∧ h' 106 = h 106 ∧ h' 109 = h 109 ∧ h' 114 = h 114
set_option maxHeartbeats 4000000 in
theorem c_Mo_soonest_90 {u : ov_U} {F : ov_H × ov_Z} {z : ov_Z} {h : ov_H} (d : Nat) (hd : 60 ≤ d) (U : ov_cap u) (I : ov_N F z h) (x : Int) (y : Int) (s : Int) (m : Int) (g_x : ov_g x) (g_y : ov_g y) (g_s : ov_g s) (g_m : ov_g m) (W : ov_WT (h 96)) : ov_T u d ov_m261 [ov_r 90, ov_i x, ov_i y, ov_i s, ov_i m] z h (P_Mo_soonest_90 F z h x y s m) := by
  refine ov_en rfl (Nat.le_of_ble_eq_true rfl) ?_
  show ov_R u d ov_m261 0 [(0, ov_r 90), (1, ov_i x), (2, ov_i y), (3, ov_i s), (4, ov_i m)] [] z h (P_Mo_soonest_90 F z h x y s m)
  have t0 := t96_0 I
  have t1 := t96_1 I
  refine ov_blk (ls2 := [(0, ov_r 90), (1, ov_i x), (2, ov_i y), (3, ov_i s), (4, ov_i m)]) (st2 := [ov_i 0, ov_r 90]) (pc2 := 2) b_261_0_2 rfl rfl ?_
  refine ov_putf (x := 0) d_261_2 fl_Mo_1 (zb_90 I) (zs_90 I) rfl nk_0 rfl ?_
  have I1 := up_90_0 (x := 0) I (by omega)
  refine ov_blk (ls2 := [(0, ov_r 90), (1, ov_i x), (2, ov_i y), (3, ov_i s), (4, ov_i m)]) (st2 := [ov_i y, ov_i x, ov_r 90]) (pc2 := 8) b_261_5_3 rfl rfl ?_
  refine ov_cV (as := [ov_i x, ov_i y]) (st := []) (d2 := d - 1) d_261_8 lk_Mo_296 rfl (Nat.le_of_ble_eq_true rfl) (c := 1) (zb_90 I1) (zs_90 I1) ⟨by decide, rfl⟩ (by omega) (c_Mo_isCorner_90 (d - 1) (by omega) U I1 x y (by omega) (by omega)) ?_
  rintro _ _ _ ⟨v3, rfl, rfl, rfl, f2⟩
  show ov_R u d ov_m261 11 [(0, ov_r 90), (1, ov_i x), (2, ov_i y), (3, ov_i s), (4, ov_i m)] [ov_i v3] z (ov_up h 90 0 0) (P_Mo_soonest_90 F z h x y s m)
  have f4 : (v3 = 0 ∨ v3 = 1) ∧ (v3 = 1 → 0 ≤ x ∧ x ≤ 5 ∧ 0 ≤ y ∧ y ≤ 8 ∧ x < (h 96 0) ∧ y < (h 96 1)) := f2
  clear f2
  refine ov_ifeq (tgt := 38) d_261_11 (by decide) (by omega) (fun c5 => ?_) (fun c5 => ?_)
  · skip
    have f4_ : v3 = 0 := by omega
    clear f4
    refine ov_ldcw (n := 2000000000) d_261_38 kc_Mo_338 ?_
    refine ov_blk (ls2 := [(0, ov_r 90), (1, ov_i x), (2, ov_i y), (3, ov_i s), (4, ov_i m), (5, ov_i 2000000000)]) (st2 := [ov_i 2000000000]) (pc2 := 45) b_261_41_2 rfl rfl ?_
    refine ov_ldcw (n := 2000000000) d_261_45 kc_Mo_338 ?_
    refine ov_icne (tgt := 54) d_261_48 (by decide) (by omega) (by omega) (fun c6 => ?_) (fun c6 => ?_)
    · omega
    · skip
      refine ov_blk (ls2 := [(0, ov_r 90), (1, ov_i x), (2, ov_i y), (3, ov_i s), (4, ov_i m), (5, ov_i 2000000000)]) (st2 := [ov_i (-2)]) (pc2 := 53) b_261_51_1 rfl rfl ?_
      exact ov_reti (st := []) d_261_53 rfl ⟨_, rfl, I1, ⟨rfl, rfl, rfl, rfl, rfl, rfl, rfl, rfl, rfl, rfl, rfl, rfl, (by show -2147483648 ≤ (-2) ∧ (-2) ≤ 2147483647; omega)⟩, rfl, rfl, rfl, rfl, rfl, rfl, rfl, rfl, rfl, rfl, rfl, rfl, rfl, rfl, rfl, rfl⟩
  · skip
    have f4_ : v3 = 1 := by omega
    have f7 : 0 ≤ x ∧ x ≤ 5 ∧ 0 ≤ y ∧ y ≤ 8 ∧ x < (h 96 0) ∧ y < (h 96 1) := f4.2 (by omega)
    clear f4
    refine ov_blk (ls2 := [(0, ov_r 90), (1, ov_i x), (2, ov_i y), (3, ov_i s), (4, ov_i m)]) (st2 := [ov_i s, ov_r 90]) (pc2 := 16) b_261_14_2 rfl rfl ?_
    refine ov_cV (as := [ov_i s]) (st := []) (d2 := d - 1) d_261_16 lk_Mo_306 rfl (Nat.le_of_ble_eq_true rfl) (c := 1) (zb_90 I1) (zs_90 I1) ⟨by decide, rfl⟩ (by omega) (c_Mo_isSecond_90 (d - 1) (by omega) U I1 s (by omega)) ?_
    rintro _ _ _ ⟨v9, rfl, rfl, rfl, f8⟩
    show ov_R u d ov_m261 19 [(0, ov_r 90), (1, ov_i x), (2, ov_i y), (3, ov_i s), (4, ov_i m)] [ov_i v9] z (ov_up h 90 0 0) (P_Mo_soonest_90 F z h x y s m)
    have f10 : (v9 = 0 ∨ v9 = 1) ∧ (v9 = 1 → 0 ≤ s ∧ s ≤ 1000000) := f8
    clear f8
    refine ov_ifeq (tgt := 38) d_261_19 (by decide) (by omega) (fun c11 => ?_) (fun c11 => ?_)
    · skip
      have f10_ : v9 = 0 := by omega
      clear f10
      refine ov_ldcw (n := 2000000000) d_261_38 kc_Mo_338 ?_
      refine ov_blk (ls2 := [(0, ov_r 90), (1, ov_i x), (2, ov_i y), (3, ov_i s), (4, ov_i m), (5, ov_i 2000000000)]) (st2 := [ov_i 2000000000]) (pc2 := 45) b_261_41_2 rfl rfl ?_
      refine ov_ldcw (n := 2000000000) d_261_45 kc_Mo_338 ?_
      refine ov_icne (tgt := 54) d_261_48 (by decide) (by omega) (by omega) (fun c12 => ?_) (fun c12 => ?_)
      · omega
      · skip
        refine ov_blk (ls2 := [(0, ov_r 90), (1, ov_i x), (2, ov_i y), (3, ov_i s), (4, ov_i m), (5, ov_i 2000000000)]) (st2 := [ov_i (-2)]) (pc2 := 53) b_261_51_1 rfl rfl ?_
        exact ov_reti (st := []) d_261_53 rfl ⟨_, rfl, I1, ⟨rfl, rfl, rfl, rfl, rfl, rfl, rfl, rfl, rfl, rfl, rfl, rfl, (by show -2147483648 ≤ (-2) ∧ (-2) ≤ 2147483647; omega)⟩, rfl, rfl, rfl, rfl, rfl, rfl, rfl, rfl, rfl, rfl, rfl, rfl, rfl, rfl, rfl, rfl⟩
    · skip
      have f10_ : v9 = 1 := by omega
      have f13 : 0 ≤ s ∧ s ≤ 1000000 := f10.2 (by omega)
      clear f10
      refine ov_blk (ls2 := [(0, ov_r 90), (1, ov_i x), (2, ov_i y), (3, ov_i s), (4, ov_i m)]) (st2 := [ov_i (-1), ov_i m]) (pc2 := 25) b_261_22_2 rfl rfl ?_
      refine ov_iclt (tgt := 38) d_261_25 (by decide) (by omega) (by omega) (fun c14 => ?_) (fun c14 => ?_)
      · skip
        refine ov_ldcw (n := 2000000000) d_261_38 kc_Mo_338 ?_
        refine ov_blk (ls2 := [(0, ov_r 90), (1, ov_i x), (2, ov_i y), (3, ov_i s), (4, ov_i m), (5, ov_i 2000000000)]) (st2 := [ov_i 2000000000]) (pc2 := 45) b_261_41_2 rfl rfl ?_
        refine ov_ldcw (n := 2000000000) d_261_45 kc_Mo_338 ?_
        refine ov_icne (tgt := 54) d_261_48 (by decide) (by omega) (by omega) (fun c15 => ?_) (fun c15 => ?_)
        · omega
        · skip
          refine ov_blk (ls2 := [(0, ov_r 90), (1, ov_i x), (2, ov_i y), (3, ov_i s), (4, ov_i m), (5, ov_i 2000000000)]) (st2 := [ov_i (-2)]) (pc2 := 53) b_261_51_1 rfl rfl ?_
          exact ov_reti (st := []) d_261_53 rfl ⟨_, rfl, I1, ⟨rfl, rfl, rfl, rfl, rfl, rfl, rfl, rfl, rfl, rfl, rfl, rfl, (by show -2147483648 ≤ (-2) ∧ (-2) ≤ 2147483647; omega)⟩, rfl, rfl, rfl, rfl, rfl, rfl, rfl, rfl, rfl, rfl, rfl, rfl, rfl, rfl, rfl, rfl⟩
      · skip
        refine ov_blk (ls2 := [(0, ov_r 90), (1, ov_i x), (2, ov_i y), (3, ov_i s), (4, ov_i m)]) (st2 := [ov_i s, ov_i y, ov_i x, ov_r 90]) (pc2 := 32) b_261_28_4 rfl rfl ?_
        refine ov_cV (as := [ov_i x, ov_i y, ov_i s]) (st := []) (d2 := d - 1) d_261_32 lk_Mo_342 rfl (Nat.le_of_ble_eq_true rfl) (c := 1) (zb_90 I1) (zs_90 I1) ⟨by decide, rfl⟩ (by omega) (c_Mo_soonestFrom_90_all (Int.toNat (13 - (x) - (y))) (d - 1) (by omega) U I1 x y s (by omega) (by omega) (by omega) (by omega) (by show x < (h 96 0) ∧ y < (h 96 1); omega) (by omega) (by omega) W) ?_
        rintro _ _ _ ⟨v17, rfl, rfl, rfl, f16⟩
        show ov_R u d ov_m261 35 [(0, ov_r 90), (1, ov_i x), (2, ov_i y), (3, ov_i s), (4, ov_i m)] [ov_i v17] z (ov_up h 90 0 0) (P_Mo_soonest_90 F z h x y s m)
        have f18 : 0 ≤ v17 ∧ v17 ≤ 2000000000 ∧ v17 = ov_so (h 96) x y s := f16
        clear f16
        refine ov_goto (tgt := 41) d_261_35 (by decide) ?_
        refine ov_blk (ls2 := [(0, ov_r 90), (1, ov_i x), (2, ov_i y), (3, ov_i s), (4, ov_i m), (5, ov_i v17)]) (st2 := [ov_i v17]) (pc2 := 45) b_261_41_2 rfl rfl ?_
        refine ov_ldcw (n := 2000000000) d_261_45 kc_Mo_338 ?_
        refine ov_icne (tgt := 54) d_261_48 (by decide) (by omega) (by omega) (fun c19 => ?_) (fun c19 => ?_)
        · skip
          refine ov_blk (ls2 := [(0, ov_r 90), (1, ov_i x), (2, ov_i y), (3, ov_i s), (4, ov_i m), (5, ov_i v17), (6, ov_i x), (7, ov_i y), (8, ov_i s), (9, ov_i 0)]) (st2 := []) (pc2 := 66) b_261_54_8 rfl rfl ?_
          have L23 : ∀ (n20 : Nat) (x6 : Int) (x7 : Int) (x8 : Int) (x9 : Int) (q22 : 0 ≤ x6 ∧ x6 ≤ 5 ∧ 0 ≤ x7 ∧ x7 ≤ 8 ∧ x6 < (h 96 0) ∧ x7 < (h 96 1) ∧ 0 ≤ x8 ∧ x8 ≤ 1000000 + 89 * (x6 + x7) ∧ 0 ≤ x9 ∧ x9 ≤ x6 + x7 ∧ ov_so (h 96) x6 x7 x8 = v17), 14 - x6 - x7 < (n20 : Int) → ov_R u d ov_m261 66 [(0, ov_r 90), (1, ov_i x), (2, ov_i y), (3, ov_i s), (4, ov_i m), (5, ov_i v17), (6, ov_i x6), (7, ov_i x7), (8, ov_i x8), (9, ov_i x9)] [] z (ov_up h 90 0 0) (P_Mo_soonest_90 F z h x y s m) := by
            intro n20
            induction n20 with
            | zero =>
              intro x6 x7 x8 x9 q22 hn24
              exact absurd hn24 (by omega)
            | succ n20 ih21 =>
              intro x6 x7 x8 x9 q22 hn24
              refine ov_blk (ls2 := [(0, ov_r 90), (1, ov_i x), (2, ov_i y), (3, ov_i s), (4, ov_i m), (5, ov_i v17), (6, ov_i x6), (7, ov_i x7), (8, ov_i x8), (9, ov_i x9)]) (st2 := [ov_i x7, ov_i x6, ov_r 90]) (pc2 := 71) b_261_66_3 rfl rfl ?_
              refine ov_cV (as := [ov_i x6, ov_i x7]) (st := []) (d2 := d - 1) d_261_71 lk_Mo_335 rfl (Nat.le_of_ble_eq_true rfl) (c := 1) (zb_90 I1) (zs_90 I1) ⟨by decide, rfl⟩ (by omega) (c_Mo_isHome_90 (d - 1) (by omega) U I1 x6 x7 (by omega) (by omega) (by omega)) ?_
              rintro _ _ _ ⟨v26, rfl, rfl, rfl, f25⟩
              show ov_R u d ov_m261 74 [(0, ov_r 90), (1, ov_i x), (2, ov_i y), (3, ov_i s), (4, ov_i m), (5, ov_i v17), (6, ov_i x6), (7, ov_i x7), (8, ov_i x8), (9, ov_i x9)] [ov_i v26] z (ov_up h 90 0 0) (P_Mo_soonest_90 F z h x y s m)
              have f27 : (v26 = 0 ∨ v26 = 1) ∧ (v26 = 1 → x6 = (h 96 0) - 1 ∧ x7 = (h 96 1) - 1) ∧ (v26 = 0 → ¬ (x6 = (h 96 0) - 1 ∧ x7 = (h 96 1) - 1)) := f25
              clear f25
              refine ov_ifne (tgt := 173) d_261_74 (by decide) (by omega) (fun c28 => ?_) (fun c28 => ?_)
              · skip
                have f27_ : v26 = 1 := by omega
                have f29 : x6 = (h 96 0) - 1 ∧ x7 = (h 96 1) - 1 := f27.2.1 (by omega)
                clear f27
                refine ov_blk (ls2 := [(0, ov_r 90), (1, ov_i x), (2, ov_i y), (3, ov_i s), (4, ov_i m), (5, ov_i v17), (6, ov_i x6), (7, ov_i x7), (8, ov_i x8), (9, ov_i x9)]) (st2 := [ov_i m]) (pc2 := 175) b_261_173_1 rfl rfl ?_
                refine ov_ifge (tgt := 183) d_261_175 (by decide) (by omega) (fun c30 => ?_) (fun c30 => ?_)
                · skip
                  refine ov_blk (ls2 := [(0, ov_r 90), (1, ov_i x), (2, ov_i y), (3, ov_i s), (4, ov_i m), (5, ov_i v17), (6, ov_i x6), (7, ov_i x7), (8, ov_i x8), (9, ov_i x9)]) (st2 := [ov_i (-2)]) (pc2 := 185) b_261_183_1 rfl rfl ?_
                  exact ov_reti (st := []) d_261_185 rfl ⟨_, rfl, I1, ⟨rfl, rfl, rfl, rfl, rfl, rfl, rfl, rfl, rfl, rfl, rfl, rfl, (by show -2147483648 ≤ (-2) ∧ (-2) ≤ 2147483647; omega)⟩, rfl, rfl, rfl, rfl, rfl, rfl, rfl, rfl, rfl, rfl, rfl, rfl, rfl, rfl, rfl, rfl⟩
                · skip
                  refine ov_blk (ls2 := [(0, ov_r 90), (1, ov_i x), (2, ov_i y), (3, ov_i s), (4, ov_i m), (5, ov_i v17), (6, ov_i x6), (7, ov_i x7), (8, ov_i x8), (9, ov_i x9)]) (st2 := [ov_i v17]) (pc2 := 180) b_261_178_1 rfl rfl ?_
                  refine ov_goto (tgt := 185) d_261_180 (by decide) ?_
                  exact ov_reti (st := []) d_261_185 rfl ⟨_, rfl, I1, ⟨rfl, rfl, rfl, rfl, rfl, rfl, rfl, rfl, rfl, rfl, rfl, rfl, (by show -2147483648 ≤ v17 ∧ v17 ≤ 2147483647; omega)⟩, rfl, rfl, rfl, rfl, rfl, rfl, rfl, rfl, rfl, rfl, rfl, rfl, rfl, rfl, rfl, rfl⟩
              · skip
                have f27_ : v26 = 0 := by omega
                have f31 : ¬ (x6 = (h 96 0) - 1 ∧ x7 = (h 96 1) - 1) := f27.2.2 (by omega)
                clear f27
                refine ov_blk (ls2 := [(0, ov_r 90), (1, ov_i x), (2, ov_i y), (3, ov_i s), (4, ov_i m), (5, ov_i v17), (6, ov_i x6), (7, ov_i x7), (8, ov_i x8), (9, ov_i x9)]) (st2 := [ov_i m]) (pc2 := 79) b_261_77_1 rfl rfl ?_
                refine ov_iflt (tgt := 173) d_261_79 (by decide) (by omega) (fun c32 => ?_) (fun c32 => ?_)
                · skip
                  refine ov_blk (ls2 := [(0, ov_r 90), (1, ov_i x), (2, ov_i y), (3, ov_i s), (4, ov_i m), (5, ov_i v17), (6, ov_i x6), (7, ov_i x7), (8, ov_i x8), (9, ov_i x9)]) (st2 := [ov_i m]) (pc2 := 175) b_261_173_1 rfl rfl ?_
                  refine ov_ifge (tgt := 183) d_261_175 (by decide) (by omega) (fun c33 => ?_) (fun c33 => ?_)
                  · omega
                  · skip
                    refine ov_blk (ls2 := [(0, ov_r 90), (1, ov_i x), (2, ov_i y), (3, ov_i s), (4, ov_i m), (5, ov_i v17), (6, ov_i x6), (7, ov_i x7), (8, ov_i x8), (9, ov_i x9)]) (st2 := [ov_i v17]) (pc2 := 180) b_261_178_1 rfl rfl ?_
                    refine ov_goto (tgt := 185) d_261_180 (by decide) ?_
                    exact ov_reti (st := []) d_261_185 rfl ⟨_, rfl, I1, ⟨rfl, rfl, rfl, rfl, rfl, rfl, rfl, rfl, rfl, rfl, rfl, rfl, (by show -2147483648 ≤ v17 ∧ v17 ≤ 2147483647; omega)⟩, rfl, rfl, rfl, rfl, rfl, rfl, rfl, rfl, rfl, rfl, rfl, rfl, rfl, rfl, rfl, rfl⟩
                · skip
                  refine ov_blk (ls2 := [(0, ov_r 90), (1, ov_i x), (2, ov_i y), (3, ov_i s), (4, ov_i m), (5, ov_i v17), (6, ov_i x6), (7, ov_i x7), (8, ov_i x8), (9, ov_i x9)]) (st2 := [ov_i 0, ov_i x7, ov_i x6, ov_r 90]) (pc2 := 88) b_261_82_4 rfl rfl ?_
                  refine ov_cV (as := [ov_i x6, ov_i x7, ov_i 0]) (st := []) (d2 := d - 1) d_261_88 lk_Mo_309 rfl (Nat.le_of_ble_eq_true rfl) (c := 1) (zb_90 I1) (zs_90 I1) ⟨by decide, rfl⟩ (by omega) (c_Mo_canGo_90 (d - 1) (by omega) U I1 x6 x7 0 (by omega) (by omega) (by omega) (by omega) (by omega)) ?_
                  rintro _ _ _ ⟨v35, rfl, rfl, rfl, f34⟩
                  show ov_R u d ov_m261 91 [(0, ov_r 90), (1, ov_i x), (2, ov_i y), (3, ov_i s), (4, ov_i m), (5, ov_i v17), (6, ov_i x6), (7, ov_i x7), (8, ov_i x8), (9, ov_i x9)] [ov_i v35] z (ov_up h 90 0 0) (P_Mo_soonest_90 F z h x y s m)
                  have f36 : (v35 = 0 ∨ v35 = 1) ∧ v35 = ov_cgi (h 96) x6 x7 (0 : Int) ∧ (v35 = 1 → (((0 : Int) = 0 → x6 < (h 96 0) - 1) ∧ (¬ (0 : Int) = 0 → x7 < (h 96 1) - 1)) ∧ (((h 96 (10 + 4 * (6 * x7 + x6))) = 1 ∨ (h 96 (10 + 4 * (6 * x7 + x6))) = 2) → ((0 : Int) = 0 → 0 < (h 96 (10 + 4 * (6 * x7 + x6) + 3))) ∧ (¬ (0 : Int) = 0 → (h 96 (10 + 4 * (6 * x7 + x6) + 3)) < (h 96 (10 + 4 * (6 * x7 + x6) + 1))))) := f34
                  clear f34
                  refine ov_ifeq (tgt := 114) d_261_91 (by decide) (by omega) (fun c37 => ?_) (fun c37 => ?_)
                  · skip
                    have f36_ : v35 = 0 := by omega
                    have f38 : v35 = ov_cgi (h 96) x6 x7 (0 : Int) := f36.2.1
                    clear f36
                    have k1 := ov_so_on (f := h 96) (x := x6) (y := x7) (s := x8) (e := v17) (by omega) (by omega) (by omega) (by omega) (by omega)
                    refine ov_blk (ls2 := [(0, ov_r 90), (1, ov_i x), (2, ov_i y), (3, ov_i s), (4, ov_i m), (5, ov_i v17), (6, ov_i x6), (7, ov_i x7), (8, ov_i x8), (9, ov_i x9), (10, ov_i 1)]) (st2 := [ov_i m, ov_i x9]) (pc2 := 121) b_261_114_4 rfl rfl ?_
                    refine ov_icne (tgt := 127) d_261_121 (by decide) (by omega) (by omega) (fun c39 => ?_) (fun c39 => ?_)
                    · skip
                      refine ov_blk (ls2 := [(0, ov_r 90), (1, ov_i x), (2, ov_i y), (3, ov_i s), (4, ov_i m), (5, ov_i v17), (6, ov_i x6), (7, ov_i x7), (8, ov_i x8), (9, ov_i x9), (10, ov_i 1)]) (st2 := [ov_i x8, ov_i 1, ov_i x7, ov_i x6, ov_r 90, ov_i x8]) (pc2 := 138) b_261_127_6 rfl rfl ?_
                      refine ov_cV (as := [ov_i x6, ov_i x7, ov_i 1, ov_i x8]) (st := [ov_i x8]) (d2 := d - 1) d_261_138 lk_Mo_315 rfl (Nat.le_of_ble_eq_true rfl) (c := 1) (zb_90 I1) (zs_90 I1) ⟨by decide, rfl⟩ (by omega) (c_Mo_waitFor_90 (d - 1) (by omega) U I1 x6 x7 1 x8 (by omega) (by omega) (by omega) (by omega) (by omega) (by omega) (by omega) (by show (((h 96 (10 + 4 * (6 * x7 + x6))) = 1 ∨ (h 96 (10 + 4 * (6 * x7 + x6))) = 2) → ((1 : Int) = 0 → 0 < (h 96 (10 + 4 * (6 * x7 + x6) + 3))) ∧ (¬ (1 : Int) = 0 → (h 96 (10 + 4 * (6 * x7 + x6) + 3)) < (h 96 (10 + 4 * (6 * x7 + x6) + 1)))); omega) W) ?_
                      rintro _ _ _ ⟨v41, rfl, rfl, rfl, f40⟩
                      show ov_R u d ov_m261 141 [(0, ov_r 90), (1, ov_i x), (2, ov_i y), (3, ov_i s), (4, ov_i m), (5, ov_i v17), (6, ov_i x6), (7, ov_i x7), (8, ov_i x8), (9, ov_i x9), (10, ov_i 1)] [ov_i v41, ov_i x8] z (ov_up h 90 0 0) (P_Mo_soonest_90 F z h x y s m)
                      have f42 : 0 ≤ v41 ∧ v41 ≤ 59 ∧ v41 = ov_wm (h 96) (6 * x7 + x6) (1 : Int) x8 := f40
                      clear f40
                      refine ov_blk (ls2 := [(0, ov_r 90), (1, ov_i x), (2, ov_i y), (3, ov_i s), (4, ov_i m), (5, ov_i v17), (6, ov_i x6), (7, ov_i x7), (8, ov_i x8), (9, ov_i x9), (10, ov_i 1)]) (st2 := [ov_r 90, ov_i v41, ov_i x8]) (pc2 := 142) b_261_141_1 rfl rfl ?_
                      refine ov_getf (v := ov_r 96) d_261_142 fl_Mo_81 (zb_90 I1) (zs_90 I1) (congrArg ov_r (rg_90_10 I1)) ?_
                      refine ov_blk (ls2 := [(0, ov_r 90), (1, ov_i x), (2, ov_i y), (3, ov_i s), (4, ov_i m), (5, ov_i v17), (6, ov_i x6), (7, ov_i x7), (8, ov_i x8), (9, ov_i x9), (10, ov_i 1)]) (st2 := [ov_i 2, ov_r 96, ov_i v41, ov_i x8]) (pc2 := 146) b_261_145_1 rfl rfl ?_
                      refine ov_iald d_261_146 (zb_96 I1) (zs_96 I1) (by omega) ?_
                      show ov_R u d ov_m261 147 [(0, ov_r 90), (1, ov_i x), (2, ov_i y), (3, ov_i s), (4, ov_i m), (5, ov_i v17), (6, ov_i x6), (7, ov_i x7), (8, ov_i x8), (9, ov_i x9), (10, ov_i 1)] [ov_i (h 96 2), ov_i v41, ov_i x8] z (ov_up h 90 0 0) (P_Mo_soonest_90 F z h x y s m)
                      have g43 := t96_2 I
                      refine ov_blk (ls2 := [(0, ov_r 90), (1, ov_i x), (2, ov_i y), (3, ov_i s), (4, ov_i m), (5, ov_i v17), (6, ov_i (x6 + (1 - 1))), (7, ov_i (x7 + 1)), (8, ov_i (x8 + (v41 + (h 96 2)))), (9, ov_i x9), (10, ov_i 1)]) (st2 := []) (pc2 := 167) b_261_147_13 rfl rfl ?_
                      have qz : ov_so (h 96) (x6 + (1 - 1)) (x7 + 1) (x8 + (v41 + (h 96 2))) = ov_so (h 96) (x6 + 1 - 1) (x7 + 1) (x8 + ov_wm (h 96) (6 * x7 + x6) 1 x8 + h 96 2) := by congr 1 <;> omega
                      refine ov_blk (ls2 := [(0, ov_r 90), (1, ov_i x), (2, ov_i y), (3, ov_i s), (4, ov_i m), (5, ov_i v17), (6, ov_i (x6 + (1 - 1))), (7, ov_i (x7 + 1)), (8, ov_i (x8 + (v41 + (h 96 2)))), (9, ov_i (x9 + 1)), (10, ov_i 1)]) (st2 := []) (pc2 := 170) b_261_167_1 rfl rfl ?_
                      refine ov_goto (tgt := 66) d_261_170 (by decide) ?_
                      refine ov_sub (ls2 := [(0, ov_r 90), (1, ov_i x), (2, ov_i y), (3, ov_i s), (4, ov_i m), (5, ov_i v17), (6, ov_i (x6 + (1 - 1))), (7, ov_i (x7 + 1)), (8, ov_i (x8 + (v41 + (h 96 2)))), (9, ov_i (x9 + 1))]) (List.Sublist.subset (by repeat (first | exact List.Sublist.refl _ | apply List.Sublist.cons_cons | apply List.Sublist.cons))) ?_
                      exact ih21 (x6 + (1 - 1)) (x7 + 1) (x8 + (v41 + (h 96 2))) (x9 + 1) (by show 0 ≤ (x6 + (1 - 1)) ∧ (x6 + (1 - 1)) ≤ 5 ∧ 0 ≤ (x7 + 1) ∧ (x7 + 1) ≤ 8 ∧ (x6 + (1 - 1)) < (h 96 0) ∧ (x7 + 1) < (h 96 1) ∧ 0 ≤ (x8 + (v41 + (h 96 2))) ∧ (x8 + (v41 + (h 96 2))) ≤ 1000000 + 89 * ((x6 + (1 - 1)) + (x7 + 1)) ∧ 0 ≤ (x9 + 1) ∧ (x9 + 1) ≤ (x6 + (1 - 1)) + (x7 + 1) ∧ ov_so (h 96) (x6 + (1 - 1)) (x7 + 1) (x8 + (v41 + (h 96 2))) = v17; omega) (by omega)
                    · skip
                      refine ov_blk (ls2 := [(0, ov_r 90), (1, ov_i x), (2, ov_i y), (3, ov_i s), (4, ov_i m), (5, ov_i v17), (6, ov_i x6), (7, ov_i x7), (8, ov_i x8), (9, ov_i x9), (10, ov_i 1)]) (st2 := [ov_i 1]) (pc2 := 126) b_261_124_1 rfl rfl ?_
                      exact ov_reti (st := []) d_261_126 rfl ⟨_, rfl, I1, ⟨rfl, rfl, rfl, rfl, rfl, rfl, rfl, rfl, rfl, rfl, rfl, rfl, (by show -2147483648 ≤ 1 ∧ 1 ≤ 2147483647; omega)⟩, rfl, rfl, rfl, rfl, rfl, rfl, rfl, rfl, rfl, rfl, rfl, rfl, rfl, rfl, rfl, rfl⟩
                  · skip
                    have f36_ : v35 = 1 := by omega
                    have f44 : v35 = ov_cgi (h 96) x6 x7 (0 : Int) := f36.2.1
                    have f45 : (((0 : Int) = 0 → x6 < (h 96 0) - 1) ∧ (¬ (0 : Int) = 0 → x7 < (h 96 1) - 1)) ∧ (((h 96 (10 + 4 * (6 * x7 + x6))) = 1 ∨ (h 96 (10 + 4 * (6 * x7 + x6))) = 2) → ((0 : Int) = 0 → 0 < (h 96 (10 + 4 * (6 * x7 + x6) + 3))) ∧ (¬ (0 : Int) = 0 → (h 96 (10 + 4 * (6 * x7 + x6) + 3)) < (h 96 (10 + 4 * (6 * x7 + x6) + 1)))) := f36.2.2 (by omega)
                    clear f36
                    refine ov_blk (ls2 := [(0, ov_r 90), (1, ov_i x), (2, ov_i y), (3, ov_i s), (4, ov_i m), (5, ov_i v17), (6, ov_i x6), (7, ov_i x7), (8, ov_i x8), (9, ov_i x9)]) (st2 := [ov_i x8, ov_i 0, ov_i x7, ov_i x6, ov_r 90]) (pc2 := 102) b_261_94_5 rfl rfl ?_
                    refine ov_cV (as := [ov_i x6, ov_i x7, ov_i 0, ov_i x8]) (st := []) (d2 := d - 1) d_261_102 lk_Mo_339 rfl (Nat.le_of_ble_eq_true rfl) (c := 1) (zb_90 I1) (zs_90 I1) ⟨by decide, rfl⟩ (by omega) (c_Mo_soonestBy_90_all (Int.toNat (13 - (x6) - (x7))) (d - 1) (by omega) U I1 x6 x7 0 x8 (by omega) (by omega) (by omega) (by omega) (by omega) (by show x6 < (h 96 0) ∧ x7 < (h 96 1); omega) (by omega) (by omega) (by omega) (by show (((0 : Int) = 0 → x6 < (h 96 0) - 1) ∧ (¬ (0 : Int) = 0 → x7 < (h 96 1) - 1)) ∧ (((h 96 (10 + 4 * (6 * x7 + x6))) = 1 ∨ (h 96 (10 + 4 * (6 * x7 + x6))) = 2) → ((0 : Int) = 0 → 0 < (h 96 (10 + 4 * (6 * x7 + x6) + 3))) ∧ (¬ (0 : Int) = 0 → (h 96 (10 + 4 * (6 * x7 + x6) + 3)) < (h 96 (10 + 4 * (6 * x7 + x6) + 1)))); omega) W) ?_
                    rintro _ _ _ ⟨v47, rfl, rfl, rfl, f46⟩
                    show ov_R u d ov_m261 105 [(0, ov_r 90), (1, ov_i x), (2, ov_i y), (3, ov_i s), (4, ov_i m), (5, ov_i v17), (6, ov_i x6), (7, ov_i x7), (8, ov_i x8), (9, ov_i x9)] [ov_i v47] z (ov_up h 90 0 0) (P_Mo_soonest_90 F z h x y s m)
                    have f48 : 0 ≤ v47 ∧ v47 ≤ 2000000000 ∧ v47 = ov_so (h 96) (x6 + 1 - (0 : Int)) (x7 + (0 : Int)) (x8 + ov_wm (h 96) (6 * x7 + x6) (0 : Int) x8 + (h 96 2)) := f46
                    clear f46
                    refine ov_blk (ls2 := [(0, ov_r 90), (1, ov_i x), (2, ov_i y), (3, ov_i s), (4, ov_i m), (5, ov_i v17), (6, ov_i x6), (7, ov_i x7), (8, ov_i x8), (9, ov_i x9)]) (st2 := [ov_i v17, ov_i v47]) (pc2 := 107) b_261_105_1 rfl rfl ?_
                    refine ov_icne (tgt := 114) d_261_107 (by decide) (by omega) (by omega) (fun c49 => ?_) (fun c49 => ?_)
                    · skip
                      have k1 := ov_so_on (f := h 96) (x := x6) (y := x7) (s := x8) (e := v17) (by omega) (by omega) (by omega) (by omega) (by omega)
                      refine ov_blk (ls2 := [(0, ov_r 90), (1, ov_i x), (2, ov_i y), (3, ov_i s), (4, ov_i m), (5, ov_i v17), (6, ov_i x6), (7, ov_i x7), (8, ov_i x8), (9, ov_i x9), (10, ov_i 1)]) (st2 := [ov_i m, ov_i x9]) (pc2 := 121) b_261_114_4 rfl rfl ?_
                      refine ov_icne (tgt := 127) d_261_121 (by decide) (by omega) (by omega) (fun c50 => ?_) (fun c50 => ?_)
                      · skip
                        refine ov_blk (ls2 := [(0, ov_r 90), (1, ov_i x), (2, ov_i y), (3, ov_i s), (4, ov_i m), (5, ov_i v17), (6, ov_i x6), (7, ov_i x7), (8, ov_i x8), (9, ov_i x9), (10, ov_i 1)]) (st2 := [ov_i x8, ov_i 1, ov_i x7, ov_i x6, ov_r 90, ov_i x8]) (pc2 := 138) b_261_127_6 rfl rfl ?_
                        refine ov_cV (as := [ov_i x6, ov_i x7, ov_i 1, ov_i x8]) (st := [ov_i x8]) (d2 := d - 1) d_261_138 lk_Mo_315 rfl (Nat.le_of_ble_eq_true rfl) (c := 1) (zb_90 I1) (zs_90 I1) ⟨by decide, rfl⟩ (by omega) (c_Mo_waitFor_90 (d - 1) (by omega) U I1 x6 x7 1 x8 (by omega) (by omega) (by omega) (by omega) (by omega) (by omega) (by omega) (by show (((h 96 (10 + 4 * (6 * x7 + x6))) = 1 ∨ (h 96 (10 + 4 * (6 * x7 + x6))) = 2) → ((1 : Int) = 0 → 0 < (h 96 (10 + 4 * (6 * x7 + x6) + 3))) ∧ (¬ (1 : Int) = 0 → (h 96 (10 + 4 * (6 * x7 + x6) + 3)) < (h 96 (10 + 4 * (6 * x7 + x6) + 1)))); omega) W) ?_
                        rintro _ _ _ ⟨v52, rfl, rfl, rfl, f51⟩
                        show ov_R u d ov_m261 141 [(0, ov_r 90), (1, ov_i x), (2, ov_i y), (3, ov_i s), (4, ov_i m), (5, ov_i v17), (6, ov_i x6), (7, ov_i x7), (8, ov_i x8), (9, ov_i x9), (10, ov_i 1)] [ov_i v52, ov_i x8] z (ov_up h 90 0 0) (P_Mo_soonest_90 F z h x y s m)
                        have f53 : 0 ≤ v52 ∧ v52 ≤ 59 ∧ v52 = ov_wm (h 96) (6 * x7 + x6) (1 : Int) x8 := f51
                        clear f51
                        refine ov_blk (ls2 := [(0, ov_r 90), (1, ov_i x), (2, ov_i y), (3, ov_i s), (4, ov_i m), (5, ov_i v17), (6, ov_i x6), (7, ov_i x7), (8, ov_i x8), (9, ov_i x9), (10, ov_i 1)]) (st2 := [ov_r 90, ov_i v52, ov_i x8]) (pc2 := 142) b_261_141_1 rfl rfl ?_
                        refine ov_getf (v := ov_r 96) d_261_142 fl_Mo_81 (zb_90 I1) (zs_90 I1) (congrArg ov_r (rg_90_10 I1)) ?_
                        refine ov_blk (ls2 := [(0, ov_r 90), (1, ov_i x), (2, ov_i y), (3, ov_i s), (4, ov_i m), (5, ov_i v17), (6, ov_i x6), (7, ov_i x7), (8, ov_i x8), (9, ov_i x9), (10, ov_i 1)]) (st2 := [ov_i 2, ov_r 96, ov_i v52, ov_i x8]) (pc2 := 146) b_261_145_1 rfl rfl ?_
                        refine ov_iald d_261_146 (zb_96 I1) (zs_96 I1) (by omega) ?_
                        show ov_R u d ov_m261 147 [(0, ov_r 90), (1, ov_i x), (2, ov_i y), (3, ov_i s), (4, ov_i m), (5, ov_i v17), (6, ov_i x6), (7, ov_i x7), (8, ov_i x8), (9, ov_i x9), (10, ov_i 1)] [ov_i (h 96 2), ov_i v52, ov_i x8] z (ov_up h 90 0 0) (P_Mo_soonest_90 F z h x y s m)
                        have g54 := t96_2 I
                        refine ov_blk (ls2 := [(0, ov_r 90), (1, ov_i x), (2, ov_i y), (3, ov_i s), (4, ov_i m), (5, ov_i v17), (6, ov_i (x6 + (1 - 1))), (7, ov_i (x7 + 1)), (8, ov_i (x8 + (v52 + (h 96 2)))), (9, ov_i x9), (10, ov_i 1)]) (st2 := []) (pc2 := 167) b_261_147_13 rfl rfl ?_
                        have qz : ov_so (h 96) (x6 + (1 - 1)) (x7 + 1) (x8 + (v52 + (h 96 2))) = ov_so (h 96) (x6 + 1 - 1) (x7 + 1) (x8 + ov_wm (h 96) (6 * x7 + x6) 1 x8 + h 96 2) := by congr 1 <;> omega
                        refine ov_blk (ls2 := [(0, ov_r 90), (1, ov_i x), (2, ov_i y), (3, ov_i s), (4, ov_i m), (5, ov_i v17), (6, ov_i (x6 + (1 - 1))), (7, ov_i (x7 + 1)), (8, ov_i (x8 + (v52 + (h 96 2)))), (9, ov_i (x9 + 1)), (10, ov_i 1)]) (st2 := []) (pc2 := 170) b_261_167_1 rfl rfl ?_
                        refine ov_goto (tgt := 66) d_261_170 (by decide) ?_
                        refine ov_sub (ls2 := [(0, ov_r 90), (1, ov_i x), (2, ov_i y), (3, ov_i s), (4, ov_i m), (5, ov_i v17), (6, ov_i (x6 + (1 - 1))), (7, ov_i (x7 + 1)), (8, ov_i (x8 + (v52 + (h 96 2)))), (9, ov_i (x9 + 1))]) (List.Sublist.subset (by repeat (first | exact List.Sublist.refl _ | apply List.Sublist.cons_cons | apply List.Sublist.cons))) ?_
                        exact ih21 (x6 + (1 - 1)) (x7 + 1) (x8 + (v52 + (h 96 2))) (x9 + 1) (by show 0 ≤ (x6 + (1 - 1)) ∧ (x6 + (1 - 1)) ≤ 5 ∧ 0 ≤ (x7 + 1) ∧ (x7 + 1) ≤ 8 ∧ (x6 + (1 - 1)) < (h 96 0) ∧ (x7 + 1) < (h 96 1) ∧ 0 ≤ (x8 + (v52 + (h 96 2))) ∧ (x8 + (v52 + (h 96 2))) ≤ 1000000 + 89 * ((x6 + (1 - 1)) + (x7 + 1)) ∧ 0 ≤ (x9 + 1) ∧ (x9 + 1) ≤ (x6 + (1 - 1)) + (x7 + 1) ∧ ov_so (h 96) (x6 + (1 - 1)) (x7 + 1) (x8 + (v52 + (h 96 2))) = v17; omega) (by omega)
                      · skip
                        refine ov_blk (ls2 := [(0, ov_r 90), (1, ov_i x), (2, ov_i y), (3, ov_i s), (4, ov_i m), (5, ov_i v17), (6, ov_i x6), (7, ov_i x7), (8, ov_i x8), (9, ov_i x9), (10, ov_i 1)]) (st2 := [ov_i 1]) (pc2 := 126) b_261_124_1 rfl rfl ?_
                        exact ov_reti (st := []) d_261_126 rfl ⟨_, rfl, I1, ⟨rfl, rfl, rfl, rfl, rfl, rfl, rfl, rfl, rfl, rfl, rfl, rfl, (by show -2147483648 ≤ 1 ∧ 1 ≤ 2147483647; omega)⟩, rfl, rfl, rfl, rfl, rfl, rfl, rfl, rfl, rfl, rfl, rfl, rfl, rfl, rfl, rfl, rfl⟩
                    · skip
                      refine ov_blk (ls2 := [(0, ov_r 90), (1, ov_i x), (2, ov_i y), (3, ov_i s), (4, ov_i m), (5, ov_i v17), (6, ov_i x6), (7, ov_i x7), (8, ov_i x8), (9, ov_i x9)]) (st2 := [ov_i 0]) (pc2 := 111) b_261_110_1 rfl rfl ?_
                      refine ov_goto (tgt := 115) d_261_111 (by decide) ?_
                      refine ov_blk (ls2 := [(0, ov_r 90), (1, ov_i x), (2, ov_i y), (3, ov_i s), (4, ov_i m), (5, ov_i v17), (6, ov_i x6), (7, ov_i x7), (8, ov_i x8), (9, ov_i x9), (10, ov_i 0)]) (st2 := [ov_i m, ov_i x9]) (pc2 := 121) b_261_115_3 rfl rfl ?_
                      refine ov_icne (tgt := 127) d_261_121 (by decide) (by omega) (by omega) (fun c55 => ?_) (fun c55 => ?_)
                      · skip
                        refine ov_blk (ls2 := [(0, ov_r 90), (1, ov_i x), (2, ov_i y), (3, ov_i s), (4, ov_i m), (5, ov_i v17), (6, ov_i x6), (7, ov_i x7), (8, ov_i x8), (9, ov_i x9), (10, ov_i 0)]) (st2 := [ov_i x8, ov_i 0, ov_i x7, ov_i x6, ov_r 90, ov_i x8]) (pc2 := 138) b_261_127_6 rfl rfl ?_
                        refine ov_cV (as := [ov_i x6, ov_i x7, ov_i 0, ov_i x8]) (st := [ov_i x8]) (d2 := d - 1) d_261_138 lk_Mo_315 rfl (Nat.le_of_ble_eq_true rfl) (c := 1) (zb_90 I1) (zs_90 I1) ⟨by decide, rfl⟩ (by omega) (c_Mo_waitFor_90 (d - 1) (by omega) U I1 x6 x7 0 x8 (by omega) (by omega) (by omega) (by omega) (by omega) (by omega) (by omega) (by show (((h 96 (10 + 4 * (6 * x7 + x6))) = 1 ∨ (h 96 (10 + 4 * (6 * x7 + x6))) = 2) → ((0 : Int) = 0 → 0 < (h 96 (10 + 4 * (6 * x7 + x6) + 3))) ∧ (¬ (0 : Int) = 0 → (h 96 (10 + 4 * (6 * x7 + x6) + 3)) < (h 96 (10 + 4 * (6 * x7 + x6) + 1)))); omega) W) ?_
                        rintro _ _ _ ⟨v57, rfl, rfl, rfl, f56⟩
                        show ov_R u d ov_m261 141 [(0, ov_r 90), (1, ov_i x), (2, ov_i y), (3, ov_i s), (4, ov_i m), (5, ov_i v17), (6, ov_i x6), (7, ov_i x7), (8, ov_i x8), (9, ov_i x9), (10, ov_i 0)] [ov_i v57, ov_i x8] z (ov_up h 90 0 0) (P_Mo_soonest_90 F z h x y s m)
                        have f58 : 0 ≤ v57 ∧ v57 ≤ 59 ∧ v57 = ov_wm (h 96) (6 * x7 + x6) (0 : Int) x8 := f56
                        clear f56
                        refine ov_blk (ls2 := [(0, ov_r 90), (1, ov_i x), (2, ov_i y), (3, ov_i s), (4, ov_i m), (5, ov_i v17), (6, ov_i x6), (7, ov_i x7), (8, ov_i x8), (9, ov_i x9), (10, ov_i 0)]) (st2 := [ov_r 90, ov_i v57, ov_i x8]) (pc2 := 142) b_261_141_1 rfl rfl ?_
                        refine ov_getf (v := ov_r 96) d_261_142 fl_Mo_81 (zb_90 I1) (zs_90 I1) (congrArg ov_r (rg_90_10 I1)) ?_
                        refine ov_blk (ls2 := [(0, ov_r 90), (1, ov_i x), (2, ov_i y), (3, ov_i s), (4, ov_i m), (5, ov_i v17), (6, ov_i x6), (7, ov_i x7), (8, ov_i x8), (9, ov_i x9), (10, ov_i 0)]) (st2 := [ov_i 2, ov_r 96, ov_i v57, ov_i x8]) (pc2 := 146) b_261_145_1 rfl rfl ?_
                        refine ov_iald d_261_146 (zb_96 I1) (zs_96 I1) (by omega) ?_
                        show ov_R u d ov_m261 147 [(0, ov_r 90), (1, ov_i x), (2, ov_i y), (3, ov_i s), (4, ov_i m), (5, ov_i v17), (6, ov_i x6), (7, ov_i x7), (8, ov_i x8), (9, ov_i x9), (10, ov_i 0)] [ov_i (h 96 2), ov_i v57, ov_i x8] z (ov_up h 90 0 0) (P_Mo_soonest_90 F z h x y s m)
                        have g59 := t96_2 I
                        refine ov_blk (ls2 := [(0, ov_r 90), (1, ov_i x), (2, ov_i y), (3, ov_i s), (4, ov_i m), (5, ov_i v17), (6, ov_i (x6 + (1 - 0))), (7, ov_i (x7 + 0)), (8, ov_i (x8 + (v57 + (h 96 2)))), (9, ov_i x9), (10, ov_i 0)]) (st2 := []) (pc2 := 167) b_261_147_13 rfl rfl ?_
                        have qz : ov_so (h 96) (x6 + (1 - 0)) (x7 + 0) (x8 + (v57 + (h 96 2))) = ov_so (h 96) (x6 + 1 - 0) (x7 + 0) (x8 + ov_wm (h 96) (6 * x7 + x6) 0 x8 + h 96 2) := by congr 1 <;> omega
                        refine ov_blk (ls2 := [(0, ov_r 90), (1, ov_i x), (2, ov_i y), (3, ov_i s), (4, ov_i m), (5, ov_i v17), (6, ov_i (x6 + (1 - 0))), (7, ov_i (x7 + 0)), (8, ov_i (x8 + (v57 + (h 96 2)))), (9, ov_i (x9 + 1)), (10, ov_i 0)]) (st2 := []) (pc2 := 170) b_261_167_1 rfl rfl ?_
                        refine ov_goto (tgt := 66) d_261_170 (by decide) ?_
                        refine ov_sub (ls2 := [(0, ov_r 90), (1, ov_i x), (2, ov_i y), (3, ov_i s), (4, ov_i m), (5, ov_i v17), (6, ov_i (x6 + (1 - 0))), (7, ov_i (x7 + 0)), (8, ov_i (x8 + (v57 + (h 96 2)))), (9, ov_i (x9 + 1))]) (List.Sublist.subset (by repeat (first | exact List.Sublist.refl _ | apply List.Sublist.cons_cons | apply List.Sublist.cons))) ?_
                        exact ih21 (x6 + (1 - 0)) (x7 + 0) (x8 + (v57 + (h 96 2))) (x9 + 1) (by show 0 ≤ (x6 + (1 - 0)) ∧ (x6 + (1 - 0)) ≤ 5 ∧ 0 ≤ (x7 + 0) ∧ (x7 + 0) ≤ 8 ∧ (x6 + (1 - 0)) < (h 96 0) ∧ (x7 + 0) < (h 96 1) ∧ 0 ≤ (x8 + (v57 + (h 96 2))) ∧ (x8 + (v57 + (h 96 2))) ≤ 1000000 + 89 * ((x6 + (1 - 0)) + (x7 + 0)) ∧ 0 ≤ (x9 + 1) ∧ (x9 + 1) ≤ (x6 + (1 - 0)) + (x7 + 0) ∧ ov_so (h 96) (x6 + (1 - 0)) (x7 + 0) (x8 + (v57 + (h 96 2))) = v17; omega) (by omega)
                      · skip
                        refine ov_blk (ls2 := [(0, ov_r 90), (1, ov_i x), (2, ov_i y), (3, ov_i s), (4, ov_i m), (5, ov_i v17), (6, ov_i x6), (7, ov_i x7), (8, ov_i x8), (9, ov_i x9), (10, ov_i 0)]) (st2 := [ov_i 0]) (pc2 := 126) b_261_124_1 rfl rfl ?_
                        exact ov_reti (st := []) d_261_126 rfl ⟨_, rfl, I1, ⟨rfl, rfl, rfl, rfl, rfl, rfl, rfl, rfl, rfl, rfl, rfl, rfl, (by show -2147483648 ≤ 0 ∧ 0 ≤ 2147483647; omega)⟩, rfl, rfl, rfl, rfl, rfl, rfl, rfl, rfl, rfl, rfl, rfl, rfl, rfl, rfl, rfl, rfl⟩
          exact L23 20 x y s 0 (by show 0 ≤ x ∧ x ≤ 5 ∧ 0 ≤ y ∧ y ≤ 8 ∧ x < (h 96 0) ∧ y < (h 96 1) ∧ 0 ≤ s ∧ s ≤ 1000000 + 89 * (x + y) ∧ 0 ≤ 0 ∧ 0 ≤ x + y ∧ ov_so (h 96) x y s = v17; omega) (by omega)
        · skip
          refine ov_blk (ls2 := [(0, ov_r 90), (1, ov_i x), (2, ov_i y), (3, ov_i s), (4, ov_i m), (5, ov_i v17)]) (st2 := [ov_i (-2)]) (pc2 := 53) b_261_51_1 rfl rfl ?_
          exact ov_reti (st := []) d_261_53 rfl ⟨_, rfl, I1, ⟨rfl, rfl, rfl, rfl, rfl, rfl, rfl, rfl, rfl, rfl, rfl, rfl, (by show -2147483648 ≤ (-2) ∧ (-2) ≤ 2147483647; omega)⟩, rfl, rfl, rfl, rfl, rfl, rfl, rfl, rfl, rfl, rfl, rfl, rfl, rfl, rfl, rfl, rfl⟩
abbrev P_Mo_latest_90 (F : ov_H × ov_Z) (z : ov_Z) (h : ov_H) (x : Int) (y : Int) (s : Int) : Option ov_V → ov_Z → ov_H → Prop := fun r0 z' h' => ∃ r : Int, r0 = some (ov_i r) ∧ ov_N F z' h' ∧ ((h' 90 2) = (h 90 2) ∧ (h' 90 7) = (h 90 7) ∧ (h' 90 8) = (h 90 8) ∧ (h' 90 13) = (h 90 13) ∧ (h' 90 20) = (h 90 20) ∧ (h' 90 22) = (h 90 22) ∧ (h' 90 25) = (h 90 25) ∧ (h' 90 26) = (h 90 26) ∧ (h' 90 28) = (h 90 28) ∧ (h' 90 29) = (h 90 29) ∧ (h' 90 30) = (h 90 30) ∧ (h' 90 34) = (h 90 34) ∧ -2147483648 ≤ r ∧ r ≤ 2147483647) ∧ h' 91 = h 91 ∧ h' 92 = h 92 ∧ h' 93 = h 93 ∧ h' 94 = h 94 ∧ h' 95 = h 95 ∧ h' 96 = h 96 ∧ h' 97 = h 97 ∧ h' 98 = h 98 ∧ h' 99 = h 99 ∧ h' 100 = h 100 ∧ h' 103 = h 103 ∧ h' 104 = h 104 ∧ h' 105 = h 105 ∧ h' 106 = h 106 ∧ h' 109 = h 109 ∧ h' 114 = h 114
set_option maxHeartbeats 4000000 in
theorem c_Mo_latest_90 {u : ov_U} {F : ov_H × ov_Z} {z : ov_Z} {h : ov_H} (d : Nat) (hd : 60 ≤ d) (U : ov_cap u) (I : ov_N F z h) (x : Int) (y : Int) (s : Int) (g_x : ov_g x) (g_y : ov_g y) (g_s : ov_g s) (W : ov_WT (h 96)) : ov_T u d ov_m265 [ov_r 90, ov_i x, ov_i y, ov_i s] z h (P_Mo_latest_90 F z h x y s) := by
  refine ov_en rfl (Nat.le_of_ble_eq_true rfl) ?_
  show ov_R u d ov_m265 0 [(0, ov_r 90), (1, ov_i x), (2, ov_i y), (3, ov_i s)] [] z h (P_Mo_latest_90 F z h x y s)
  have t0 := t96_0 I
  have t1 := t96_1 I
  refine ov_blk (ls2 := [(0, ov_r 90), (1, ov_i x), (2, ov_i y), (3, ov_i s)]) (st2 := [ov_i 0, ov_r 90]) (pc2 := 2) b_265_0_2 rfl rfl ?_
  refine ov_putf (x := 0) d_265_2 fl_Mo_1 (zb_90 I) (zs_90 I) rfl nk_0 rfl ?_
  have I1 := up_90_0 (x := 0) I (by omega)
  refine ov_blk (ls2 := [(0, ov_r 90), (1, ov_i x), (2, ov_i y), (3, ov_i s)]) (st2 := [ov_i y, ov_i x, ov_r 90]) (pc2 := 8) b_265_5_3 rfl rfl ?_
  refine ov_cV (as := [ov_i x, ov_i y]) (st := []) (d2 := d - 1) d_265_8 lk_Mo_296 rfl (Nat.le_of_ble_eq_true rfl) (c := 1) (zb_90 I1) (zs_90 I1) ⟨by decide, rfl⟩ (by omega) (c_Mo_isCorner_90 (d - 1) (by omega) U I1 x y (by omega) (by omega)) ?_
  rintro _ _ _ ⟨v3, rfl, rfl, rfl, f2⟩
  show ov_R u d ov_m265 11 [(0, ov_r 90), (1, ov_i x), (2, ov_i y), (3, ov_i s)] [ov_i v3] z (ov_up h 90 0 0) (P_Mo_latest_90 F z h x y s)
  have f4 : (v3 = 0 ∨ v3 = 1) ∧ (v3 = 1 → 0 ≤ x ∧ x ≤ 5 ∧ 0 ≤ y ∧ y ≤ 8 ∧ x < (h 96 0) ∧ y < (h 96 1)) := f2
  clear f2
  refine ov_ifeq (tgt := 32) d_265_11 (by decide) (by omega) (fun c5 => ?_) (fun c5 => ?_)
  · skip
    have f4_ : v3 = 0 := by omega
    clear f4
    refine ov_ldcw (n := 2000000000) d_265_32 kc_Mo_338 ?_
    refine ov_blk (ls2 := [(0, ov_r 90), (1, ov_i x), (2, ov_i y), (3, ov_i s), (4, ov_i 2000000000)]) (st2 := [ov_i 2000000000]) (pc2 := 39) b_265_35_2 rfl rfl ?_
    refine ov_ldcw (n := 2000000000) d_265_39 kc_Mo_338 ?_
    refine ov_icne (tgt := 47) d_265_42 (by decide) (by omega) (by omega) (fun c6 => ?_) (fun c6 => ?_)
    · omega
    · skip
      refine ov_blk (ls2 := [(0, ov_r 90), (1, ov_i x), (2, ov_i y), (3, ov_i s), (4, ov_i 2000000000)]) (st2 := [ov_i (-1)]) (pc2 := 46) b_265_45_1 rfl rfl ?_
      exact ov_reti (st := []) d_265_46 rfl ⟨_, rfl, I1, ⟨rfl, rfl, rfl, rfl, rfl, rfl, rfl, rfl, rfl, rfl, rfl, rfl, (by show -2147483648 ≤ (-1) ∧ (-1) ≤ 2147483647; omega)⟩, rfl, rfl, rfl, rfl, rfl, rfl, rfl, rfl, rfl, rfl, rfl, rfl, rfl, rfl, rfl, rfl⟩
  · skip
    have f4_ : v3 = 1 := by omega
    have f7 : 0 ≤ x ∧ x ≤ 5 ∧ 0 ≤ y ∧ y ≤ 8 ∧ x < (h 96 0) ∧ y < (h 96 1) := f4.2 (by omega)
    clear f4
    refine ov_blk (ls2 := [(0, ov_r 90), (1, ov_i x), (2, ov_i y), (3, ov_i s)]) (st2 := [ov_i s, ov_r 90]) (pc2 := 16) b_265_14_2 rfl rfl ?_
    refine ov_cV (as := [ov_i s]) (st := []) (d2 := d - 1) d_265_16 lk_Mo_306 rfl (Nat.le_of_ble_eq_true rfl) (c := 1) (zb_90 I1) (zs_90 I1) ⟨by decide, rfl⟩ (by omega) (c_Mo_isSecond_90 (d - 1) (by omega) U I1 s (by omega)) ?_
    rintro _ _ _ ⟨v9, rfl, rfl, rfl, f8⟩
    show ov_R u d ov_m265 19 [(0, ov_r 90), (1, ov_i x), (2, ov_i y), (3, ov_i s)] [ov_i v9] z (ov_up h 90 0 0) (P_Mo_latest_90 F z h x y s)
    have f10 : (v9 = 0 ∨ v9 = 1) ∧ (v9 = 1 → 0 ≤ s ∧ s ≤ 1000000) := f8
    clear f8
    refine ov_ifeq (tgt := 32) d_265_19 (by decide) (by omega) (fun c11 => ?_) (fun c11 => ?_)
    · skip
      have f10_ : v9 = 0 := by omega
      clear f10
      refine ov_ldcw (n := 2000000000) d_265_32 kc_Mo_338 ?_
      refine ov_blk (ls2 := [(0, ov_r 90), (1, ov_i x), (2, ov_i y), (3, ov_i s), (4, ov_i 2000000000)]) (st2 := [ov_i 2000000000]) (pc2 := 39) b_265_35_2 rfl rfl ?_
      refine ov_ldcw (n := 2000000000) d_265_39 kc_Mo_338 ?_
      refine ov_icne (tgt := 47) d_265_42 (by decide) (by omega) (by omega) (fun c12 => ?_) (fun c12 => ?_)
      · omega
      · skip
        refine ov_blk (ls2 := [(0, ov_r 90), (1, ov_i x), (2, ov_i y), (3, ov_i s), (4, ov_i 2000000000)]) (st2 := [ov_i (-1)]) (pc2 := 46) b_265_45_1 rfl rfl ?_
        exact ov_reti (st := []) d_265_46 rfl ⟨_, rfl, I1, ⟨rfl, rfl, rfl, rfl, rfl, rfl, rfl, rfl, rfl, rfl, rfl, rfl, (by show -2147483648 ≤ (-1) ∧ (-1) ≤ 2147483647; omega)⟩, rfl, rfl, rfl, rfl, rfl, rfl, rfl, rfl, rfl, rfl, rfl, rfl, rfl, rfl, rfl, rfl⟩
    · skip
      have f10_ : v9 = 1 := by omega
      have f13 : 0 ≤ s ∧ s ≤ 1000000 := f10.2 (by omega)
      clear f10
      refine ov_blk (ls2 := [(0, ov_r 90), (1, ov_i x), (2, ov_i y), (3, ov_i s)]) (st2 := [ov_i s, ov_i y, ov_i x, ov_r 90]) (pc2 := 26) b_265_22_4 rfl rfl ?_
      refine ov_cV (as := [ov_i x, ov_i y, ov_i s]) (st := []) (d2 := d - 1) d_265_26 lk_Mo_342 rfl (Nat.le_of_ble_eq_true rfl) (c := 1) (zb_90 I1) (zs_90 I1) ⟨by decide, rfl⟩ (by omega) (c_Mo_soonestFrom_90_all (Int.toNat (13 - (x) - (y))) (d - 1) (by omega) U I1 x y s (by omega) (by omega) (by omega) (by omega) (by show x < (h 96 0) ∧ y < (h 96 1); omega) (by omega) (by omega) W) ?_
      rintro _ _ _ ⟨v15, rfl, rfl, rfl, f14⟩
      show ov_R u d ov_m265 29 [(0, ov_r 90), (1, ov_i x), (2, ov_i y), (3, ov_i s)] [ov_i v15] z (ov_up h 90 0 0) (P_Mo_latest_90 F z h x y s)
      have f16 : 0 ≤ v15 ∧ v15 ≤ 2000000000 ∧ v15 = ov_so (h 96) x y s := f14
      clear f14
      refine ov_goto (tgt := 35) d_265_29 (by decide) ?_
      refine ov_blk (ls2 := [(0, ov_r 90), (1, ov_i x), (2, ov_i y), (3, ov_i s), (4, ov_i v15)]) (st2 := [ov_i v15]) (pc2 := 39) b_265_35_2 rfl rfl ?_
      refine ov_ldcw (n := 2000000000) d_265_39 kc_Mo_338 ?_
      refine ov_icne (tgt := 47) d_265_42 (by decide) (by omega) (by omega) (fun c17 => ?_) (fun c17 => ?_)
      · skip
        refine ov_blk (ls2 := [(0, ov_r 90), (1, ov_i x), (2, ov_i y), (3, ov_i s), (4, ov_i v15), (5, ov_i s), (6, ov_i 1)]) (st2 := []) (pc2 := 53) b_265_47_4 rfl rfl ?_
        have L21 : ∀ (n18 : Nat) (x5 : Int) (x6 : Int) (q20 : 1 ≤ x6 ∧ x6 ≤ 1200 ∧ 0 ≤ x5 ∧ x5 ≤ 1001200), 1200 - x6 < (n18 : Int) → ov_R u d ov_m265 53 [(0, ov_r 90), (1, ov_i x), (2, ov_i y), (3, ov_i s), (4, ov_i v15), (5, ov_i x5), (6, ov_i x6)] [] z (ov_up h 90 0 0) (P_Mo_latest_90 F z h x y s) := by
          intro n18
          induction n18 with
          | zero =>
            intro x5 x6 q20 hn22
            exact absurd hn22 (by omega)
          | succ n18 ih19 =>
            intro x5 x6 q20 hn22
            refine ov_blk (ls2 := [(0, ov_r 90), (1, ov_i x), (2, ov_i y), (3, ov_i s), (4, ov_i v15), (5, ov_i x5), (6, ov_i x6)]) (st2 := [ov_r 90, ov_i x6]) (pc2 := 56) b_265_53_2 rfl rfl ?_
            refine ov_getf (v := ov_r 96) d_265_56 fl_Mo_81 (zb_90 I1) (zs_90 I1) (congrArg ov_r (rg_90_10 I1)) ?_
            refine ov_blk (ls2 := [(0, ov_r 90), (1, ov_i x), (2, ov_i y), (3, ov_i s), (4, ov_i v15), (5, ov_i x5), (6, ov_i x6)]) (st2 := [ov_i 9, ov_r 96, ov_i x6]) (pc2 := 61) b_265_59_1 rfl rfl ?_
            refine ov_iald d_265_61 (zb_96 I1) (zs_96 I1) (by omega) ?_
            show ov_R u d ov_m265 62 [(0, ov_r 90), (1, ov_i x), (2, ov_i y), (3, ov_i s), (4, ov_i v15), (5, ov_i x5), (6, ov_i x6)] [ov_i (h 96 9), ov_i x6] z (ov_up h 90 0 0) (P_Mo_latest_90 F z h x y s)
            have g23 := t96_9 I
            refine ov_icge (tgt := 97) d_265_62 (by decide) (by omega) (by omega) (fun c24 => ?_) (fun c24 => ?_)
            · skip
              refine ov_blk (ls2 := [(0, ov_r 90), (1, ov_i x), (2, ov_i y), (3, ov_i s), (4, ov_i v15), (5, ov_i x5), (6, ov_i x6)]) (st2 := [ov_i x5]) (pc2 := 99) b_265_97_1 rfl rfl ?_
              exact ov_reti (st := []) d_265_99 rfl ⟨_, rfl, I1, ⟨rfl, rfl, rfl, rfl, rfl, rfl, rfl, rfl, rfl, rfl, rfl, rfl, (by show -2147483648 ≤ x5 ∧ x5 ≤ 2147483647; omega)⟩, rfl, rfl, rfl, rfl, rfl, rfl, rfl, rfl, rfl, rfl, rfl, rfl, rfl, rfl, rfl, rfl⟩
            · skip
              refine ov_blk (ls2 := [(0, ov_r 90), (1, ov_i x), (2, ov_i y), (3, ov_i s), (4, ov_i v15), (5, ov_i x5), (6, ov_i x6)]) (st2 := [ov_i (s + x6), ov_i y, ov_i x, ov_r 90]) (pc2 := 72) b_265_65_6 rfl rfl ?_
              refine ov_cV (as := [ov_i x, ov_i y, ov_i (s + x6)]) (st := []) (d2 := d - 1) d_265_72 lk_Mo_342 rfl (Nat.le_of_ble_eq_true rfl) (c := 1) (zb_90 I1) (zs_90 I1) ⟨by decide, rfl⟩ (by omega) (c_Mo_soonestFrom_90_all (Int.toNat (13 - (x) - (y))) (d - 1) (by omega) U I1 x y (s + x6) (by omega) (by omega) (by omega) (by omega) (by show x < (h 96 0) ∧ y < (h 96 1); omega) (by omega) (by omega) W) ?_
              rintro _ _ _ ⟨v26, rfl, rfl, rfl, f25⟩
              show ov_R u d ov_m265 75 [(0, ov_r 90), (1, ov_i x), (2, ov_i y), (3, ov_i s), (4, ov_i v15), (5, ov_i x5), (6, ov_i x6)] [ov_i v26] z (ov_up h 90 0 0) (P_Mo_latest_90 F z h x y s)
              have f27 : 0 ≤ v26 ∧ v26 ≤ 2000000000 ∧ v26 = ov_so (h 96) x y (s + x6) := f25
              clear f25
              refine ov_blk (ls2 := [(0, ov_r 90), (1, ov_i x), (2, ov_i y), (3, ov_i s), (4, ov_i v15), (5, ov_i x5), (6, ov_i x6)]) (st2 := [ov_i v15, ov_i v26]) (pc2 := 77) b_265_75_1 rfl rfl ?_
              refine ov_icne (tgt := 87) d_265_77 (by decide) (by omega) (by omega) (fun c28 => ?_) (fun c28 => ?_)
              · skip
                refine ov_blk (ls2 := [(0, ov_r 90), (1, ov_i x), (2, ov_i y), (3, ov_i s), (4, ov_i v15), (5, ov_i x5), (6, ov_i (x6 + 1))]) (st2 := []) (pc2 := 94) b_265_87_3 rfl rfl ?_
                refine ov_goto (tgt := 53) d_265_94 (by decide) ?_
                exact ih19 x5 (x6 + 1) (by show 1 ≤ (x6 + 1) ∧ (x6 + 1) ≤ 1200 ∧ 0 ≤ x5 ∧ x5 ≤ 1001200; omega) (by omega)
              · skip
                refine ov_blk (ls2 := [(0, ov_r 90), (1, ov_i x), (2, ov_i y), (3, ov_i s), (4, ov_i v15), (5, ov_i x5), (6, ov_i x6)]) (st2 := [ov_i (s + x6)]) (pc2 := 84) b_265_80_3 rfl rfl ?_
                refine ov_goto (tgt := 89) d_265_84 (by decide) ?_
                refine ov_blk (ls2 := [(0, ov_r 90), (1, ov_i x), (2, ov_i y), (3, ov_i s), (4, ov_i v15), (5, ov_i (s + x6)), (6, ov_i (x6 + 1))]) (st2 := []) (pc2 := 94) b_265_89_2 rfl rfl ?_
                refine ov_goto (tgt := 53) d_265_94 (by decide) ?_
                exact ih19 (s + x6) (x6 + 1) (by show 1 ≤ (x6 + 1) ∧ (x6 + 1) ≤ 1200 ∧ 0 ≤ (s + x6) ∧ (s + x6) ≤ 1001200; omega) (by omega)
        exact L21 1300 s 1 (by show 1 ≤ 1 ∧ 1 ≤ 1200 ∧ 0 ≤ s ∧ s ≤ 1001200; omega) (by omega)
      · skip
        refine ov_blk (ls2 := [(0, ov_r 90), (1, ov_i x), (2, ov_i y), (3, ov_i s), (4, ov_i v15)]) (st2 := [ov_i (-1)]) (pc2 := 46) b_265_45_1 rfl rfl ?_
        exact ov_reti (st := []) d_265_46 rfl ⟨_, rfl, I1, ⟨rfl, rfl, rfl, rfl, rfl, rfl, rfl, rfl, rfl, rfl, rfl, rfl, (by show -2147483648 ≤ (-1) ∧ (-1) ≤ 2147483647; omega)⟩, rfl, rfl, rfl, rfl, rfl, rfl, rfl, rfl, rfl, rfl, rfl, rfl, rfl, rfl, rfl, rfl⟩
abbrev P_Mo_turnsFrom_90 (F : ov_H × ov_Z) (z : ov_Z) (h : ov_H) (x : Int) (y : Int) (s : Int) (la : Int) (of : Int) : Option ov_V → ov_Z → ov_H → Prop := fun r0 z' h' => ∃ r : Int, r0 = some (ov_i r) ∧ z = z' ∧ h = h' ∧ (0 ≤ r ∧ r ≤ 2000000000)
set_option maxHeartbeats 4000000 in
theorem c_Mo_turnsFrom_90 {u : ov_U} {F : ov_H × ov_Z} (k : Nat) (HV : ∀ k' : Nat, k' < k → ∀ {z : ov_Z} {h : ov_H} (d : Nat) (hd : (10 + 2 * k' + 1) ≤ d) (U : ov_cap u) (I : ov_N F z h) (x : Int) (y : Int) (s : Int) (la : Int) (of : Int) (g_x : ov_g x) (g_y : ov_g y) (g_s : ov_g s) (g_la : ov_g la) (g_of : ov_g of) (p0 : 0 ≤ x ∧ x ≤ 5 ∧ 0 ≤ y ∧ y ≤ 8) (p1 : x < (h 96 0) ∧ y < (h 96 1)) (p2 : x + y + (k' : Int) = 13) (p3 : 0 ≤ s ∧ s + 89 * (k' : Int) ≤ 3000000) (p4 : -1 ≤ la ∧ la ≤ 1) (p5 : 0 ≤ of ∧ of ≤ 12) (W : ov_WT (h 96)), ov_T u d ov_m267 [ov_r 90, ov_i x, ov_i y, ov_i s, ov_i la, ov_i of] z h (P_Mo_turnsFrom_90 F z h x y s la of)) {z : ov_Z} {h : ov_H} (d : Nat) (hd : (10 + 2 * k + 1) ≤ d) (U : ov_cap u) (I : ov_N F z h) (x : Int) (y : Int) (s : Int) (la : Int) (of : Int) (g_x : ov_g x) (g_y : ov_g y) (g_s : ov_g s) (g_la : ov_g la) (g_of : ov_g of) (p0 : 0 ≤ x ∧ x ≤ 5 ∧ 0 ≤ y ∧ y ≤ 8) (p1 : x < (h 96 0) ∧ y < (h 96 1)) (p2 : x + y + (k : Int) = 13) (p3 : 0 ≤ s ∧ s + 89 * (k : Int) ≤ 3000000) (p4 : -1 ≤ la ∧ la ≤ 1) (p5 : 0 ≤ of ∧ of ≤ 12) (W : ov_WT (h 96)) : ov_T u d ov_m267 [ov_r 90, ov_i x, ov_i y, ov_i s, ov_i la, ov_i of] z h (P_Mo_turnsFrom_90 F z h x y s la of) := by
  refine ov_en rfl (Nat.le_of_ble_eq_true rfl) ?_
  show ov_R u d ov_m267 0 [(0, ov_r 90), (1, ov_i x), (2, ov_i y), (3, ov_i s), (4, ov_i la), (5, ov_i of)] [] z h (P_Mo_turnsFrom_90 F z h x y s la of)
  have t0 := t96_0 I
  have t1 := t96_1 I
  refine ov_blk (ls2 := [(0, ov_r 90), (1, ov_i x), (2, ov_i y), (3, ov_i s), (4, ov_i la), (5, ov_i of)]) (st2 := [ov_i y, ov_i x, ov_r 90]) (pc2 := 3) b_267_0_3 rfl rfl ?_
  refine ov_cV (as := [ov_i x, ov_i y]) (st := []) (d2 := d - 1) d_267_3 lk_Mo_335 rfl (Nat.le_of_ble_eq_true rfl) (c := 1) (zb_90 I) (zs_90 I) ⟨by decide, rfl⟩ (by omega) (c_Mo_isHome_90 (d - 1) (by omega) U I x y (by omega) (by omega) (by omega)) ?_
  rintro _ _ _ ⟨v2, rfl, rfl, rfl, f1⟩
  show ov_R u d ov_m267 6 [(0, ov_r 90), (1, ov_i x), (2, ov_i y), (3, ov_i s), (4, ov_i la), (5, ov_i of)] [ov_i v2] z h (P_Mo_turnsFrom_90 F z h x y s la of)
  have f3 : (v2 = 0 ∨ v2 = 1) ∧ (v2 = 1 → x = (h 96 0) - 1 ∧ y = (h 96 1) - 1) ∧ (v2 = 0 → ¬ (x = (h 96 0) - 1 ∧ y = (h 96 1) - 1)) := f1
  clear f1
  refine ov_ifeq (tgt := 11) d_267_6 (by decide) (by omega) (fun c4 => ?_) (fun c4 => ?_)
  · skip
    have f3_ : v2 = 0 := by omega
    have f5 : ¬ (x = (h 96 0) - 1 ∧ y = (h 96 1) - 1) := f3.2.2 (by omega)
    clear f3
    refine ov_ldcw (n := 2000000000) d_267_11 kc_Mo_338 ?_
    refine ov_blk (ls2 := [(0, ov_r 90), (1, ov_i x), (2, ov_i y), (3, ov_i s), (4, ov_i la), (5, ov_i of), (6, ov_i 2000000000), (7, ov_i 0)]) (st2 := []) (pc2 := 19) b_267_14_3 rfl rfl ?_
    have L9 : ∀ (n6 : Nat) (x6 : Int) (x7 : Int) (q8 : 0 ≤ x7 ∧ x7 ≤ 2 ∧ 0 ≤ x6 ∧ x6 ≤ 2000000000), 2 - x7 < (n6 : Int) → ov_R u d ov_m267 19 [(0, ov_r 90), (1, ov_i x), (2, ov_i y), (3, ov_i s), (4, ov_i la), (5, ov_i of), (6, ov_i x6), (7, ov_i x7)] [] z h (P_Mo_turnsFrom_90 F z h x y s la of) := by
      intro n6
      induction n6 with
      | zero =>
        intro x6 x7 q8 hn10
        exact absurd hn10 (by omega)
      | succ n6 ih7 =>
        intro x6 x7 q8 hn10
        refine ov_blk (ls2 := [(0, ov_r 90), (1, ov_i x), (2, ov_i y), (3, ov_i s), (4, ov_i la), (5, ov_i of), (6, ov_i x6), (7, ov_i x7)]) (st2 := [ov_i 2, ov_i x7]) (pc2 := 22) b_267_19_2 rfl rfl ?_
        refine ov_icge (tgt := 124) d_267_22 (by decide) (by omega) (by omega) (fun c11 => ?_) (fun c11 => ?_)
        · skip
          refine ov_blk (ls2 := [(0, ov_r 90), (1, ov_i x), (2, ov_i y), (3, ov_i s), (4, ov_i la), (5, ov_i of), (6, ov_i x6), (7, ov_i x7)]) (st2 := [ov_i x6]) (pc2 := 126) b_267_124_1 rfl rfl ?_
          exact ov_reti (st := []) d_267_126 rfl ⟨_, rfl, rfl, rfl, (by show 0 ≤ x6 ∧ x6 ≤ 2000000000; omega)⟩
        · skip
          refine ov_blk (ls2 := [(0, ov_r 90), (1, ov_i x), (2, ov_i y), (3, ov_i s), (4, ov_i la), (5, ov_i of), (6, ov_i x6), (7, ov_i x7)]) (st2 := [ov_i la]) (pc2 := 27) b_267_25_1 rfl rfl ?_
          refine ov_iflt (tgt := 44) d_267_27 (by decide) (by omega) (fun c12 => ?_) (fun c12 => ?_)
          · skip
            refine ov_blk (ls2 := [(0, ov_r 90), (1, ov_i x), (2, ov_i y), (3, ov_i s), (4, ov_i la), (5, ov_i of), (6, ov_i x6), (7, ov_i x7), (8, ov_i of)]) (st2 := [ov_i of]) (pc2 := 50) b_267_44_3 rfl rfl ?_
            refine ov_iflt (tgt := 118) d_267_50 (by decide) (by omega) (fun c13 => ?_) (fun c13 => ?_)
            · skip
              refine ov_blk (ls2 := [(0, ov_r 90), (1, ov_i x), (2, ov_i y), (3, ov_i s), (4, ov_i la), (5, ov_i of), (6, ov_i x6), (7, ov_i (x7 + 1)), (8, ov_i of)]) (st2 := []) (pc2 := 121) b_267_118_1 rfl rfl ?_
              refine ov_goto (tgt := 19) d_267_121 (by decide) ?_
              refine ov_sub (ls2 := [(0, ov_r 90), (1, ov_i x), (2, ov_i y), (3, ov_i s), (4, ov_i la), (5, ov_i of), (6, ov_i x6), (7, ov_i (x7 + 1))]) (List.Sublist.subset (by repeat (first | exact List.Sublist.refl _ | apply List.Sublist.cons_cons | apply List.Sublist.cons))) ?_
              exact ih7 x6 (x7 + 1) (by show 0 ≤ (x7 + 1) ∧ (x7 + 1) ≤ 2 ∧ 0 ≤ x6 ∧ x6 ≤ 2000000000; omega) (by omega)
            · skip
              refine ov_blk (ls2 := [(0, ov_r 90), (1, ov_i x), (2, ov_i y), (3, ov_i s), (4, ov_i la), (5, ov_i of), (6, ov_i x6), (7, ov_i x7), (8, ov_i of)]) (st2 := [ov_i x7, ov_i y, ov_i x, ov_r 90]) (pc2 := 58) b_267_53_4 rfl rfl ?_
              refine ov_cV (as := [ov_i x, ov_i y, ov_i x7]) (st := []) (d2 := d - 1) d_267_58 lk_Mo_309 rfl (Nat.le_of_ble_eq_true rfl) (c := 1) (zb_90 I) (zs_90 I) ⟨by decide, rfl⟩ (by omega) (c_Mo_canGo_90 (d - 1) (by omega) U I x y x7 (by omega) (by omega) (by omega) (by omega) (by omega)) ?_
              rintro _ _ _ ⟨v15, rfl, rfl, rfl, f14⟩
              show ov_R u d ov_m267 61 [(0, ov_r 90), (1, ov_i x), (2, ov_i y), (3, ov_i s), (4, ov_i la), (5, ov_i of), (6, ov_i x6), (7, ov_i x7), (8, ov_i of)] [ov_i v15] z h (P_Mo_turnsFrom_90 F z h x y s la of)
              have f16 : (v15 = 0 ∨ v15 = 1) ∧ v15 = ov_cgi (h 96) x y x7 ∧ (v15 = 1 → ((x7 = 0 → x < (h 96 0) - 1) ∧ (¬ x7 = 0 → y < (h 96 1) - 1)) ∧ (((h 96 (10 + 4 * (6 * y + x))) = 1 ∨ (h 96 (10 + 4 * (6 * y + x))) = 2) → (x7 = 0 → 0 < (h 96 (10 + 4 * (6 * y + x) + 3))) ∧ (¬ x7 = 0 → (h 96 (10 + 4 * (6 * y + x) + 3)) < (h 96 (10 + 4 * (6 * y + x) + 1))))) := f14
              clear f14
              refine ov_ifeq (tgt := 118) d_267_61 (by decide) (by omega) (fun c17 => ?_) (fun c17 => ?_)
              · skip
                have f16_ : v15 = 0 := by omega
                have f18 : v15 = ov_cgi (h 96) x y x7 := f16.2.1
                clear f16
                refine ov_blk (ls2 := [(0, ov_r 90), (1, ov_i x), (2, ov_i y), (3, ov_i s), (4, ov_i la), (5, ov_i of), (6, ov_i x6), (7, ov_i (x7 + 1)), (8, ov_i of)]) (st2 := []) (pc2 := 121) b_267_118_1 rfl rfl ?_
                refine ov_goto (tgt := 19) d_267_121 (by decide) ?_
                refine ov_sub (ls2 := [(0, ov_r 90), (1, ov_i x), (2, ov_i y), (3, ov_i s), (4, ov_i la), (5, ov_i of), (6, ov_i x6), (7, ov_i (x7 + 1))]) (List.Sublist.subset (by repeat (first | exact List.Sublist.refl _ | apply List.Sublist.cons_cons | apply List.Sublist.cons))) ?_
                exact ih7 x6 (x7 + 1) (by show 0 ≤ (x7 + 1) ∧ (x7 + 1) ≤ 2 ∧ 0 ≤ x6 ∧ x6 ≤ 2000000000; omega) (by omega)
              · skip
                have f16_ : v15 = 1 := by omega
                have f19 : v15 = ov_cgi (h 96) x y x7 := f16.2.1
                have f20 : ((x7 = 0 → x < (h 96 0) - 1) ∧ (¬ x7 = 0 → y < (h 96 1) - 1)) ∧ (((h 96 (10 + 4 * (6 * y + x))) = 1 ∨ (h 96 (10 + 4 * (6 * y + x))) = 2) → (x7 = 0 → 0 < (h 96 (10 + 4 * (6 * y + x) + 3))) ∧ (¬ x7 = 0 → (h 96 (10 + 4 * (6 * y + x) + 3)) < (h 96 (10 + 4 * (6 * y + x) + 1)))) := f16.2.2 (by omega)
                clear f16
                refine ov_blk (ls2 := [(0, ov_r 90), (1, ov_i x), (2, ov_i y), (3, ov_i s), (4, ov_i la), (5, ov_i of), (6, ov_i x6), (7, ov_i x7), (8, ov_i of)]) (st2 := [ov_i s, ov_i x7, ov_i y, ov_i x, ov_r 90, ov_i s, ov_i (y + x7), ov_i ((x + 1) - x7), ov_r 90]) (pc2 := 82) b_267_64_15 rfl rfl ?_
                refine ov_cV (as := [ov_i x, ov_i y, ov_i x7, ov_i s]) (st := [ov_i s, ov_i (y + x7), ov_i ((x + 1) - x7), ov_r 90]) (d2 := d - 1) d_267_82 lk_Mo_315 rfl (Nat.le_of_ble_eq_true rfl) (c := 1) (zb_90 I) (zs_90 I) ⟨by decide, rfl⟩ (by omega) (c_Mo_waitFor_90 (d - 1) (by omega) U I x y x7 s (by omega) (by omega) (by omega) (by omega) (by omega) (by omega) (by omega) (by show (((h 96 (10 + 4 * (6 * y + x))) = 1 ∨ (h 96 (10 + 4 * (6 * y + x))) = 2) → (x7 = 0 → 0 < (h 96 (10 + 4 * (6 * y + x) + 3))) ∧ (¬ x7 = 0 → (h 96 (10 + 4 * (6 * y + x) + 3)) < (h 96 (10 + 4 * (6 * y + x) + 1)))); omega) W) ?_
                rintro _ _ _ ⟨v22, rfl, rfl, rfl, f21⟩
                show ov_R u d ov_m267 85 [(0, ov_r 90), (1, ov_i x), (2, ov_i y), (3, ov_i s), (4, ov_i la), (5, ov_i of), (6, ov_i x6), (7, ov_i x7), (8, ov_i of)] [ov_i v22, ov_i s, ov_i (y + x7), ov_i ((x + 1) - x7), ov_r 90] z h (P_Mo_turnsFrom_90 F z h x y s la of)
                have f23 : 0 ≤ v22 ∧ v22 ≤ 59 ∧ v22 = ov_wm (h 96) (6 * y + x) x7 s := f21
                clear f21
                refine ov_blk (ls2 := [(0, ov_r 90), (1, ov_i x), (2, ov_i y), (3, ov_i s), (4, ov_i la), (5, ov_i of), (6, ov_i x6), (7, ov_i x7), (8, ov_i of)]) (st2 := [ov_r 90, ov_i (s + v22), ov_i (y + x7), ov_i ((x + 1) - x7), ov_r 90]) (pc2 := 87) b_267_85_2 rfl rfl ?_
                refine ov_getf (v := ov_r 96) d_267_87 fl_Mo_81 (zb_90 I) (zs_90 I) (congrArg ov_r (rg_90_10 I)) ?_
                refine ov_blk (ls2 := [(0, ov_r 90), (1, ov_i x), (2, ov_i y), (3, ov_i s), (4, ov_i la), (5, ov_i of), (6, ov_i x6), (7, ov_i x7), (8, ov_i of)]) (st2 := [ov_i 2, ov_r 96, ov_i (s + v22), ov_i (y + x7), ov_i ((x + 1) - x7), ov_r 90]) (pc2 := 91) b_267_90_1 rfl rfl ?_
                refine ov_iald d_267_91 (zb_96 I) (zs_96 I) (by omega) ?_
                have g24 := t96_2 I
                refine ov_blk (ls2 := [(0, ov_r 90), (1, ov_i x), (2, ov_i y), (3, ov_i s), (4, ov_i la), (5, ov_i of), (6, ov_i x6), (7, ov_i x7), (8, ov_i of)]) (st2 := [ov_i of, ov_i x7, ov_i ((s + v22) + (h 96 2)), ov_i (y + x7), ov_i ((x + 1) - x7), ov_r 90]) (pc2 := 97) b_267_92_3 rfl rfl ?_
                refine ov_cV (as := [ov_i ((x + 1) - x7), ov_i (y + x7), ov_i ((s + v22) + (h 96 2)), ov_i x7, ov_i of]) (st := []) (d2 := d - 1) d_267_97 lk_Mo_345 rfl (Nat.le_of_ble_eq_true rfl) (c := 1) (zb_90 I) (zs_90 I) ⟨by decide, rfl⟩ (by omega) (HV (Int.toNat (13 - (((x + 1) - x7)) - ((y + x7)))) (by omega) (d - 1) (by omega) U I ((x + 1) - x7) (y + x7) ((s + v22) + (h 96 2)) x7 of (by omega) (by omega) (by omega) (by omega) (by omega) (by omega) (by show ((x + 1) - x7) < (h 96 0) ∧ (y + x7) < (h 96 1); omega) (by omega) (by omega) (by omega) (by omega) W) ?_
                rintro _ _ _ ⟨v26, rfl, rfl, rfl, f25⟩
                show ov_R u d ov_m267 100 [(0, ov_r 90), (1, ov_i x), (2, ov_i y), (3, ov_i s), (4, ov_i la), (5, ov_i of), (6, ov_i x6), (7, ov_i x7), (8, ov_i of)] [ov_i v26] z h (P_Mo_turnsFrom_90 F z h x y s la of)
                have f27 : 0 ≤ v26 ∧ v26 ≤ 2000000000 := f25
                clear f25
                refine ov_blk (ls2 := [(0, ov_r 90), (1, ov_i x), (2, ov_i y), (3, ov_i s), (4, ov_i la), (5, ov_i of), (6, ov_i x6), (7, ov_i x7), (8, ov_i of), (9, ov_i v26)]) (st2 := [ov_i x6, ov_i v26]) (pc2 := 106) b_267_100_3 rfl rfl ?_
                refine ov_icge (tgt := 114) d_267_106 (by decide) (by omega) (by omega) (fun c28 => ?_) (fun c28 => ?_)
                · skip
                  refine ov_blk (ls2 := [(0, ov_r 90), (1, ov_i x), (2, ov_i y), (3, ov_i s), (4, ov_i la), (5, ov_i of), (6, ov_i x6), (7, ov_i (x7 + 1)), (8, ov_i of), (9, ov_i v26)]) (st2 := []) (pc2 := 121) b_267_114_3 rfl rfl ?_
                  refine ov_goto (tgt := 19) d_267_121 (by decide) ?_
                  refine ov_sub (ls2 := [(0, ov_r 90), (1, ov_i x), (2, ov_i y), (3, ov_i s), (4, ov_i la), (5, ov_i of), (6, ov_i x6), (7, ov_i (x7 + 1))]) (List.Sublist.subset (by repeat (first | exact List.Sublist.refl _ | apply List.Sublist.cons_cons | apply List.Sublist.cons))) ?_
                  exact ih7 x6 (x7 + 1) (by show 0 ≤ (x7 + 1) ∧ (x7 + 1) ≤ 2 ∧ 0 ≤ x6 ∧ x6 ≤ 2000000000; omega) (by omega)
                · skip
                  refine ov_blk (ls2 := [(0, ov_r 90), (1, ov_i x), (2, ov_i y), (3, ov_i s), (4, ov_i la), (5, ov_i of), (6, ov_i x6), (7, ov_i x7), (8, ov_i of), (9, ov_i v26)]) (st2 := [ov_i v26]) (pc2 := 111) b_267_109_1 rfl rfl ?_
                  refine ov_goto (tgt := 116) d_267_111 (by decide) ?_
                  refine ov_blk (ls2 := [(0, ov_r 90), (1, ov_i x), (2, ov_i y), (3, ov_i s), (4, ov_i la), (5, ov_i of), (6, ov_i v26), (7, ov_i (x7 + 1)), (8, ov_i of), (9, ov_i v26)]) (st2 := []) (pc2 := 121) b_267_116_2 rfl rfl ?_
                  refine ov_goto (tgt := 19) d_267_121 (by decide) ?_
                  refine ov_sub (ls2 := [(0, ov_r 90), (1, ov_i x), (2, ov_i y), (3, ov_i s), (4, ov_i la), (5, ov_i of), (6, ov_i v26), (7, ov_i (x7 + 1))]) (List.Sublist.subset (by repeat (first | exact List.Sublist.refl _ | apply List.Sublist.cons_cons | apply List.Sublist.cons))) ?_
                  exact ih7 v26 (x7 + 1) (by show 0 ≤ (x7 + 1) ∧ (x7 + 1) ≤ 2 ∧ 0 ≤ v26 ∧ v26 ≤ 2000000000; omega) (by omega)
          · skip
            refine ov_blk (ls2 := [(0, ov_r 90), (1, ov_i x), (2, ov_i y), (3, ov_i s), (4, ov_i la), (5, ov_i of), (6, ov_i x6), (7, ov_i x7)]) (st2 := [ov_i la, ov_i x7]) (pc2 := 34) b_267_30_2 rfl rfl ?_
            refine ov_iceq (tgt := 44) d_267_34 (by decide) (by omega) (by omega) (fun c29 => ?_) (fun c29 => ?_)
            · skip
              refine ov_blk (ls2 := [(0, ov_r 90), (1, ov_i x), (2, ov_i y), (3, ov_i s), (4, ov_i la), (5, ov_i of), (6, ov_i x6), (7, ov_i x7), (8, ov_i of)]) (st2 := [ov_i of]) (pc2 := 50) b_267_44_3 rfl rfl ?_
              refine ov_iflt (tgt := 118) d_267_50 (by decide) (by omega) (fun c30 => ?_) (fun c30 => ?_)
              · skip
                refine ov_blk (ls2 := [(0, ov_r 90), (1, ov_i x), (2, ov_i y), (3, ov_i s), (4, ov_i la), (5, ov_i of), (6, ov_i x6), (7, ov_i (x7 + 1)), (8, ov_i of)]) (st2 := []) (pc2 := 121) b_267_118_1 rfl rfl ?_
                refine ov_goto (tgt := 19) d_267_121 (by decide) ?_
                refine ov_sub (ls2 := [(0, ov_r 90), (1, ov_i x), (2, ov_i y), (3, ov_i s), (4, ov_i la), (5, ov_i of), (6, ov_i x6), (7, ov_i (x7 + 1))]) (List.Sublist.subset (by repeat (first | exact List.Sublist.refl _ | apply List.Sublist.cons_cons | apply List.Sublist.cons))) ?_
                exact ih7 x6 (x7 + 1) (by show 0 ≤ (x7 + 1) ∧ (x7 + 1) ≤ 2 ∧ 0 ≤ x6 ∧ x6 ≤ 2000000000; omega) (by omega)
              · skip
                refine ov_blk (ls2 := [(0, ov_r 90), (1, ov_i x), (2, ov_i y), (3, ov_i s), (4, ov_i la), (5, ov_i of), (6, ov_i x6), (7, ov_i x7), (8, ov_i of)]) (st2 := [ov_i x7, ov_i y, ov_i x, ov_r 90]) (pc2 := 58) b_267_53_4 rfl rfl ?_
                refine ov_cV (as := [ov_i x, ov_i y, ov_i x7]) (st := []) (d2 := d - 1) d_267_58 lk_Mo_309 rfl (Nat.le_of_ble_eq_true rfl) (c := 1) (zb_90 I) (zs_90 I) ⟨by decide, rfl⟩ (by omega) (c_Mo_canGo_90 (d - 1) (by omega) U I x y x7 (by omega) (by omega) (by omega) (by omega) (by omega)) ?_
                rintro _ _ _ ⟨v32, rfl, rfl, rfl, f31⟩
                show ov_R u d ov_m267 61 [(0, ov_r 90), (1, ov_i x), (2, ov_i y), (3, ov_i s), (4, ov_i la), (5, ov_i of), (6, ov_i x6), (7, ov_i x7), (8, ov_i of)] [ov_i v32] z h (P_Mo_turnsFrom_90 F z h x y s la of)
                have f33 : (v32 = 0 ∨ v32 = 1) ∧ v32 = ov_cgi (h 96) x y x7 ∧ (v32 = 1 → ((x7 = 0 → x < (h 96 0) - 1) ∧ (¬ x7 = 0 → y < (h 96 1) - 1)) ∧ (((h 96 (10 + 4 * (6 * y + x))) = 1 ∨ (h 96 (10 + 4 * (6 * y + x))) = 2) → (x7 = 0 → 0 < (h 96 (10 + 4 * (6 * y + x) + 3))) ∧ (¬ x7 = 0 → (h 96 (10 + 4 * (6 * y + x) + 3)) < (h 96 (10 + 4 * (6 * y + x) + 1))))) := f31
                clear f31
                refine ov_ifeq (tgt := 118) d_267_61 (by decide) (by omega) (fun c34 => ?_) (fun c34 => ?_)
                · skip
                  have f33_ : v32 = 0 := by omega
                  have f35 : v32 = ov_cgi (h 96) x y x7 := f33.2.1
                  clear f33
                  refine ov_blk (ls2 := [(0, ov_r 90), (1, ov_i x), (2, ov_i y), (3, ov_i s), (4, ov_i la), (5, ov_i of), (6, ov_i x6), (7, ov_i (x7 + 1)), (8, ov_i of)]) (st2 := []) (pc2 := 121) b_267_118_1 rfl rfl ?_
                  refine ov_goto (tgt := 19) d_267_121 (by decide) ?_
                  refine ov_sub (ls2 := [(0, ov_r 90), (1, ov_i x), (2, ov_i y), (3, ov_i s), (4, ov_i la), (5, ov_i of), (6, ov_i x6), (7, ov_i (x7 + 1))]) (List.Sublist.subset (by repeat (first | exact List.Sublist.refl _ | apply List.Sublist.cons_cons | apply List.Sublist.cons))) ?_
                  exact ih7 x6 (x7 + 1) (by show 0 ≤ (x7 + 1) ∧ (x7 + 1) ≤ 2 ∧ 0 ≤ x6 ∧ x6 ≤ 2000000000; omega) (by omega)
                · skip
                  have f33_ : v32 = 1 := by omega
                  have f36 : v32 = ov_cgi (h 96) x y x7 := f33.2.1
                  have f37 : ((x7 = 0 → x < (h 96 0) - 1) ∧ (¬ x7 = 0 → y < (h 96 1) - 1)) ∧ (((h 96 (10 + 4 * (6 * y + x))) = 1 ∨ (h 96 (10 + 4 * (6 * y + x))) = 2) → (x7 = 0 → 0 < (h 96 (10 + 4 * (6 * y + x) + 3))) ∧ (¬ x7 = 0 → (h 96 (10 + 4 * (6 * y + x) + 3)) < (h 96 (10 + 4 * (6 * y + x) + 1)))) := f33.2.2 (by omega)
                  clear f33
                  refine ov_blk (ls2 := [(0, ov_r 90), (1, ov_i x), (2, ov_i y), (3, ov_i s), (4, ov_i la), (5, ov_i of), (6, ov_i x6), (7, ov_i x7), (8, ov_i of)]) (st2 := [ov_i s, ov_i x7, ov_i y, ov_i x, ov_r 90, ov_i s, ov_i (y + x7), ov_i ((x + 1) - x7), ov_r 90]) (pc2 := 82) b_267_64_15 rfl rfl ?_
                  refine ov_cV (as := [ov_i x, ov_i y, ov_i x7, ov_i s]) (st := [ov_i s, ov_i (y + x7), ov_i ((x + 1) - x7), ov_r 90]) (d2 := d - 1) d_267_82 lk_Mo_315 rfl (Nat.le_of_ble_eq_true rfl) (c := 1) (zb_90 I) (zs_90 I) ⟨by decide, rfl⟩ (by omega) (c_Mo_waitFor_90 (d - 1) (by omega) U I x y x7 s (by omega) (by omega) (by omega) (by omega) (by omega) (by omega) (by omega) (by show (((h 96 (10 + 4 * (6 * y + x))) = 1 ∨ (h 96 (10 + 4 * (6 * y + x))) = 2) → (x7 = 0 → 0 < (h 96 (10 + 4 * (6 * y + x) + 3))) ∧ (¬ x7 = 0 → (h 96 (10 + 4 * (6 * y + x) + 3)) < (h 96 (10 + 4 * (6 * y + x) + 1)))); omega) W) ?_
                  rintro _ _ _ ⟨v39, rfl, rfl, rfl, f38⟩
                  show ov_R u d ov_m267 85 [(0, ov_r 90), (1, ov_i x), (2, ov_i y), (3, ov_i s), (4, ov_i la), (5, ov_i of), (6, ov_i x6), (7, ov_i x7), (8, ov_i of)] [ov_i v39, ov_i s, ov_i (y + x7), ov_i ((x + 1) - x7), ov_r 90] z h (P_Mo_turnsFrom_90 F z h x y s la of)
                  have f40 : 0 ≤ v39 ∧ v39 ≤ 59 ∧ v39 = ov_wm (h 96) (6 * y + x) x7 s := f38
                  clear f38
                  refine ov_blk (ls2 := [(0, ov_r 90), (1, ov_i x), (2, ov_i y), (3, ov_i s), (4, ov_i la), (5, ov_i of), (6, ov_i x6), (7, ov_i x7), (8, ov_i of)]) (st2 := [ov_r 90, ov_i (s + v39), ov_i (y + x7), ov_i ((x + 1) - x7), ov_r 90]) (pc2 := 87) b_267_85_2 rfl rfl ?_
                  refine ov_getf (v := ov_r 96) d_267_87 fl_Mo_81 (zb_90 I) (zs_90 I) (congrArg ov_r (rg_90_10 I)) ?_
                  refine ov_blk (ls2 := [(0, ov_r 90), (1, ov_i x), (2, ov_i y), (3, ov_i s), (4, ov_i la), (5, ov_i of), (6, ov_i x6), (7, ov_i x7), (8, ov_i of)]) (st2 := [ov_i 2, ov_r 96, ov_i (s + v39), ov_i (y + x7), ov_i ((x + 1) - x7), ov_r 90]) (pc2 := 91) b_267_90_1 rfl rfl ?_
                  refine ov_iald d_267_91 (zb_96 I) (zs_96 I) (by omega) ?_
                  have g41 := t96_2 I
                  refine ov_blk (ls2 := [(0, ov_r 90), (1, ov_i x), (2, ov_i y), (3, ov_i s), (4, ov_i la), (5, ov_i of), (6, ov_i x6), (7, ov_i x7), (8, ov_i of)]) (st2 := [ov_i of, ov_i x7, ov_i ((s + v39) + (h 96 2)), ov_i (y + x7), ov_i ((x + 1) - x7), ov_r 90]) (pc2 := 97) b_267_92_3 rfl rfl ?_
                  refine ov_cV (as := [ov_i ((x + 1) - x7), ov_i (y + x7), ov_i ((s + v39) + (h 96 2)), ov_i x7, ov_i of]) (st := []) (d2 := d - 1) d_267_97 lk_Mo_345 rfl (Nat.le_of_ble_eq_true rfl) (c := 1) (zb_90 I) (zs_90 I) ⟨by decide, rfl⟩ (by omega) (HV (Int.toNat (13 - (((x + 1) - x7)) - ((y + x7)))) (by omega) (d - 1) (by omega) U I ((x + 1) - x7) (y + x7) ((s + v39) + (h 96 2)) x7 of (by omega) (by omega) (by omega) (by omega) (by omega) (by omega) (by show ((x + 1) - x7) < (h 96 0) ∧ (y + x7) < (h 96 1); omega) (by omega) (by omega) (by omega) (by omega) W) ?_
                  rintro _ _ _ ⟨v43, rfl, rfl, rfl, f42⟩
                  show ov_R u d ov_m267 100 [(0, ov_r 90), (1, ov_i x), (2, ov_i y), (3, ov_i s), (4, ov_i la), (5, ov_i of), (6, ov_i x6), (7, ov_i x7), (8, ov_i of)] [ov_i v43] z h (P_Mo_turnsFrom_90 F z h x y s la of)
                  have f44 : 0 ≤ v43 ∧ v43 ≤ 2000000000 := f42
                  clear f42
                  refine ov_blk (ls2 := [(0, ov_r 90), (1, ov_i x), (2, ov_i y), (3, ov_i s), (4, ov_i la), (5, ov_i of), (6, ov_i x6), (7, ov_i x7), (8, ov_i of), (9, ov_i v43)]) (st2 := [ov_i x6, ov_i v43]) (pc2 := 106) b_267_100_3 rfl rfl ?_
                  refine ov_icge (tgt := 114) d_267_106 (by decide) (by omega) (by omega) (fun c45 => ?_) (fun c45 => ?_)
                  · skip
                    refine ov_blk (ls2 := [(0, ov_r 90), (1, ov_i x), (2, ov_i y), (3, ov_i s), (4, ov_i la), (5, ov_i of), (6, ov_i x6), (7, ov_i (x7 + 1)), (8, ov_i of), (9, ov_i v43)]) (st2 := []) (pc2 := 121) b_267_114_3 rfl rfl ?_
                    refine ov_goto (tgt := 19) d_267_121 (by decide) ?_
                    refine ov_sub (ls2 := [(0, ov_r 90), (1, ov_i x), (2, ov_i y), (3, ov_i s), (4, ov_i la), (5, ov_i of), (6, ov_i x6), (7, ov_i (x7 + 1))]) (List.Sublist.subset (by repeat (first | exact List.Sublist.refl _ | apply List.Sublist.cons_cons | apply List.Sublist.cons))) ?_
                    exact ih7 x6 (x7 + 1) (by show 0 ≤ (x7 + 1) ∧ (x7 + 1) ≤ 2 ∧ 0 ≤ x6 ∧ x6 ≤ 2000000000; omega) (by omega)
                  · skip
                    refine ov_blk (ls2 := [(0, ov_r 90), (1, ov_i x), (2, ov_i y), (3, ov_i s), (4, ov_i la), (5, ov_i of), (6, ov_i x6), (7, ov_i x7), (8, ov_i of), (9, ov_i v43)]) (st2 := [ov_i v43]) (pc2 := 111) b_267_109_1 rfl rfl ?_
                    refine ov_goto (tgt := 116) d_267_111 (by decide) ?_
                    refine ov_blk (ls2 := [(0, ov_r 90), (1, ov_i x), (2, ov_i y), (3, ov_i s), (4, ov_i la), (5, ov_i of), (6, ov_i v43), (7, ov_i (x7 + 1)), (8, ov_i of), (9, ov_i v43)]) (st2 := []) (pc2 := 121) b_267_116_2 rfl rfl ?_
                    refine ov_goto (tgt := 19) d_267_121 (by decide) ?_
                    refine ov_sub (ls2 := [(0, ov_r 90), (1, ov_i x), (2, ov_i y), (3, ov_i s), (4, ov_i la), (5, ov_i of), (6, ov_i v43), (7, ov_i (x7 + 1))]) (List.Sublist.subset (by repeat (first | exact List.Sublist.refl _ | apply List.Sublist.cons_cons | apply List.Sublist.cons))) ?_
                    exact ih7 v43 (x7 + 1) (by show 0 ≤ (x7 + 1) ∧ (x7 + 1) ≤ 2 ∧ 0 ≤ v43 ∧ v43 ≤ 2000000000; omega) (by omega)
            · skip
              refine ov_blk (ls2 := [(0, ov_r 90), (1, ov_i x), (2, ov_i y), (3, ov_i s), (4, ov_i la), (5, ov_i of), (6, ov_i x6), (7, ov_i x7)]) (st2 := [ov_i (of - 1)]) (pc2 := 41) b_267_37_3 rfl rfl ?_
              refine ov_goto (tgt := 46) d_267_41 (by decide) ?_
              refine ov_blk (ls2 := [(0, ov_r 90), (1, ov_i x), (2, ov_i y), (3, ov_i s), (4, ov_i la), (5, ov_i of), (6, ov_i x6), (7, ov_i x7), (8, ov_i (of - 1))]) (st2 := [ov_i (of - 1)]) (pc2 := 50) b_267_46_2 rfl rfl ?_
              refine ov_iflt (tgt := 118) d_267_50 (by decide) (by omega) (fun c46 => ?_) (fun c46 => ?_)
              · skip
                refine ov_blk (ls2 := [(0, ov_r 90), (1, ov_i x), (2, ov_i y), (3, ov_i s), (4, ov_i la), (5, ov_i of), (6, ov_i x6), (7, ov_i (x7 + 1)), (8, ov_i (of - 1))]) (st2 := []) (pc2 := 121) b_267_118_1 rfl rfl ?_
                refine ov_goto (tgt := 19) d_267_121 (by decide) ?_
                refine ov_sub (ls2 := [(0, ov_r 90), (1, ov_i x), (2, ov_i y), (3, ov_i s), (4, ov_i la), (5, ov_i of), (6, ov_i x6), (7, ov_i (x7 + 1))]) (List.Sublist.subset (by repeat (first | exact List.Sublist.refl _ | apply List.Sublist.cons_cons | apply List.Sublist.cons))) ?_
                exact ih7 x6 (x7 + 1) (by show 0 ≤ (x7 + 1) ∧ (x7 + 1) ≤ 2 ∧ 0 ≤ x6 ∧ x6 ≤ 2000000000; omega) (by omega)
              · skip
                refine ov_blk (ls2 := [(0, ov_r 90), (1, ov_i x), (2, ov_i y), (3, ov_i s), (4, ov_i la), (5, ov_i of), (6, ov_i x6), (7, ov_i x7), (8, ov_i (of - 1))]) (st2 := [ov_i x7, ov_i y, ov_i x, ov_r 90]) (pc2 := 58) b_267_53_4 rfl rfl ?_
                refine ov_cV (as := [ov_i x, ov_i y, ov_i x7]) (st := []) (d2 := d - 1) d_267_58 lk_Mo_309 rfl (Nat.le_of_ble_eq_true rfl) (c := 1) (zb_90 I) (zs_90 I) ⟨by decide, rfl⟩ (by omega) (c_Mo_canGo_90 (d - 1) (by omega) U I x y x7 (by omega) (by omega) (by omega) (by omega) (by omega)) ?_
                rintro _ _ _ ⟨v48, rfl, rfl, rfl, f47⟩
                show ov_R u d ov_m267 61 [(0, ov_r 90), (1, ov_i x), (2, ov_i y), (3, ov_i s), (4, ov_i la), (5, ov_i of), (6, ov_i x6), (7, ov_i x7), (8, ov_i (of - 1))] [ov_i v48] z h (P_Mo_turnsFrom_90 F z h x y s la of)
                have f49 : (v48 = 0 ∨ v48 = 1) ∧ v48 = ov_cgi (h 96) x y x7 ∧ (v48 = 1 → ((x7 = 0 → x < (h 96 0) - 1) ∧ (¬ x7 = 0 → y < (h 96 1) - 1)) ∧ (((h 96 (10 + 4 * (6 * y + x))) = 1 ∨ (h 96 (10 + 4 * (6 * y + x))) = 2) → (x7 = 0 → 0 < (h 96 (10 + 4 * (6 * y + x) + 3))) ∧ (¬ x7 = 0 → (h 96 (10 + 4 * (6 * y + x) + 3)) < (h 96 (10 + 4 * (6 * y + x) + 1))))) := f47
                clear f47
                refine ov_ifeq (tgt := 118) d_267_61 (by decide) (by omega) (fun c50 => ?_) (fun c50 => ?_)
                · skip
                  have f49_ : v48 = 0 := by omega
                  have f51 : v48 = ov_cgi (h 96) x y x7 := f49.2.1
                  clear f49
                  refine ov_blk (ls2 := [(0, ov_r 90), (1, ov_i x), (2, ov_i y), (3, ov_i s), (4, ov_i la), (5, ov_i of), (6, ov_i x6), (7, ov_i (x7 + 1)), (8, ov_i (of - 1))]) (st2 := []) (pc2 := 121) b_267_118_1 rfl rfl ?_
                  refine ov_goto (tgt := 19) d_267_121 (by decide) ?_
                  refine ov_sub (ls2 := [(0, ov_r 90), (1, ov_i x), (2, ov_i y), (3, ov_i s), (4, ov_i la), (5, ov_i of), (6, ov_i x6), (7, ov_i (x7 + 1))]) (List.Sublist.subset (by repeat (first | exact List.Sublist.refl _ | apply List.Sublist.cons_cons | apply List.Sublist.cons))) ?_
                  exact ih7 x6 (x7 + 1) (by show 0 ≤ (x7 + 1) ∧ (x7 + 1) ≤ 2 ∧ 0 ≤ x6 ∧ x6 ≤ 2000000000; omega) (by omega)
                · skip
                  have f49_ : v48 = 1 := by omega
                  have f52 : v48 = ov_cgi (h 96) x y x7 := f49.2.1
                  have f53 : ((x7 = 0 → x < (h 96 0) - 1) ∧ (¬ x7 = 0 → y < (h 96 1) - 1)) ∧ (((h 96 (10 + 4 * (6 * y + x))) = 1 ∨ (h 96 (10 + 4 * (6 * y + x))) = 2) → (x7 = 0 → 0 < (h 96 (10 + 4 * (6 * y + x) + 3))) ∧ (¬ x7 = 0 → (h 96 (10 + 4 * (6 * y + x) + 3)) < (h 96 (10 + 4 * (6 * y + x) + 1)))) := f49.2.2 (by omega)
                  clear f49
                  refine ov_blk (ls2 := [(0, ov_r 90), (1, ov_i x), (2, ov_i y), (3, ov_i s), (4, ov_i la), (5, ov_i of), (6, ov_i x6), (7, ov_i x7), (8, ov_i (of - 1))]) (st2 := [ov_i s, ov_i x7, ov_i y, ov_i x, ov_r 90, ov_i s, ov_i (y + x7), ov_i ((x + 1) - x7), ov_r 90]) (pc2 := 82) b_267_64_15 rfl rfl ?_
                  refine ov_cV (as := [ov_i x, ov_i y, ov_i x7, ov_i s]) (st := [ov_i s, ov_i (y + x7), ov_i ((x + 1) - x7), ov_r 90]) (d2 := d - 1) d_267_82 lk_Mo_315 rfl (Nat.le_of_ble_eq_true rfl) (c := 1) (zb_90 I) (zs_90 I) ⟨by decide, rfl⟩ (by omega) (c_Mo_waitFor_90 (d - 1) (by omega) U I x y x7 s (by omega) (by omega) (by omega) (by omega) (by omega) (by omega) (by omega) (by show (((h 96 (10 + 4 * (6 * y + x))) = 1 ∨ (h 96 (10 + 4 * (6 * y + x))) = 2) → (x7 = 0 → 0 < (h 96 (10 + 4 * (6 * y + x) + 3))) ∧ (¬ x7 = 0 → (h 96 (10 + 4 * (6 * y + x) + 3)) < (h 96 (10 + 4 * (6 * y + x) + 1)))); omega) W) ?_
                  rintro _ _ _ ⟨v55, rfl, rfl, rfl, f54⟩
                  show ov_R u d ov_m267 85 [(0, ov_r 90), (1, ov_i x), (2, ov_i y), (3, ov_i s), (4, ov_i la), (5, ov_i of), (6, ov_i x6), (7, ov_i x7), (8, ov_i (of - 1))] [ov_i v55, ov_i s, ov_i (y + x7), ov_i ((x + 1) - x7), ov_r 90] z h (P_Mo_turnsFrom_90 F z h x y s la of)
                  have f56 : 0 ≤ v55 ∧ v55 ≤ 59 ∧ v55 = ov_wm (h 96) (6 * y + x) x7 s := f54
                  clear f54
                  refine ov_blk (ls2 := [(0, ov_r 90), (1, ov_i x), (2, ov_i y), (3, ov_i s), (4, ov_i la), (5, ov_i of), (6, ov_i x6), (7, ov_i x7), (8, ov_i (of - 1))]) (st2 := [ov_r 90, ov_i (s + v55), ov_i (y + x7), ov_i ((x + 1) - x7), ov_r 90]) (pc2 := 87) b_267_85_2 rfl rfl ?_
                  refine ov_getf (v := ov_r 96) d_267_87 fl_Mo_81 (zb_90 I) (zs_90 I) (congrArg ov_r (rg_90_10 I)) ?_
                  refine ov_blk (ls2 := [(0, ov_r 90), (1, ov_i x), (2, ov_i y), (3, ov_i s), (4, ov_i la), (5, ov_i of), (6, ov_i x6), (7, ov_i x7), (8, ov_i (of - 1))]) (st2 := [ov_i 2, ov_r 96, ov_i (s + v55), ov_i (y + x7), ov_i ((x + 1) - x7), ov_r 90]) (pc2 := 91) b_267_90_1 rfl rfl ?_
                  refine ov_iald d_267_91 (zb_96 I) (zs_96 I) (by omega) ?_
                  have g57 := t96_2 I
                  refine ov_blk (ls2 := [(0, ov_r 90), (1, ov_i x), (2, ov_i y), (3, ov_i s), (4, ov_i la), (5, ov_i of), (6, ov_i x6), (7, ov_i x7), (8, ov_i (of - 1))]) (st2 := [ov_i (of - 1), ov_i x7, ov_i ((s + v55) + (h 96 2)), ov_i (y + x7), ov_i ((x + 1) - x7), ov_r 90]) (pc2 := 97) b_267_92_3 rfl rfl ?_
                  refine ov_cV (as := [ov_i ((x + 1) - x7), ov_i (y + x7), ov_i ((s + v55) + (h 96 2)), ov_i x7, ov_i (of - 1)]) (st := []) (d2 := d - 1) d_267_97 lk_Mo_345 rfl (Nat.le_of_ble_eq_true rfl) (c := 1) (zb_90 I) (zs_90 I) ⟨by decide, rfl⟩ (by omega) (HV (Int.toNat (13 - (((x + 1) - x7)) - ((y + x7)))) (by omega) (d - 1) (by omega) U I ((x + 1) - x7) (y + x7) ((s + v55) + (h 96 2)) x7 (of - 1) (by omega) (by omega) (by omega) (by omega) (by omega) (by omega) (by show ((x + 1) - x7) < (h 96 0) ∧ (y + x7) < (h 96 1); omega) (by omega) (by omega) (by omega) (by omega) W) ?_
                  rintro _ _ _ ⟨v59, rfl, rfl, rfl, f58⟩
                  show ov_R u d ov_m267 100 [(0, ov_r 90), (1, ov_i x), (2, ov_i y), (3, ov_i s), (4, ov_i la), (5, ov_i of), (6, ov_i x6), (7, ov_i x7), (8, ov_i (of - 1))] [ov_i v59] z h (P_Mo_turnsFrom_90 F z h x y s la of)
                  have f60 : 0 ≤ v59 ∧ v59 ≤ 2000000000 := f58
                  clear f58
                  refine ov_blk (ls2 := [(0, ov_r 90), (1, ov_i x), (2, ov_i y), (3, ov_i s), (4, ov_i la), (5, ov_i of), (6, ov_i x6), (7, ov_i x7), (8, ov_i (of - 1)), (9, ov_i v59)]) (st2 := [ov_i x6, ov_i v59]) (pc2 := 106) b_267_100_3 rfl rfl ?_
                  refine ov_icge (tgt := 114) d_267_106 (by decide) (by omega) (by omega) (fun c61 => ?_) (fun c61 => ?_)
                  · skip
                    refine ov_blk (ls2 := [(0, ov_r 90), (1, ov_i x), (2, ov_i y), (3, ov_i s), (4, ov_i la), (5, ov_i of), (6, ov_i x6), (7, ov_i (x7 + 1)), (8, ov_i (of - 1)), (9, ov_i v59)]) (st2 := []) (pc2 := 121) b_267_114_3 rfl rfl ?_
                    refine ov_goto (tgt := 19) d_267_121 (by decide) ?_
                    refine ov_sub (ls2 := [(0, ov_r 90), (1, ov_i x), (2, ov_i y), (3, ov_i s), (4, ov_i la), (5, ov_i of), (6, ov_i x6), (7, ov_i (x7 + 1))]) (List.Sublist.subset (by repeat (first | exact List.Sublist.refl _ | apply List.Sublist.cons_cons | apply List.Sublist.cons))) ?_
                    exact ih7 x6 (x7 + 1) (by show 0 ≤ (x7 + 1) ∧ (x7 + 1) ≤ 2 ∧ 0 ≤ x6 ∧ x6 ≤ 2000000000; omega) (by omega)
                  · skip
                    refine ov_blk (ls2 := [(0, ov_r 90), (1, ov_i x), (2, ov_i y), (3, ov_i s), (4, ov_i la), (5, ov_i of), (6, ov_i x6), (7, ov_i x7), (8, ov_i (of - 1)), (9, ov_i v59)]) (st2 := [ov_i v59]) (pc2 := 111) b_267_109_1 rfl rfl ?_
                    refine ov_goto (tgt := 116) d_267_111 (by decide) ?_
                    refine ov_blk (ls2 := [(0, ov_r 90), (1, ov_i x), (2, ov_i y), (3, ov_i s), (4, ov_i la), (5, ov_i of), (6, ov_i v59), (7, ov_i (x7 + 1)), (8, ov_i (of - 1)), (9, ov_i v59)]) (st2 := []) (pc2 := 121) b_267_116_2 rfl rfl ?_
                    refine ov_goto (tgt := 19) d_267_121 (by decide) ?_
                    refine ov_sub (ls2 := [(0, ov_r 90), (1, ov_i x), (2, ov_i y), (3, ov_i s), (4, ov_i la), (5, ov_i of), (6, ov_i v59), (7, ov_i (x7 + 1))]) (List.Sublist.subset (by repeat (first | exact List.Sublist.refl _ | apply List.Sublist.cons_cons | apply List.Sublist.cons))) ?_
                    exact ih7 v59 (x7 + 1) (by show 0 ≤ (x7 + 1) ∧ (x7 + 1) ≤ 2 ∧ 0 ≤ v59 ∧ v59 ≤ 2000000000; omega) (by omega)
    exact L9 3 2000000000 0 (by show 0 ≤ 0 ∧ 0 ≤ 2 ∧ 0 ≤ 2000000000 ∧ 2000000000 ≤ 2000000000; omega) (by omega)
  · skip
    have f3_ : v2 = 1 := by omega
    have f62 : x = (h 96 0) - 1 ∧ y = (h 96 1) - 1 := f3.2.1 (by omega)
    clear f3
    refine ov_blk (ls2 := [(0, ov_r 90), (1, ov_i x), (2, ov_i y), (3, ov_i s), (4, ov_i la), (5, ov_i of)]) (st2 := [ov_i s]) (pc2 := 10) b_267_9_1 rfl rfl ?_
    exact ov_reti (st := []) d_267_10 rfl ⟨_, rfl, rfl, rfl, (by show 0 ≤ s ∧ s ≤ 2000000000; omega)⟩
theorem c_Mo_turnsFrom_90_all {u : ov_U} {F : ov_H × ov_Z} (k : Nat) : ∀ {z : ov_Z} {h : ov_H} (d : Nat) (hd : (10 + 2 * k + 1) ≤ d) (U : ov_cap u) (I : ov_N F z h) (x : Int) (y : Int) (s : Int) (la : Int) (of : Int) (g_x : ov_g x) (g_y : ov_g y) (g_s : ov_g s) (g_la : ov_g la) (g_of : ov_g of) (p0 : 0 ≤ x ∧ x ≤ 5 ∧ 0 ≤ y ∧ y ≤ 8) (p1 : x < (h 96 0) ∧ y < (h 96 1)) (p2 : x + y + (k : Int) = 13) (p3 : 0 ≤ s ∧ s + 89 * (k : Int) ≤ 3000000) (p4 : -1 ≤ la ∧ la ≤ 1) (p5 : 0 ≤ of ∧ of ≤ 12) (W : ov_WT (h 96)), ov_T u d ov_m267 [ov_r 90, ov_i x, ov_i y, ov_i s, ov_i la, ov_i of] z h (P_Mo_turnsFrom_90 F z h x y s la of) := by
  induction k using Nat.strongRecOn with
  | ind k ih => exact fun {z} {h} => @c_Mo_turnsFrom_90 u F k (fun k' hk => @ih k' hk) z h
abbrev P_Mo_turning_90 (F : ov_H × ov_Z) (z : ov_Z) (h : ov_H) (s : Int) (of : Int) : Option ov_V → ov_Z → ov_H → Prop := fun r0 z' h' => ∃ r : Int, r0 = some (ov_i r) ∧ ov_N F z' h' ∧ ((h' 90 2) = (h 90 2) ∧ (h' 90 7) = (h 90 7) ∧ (h' 90 8) = (h 90 8) ∧ (h' 90 13) = (h 90 13) ∧ (h' 90 20) = (h 90 20) ∧ (h' 90 22) = (h 90 22) ∧ (h' 90 25) = (h 90 25) ∧ (h' 90 26) = (h 90 26) ∧ (h' 90 28) = (h 90 28) ∧ (h' 90 29) = (h 90 29) ∧ (h' 90 30) = (h 90 30) ∧ (h' 90 34) = (h 90 34) ∧ -2147483648 ≤ r ∧ r ≤ 2147483647) ∧ h' 91 = h 91 ∧ h' 92 = h 92 ∧ h' 93 = h 93 ∧ h' 94 = h 94 ∧ h' 95 = h 95 ∧ h' 96 = h 96 ∧ h' 97 = h 97 ∧ h' 98 = h 98 ∧ h' 99 = h 99 ∧ h' 100 = h 100 ∧ h' 103 = h 103 ∧ h' 104 = h 104 ∧ h' 105 = h 105 ∧ h' 106 = h 106 ∧ h' 109 = h 109 ∧ h' 114 = h 114
set_option maxHeartbeats 4000000 in
theorem c_Mo_turning_90 {u : ov_U} {F : ov_H × ov_Z} {z : ov_Z} {h : ov_H} (d : Nat) (hd : 60 ≤ d) (U : ov_cap u) (I : ov_N F z h) (s : Int) (of : Int) (g_s : ov_g s) (g_of : ov_g of) (W : ov_WT (h 96)) : ov_T u d ov_m266 [ov_r 90, ov_i s, ov_i of] z h (P_Mo_turning_90 F z h s of) := by
  refine ov_en rfl (Nat.le_of_ble_eq_true rfl) ?_
  show ov_R u d ov_m266 0 [(0, ov_r 90), (1, ov_i s), (2, ov_i of)] [] z h (P_Mo_turning_90 F z h s of)
  have t0 := t96_0 I
  have t1 := t96_1 I
  refine ov_blk (ls2 := [(0, ov_r 90), (1, ov_i s), (2, ov_i of)]) (st2 := [ov_i 0, ov_r 90]) (pc2 := 2) b_266_0_2 rfl rfl ?_
  refine ov_putf (x := 0) d_266_2 fl_Mo_1 (zb_90 I) (zs_90 I) rfl nk_0 rfl ?_
  have I1 := up_90_0 (x := 0) I (by omega)
  refine ov_blk (ls2 := [(0, ov_r 90), (1, ov_i s), (2, ov_i of)]) (st2 := [ov_i s, ov_r 90]) (pc2 := 7) b_266_5_2 rfl rfl ?_
  refine ov_cV (as := [ov_i s]) (st := []) (d2 := d - 1) d_266_7 lk_Mo_306 rfl (Nat.le_of_ble_eq_true rfl) (c := 1) (zb_90 I1) (zs_90 I1) ⟨by decide, rfl⟩ (by omega) (c_Mo_isSecond_90 (d - 1) (by omega) U I1 s (by omega)) ?_
  rintro _ _ _ ⟨v3, rfl, rfl, rfl, f2⟩
  show ov_R u d ov_m266 10 [(0, ov_r 90), (1, ov_i s), (2, ov_i of)] [ov_i v3] z (ov_up h 90 0 0) (P_Mo_turning_90 F z h s of)
  have f4 : (v3 = 0 ∨ v3 = 1) ∧ (v3 = 1 → 0 ≤ s ∧ s ≤ 1000000) := f2
  clear f2
  refine ov_ifeq (tgt := 35) d_266_10 (by decide) (by omega) (fun c5 => ?_) (fun c5 => ?_)
  · skip
    have f4_ : v3 = 0 := by omega
    clear f4
    refine ov_ldcw (n := 2000000000) d_266_35 kc_Mo_338 ?_
    refine ov_blk (ls2 := [(0, ov_r 90), (1, ov_i s), (2, ov_i of), (3, ov_i 2000000000)]) (st2 := [ov_i 2000000000]) (pc2 := 40) b_266_38_2 rfl rfl ?_
    refine ov_ldcw (n := 2000000000) d_266_40 kc_Mo_338 ?_
    refine ov_icne (tgt := 50) d_266_43 (by decide) (by omega) (by omega) (fun c6 => ?_) (fun c6 => ?_)
    · omega
    · skip
      refine ov_blk (ls2 := [(0, ov_r 90), (1, ov_i s), (2, ov_i of), (3, ov_i 2000000000)]) (st2 := [ov_i (-1)]) (pc2 := 47) b_266_46_1 rfl rfl ?_
      refine ov_goto (tgt := 51) d_266_47 (by decide) ?_
      exact ov_reti (st := []) d_266_51 rfl ⟨_, rfl, I1, ⟨rfl, rfl, rfl, rfl, rfl, rfl, rfl, rfl, rfl, rfl, rfl, rfl, (by show -2147483648 ≤ (-1) ∧ (-1) ≤ 2147483647; omega)⟩, rfl, rfl, rfl, rfl, rfl, rfl, rfl, rfl, rfl, rfl, rfl, rfl, rfl, rfl, rfl, rfl⟩
  · skip
    have f4_ : v3 = 1 := by omega
    have f7 : 0 ≤ s ∧ s ≤ 1000000 := f4.2 (by omega)
    clear f4
    refine ov_blk (ls2 := [(0, ov_r 90), (1, ov_i s), (2, ov_i of)]) (st2 := [ov_i 12, ov_i 0, ov_i of]) (pc2 := 17) b_266_13_3 rfl rfl ?_
    refine ov_cS (as := [ov_i of, ov_i 0, ov_i 12]) (st := []) (d2 := d - 1) d_266_17 lk_Mo_299 rfl (Nat.le_of_ble_eq_true rfl) (by omega) (c_Mo_within (d - 1) (by omega) U I1 of 0 12 (by omega) (by omega) (by omega)) ?_
    rintro _ _ _ ⟨v9, rfl, rfl, rfl, f8⟩
    show ov_R u d ov_m266 20 [(0, ov_r 90), (1, ov_i s), (2, ov_i of)] [ov_i v9] z (ov_up h 90 0 0) (P_Mo_turning_90 F z h s of)
    have f10 : (v9 = 0 ∨ v9 = 1) ∧ (v9 = 1 → (0 : Int) ≤ of ∧ of ≤ (12 : Int)) ∧ (v9 = 0 → of < (0 : Int) ∨ (12 : Int) < of) := f8
    clear f8
    refine ov_ifeq (tgt := 35) d_266_20 (by decide) (by omega) (fun c11 => ?_) (fun c11 => ?_)
    · skip
      have f10_ : v9 = 0 := by omega
      have f12 : of < (0 : Int) ∨ (12 : Int) < of := f10.2.2 (by omega)
      clear f10
      refine ov_ldcw (n := 2000000000) d_266_35 kc_Mo_338 ?_
      refine ov_blk (ls2 := [(0, ov_r 90), (1, ov_i s), (2, ov_i of), (3, ov_i 2000000000)]) (st2 := [ov_i 2000000000]) (pc2 := 40) b_266_38_2 rfl rfl ?_
      refine ov_ldcw (n := 2000000000) d_266_40 kc_Mo_338 ?_
      refine ov_icne (tgt := 50) d_266_43 (by decide) (by omega) (by omega) (fun c13 => ?_) (fun c13 => ?_)
      · omega
      · skip
        refine ov_blk (ls2 := [(0, ov_r 90), (1, ov_i s), (2, ov_i of), (3, ov_i 2000000000)]) (st2 := [ov_i (-1)]) (pc2 := 47) b_266_46_1 rfl rfl ?_
        refine ov_goto (tgt := 51) d_266_47 (by decide) ?_
        exact ov_reti (st := []) d_266_51 rfl ⟨_, rfl, I1, ⟨rfl, rfl, rfl, rfl, rfl, rfl, rfl, rfl, rfl, rfl, rfl, rfl, (by show -2147483648 ≤ (-1) ∧ (-1) ≤ 2147483647; omega)⟩, rfl, rfl, rfl, rfl, rfl, rfl, rfl, rfl, rfl, rfl, rfl, rfl, rfl, rfl, rfl, rfl⟩
    · skip
      have f10_ : v9 = 1 := by omega
      have f14 : (0 : Int) ≤ of ∧ of ≤ (12 : Int) := f10.2.1 (by omega)
      clear f10
      refine ov_blk (ls2 := [(0, ov_r 90), (1, ov_i s), (2, ov_i of)]) (st2 := [ov_i of, ov_i (-1), ov_i s, ov_i 0, ov_i 0, ov_r 90]) (pc2 := 29) b_266_23_6 rfl rfl ?_
      refine ov_cV (as := [ov_i 0, ov_i 0, ov_i s, ov_i (-1), ov_i of]) (st := []) (d2 := d - 1) d_266_29 lk_Mo_345 rfl (Nat.le_of_ble_eq_true rfl) (c := 1) (zb_90 I1) (zs_90 I1) ⟨by decide, rfl⟩ (by omega) (c_Mo_turnsFrom_90_all (Int.toNat (13 - (0) - (0))) (d - 1) (by omega) U I1 0 0 s (-1) of (by omega) (by omega) (by omega) (by omega) (by omega) (by omega) (by show (0 : Int) < (h 96 0) ∧ (0 : Int) < (h 96 1); omega) (by omega) (by omega) (by omega) (by omega) W) ?_
      rintro _ _ _ ⟨v16, rfl, rfl, rfl, f15⟩
      show ov_R u d ov_m266 32 [(0, ov_r 90), (1, ov_i s), (2, ov_i of)] [ov_i v16] z (ov_up h 90 0 0) (P_Mo_turning_90 F z h s of)
      have f17 : 0 ≤ v16 ∧ v16 ≤ 2000000000 := f15
      clear f15
      refine ov_goto (tgt := 38) d_266_32 (by decide) ?_
      refine ov_blk (ls2 := [(0, ov_r 90), (1, ov_i s), (2, ov_i of), (3, ov_i v16)]) (st2 := [ov_i v16]) (pc2 := 40) b_266_38_2 rfl rfl ?_
      refine ov_ldcw (n := 2000000000) d_266_40 kc_Mo_338 ?_
      refine ov_icne (tgt := 50) d_266_43 (by decide) (by omega) (by omega) (fun c18 => ?_) (fun c18 => ?_)
      · skip
        refine ov_blk (ls2 := [(0, ov_r 90), (1, ov_i s), (2, ov_i of), (3, ov_i v16)]) (st2 := [ov_i v16]) (pc2 := 51) b_266_50_1 rfl rfl ?_
        exact ov_reti (st := []) d_266_51 rfl ⟨_, rfl, I1, ⟨rfl, rfl, rfl, rfl, rfl, rfl, rfl, rfl, rfl, rfl, rfl, rfl, (by show -2147483648 ≤ v16 ∧ v16 ≤ 2147483647; omega)⟩, rfl, rfl, rfl, rfl, rfl, rfl, rfl, rfl, rfl, rfl, rfl, rfl, rfl, rfl, rfl, rfl⟩
      · skip
        refine ov_blk (ls2 := [(0, ov_r 90), (1, ov_i s), (2, ov_i of), (3, ov_i v16)]) (st2 := [ov_i (-1)]) (pc2 := 47) b_266_46_1 rfl rfl ?_
        refine ov_goto (tgt := 51) d_266_47 (by decide) ?_
        exact ov_reti (st := []) d_266_51 rfl ⟨_, rfl, I1, ⟨rfl, rfl, rfl, rfl, rfl, rfl, rfl, rfl, rfl, rfl, rfl, rfl, (by show -2147483648 ≤ (-1) ∧ (-1) ≤ 2147483647; omega)⟩, rfl, rfl, rfl, rfl, rfl, rfl, rfl, rfl, rfl, rfl, rfl, rfl, rfl, rfl, rfl, rfl⟩
abbrev P_Mo_wasBetween_90 (F : ov_H × ov_Z) (z : ov_Z) (h : ov_H) (x : Int) (y : Int) (a : Int) (b : Int) : Option ov_V → ov_Z → ov_H → Prop := fun r0 z' h' => ∃ r : Int, r0 = some (ov_i r) ∧ z = z' ∧ h = h' ∧ (-2147483648 ≤ r ∧ r ≤ 2147483647)
set_option maxHeartbeats 4000000 in
theorem c_Mo_wasBetween_90 {u : ov_U} {F : ov_H × ov_Z} {z : ov_Z} {h : ov_H} (d : Nat) (hd : 1 ≤ d) (U : ov_cap u) (I : ov_N F z h) (x : Int) (y : Int) (a : Int) (b : Int) (g_x : ov_g x) (g_y : ov_g y) (g_a : ov_g a) (g_b : ov_g b) : ov_T u d ov_m305 [ov_r 90, ov_i x, ov_i y, ov_i a, ov_i b] z h (P_Mo_wasBetween_90 F z h x y a b) := by
  refine ov_en rfl (Nat.le_of_ble_eq_true rfl) ?_
  show ov_R u d ov_m305 0 [(0, ov_r 90), (1, ov_i x), (2, ov_i y), (3, ov_i a), (4, ov_i b)] [] z h (P_Mo_wasBetween_90 F z h x y a b)
  have t0 := t96_0 I
  have t1 := t96_1 I
  refine ov_blk (ls2 := [(0, ov_r 90), (1, ov_i x), (2, ov_i y), (3, ov_i a), (4, ov_i b), (5, ov_i 0), (6, ov_i 0)]) (st2 := []) (pc2 := 6) b_305_0_4 rfl rfl ?_
  have L4 : ∀ (n1 : Nat) (x5 : Int) (x6 : Int) (q3 : ov_g x5 ∧ 0 ≤ x6 ∧ x6 ≤ 8), 8 - x6 < (n1 : Int) → ov_R u d ov_m305 6 [(0, ov_r 90), (1, ov_i x), (2, ov_i y), (3, ov_i a), (4, ov_i b), (5, ov_i x5), (6, ov_i x6)] [] z h (P_Mo_wasBetween_90 F z h x y a b) := by
    intro n1
    induction n1 with
    | zero =>
      intro x5 x6 q3 hn5
      exact absurd hn5 (by omega)
    | succ n1 ih2 =>
      intro x5 x6 q3 hn5
      refine ov_blk (ls2 := [(0, ov_r 90), (1, ov_i x), (2, ov_i y), (3, ov_i a), (4, ov_i b), (5, ov_i x5), (6, ov_i x6)]) (st2 := [ov_r 90, ov_i x6]) (pc2 := 9) b_305_6_2 rfl rfl ?_
      refine ov_getf (v := ov_r 103) d_305_9 fl_Mo_102 (zb_90 I) (zs_90 I) (congrArg ov_r (rg_90_19 I)) ?_
      refine ov_blk (ls2 := [(0, ov_r 90), (1, ov_i x), (2, ov_i y), (3, ov_i a), (4, ov_i b), (5, ov_i x5), (6, ov_i x6)]) (st2 := [ov_i 59, ov_r 103, ov_i x6]) (pc2 := 14) b_305_12_1 rfl rfl ?_
      refine ov_iald d_305_14 (zb_103 I) (zs_103 I) (by omega) ?_
      have g6 := s103_59 I
      refine ov_icge (tgt := 88) d_305_15 (by decide) (by omega) (by omega) (fun c7 => ?_) (fun c7 => ?_)
      · skip
        refine ov_blk (ls2 := [(0, ov_r 90), (1, ov_i x), (2, ov_i y), (3, ov_i a), (4, ov_i b), (5, ov_i x5), (6, ov_i x6)]) (st2 := [ov_i x5]) (pc2 := 90) b_305_88_1 rfl rfl ?_
        exact ov_reti (st := []) d_305_90 rfl ⟨_, rfl, rfl, rfl, (by show -2147483648 ≤ x5 ∧ x5 ≤ 2147483647; omega)⟩
      · skip
        refine ov_blk (ls2 := [(0, ov_r 90), (1, ov_i x), (2, ov_i y), (3, ov_i a), (4, ov_i b), (5, ov_i x5), (6, ov_i x6), (7, ov_i (92 + (3 * x6)))]) (st2 := [ov_r 90, ov_i x5]) (pc2 := 30) b_305_18_8 rfl rfl ?_
        refine ov_getf (v := ov_r 103) d_305_30 fl_Mo_102 (zb_90 I) (zs_90 I) (congrArg ov_r (rg_90_19 I)) ?_
        refine ov_blk (ls2 := [(0, ov_r 90), (1, ov_i x), (2, ov_i y), (3, ov_i a), (4, ov_i b), (5, ov_i x5), (6, ov_i x6), (7, ov_i (92 + (3 * x6)))]) (st2 := [ov_i (92 + (3 * x6)), ov_r 103, ov_i x5]) (pc2 := 35) b_305_33_1 rfl rfl ?_
        refine ov_iald d_305_35 (zb_103 I) (zs_103 I) (by omega) ?_
        have g8 := g103 I (92 + (3 * x6))
        refine ov_blk (ls2 := [(0, ov_r 90), (1, ov_i x), (2, ov_i y), (3, ov_i a), (4, ov_i b), (5, ov_i x5), (6, ov_i x6), (7, ov_i (92 + (3 * x6)))]) (st2 := [ov_i x, ov_i (h 103 (92 + (3 * x6))), ov_i x5]) (pc2 := 37) b_305_36_1 rfl rfl ?_
        refine ov_icne (tgt := 78) d_305_37 (by decide) (by omega) (by omega) (fun c9 => ?_) (fun c9 => ?_)
        · skip
          refine ov_blk (ls2 := [(0, ov_r 90), (1, ov_i x), (2, ov_i y), (3, ov_i a), (4, ov_i b), (5, ov_i (ov_or x5 0)), (6, ov_i (x6 + 1)), (7, ov_i (92 + (3 * x6)))]) (st2 := []) (pc2 := 85) b_305_78_4 rfl rfl ?_
          have g10 := ov_org x5 0
          refine ov_goto (tgt := 6) d_305_85 (by decide) ?_
          refine ov_sub (ls2 := [(0, ov_r 90), (1, ov_i x), (2, ov_i y), (3, ov_i a), (4, ov_i b), (5, ov_i (ov_or x5 0)), (6, ov_i (x6 + 1))]) (List.Sublist.subset (by repeat (first | exact List.Sublist.refl _ | apply List.Sublist.cons_cons | apply List.Sublist.cons))) ?_
          exact ih2 (ov_or x5 0) (x6 + 1) (by show ov_g (ov_or x5 0) ∧ 0 ≤ (x6 + 1) ∧ (x6 + 1) ≤ 8; omega) (by omega)
        · skip
          refine ov_blk (ls2 := [(0, ov_r 90), (1, ov_i x), (2, ov_i y), (3, ov_i a), (4, ov_i b), (5, ov_i x5), (6, ov_i x6), (7, ov_i (92 + (3 * x6)))]) (st2 := [ov_r 90, ov_i x5]) (pc2 := 41) b_305_40_1 rfl rfl ?_
          refine ov_getf (v := ov_r 103) d_305_41 fl_Mo_102 (zb_90 I) (zs_90 I) (congrArg ov_r (rg_90_19 I)) ?_
          refine ov_blk (ls2 := [(0, ov_r 90), (1, ov_i x), (2, ov_i y), (3, ov_i a), (4, ov_i b), (5, ov_i x5), (6, ov_i x6), (7, ov_i (92 + (3 * x6)))]) (st2 := [ov_i ((92 + (3 * x6)) + 1), ov_r 103, ov_i x5]) (pc2 := 48) b_305_44_3 rfl rfl ?_
          refine ov_iald d_305_48 (zb_103 I) (zs_103 I) (by omega) ?_
          have g11 := g103 I ((92 + (3 * x6)) + 1)
          refine ov_blk (ls2 := [(0, ov_r 90), (1, ov_i x), (2, ov_i y), (3, ov_i a), (4, ov_i b), (5, ov_i x5), (6, ov_i x6), (7, ov_i (92 + (3 * x6)))]) (st2 := [ov_i y, ov_i (h 103 ((92 + (3 * x6)) + 1)), ov_i x5]) (pc2 := 50) b_305_49_1 rfl rfl ?_
          refine ov_icne (tgt := 78) d_305_50 (by decide) (by omega) (by omega) (fun c12 => ?_) (fun c12 => ?_)
          · skip
            refine ov_blk (ls2 := [(0, ov_r 90), (1, ov_i x), (2, ov_i y), (3, ov_i a), (4, ov_i b), (5, ov_i (ov_or x5 0)), (6, ov_i (x6 + 1)), (7, ov_i (92 + (3 * x6)))]) (st2 := []) (pc2 := 85) b_305_78_4 rfl rfl ?_
            have g13 := ov_org x5 0
            refine ov_goto (tgt := 6) d_305_85 (by decide) ?_
            refine ov_sub (ls2 := [(0, ov_r 90), (1, ov_i x), (2, ov_i y), (3, ov_i a), (4, ov_i b), (5, ov_i (ov_or x5 0)), (6, ov_i (x6 + 1))]) (List.Sublist.subset (by repeat (first | exact List.Sublist.refl _ | apply List.Sublist.cons_cons | apply List.Sublist.cons))) ?_
            exact ih2 (ov_or x5 0) (x6 + 1) (by show ov_g (ov_or x5 0) ∧ 0 ≤ (x6 + 1) ∧ (x6 + 1) ≤ 8; omega) (by omega)
          · skip
            refine ov_blk (ls2 := [(0, ov_r 90), (1, ov_i x), (2, ov_i y), (3, ov_i a), (4, ov_i b), (5, ov_i x5), (6, ov_i x6), (7, ov_i (92 + (3 * x6)))]) (st2 := [ov_r 90, ov_i x5]) (pc2 := 54) b_305_53_1 rfl rfl ?_
            refine ov_getf (v := ov_r 103) d_305_54 fl_Mo_102 (zb_90 I) (zs_90 I) (congrArg ov_r (rg_90_19 I)) ?_
            refine ov_blk (ls2 := [(0, ov_r 90), (1, ov_i x), (2, ov_i y), (3, ov_i a), (4, ov_i b), (5, ov_i x5), (6, ov_i x6), (7, ov_i (92 + (3 * x6)))]) (st2 := [ov_i ((92 + (3 * x6)) + 2), ov_r 103, ov_i x5]) (pc2 := 61) b_305_57_3 rfl rfl ?_
            refine ov_iald d_305_61 (zb_103 I) (zs_103 I) (by omega) ?_
            have g14 := g103 I ((92 + (3 * x6)) + 2)
            refine ov_blk (ls2 := [(0, ov_r 90), (1, ov_i x), (2, ov_i y), (3, ov_i a), (4, ov_i b), (5, ov_i x5), (6, ov_i x6), (7, ov_i (92 + (3 * x6)))]) (st2 := [ov_i b, ov_i a, ov_i (h 103 ((92 + (3 * x6)) + 2)), ov_i x5]) (pc2 := 65) b_305_62_2 rfl rfl ?_
            refine ov_cS (as := [ov_i (h 103 ((92 + (3 * x6)) + 2)), ov_i a, ov_i b]) (st := [ov_i x5]) (d2 := d - 1) d_305_65 lk_Mo_299 rfl (Nat.le_of_ble_eq_true rfl) (by omega) (c_Mo_within (d - 1) (by omega) U I (h 103 ((92 + (3 * x6)) + 2)) a b (by omega) (by omega) (by omega)) ?_
            rintro _ _ _ ⟨v16, rfl, rfl, rfl, f15⟩
            show ov_R u d ov_m305 68 [(0, ov_r 90), (1, ov_i x), (2, ov_i y), (3, ov_i a), (4, ov_i b), (5, ov_i x5), (6, ov_i x6), (7, ov_i (92 + (3 * x6)))] [ov_i v16, ov_i x5] z h (P_Mo_wasBetween_90 F z h x y a b)
            have f17 : (v16 = 0 ∨ v16 = 1) ∧ (v16 = 1 → a ≤ (h 103 ((92 + (3 * x6)) + 2)) ∧ (h 103 ((92 + (3 * x6)) + 2)) ≤ b) ∧ (v16 = 0 → (h 103 ((92 + (3 * x6)) + 2)) < a ∨ b < (h 103 ((92 + (3 * x6)) + 2))) := f15
            clear f15
            refine ov_ifeq (tgt := 78) d_305_68 (by decide) (by omega) (fun c18 => ?_) (fun c18 => ?_)
            · skip
              have f17_ : v16 = 0 := by omega
              have f19 : (h 103 ((92 + (3 * x6)) + 2)) < a ∨ b < (h 103 ((92 + (3 * x6)) + 2)) := f17.2.2 (by omega)
              clear f17
              refine ov_blk (ls2 := [(0, ov_r 90), (1, ov_i x), (2, ov_i y), (3, ov_i a), (4, ov_i b), (5, ov_i (ov_or x5 0)), (6, ov_i (x6 + 1)), (7, ov_i (92 + (3 * x6)))]) (st2 := []) (pc2 := 85) b_305_78_4 rfl rfl ?_
              have g20 := ov_org x5 0
              refine ov_goto (tgt := 6) d_305_85 (by decide) ?_
              refine ov_sub (ls2 := [(0, ov_r 90), (1, ov_i x), (2, ov_i y), (3, ov_i a), (4, ov_i b), (5, ov_i (ov_or x5 0)), (6, ov_i (x6 + 1))]) (List.Sublist.subset (by repeat (first | exact List.Sublist.refl _ | apply List.Sublist.cons_cons | apply List.Sublist.cons))) ?_
              exact ih2 (ov_or x5 0) (x6 + 1) (by show ov_g (ov_or x5 0) ∧ 0 ≤ (x6 + 1) ∧ (x6 + 1) ≤ 8; omega) (by omega)
            · skip
              have f17_ : v16 = 1 := by omega
              have f21 : a ≤ (h 103 ((92 + (3 * x6)) + 2)) ∧ (h 103 ((92 + (3 * x6)) + 2)) ≤ b := f17.2.1 (by omega)
              clear f17
              refine ov_blk (ls2 := [(0, ov_r 90), (1, ov_i x), (2, ov_i y), (3, ov_i a), (4, ov_i b), (5, ov_i x5), (6, ov_i x6), (7, ov_i (92 + (3 * x6)))]) (st2 := [ov_i (ov_shl 1 x6), ov_i x5]) (pc2 := 75) b_305_71_3 rfl rfl ?_
              have g22 := ov_shlg 1 x6
              refine ov_goto (tgt := 79) d_305_75 (by decide) ?_
              refine ov_blk (ls2 := [(0, ov_r 90), (1, ov_i x), (2, ov_i y), (3, ov_i a), (4, ov_i b), (5, ov_i (ov_or x5 (ov_shl 1 x6))), (6, ov_i (x6 + 1)), (7, ov_i (92 + (3 * x6)))]) (st2 := []) (pc2 := 85) b_305_79_3 rfl rfl ?_
              have g23 := ov_org x5 (ov_shl 1 x6)
              refine ov_goto (tgt := 6) d_305_85 (by decide) ?_
              refine ov_sub (ls2 := [(0, ov_r 90), (1, ov_i x), (2, ov_i y), (3, ov_i a), (4, ov_i b), (5, ov_i (ov_or x5 (ov_shl 1 x6))), (6, ov_i (x6 + 1))]) (List.Sublist.subset (by repeat (first | exact List.Sublist.refl _ | apply List.Sublist.cons_cons | apply List.Sublist.cons))) ?_
              exact ih2 (ov_or x5 (ov_shl 1 x6)) (x6 + 1) (by show ov_g (ov_or x5 (ov_shl 1 x6)) ∧ 0 ≤ (x6 + 1) ∧ (x6 + 1) ≤ 8; omega) (by omega)
  exact L4 9 0 0 (by show ov_g 0 ∧ 0 ≤ 0 ∧ 0 ≤ 8; omega) (by omega)
abbrev P_Mo_fits0_90 (F : ov_H × ov_Z) (z : ov_Z) (h : ov_H) (m : Int) (c : Int) (w : Int) : Option ov_V → ov_Z → ov_H → Prop := fun r0 z' h' => r0 = none ∧ ov_N F z' h' ∧ ((h' 90 2) = (h 90 2) ∧ (h' 90 7) = (h 90 7) ∧ (h' 90 8) = (h 90 8) ∧ (h' 90 13) = (h 90 13) ∧ (h' 90 20) = (h 90 20) ∧ (h' 90 22) = (h 90 22) ∧ (h' 90 25) = (h 90 25) ∧ (h' 90 26) = (h 90 26) ∧ (h' 90 28) = (h 90 28) ∧ (h' 90 29) = (h 90 29) ∧ (h' 90 30) = (h 90 30) ∧ (h' 90 34) = (h 90 34)) ∧ h' 91 = h 91 ∧ h' 92 = h 92 ∧ h' 93 = h 93 ∧ h' 94 = h 94 ∧ h' 95 = h 95 ∧ h' 96 = h 96 ∧ h' 97 = h 97 ∧ h' 98 = h 98 ∧ h' 99 = h 99 ∧ h' 100 = h 100 ∧ h' 103 = h 103 ∧ h' 104 = h 104 ∧ h' 105 = h 105 ∧ h' 106 = h 106 ∧ h' 109 = h 109 ∧ h' 114 = h 114
set_option maxHeartbeats 4000000 in
theorem c_Mo_fits0_90 {u : ov_U} {F : ov_H × ov_Z} {z : ov_Z} {h : ov_H} (d : Nat) (hd : 0 ≤ d) (U : ov_cap u) (I : ov_N F z h) (m : Int) (c : Int) (w : Int) (g_m : ov_g m) (g_w : ov_g w) : ov_T u d ov_m306 [ov_r 90, ov_i m, ov_l c, ov_i w] z h (P_Mo_fits0_90 F z h m c w) := by
  refine ov_en rfl (Nat.le_of_ble_eq_true rfl) ?_
  show ov_R u d ov_m306 0 [(0, ov_r 90), (1, ov_i m), (2, ov_l c), (4, ov_i w)] [] z h (P_Mo_fits0_90 F z h m c w)
  have t0 := t96_0 I
  have t1 := t96_1 I
  refine ov_blk (ls2 := [(0, ov_r 90), (1, ov_i m), (2, ov_l c), (4, ov_i w)]) (st2 := [ov_r 90, ov_i 1, ov_i m]) (pc2 := 3) b_306_0_3 rfl rfl ?_
  refine ov_getf (v := ov_r 103) d_306_3 fl_Mo_102 (zb_90 I) (zs_90 I) (congrArg ov_r (rg_90_19 I)) ?_
  refine ov_blk (ls2 := [(0, ov_r 90), (1, ov_i m), (2, ov_l c), (4, ov_i w)]) (st2 := [ov_i 59, ov_r 103, ov_i 1, ov_i m]) (pc2 := 8) b_306_6_1 rfl rfl ?_
  refine ov_iald d_306_8 (zb_103 I) (zs_103 I) (by omega) ?_
  have g1 := s103_59 I
  refine ov_blk (ls2 := [(0, ov_r 90), (1, ov_i m), (2, ov_l c), (4, ov_i w)]) (st2 := [ov_i ((ov_shl 1 (h 103 59)) - 1), ov_i m]) (pc2 := 12) b_306_9_3 rfl rfl ?_
  have g2 := ov_shlg 1 (h 103 59)
  refine ov_havw (fun w3 gw3 qw3 => ?_)
  refine ov_icne (tgt := 70) d_306_12 (by decide) (by omega) (by omega) (fun c4 => ?_) (fun c4 => ?_)
  · skip
    exact ov_retv (st := []) d_306_70 rfl ⟨rfl, I, ⟨rfl, rfl, rfl, rfl, rfl, rfl, rfl, rfl, rfl, rfl, rfl, rfl⟩, rfl, rfl, rfl, rfl, rfl, rfl, rfl, rfl, rfl, rfl, rfl, rfl, rfl, rfl, rfl, rfl⟩
  · skip
    refine ov_blk (ls2 := [(0, ov_r 90), (1, ov_i m), (2, ov_l c), (4, ov_i w)]) (st2 := [ov_r 90, ov_r 90]) (pc2 := 17) b_306_15_2 rfl rfl ?_
    refine ov_getf (v := ov_l (h 90 43)) d_306_17 fl_Mo_461 (zb_90 I) (zs_90 I) rfl ?_
    refine ov_blk (ls2 := [(0, ov_r 90), (1, ov_i m), (2, ov_l c), (4, ov_i w)]) (st2 := [ov_i (ov_lcmp (h 90 43) 0), ov_r 90]) (pc2 := 22) b_306_20_2 rfl rfl ?_
    have g5 := ov_lcg (h 90 43) 0
    refine ov_ifne (tgt := 30) d_306_22 (by decide) (by omega) (fun c6 => ?_) (fun c6 => ?_)
    · skip
      refine ov_blk (ls2 := [(0, ov_r 90), (1, ov_i m), (2, ov_l c), (4, ov_i w)]) (st2 := [ov_r 90, ov_r 90]) (pc2 := 31) b_306_30_1 rfl rfl ?_
      refine ov_getf (v := ov_i (h 90 44)) d_306_31 fl_Mo_465 (zb_90 I) (zs_90 I) rfl ?_
      have g7 := rg_90_44 I
      refine ov_putf (x := (h 90 44)) d_306_34 fl_Mo_465 (zb_90 I) (zs_90 I) rfl nk_0 rfl ?_
      have I8 := up_90_44 (x := (h 90 44)) I (by omega)
      refine ov_blk (ls2 := [(0, ov_r 90), (1, ov_i m), (2, ov_l c), (4, ov_i w)]) (st2 := [ov_r 90, ov_r 90]) (pc2 := 39) b_306_37_2 rfl rfl ?_
      refine ov_getf (v := ov_l (h 90 43)) d_306_39 fl_Mo_461 (zb_90 I8) (zs_90 I8) rfl ?_
      refine ov_blk (ls2 := [(0, ov_r 90), (1, ov_i m), (2, ov_l c), (4, ov_i w)]) (st2 := [ov_i (ov_lcmp (h 90 43) 0), ov_r 90]) (pc2 := 44) b_306_42_2 rfl rfl ?_
      have g9 := ov_lcg (h 90 43) 0
      refine ov_ifne (tgt := 51) d_306_44 (by decide) (by omega) (fun c10 => ?_) (fun c10 => ?_)
      · skip
        refine ov_blk (ls2 := [(0, ov_r 90), (1, ov_i m), (2, ov_l c), (4, ov_i w)]) (st2 := [ov_r 90, ov_r 90]) (pc2 := 52) b_306_51_1 rfl rfl ?_
        refine ov_getf (v := ov_l (h 90 45)) d_306_52 fl_Mo_468 (zb_90 I8) (zs_90 I8) rfl ?_
        refine ov_blk (ls2 := [(0, ov_r 90), (1, ov_i m), (2, ov_l c), (4, ov_i w)]) (st2 := [ov_l (ov_land (h 90 45) c), ov_r 90]) (pc2 := 57) b_306_55_2 rfl rfl ?_
        refine ov_putf (x := (ov_land (h 90 45) c)) d_306_57 fl_Mo_468 (zb_90 I8) (zs_90 I8) rfl nk_1 rfl ?_
        have I11 := up_90_45 (x := (ov_land (h 90 45) c)) I8
        refine ov_blk (ls2 := [(0, ov_r 90), (1, ov_i m), (2, ov_l c), (4, ov_i w)]) (st2 := [ov_r 90, ov_r 90]) (pc2 := 62) b_306_60_2 rfl rfl ?_
        refine ov_getf (v := ov_l (h 90 43)) d_306_62 fl_Mo_461 (zb_90 I11) (zs_90 I11) rfl ?_
        refine ov_blk (ls2 := [(0, ov_r 90), (1, ov_i m), (2, ov_l c), (4, ov_i w)]) (st2 := [ov_l ((h 90 43) + 1), ov_r 90]) (pc2 := 67) b_306_65_2 rfl rfl ?_
        refine ov_putf (x := ((h 90 43) + 1)) d_306_67 fl_Mo_461 (zb_90 I11) (zs_90 I11) rfl nk_1 rfl ?_
        have I12 := up_90_43 (x := ((h 90 43) + 1)) I11
        exact ov_retv (st := []) d_306_70 rfl ⟨rfl, I12, ⟨rfl, rfl, rfl, rfl, rfl, rfl, rfl, rfl, rfl, rfl, rfl, rfl⟩, rfl, rfl, rfl, rfl, rfl, rfl, rfl, rfl, rfl, rfl, rfl, rfl, rfl, rfl, rfl, rfl⟩
      · omega
    · skip
      refine ov_blk (ls2 := [(0, ov_r 90), (1, ov_i m), (2, ov_l c), (4, ov_i w)]) (st2 := [ov_i w, ov_r 90]) (pc2 := 27) b_306_25_1 rfl rfl ?_
      refine ov_goto (tgt := 34) d_306_27 (by decide) ?_
      refine ov_putf (x := w) d_306_34 fl_Mo_465 (zb_90 I) (zs_90 I) rfl nk_0 rfl ?_
      have I13 := up_90_44 (x := w) I (by omega)
      refine ov_blk (ls2 := [(0, ov_r 90), (1, ov_i m), (2, ov_l c), (4, ov_i w)]) (st2 := [ov_r 90, ov_r 90]) (pc2 := 39) b_306_37_2 rfl rfl ?_
      refine ov_getf (v := ov_l (h 90 43)) d_306_39 fl_Mo_461 (zb_90 I13) (zs_90 I13) rfl ?_
      refine ov_blk (ls2 := [(0, ov_r 90), (1, ov_i m), (2, ov_l c), (4, ov_i w)]) (st2 := [ov_i (ov_lcmp (h 90 43) 0), ov_r 90]) (pc2 := 44) b_306_42_2 rfl rfl ?_
      have g14 := ov_lcg (h 90 43) 0
      refine ov_ifne (tgt := 51) d_306_44 (by decide) (by omega) (fun c15 => ?_) (fun c15 => ?_)
      · omega
      · skip
        refine ov_blk (ls2 := [(0, ov_r 90), (1, ov_i m), (2, ov_l c), (4, ov_i w)]) (st2 := [ov_l c, ov_r 90]) (pc2 := 48) b_306_47_1 rfl rfl ?_
        refine ov_goto (tgt := 57) d_306_48 (by decide) ?_
        refine ov_putf (x := c) d_306_57 fl_Mo_468 (zb_90 I13) (zs_90 I13) rfl nk_1 rfl ?_
        have I16 := up_90_45 (x := c) I13
        refine ov_blk (ls2 := [(0, ov_r 90), (1, ov_i m), (2, ov_l c), (4, ov_i w)]) (st2 := [ov_r 90, ov_r 90]) (pc2 := 62) b_306_60_2 rfl rfl ?_
        refine ov_getf (v := ov_l (h 90 43)) d_306_62 fl_Mo_461 (zb_90 I16) (zs_90 I16) rfl ?_
        refine ov_blk (ls2 := [(0, ov_r 90), (1, ov_i m), (2, ov_l c), (4, ov_i w)]) (st2 := [ov_l ((h 90 43) + 1), ov_r 90]) (pc2 := 67) b_306_65_2 rfl rfl ?_
        refine ov_putf (x := ((h 90 43) + 1)) d_306_67 fl_Mo_461 (zb_90 I16) (zs_90 I16) rfl nk_1 rfl ?_
        have I17 := up_90_43 (x := ((h 90 43) + 1)) I16
        exact ov_retv (st := []) d_306_70 rfl ⟨rfl, I17, ⟨rfl, rfl, rfl, rfl, rfl, rfl, rfl, rfl, rfl, rfl, rfl, rfl⟩, rfl, rfl, rfl, rfl, rfl, rfl, rfl, rfl, rfl, rfl, rfl, rfl, rfl, rfl, rfl, rfl⟩
abbrev P_Mo_goesOn_90 (F : ov_H × ov_Z) (z : ov_Z) (h : ov_H) (x : Int) (y : Int) (s : Int) (m : Int) (co : Int) (ws : Int) : Option ov_V → ov_Z → ov_H → Prop := fun r0 z' h' => r0 = none ∧ ov_N F z' h' ∧ ((h' 90 2) = (h 90 2) ∧ (h' 90 7) = (h 90 7) ∧ (h' 90 8) = (h 90 8) ∧ (h' 90 13) = (h 90 13) ∧ (h' 90 20) = (h 90 20) ∧ (h' 90 22) = (h 90 22) ∧ (h' 90 25) = (h 90 25) ∧ (h' 90 26) = (h 90 26) ∧ (h' 90 28) = (h 90 28) ∧ (h' 90 29) = (h 90 29) ∧ (h' 90 30) = (h 90 30) ∧ (h' 90 34) = (h 90 34)) ∧ h' 91 = h 91 ∧ h' 92 = h 92 ∧ h' 93 = h 93 ∧ h' 94 = h 94 ∧ h' 95 = h 95 ∧ h' 96 = h 96 ∧ h' 97 = h 97 ∧ h' 98 = h 98 ∧ h' 99 = h 99 ∧ h' 100 = h 100 ∧ h' 103 = h 103 ∧ h' 104 = h 104 ∧ h' 105 = h 105 ∧ h' 106 = h 106 ∧ h' 109 = h 109 ∧ h' 114 = h 114
set_option maxHeartbeats 4000000 in
theorem c_Mo_goesOn_90 {u : ov_U} {F : ov_H × ov_Z} (k : Nat) (HV : ∀ k' : Nat, k' < k → ∀ {z : ov_Z} {h : ov_H} (d : Nat) (hd : (10 + 2 * k' + 1) ≤ d) (U : ov_cap u) (I : ov_N F z h) (x : Int) (y : Int) (s : Int) (m : Int) (co : Int) (ws : Int) (g_x : ov_g x) (g_y : ov_g y) (g_s : ov_g s) (g_m : ov_g m) (g_ws : ov_g ws) (p0 : 0 ≤ x ∧ x ≤ 5 ∧ 0 ≤ y ∧ y ≤ 8) (p1 : x < (h 96 0) ∧ y < (h 96 1)) (p2 : x + y + (k' : Int) = 13) (p3 : 0 ≤ s ∧ s + 89 * (k' : Int) ≤ 3000000) (W : ov_WT (h 96)), ov_T u d ov_m304 [ov_r 90, ov_i x, ov_i y, ov_i s, ov_i m, ov_l co, ov_i ws] z h (P_Mo_goesOn_90 F z h x y s m co ws)) {z : ov_Z} {h : ov_H} (d : Nat) (hd : (10 + 2 * k + 1) ≤ d) (U : ov_cap u) (I : ov_N F z h) (x : Int) (y : Int) (s : Int) (m : Int) (co : Int) (ws : Int) (g_x : ov_g x) (g_y : ov_g y) (g_s : ov_g s) (g_m : ov_g m) (g_ws : ov_g ws) (p0 : 0 ≤ x ∧ x ≤ 5 ∧ 0 ≤ y ∧ y ≤ 8) (p1 : x < (h 96 0) ∧ y < (h 96 1)) (p2 : x + y + (k : Int) = 13) (p3 : 0 ≤ s ∧ s + 89 * (k : Int) ≤ 3000000) (W : ov_WT (h 96)) : ov_T u d ov_m304 [ov_r 90, ov_i x, ov_i y, ov_i s, ov_i m, ov_l co, ov_i ws] z h (P_Mo_goesOn_90 F z h x y s m co ws) := by
  refine ov_en rfl (Nat.le_of_ble_eq_true rfl) ?_
  show ov_R u d ov_m304 0 [(0, ov_r 90), (1, ov_i x), (2, ov_i y), (3, ov_i s), (4, ov_i m), (5, ov_l co), (7, ov_i ws)] [] z h (P_Mo_goesOn_90 F z h x y s m co ws)
  have t0 := t96_0 I
  have t1 := t96_1 I
  refine ov_blk (ls2 := [(0, ov_r 90), (1, ov_i x), (2, ov_i y), (3, ov_i s), (4, ov_i m), (5, ov_l co), (7, ov_i ws)]) (st2 := [ov_i y, ov_i x, ov_r 90]) (pc2 := 3) b_304_0_3 rfl rfl ?_
  refine ov_cV (as := [ov_i x, ov_i y]) (st := []) (d2 := d - 1) d_304_3 lk_Mo_335 rfl (Nat.le_of_ble_eq_true rfl) (c := 1) (zb_90 I) (zs_90 I) ⟨by decide, rfl⟩ (by omega) (c_Mo_isHome_90 (d - 1) (by omega) U I x y (by omega) (by omega) (by omega)) ?_
  rintro _ _ _ ⟨v2, rfl, rfl, rfl, f1⟩
  show ov_R u d ov_m304 6 [(0, ov_r 90), (1, ov_i x), (2, ov_i y), (3, ov_i s), (4, ov_i m), (5, ov_l co), (7, ov_i ws)] [ov_i v2] z h (P_Mo_goesOn_90 F z h x y s m co ws)
  have f3 : (v2 = 0 ∨ v2 = 1) ∧ (v2 = 1 → x = (h 96 0) - 1 ∧ y = (h 96 1) - 1) ∧ (v2 = 0 → ¬ (x = (h 96 0) - 1 ∧ y = (h 96 1) - 1)) := f1
  clear f1
  refine ov_blk (ls2 := [(0, ov_r 90), (1, ov_i x), (2, ov_i y), (3, ov_i s), (4, ov_i m), (5, ov_l co), (7, ov_i ws), (8, ov_i v2), (9, ov_l (ov_lor co (ov_lshl 1 ((6 * y) + x)))), (11, ov_i 0)]) (st2 := []) (pc2 := 24) b_304_6_13 rfl rfl ?_
  have L7 : ∀ (n4 : Nat) (x11 : Int) (z8 : ov_Z) (h9 : ov_H) (I10 : ov_N F z8 h9) (E11 : h9 91 = h 91) (E12 : h9 92 = h 92) (E13 : h9 93 = h 93) (E14 : h9 94 = h 94) (E15 : h9 95 = h 95) (E16 : h9 96 = h 96) (E17 : h9 97 = h 97) (E18 : h9 98 = h 98) (E19 : h9 99 = h 99) (E20 : h9 100 = h 100) (E21 : h9 103 = h 103) (E22 : h9 104 = h 104) (E23 : h9 105 = h 105) (E24 : h9 106 = h 106) (E25 : h9 109 = h 109) (E26 : h9 114 = h 114) (q6 : 0 ≤ x11 ∧ x11 ≤ 3 ∧ (v2 = 0 → x11 ≤ 2) ∧ (h9 90 2) = (h 90 2) ∧ (h9 90 7) = (h 90 7) ∧ (h9 90 8) = (h 90 8) ∧ (h9 90 13) = (h 90 13) ∧ (h9 90 20) = (h 90 20) ∧ (h9 90 22) = (h 90 22) ∧ (h9 90 25) = (h 90 25) ∧ (h9 90 26) = (h 90 26) ∧ (h9 90 28) = (h 90 28) ∧ (h9 90 29) = (h 90 29) ∧ (h9 90 30) = (h 90 30) ∧ (h9 90 34) = (h 90 34)), 3 - x11 < (n4 : Int) → ov_R u d ov_m304 24 [(0, ov_r 90), (1, ov_i x), (2, ov_i y), (3, ov_i s), (4, ov_i m), (5, ov_l co), (7, ov_i ws), (8, ov_i v2), (9, ov_l (ov_lor co (ov_lshl 1 ((6 * y) + x)))), (11, ov_i x11)] [] z8 h9 (P_Mo_goesOn_90 F z h x y s m co ws) := by
    intro n4
    induction n4 with
    | zero =>
      intro x11 z8 h9 I10 E11 E12 E13 E14 E15 E16 E17 E18 E19 E20 E21 E22 E23 E24 E25 E26 q6 hn27
      exact absurd hn27 (by omega)
    | succ n4 ih5 =>
      intro x11 z8 h9 I10 E11 E12 E13 E14 E15 E16 E17 E18 E19 E20 E21 E22 E23 E24 E25 E26 q6 hn27
      refine ov_blk (ls2 := [(0, ov_r 90), (1, ov_i x), (2, ov_i y), (3, ov_i s), (4, ov_i m), (5, ov_l co), (7, ov_i ws), (8, ov_i v2), (9, ov_l (ov_lor co (ov_lshl 1 ((6 * y) + x)))), (11, ov_i x11)]) (st2 := [ov_i 2, ov_i x11]) (pc2 := 27) b_304_24_2 rfl rfl ?_
      refine ov_iclt (tgt := 41) d_304_27 (by decide) (by omega) (by omega) (fun c28 => ?_) (fun c28 => ?_)
      · skip
        refine ov_blk (ls2 := [(0, ov_r 90), (1, ov_i x), (2, ov_i y), (3, ov_i s), (4, ov_i m), (5, ov_l co), (7, ov_i ws), (8, ov_i v2), (9, ov_l (ov_lor co (ov_lshl 1 ((6 * y) + x)))), (11, ov_i x11)]) (st2 := [ov_i v2]) (pc2 := 43) b_304_41_1 rfl rfl ?_
        refine ov_ifeq (tgt := 55) d_304_43 (by decide) (by omega) (fun c29 => ?_) (fun c29 => ?_)
        · skip
          have f3_ : v2 = 0 := by omega
          have f30 : ¬ (x = (h 96 0) - 1 ∧ y = (h 96 1) - 1) := f3.2.2 (by omega)
          clear f3
          refine ov_blk (ls2 := [(0, ov_r 90), (1, ov_i x), (2, ov_i y), (3, ov_i s), (4, ov_i m), (5, ov_l co), (7, ov_i ws), (8, ov_i v2), (9, ov_l (ov_lor co (ov_lshl 1 ((6 * y) + x)))), (11, ov_i x11)]) (st2 := [ov_i x11, ov_i y, ov_i x, ov_r 90]) (pc2 := 60) b_304_55_4 rfl rfl ?_
          refine ov_cV (as := [ov_i x, ov_i y, ov_i x11]) (st := []) (d2 := d - 1) d_304_60 lk_Mo_309 rfl (Nat.le_of_ble_eq_true rfl) (c := 1) (zb_90 I10) (zs_90 I10) ⟨by decide, rfl⟩ (by omega) (c_Mo_canGo_90 (d - 1) (by omega) U I10 x y x11 (by omega) (by omega) (by omega) (by omega) (by omega)) ?_
          rintro _ _ _ ⟨v32, rfl, rfl, rfl, f31⟩
          show ov_R u d ov_m304 63 [(0, ov_r 90), (1, ov_i x), (2, ov_i y), (3, ov_i s), (4, ov_i m), (5, ov_l co), (7, ov_i ws), (8, ov_i v2), (9, ov_l (ov_lor co (ov_lshl 1 ((6 * y) + x)))), (11, ov_i x11)] [ov_i v32] z8 h9 (P_Mo_goesOn_90 F z h x y s m co ws)
          rw [show h9 96 = h 96 from E16] at f31
          have f33 : (v32 = 0 ∨ v32 = 1) ∧ v32 = ov_cgi (h 96) x y x11 ∧ (v32 = 1 → ((x11 = 0 → x < (h 96 0) - 1) ∧ (¬ x11 = 0 → y < (h 96 1) - 1)) ∧ (((h 96 (10 + 4 * (6 * y + x))) = 1 ∨ (h 96 (10 + 4 * (6 * y + x))) = 2) → (x11 = 0 → 0 < (h 96 (10 + 4 * (6 * y + x) + 3))) ∧ (¬ x11 = 0 → (h 96 (10 + 4 * (6 * y + x) + 3)) < (h 96 (10 + 4 * (6 * y + x) + 1))))) := f31
          clear f31
          refine ov_ifeq (tgt := 158) d_304_63 (by decide) (by omega) (fun c34 => ?_) (fun c34 => ?_)
          · skip
            have f33_ : v32 = 0 := by omega
            have f35 : v32 = ov_cgi (h 96) x y x11 := f33.2.1
            clear f33
            refine ov_blk (ls2 := [(0, ov_r 90), (1, ov_i x), (2, ov_i y), (3, ov_i s), (4, ov_i m), (5, ov_l co), (7, ov_i ws), (8, ov_i v2), (9, ov_l (ov_lor co (ov_lshl 1 ((6 * y) + x)))), (11, ov_i (x11 + 1))]) (st2 := []) (pc2 := 161) b_304_158_1 rfl rfl ?_
            refine ov_goto (tgt := 24) d_304_161 (by decide) ?_
            exact ih5 (x11 + 1) _ _ I10 E11 E12 E13 E14 E15 E16 E17 E18 E19 E20 E21 E22 E23 E24 E25 E26 (by show 0 ≤ (x11 + 1) ∧ (x11 + 1) ≤ 3 ∧ (v2 = 0 → (x11 + 1) ≤ 2) ∧ (h9 90 2) = (h 90 2) ∧ (h9 90 7) = (h 90 7) ∧ (h9 90 8) = (h 90 8) ∧ (h9 90 13) = (h 90 13) ∧ (h9 90 20) = (h 90 20) ∧ (h9 90 22) = (h 90 22) ∧ (h9 90 25) = (h 90 25) ∧ (h9 90 26) = (h 90 26) ∧ (h9 90 28) = (h 90 28) ∧ (h9 90 29) = (h 90 29) ∧ (h9 90 30) = (h 90 30) ∧ (h9 90 34) = (h 90 34); omega) (by omega)
          · skip
            have f33_ : v32 = 1 := by omega
            have f36 : v32 = ov_cgi (h 96) x y x11 := f33.2.1
            have f37 : ((x11 = 0 → x < (h 96 0) - 1) ∧ (¬ x11 = 0 → y < (h 96 1) - 1)) ∧ (((h 96 (10 + 4 * (6 * y + x))) = 1 ∨ (h 96 (10 + 4 * (6 * y + x))) = 2) → (x11 = 0 → 0 < (h 96 (10 + 4 * (6 * y + x) + 3))) ∧ (¬ x11 = 0 → (h 96 (10 + 4 * (6 * y + x) + 3)) < (h 96 (10 + 4 * (6 * y + x) + 1)))) := f33.2.2 (by omega)
            clear f33
            refine ov_blk (ls2 := [(0, ov_r 90), (1, ov_i x), (2, ov_i y), (3, ov_i s), (4, ov_i m), (5, ov_l co), (7, ov_i ws), (8, ov_i v2), (9, ov_l (ov_lor co (ov_lshl 1 ((6 * y) + x)))), (11, ov_i x11)]) (st2 := [ov_i v2]) (pc2 := 68) b_304_66_1 rfl rfl ?_
            refine ov_ifeq (tgt := 77) d_304_68 (by decide) (by omega) (fun c38 => ?_) (fun c38 => ?_)
            · skip
              refine ov_blk (ls2 := [(0, ov_r 90), (1, ov_i x), (2, ov_i y), (3, ov_i s), (4, ov_i m), (5, ov_l co), (7, ov_i ws), (8, ov_i v2), (9, ov_l (ov_lor co (ov_lshl 1 ((6 * y) + x)))), (11, ov_i x11)]) (st2 := [ov_i s, ov_i x11, ov_i y, ov_i x, ov_r 90, ov_i s]) (pc2 := 84) b_304_77_6 rfl rfl ?_
              have cf39 : h9 96 (10 + 4 * (6 * y + x)) = h 96 (10 + 4 * (6 * y + x)) := congrFun E16 (10 + 4 * (6 * y + x))
              have cf40 : h9 96 (10 + 4 * (6 * y + x) + 3) = h 96 (10 + 4 * (6 * y + x) + 3) := congrFun E16 (10 + 4 * (6 * y + x) + 3)
              have cf41 : h9 96 (10 + 4 * (6 * y + x) + 1) = h 96 (10 + 4 * (6 * y + x) + 1) := congrFun E16 (10 + 4 * (6 * y + x) + 1)
              refine ov_cV (as := [ov_i x, ov_i y, ov_i x11, ov_i s]) (st := [ov_i s]) (d2 := d - 1) d_304_84 lk_Mo_315 rfl (Nat.le_of_ble_eq_true rfl) (c := 1) (zb_90 I10) (zs_90 I10) ⟨by decide, rfl⟩ (by omega) (c_Mo_waitFor_90 (d - 1) (by omega) U I10 x y x11 s (by omega) (by omega) (by omega) (by omega) (by omega) (by omega) (by omega) (by show (((h9 96 (10 + 4 * (6 * y + x))) = 1 ∨ (h9 96 (10 + 4 * (6 * y + x))) = 2) → (x11 = 0 → 0 < (h9 96 (10 + 4 * (6 * y + x) + 3))) ∧ (¬ x11 = 0 → (h9 96 (10 + 4 * (6 * y + x) + 3)) < (h9 96 (10 + 4 * (6 * y + x) + 1)))); omega) (by rw [show h9 96 = h 96 from E16]; exact W)) ?_
              rintro _ _ _ ⟨v43, rfl, rfl, rfl, f42⟩
              show ov_R u d ov_m304 87 [(0, ov_r 90), (1, ov_i x), (2, ov_i y), (3, ov_i s), (4, ov_i m), (5, ov_l co), (7, ov_i ws), (8, ov_i v2), (9, ov_l (ov_lor co (ov_lshl 1 ((6 * y) + x)))), (11, ov_i x11)] [ov_i v43, ov_i s] z8 h9 (P_Mo_goesOn_90 F z h x y s m co ws)
              rw [show h9 96 = h 96 from E16] at f42
              have f44 : 0 ≤ v43 ∧ v43 ≤ 59 ∧ v43 = ov_wm (h 96) (6 * y + x) x11 s := f42
              clear f42
              refine ov_blk (ls2 := [(0, ov_r 90), (1, ov_i x), (2, ov_i y), (3, ov_i s), (4, ov_i m), (5, ov_l co), (7, ov_i ws), (8, ov_i v2), (9, ov_l (ov_lor co (ov_lshl 1 ((6 * y) + x)))), (11, ov_i x11), (12, ov_i (s + v43))]) (st2 := [ov_i (s + v43), ov_i s, ov_i y, ov_i x, ov_r 90, ov_i m]) (pc2 := 98) b_304_87_8 rfl rfl ?_
              refine ov_cV (as := [ov_i x, ov_i y, ov_i s, ov_i (s + v43)]) (st := [ov_i m]) (d2 := d - 1) d_304_98 lk_Mo_450 rfl (Nat.le_of_ble_eq_true rfl) (c := 1) (zb_90 I10) (zs_90 I10) ⟨by decide, rfl⟩ (by omega) (c_Mo_wasBetween_90 (d - 1) (by omega) U I10 x y s (s + v43) (by omega) (by omega) (by omega) (by omega)) ?_
              rintro _ _ _ ⟨v46, rfl, rfl, rfl, f45⟩
              show ov_R u d ov_m304 101 [(0, ov_r 90), (1, ov_i x), (2, ov_i y), (3, ov_i s), (4, ov_i m), (5, ov_l co), (7, ov_i ws), (8, ov_i v2), (9, ov_l (ov_lor co (ov_lshl 1 ((6 * y) + x)))), (11, ov_i x11), (12, ov_i (s + v43))] [ov_i v46, ov_i m] z8 h9 (P_Mo_goesOn_90 F z h x y s m co ws)
              have f47 : -2147483648 ≤ v46 ∧ v46 ≤ 2147483647 := f45
              clear f45
              refine ov_blk (ls2 := [(0, ov_r 90), (1, ov_i x), (2, ov_i y), (3, ov_i s), (4, ov_i m), (5, ov_l co), (7, ov_i ws), (8, ov_i v2), (9, ov_l (ov_lor co (ov_lshl 1 ((6 * y) + x)))), (11, ov_i x11), (12, ov_i (s + v43)), (13, ov_i (ov_or m v46))]) (st2 := [ov_i v2]) (pc2 := 106) b_304_101_3 rfl rfl ?_
              have g48 := ov_org m v46
              refine ov_ifeq (tgt := 122) d_304_106 (by decide) (by omega) (fun c49 => ?_) (fun c49 => ?_)
              · skip
                refine ov_blk (ls2 := [(0, ov_r 90), (1, ov_i x), (2, ov_i y), (3, ov_i s), (4, ov_i m), (5, ov_l co), (7, ov_i ws), (8, ov_i v2), (9, ov_l (ov_lor co (ov_lshl 1 ((6 * y) + x)))), (11, ov_i x11), (12, ov_i (s + v43)), (13, ov_i (ov_or m v46))]) (st2 := [ov_r 90, ov_i (s + v43), ov_i (y + x11), ov_i ((x + 1) - x11), ov_r 90]) (pc2 := 136) b_304_122_11 rfl rfl ?_
                refine ov_getf (v := ov_r 96) d_304_136 fl_Mo_81 (zb_90 I10) (zs_90 I10) (congrArg ov_r (rg_90_10 I10)) ?_
                refine ov_blk (ls2 := [(0, ov_r 90), (1, ov_i x), (2, ov_i y), (3, ov_i s), (4, ov_i m), (5, ov_l co), (7, ov_i ws), (8, ov_i v2), (9, ov_l (ov_lor co (ov_lshl 1 ((6 * y) + x)))), (11, ov_i x11), (12, ov_i (s + v43)), (13, ov_i (ov_or m v46))]) (st2 := [ov_i 2, ov_r 96, ov_i (s + v43), ov_i (y + x11), ov_i ((x + 1) - x11), ov_r 90]) (pc2 := 140) b_304_139_1 rfl rfl ?_
                refine ov_iald d_304_140 (zb_96 I10) (zs_96 I10) (by omega) ?_
                rw [show h9 96 = h 96 from E16]
                have g50 := t96_2 I
                refine ov_blk (ls2 := [(0, ov_r 90), (1, ov_i x), (2, ov_i y), (3, ov_i s), (4, ov_i m), (5, ov_l co), (7, ov_i ws), (8, ov_i v2), (9, ov_l (ov_lor co (ov_lshl 1 ((6 * y) + x)))), (11, ov_i x11), (12, ov_i (s + v43)), (13, ov_i (ov_or m v46))]) (st2 := [ov_i (ov_or ws (ov_shl x11 (x + y))), ov_l (ov_lor co (ov_lshl 1 ((6 * y) + x))), ov_i (ov_or m v46), ov_i ((s + v43) + (h 96 2)), ov_i (y + x11), ov_i ((x + 1) - x11), ov_r 90]) (pc2 := 155) b_304_141_10 rfl rfl ?_
                have g51 := ov_shlg x11 (x + y)
                have g52 := ov_org ws (ov_shl x11 (x + y))
                have cf53 : h9 96 (0) = h 96 (0) := congrFun E16 (0)
                have cf54 : h9 96 (1) = h 96 (1) := congrFun E16 (1)
                refine ov_cV (as := [ov_i ((x + 1) - x11), ov_i (y + x11), ov_i ((s + v43) + (h 96 2)), ov_i (ov_or m v46), ov_l (ov_lor co (ov_lshl 1 ((6 * y) + x))), ov_i (ov_or ws (ov_shl x11 (x + y)))]) (st := []) (d2 := d - 1) d_304_155 lk_Mo_457 rfl (Nat.le_of_ble_eq_true rfl) (c := 1) (zb_90 I10) (zs_90 I10) ⟨by decide, rfl⟩ (by omega) (HV (Int.toNat (13 - (((x + 1) - x11)) - ((y + x11)))) (by omega) (d - 1) (by omega) U I10 ((x + 1) - x11) (y + x11) ((s + v43) + (h 96 2)) (ov_or m v46) (ov_lor co (ov_lshl 1 ((6 * y) + x))) (ov_or ws (ov_shl x11 (x + y))) (by omega) (by omega) (by omega) (by omega) (by omega) (by omega) (by show ((x + 1) - x11) < (h9 96 0) ∧ (y + x11) < (h9 96 1); omega) (by omega) (by omega) (by rw [show h9 96 = h 96 from E16]; exact W)) ?_
                rintro _ z72 h73 ⟨rfl, I74, f55, e56, e57, e58, e59, e60, e61, e62, e63, e64, e65, e66, e67, e68, e69, e70, e71⟩
                have E75 : h73 91 = h 91 := Eq.trans e56 E11
                have E76 : h73 92 = h 92 := Eq.trans e57 E12
                have E77 : h73 93 = h 93 := Eq.trans e58 E13
                have E78 : h73 94 = h 94 := Eq.trans e59 E14
                have E79 : h73 95 = h 95 := Eq.trans e60 E15
                have E80 : h73 96 = h 96 := Eq.trans e61 E16
                have E81 : h73 97 = h 97 := Eq.trans e62 E17
                have E82 : h73 98 = h 98 := Eq.trans e63 E18
                have E83 : h73 99 = h 99 := Eq.trans e64 E19
                have E84 : h73 100 = h 100 := Eq.trans e65 E20
                have E85 : h73 103 = h 103 := Eq.trans e66 E21
                have E86 : h73 104 = h 104 := Eq.trans e67 E22
                have E87 : h73 105 = h 105 := Eq.trans e68 E23
                have E88 : h73 106 = h 106 := Eq.trans e69 E24
                have E89 : h73 109 = h 109 := Eq.trans e70 E25
                have E90 : h73 114 = h 114 := Eq.trans e71 E26
                show ov_R u d ov_m304 158 [(0, ov_r 90), (1, ov_i x), (2, ov_i y), (3, ov_i s), (4, ov_i m), (5, ov_l co), (7, ov_i ws), (8, ov_i v2), (9, ov_l (ov_lor co (ov_lshl 1 ((6 * y) + x)))), (11, ov_i x11), (12, ov_i (s + v43)), (13, ov_i (ov_or m v46))] [] z72 h73 (P_Mo_goesOn_90 F z h x y s m co ws)
                have f91 : (h73 90 2) = (h9 90 2) ∧ (h73 90 7) = (h9 90 7) ∧ (h73 90 8) = (h9 90 8) ∧ (h73 90 13) = (h9 90 13) ∧ (h73 90 20) = (h9 90 20) ∧ (h73 90 22) = (h9 90 22) ∧ (h73 90 25) = (h9 90 25) ∧ (h73 90 26) = (h9 90 26) ∧ (h73 90 28) = (h9 90 28) ∧ (h73 90 29) = (h9 90 29) ∧ (h73 90 30) = (h9 90 30) ∧ (h73 90 34) = (h9 90 34) := f55
                clear f55
                refine ov_blk (ls2 := [(0, ov_r 90), (1, ov_i x), (2, ov_i y), (3, ov_i s), (4, ov_i m), (5, ov_l co), (7, ov_i ws), (8, ov_i v2), (9, ov_l (ov_lor co (ov_lshl 1 ((6 * y) + x)))), (11, ov_i (x11 + 1)), (12, ov_i (s + v43)), (13, ov_i (ov_or m v46))]) (st2 := []) (pc2 := 161) b_304_158_1 rfl rfl ?_
                refine ov_goto (tgt := 24) d_304_161 (by decide) ?_
                refine ov_sub (ls2 := [(0, ov_r 90), (1, ov_i x), (2, ov_i y), (3, ov_i s), (4, ov_i m), (5, ov_l co), (7, ov_i ws), (8, ov_i v2), (9, ov_l (ov_lor co (ov_lshl 1 ((6 * y) + x)))), (11, ov_i (x11 + 1))]) (List.Sublist.subset (by repeat (first | exact List.Sublist.refl _ | apply List.Sublist.cons_cons | apply List.Sublist.cons))) ?_
                exact ih5 (x11 + 1) _ _ I74 E75 E76 E77 E78 E79 E80 E81 E82 E83 E84 E85 E86 E87 E88 E89 E90 (by show 0 ≤ (x11 + 1) ∧ (x11 + 1) ≤ 3 ∧ (v2 = 0 → (x11 + 1) ≤ 2) ∧ (h73 90 2) = (h 90 2) ∧ (h73 90 7) = (h 90 7) ∧ (h73 90 8) = (h 90 8) ∧ (h73 90 13) = (h 90 13) ∧ (h73 90 20) = (h 90 20) ∧ (h73 90 22) = (h 90 22) ∧ (h73 90 25) = (h 90 25) ∧ (h73 90 26) = (h 90 26) ∧ (h73 90 28) = (h 90 28) ∧ (h73 90 29) = (h 90 29) ∧ (h73 90 30) = (h 90 30) ∧ (h73 90 34) = (h 90 34); omega) (by omega)
              · omega
            · omega
        · skip
          have f3_ : v2 = 1 := by omega
          have f92 : x = (h 96 0) - 1 ∧ y = (h 96 1) - 1 := f3.2.1 (by omega)
          clear f3
          refine ov_blk (ls2 := [(0, ov_r 90), (1, ov_i x), (2, ov_i y), (3, ov_i s), (4, ov_i m), (5, ov_l co), (7, ov_i ws), (8, ov_i v2), (9, ov_l (ov_lor co (ov_lshl 1 ((6 * y) + x)))), (11, ov_i x11)]) (st2 := [ov_i 2, ov_i x11]) (pc2 := 49) b_304_46_2 rfl rfl ?_
          refine ov_icne (tgt := 158) d_304_49 (by decide) (by omega) (by omega) (fun c93 => ?_) (fun c93 => ?_)
          · skip
            refine ov_blk (ls2 := [(0, ov_r 90), (1, ov_i x), (2, ov_i y), (3, ov_i s), (4, ov_i m), (5, ov_l co), (7, ov_i ws), (8, ov_i v2), (9, ov_l (ov_lor co (ov_lshl 1 ((6 * y) + x)))), (11, ov_i (x11 + 1))]) (st2 := []) (pc2 := 161) b_304_158_1 rfl rfl ?_
            refine ov_goto (tgt := 24) d_304_161 (by decide) ?_
            exact ih5 (x11 + 1) _ _ I10 E11 E12 E13 E14 E15 E16 E17 E18 E19 E20 E21 E22 E23 E24 E25 E26 (by show 0 ≤ (x11 + 1) ∧ (x11 + 1) ≤ 3 ∧ (v2 = 0 → (x11 + 1) ≤ 2) ∧ (h9 90 2) = (h 90 2) ∧ (h9 90 7) = (h 90 7) ∧ (h9 90 8) = (h 90 8) ∧ (h9 90 13) = (h 90 13) ∧ (h9 90 20) = (h 90 20) ∧ (h9 90 22) = (h 90 22) ∧ (h9 90 25) = (h 90 25) ∧ (h9 90 26) = (h 90 26) ∧ (h9 90 28) = (h 90 28) ∧ (h9 90 29) = (h 90 29) ∧ (h9 90 30) = (h 90 30) ∧ (h9 90 34) = (h 90 34); omega) (by omega)
          · omega
      · skip
        refine ov_blk (ls2 := [(0, ov_r 90), (1, ov_i x), (2, ov_i y), (3, ov_i s), (4, ov_i m), (5, ov_l co), (7, ov_i ws), (8, ov_i v2), (9, ov_l (ov_lor co (ov_lshl 1 ((6 * y) + x)))), (11, ov_i x11)]) (st2 := [ov_i v2]) (pc2 := 32) b_304_30_1 rfl rfl ?_
        refine ov_ifeq (tgt := 164) d_304_32 (by decide) (by omega) (fun c94 => ?_) (fun c94 => ?_)
        · skip
          have f3_ : v2 = 0 := by omega
          have f95 : ¬ (x = (h 96 0) - 1 ∧ y = (h 96 1) - 1) := f3.2.2 (by omega)
          clear f3
          exact ov_retv (st := []) d_304_164 rfl ⟨rfl, I10, (by show (h9 90 2) = (h 90 2) ∧ (h9 90 7) = (h 90 7) ∧ (h9 90 8) = (h 90 8) ∧ (h9 90 13) = (h 90 13) ∧ (h9 90 20) = (h 90 20) ∧ (h9 90 22) = (h 90 22) ∧ (h9 90 25) = (h 90 25) ∧ (h9 90 26) = (h 90 26) ∧ (h9 90 28) = (h 90 28) ∧ (h9 90 29) = (h 90 29) ∧ (h9 90 30) = (h 90 30) ∧ (h9 90 34) = (h 90 34); omega), E11, E12, E13, E14, E15, E16, E17, E18, E19, E20, E21, E22, E23, E24, E25, E26⟩
        · skip
          have f3_ : v2 = 1 := by omega
          have f96 : x = (h 96 0) - 1 ∧ y = (h 96 1) - 1 := f3.2.1 (by omega)
          clear f3
          refine ov_blk (ls2 := [(0, ov_r 90), (1, ov_i x), (2, ov_i y), (3, ov_i s), (4, ov_i m), (5, ov_l co), (7, ov_i ws), (8, ov_i v2), (9, ov_l (ov_lor co (ov_lshl 1 ((6 * y) + x)))), (11, ov_i x11)]) (st2 := [ov_i 3, ov_i x11]) (pc2 := 38) b_304_35_2 rfl rfl ?_
          refine ov_icge (tgt := 164) d_304_38 (by decide) (by omega) (by omega) (fun c97 => ?_) (fun c97 => ?_)
          · skip
            exact ov_retv (st := []) d_304_164 rfl ⟨rfl, I10, (by show (h9 90 2) = (h 90 2) ∧ (h9 90 7) = (h 90 7) ∧ (h9 90 8) = (h 90 8) ∧ (h9 90 13) = (h 90 13) ∧ (h9 90 20) = (h 90 20) ∧ (h9 90 22) = (h 90 22) ∧ (h9 90 25) = (h 90 25) ∧ (h9 90 26) = (h 90 26) ∧ (h9 90 28) = (h 90 28) ∧ (h9 90 29) = (h 90 29) ∧ (h9 90 30) = (h 90 30) ∧ (h9 90 34) = (h 90 34); omega), E11, E12, E13, E14, E15, E16, E17, E18, E19, E20, E21, E22, E23, E24, E25, E26⟩
          · skip
            refine ov_blk (ls2 := [(0, ov_r 90), (1, ov_i x), (2, ov_i y), (3, ov_i s), (4, ov_i m), (5, ov_l co), (7, ov_i ws), (8, ov_i v2), (9, ov_l (ov_lor co (ov_lshl 1 ((6 * y) + x)))), (11, ov_i x11)]) (st2 := [ov_i v2]) (pc2 := 43) b_304_41_1 rfl rfl ?_
            refine ov_ifeq (tgt := 55) d_304_43 (by decide) (by omega) (fun c98 => ?_) (fun c98 => ?_)
            · omega
            · skip
              refine ov_blk (ls2 := [(0, ov_r 90), (1, ov_i x), (2, ov_i y), (3, ov_i s), (4, ov_i m), (5, ov_l co), (7, ov_i ws), (8, ov_i v2), (9, ov_l (ov_lor co (ov_lshl 1 ((6 * y) + x)))), (11, ov_i x11)]) (st2 := [ov_i 2, ov_i x11]) (pc2 := 49) b_304_46_2 rfl rfl ?_
              refine ov_icne (tgt := 158) d_304_49 (by decide) (by omega) (by omega) (fun c99 => ?_) (fun c99 => ?_)
              · omega
              · skip
                refine ov_goto (tgt := 66) d_304_52 (by decide) ?_
                refine ov_blk (ls2 := [(0, ov_r 90), (1, ov_i x), (2, ov_i y), (3, ov_i s), (4, ov_i m), (5, ov_l co), (7, ov_i ws), (8, ov_i v2), (9, ov_l (ov_lor co (ov_lshl 1 ((6 * y) + x)))), (11, ov_i x11)]) (st2 := [ov_i v2]) (pc2 := 68) b_304_66_1 rfl rfl ?_
                refine ov_ifeq (tgt := 77) d_304_68 (by decide) (by omega) (fun c100 => ?_) (fun c100 => ?_)
                · omega
                · skip
                  refine ov_ldcw (n := 2000000000) d_304_71 kc_Mo_338 ?_
                  refine ov_goto (tgt := 88) d_304_74 (by decide) ?_
                  refine ov_blk (ls2 := [(0, ov_r 90), (1, ov_i x), (2, ov_i y), (3, ov_i s), (4, ov_i m), (5, ov_l co), (7, ov_i ws), (8, ov_i v2), (9, ov_l (ov_lor co (ov_lshl 1 ((6 * y) + x)))), (11, ov_i x11), (12, ov_i 2000000000)]) (st2 := [ov_i 2000000000, ov_i s, ov_i y, ov_i x, ov_r 90, ov_i m]) (pc2 := 98) b_304_88_7 rfl rfl ?_
                  refine ov_cV (as := [ov_i x, ov_i y, ov_i s, ov_i 2000000000]) (st := [ov_i m]) (d2 := d - 1) d_304_98 lk_Mo_450 rfl (Nat.le_of_ble_eq_true rfl) (c := 1) (zb_90 I10) (zs_90 I10) ⟨by decide, rfl⟩ (by omega) (c_Mo_wasBetween_90 (d - 1) (by omega) U I10 x y s 2000000000 (by omega) (by omega) (by omega) (by omega)) ?_
                  rintro _ _ _ ⟨v102, rfl, rfl, rfl, f101⟩
                  show ov_R u d ov_m304 101 [(0, ov_r 90), (1, ov_i x), (2, ov_i y), (3, ov_i s), (4, ov_i m), (5, ov_l co), (7, ov_i ws), (8, ov_i v2), (9, ov_l (ov_lor co (ov_lshl 1 ((6 * y) + x)))), (11, ov_i x11), (12, ov_i 2000000000)] [ov_i v102, ov_i m] z8 h9 (P_Mo_goesOn_90 F z h x y s m co ws)
                  have f103 : -2147483648 ≤ v102 ∧ v102 ≤ 2147483647 := f101
                  clear f101
                  refine ov_blk (ls2 := [(0, ov_r 90), (1, ov_i x), (2, ov_i y), (3, ov_i s), (4, ov_i m), (5, ov_l co), (7, ov_i ws), (8, ov_i v2), (9, ov_l (ov_lor co (ov_lshl 1 ((6 * y) + x)))), (11, ov_i x11), (12, ov_i 2000000000), (13, ov_i (ov_or m v102))]) (st2 := [ov_i v2]) (pc2 := 106) b_304_101_3 rfl rfl ?_
                  have g104 := ov_org m v102
                  refine ov_ifeq (tgt := 122) d_304_106 (by decide) (by omega) (fun c105 => ?_) (fun c105 => ?_)
                  · omega
                  · skip
                    refine ov_blk (ls2 := [(0, ov_r 90), (1, ov_i x), (2, ov_i y), (3, ov_i s), (4, ov_i m), (5, ov_l co), (7, ov_i ws), (8, ov_i v2), (9, ov_l (ov_lor co (ov_lshl 1 ((6 * y) + x)))), (11, ov_i x11), (12, ov_i 2000000000), (13, ov_i (ov_or m v102))]) (st2 := [ov_i ws, ov_l (ov_lor co (ov_lshl 1 ((6 * y) + x))), ov_i (ov_or m v102), ov_r 90]) (pc2 := 116) b_304_109_4 rfl rfl ?_
                    refine ov_cV (as := [ov_i (ov_or m v102), ov_l (ov_lor co (ov_lshl 1 ((6 * y) + x))), ov_i ws]) (st := []) (d2 := d - 1) d_304_116 lk_Mo_453 rfl (Nat.le_of_ble_eq_true rfl) (c := 1) (zb_90 I10) (zs_90 I10) ⟨by decide, rfl⟩ (by omega) (c_Mo_fits0_90 (d - 1) (by omega) U I10 (ov_or m v102) (ov_lor co (ov_lshl 1 ((6 * y) + x))) ws (by omega) (by omega)) ?_
                    rintro _ z123 h124 ⟨rfl, I125, f106, e107, e108, e109, e110, e111, e112, e113, e114, e115, e116, e117, e118, e119, e120, e121, e122⟩
                    have E126 : h124 91 = h 91 := Eq.trans e107 E11
                    have E127 : h124 92 = h 92 := Eq.trans e108 E12
                    have E128 : h124 93 = h 93 := Eq.trans e109 E13
                    have E129 : h124 94 = h 94 := Eq.trans e110 E14
                    have E130 : h124 95 = h 95 := Eq.trans e111 E15
                    have E131 : h124 96 = h 96 := Eq.trans e112 E16
                    have E132 : h124 97 = h 97 := Eq.trans e113 E17
                    have E133 : h124 98 = h 98 := Eq.trans e114 E18
                    have E134 : h124 99 = h 99 := Eq.trans e115 E19
                    have E135 : h124 100 = h 100 := Eq.trans e116 E20
                    have E136 : h124 103 = h 103 := Eq.trans e117 E21
                    have E137 : h124 104 = h 104 := Eq.trans e118 E22
                    have E138 : h124 105 = h 105 := Eq.trans e119 E23
                    have E139 : h124 106 = h 106 := Eq.trans e120 E24
                    have E140 : h124 109 = h 109 := Eq.trans e121 E25
                    have E141 : h124 114 = h 114 := Eq.trans e122 E26
                    show ov_R u d ov_m304 119 [(0, ov_r 90), (1, ov_i x), (2, ov_i y), (3, ov_i s), (4, ov_i m), (5, ov_l co), (7, ov_i ws), (8, ov_i v2), (9, ov_l (ov_lor co (ov_lshl 1 ((6 * y) + x)))), (11, ov_i x11), (12, ov_i 2000000000), (13, ov_i (ov_or m v102))] [] z123 h124 (P_Mo_goesOn_90 F z h x y s m co ws)
                    have f142 : (h124 90 2) = (h9 90 2) ∧ (h124 90 7) = (h9 90 7) ∧ (h124 90 8) = (h9 90 8) ∧ (h124 90 13) = (h9 90 13) ∧ (h124 90 20) = (h9 90 20) ∧ (h124 90 22) = (h9 90 22) ∧ (h124 90 25) = (h9 90 25) ∧ (h124 90 26) = (h9 90 26) ∧ (h124 90 28) = (h9 90 28) ∧ (h124 90 29) = (h9 90 29) ∧ (h124 90 30) = (h9 90 30) ∧ (h124 90 34) = (h9 90 34) := f106
                    clear f106
                    refine ov_goto (tgt := 158) d_304_119 (by decide) ?_
                    refine ov_blk (ls2 := [(0, ov_r 90), (1, ov_i x), (2, ov_i y), (3, ov_i s), (4, ov_i m), (5, ov_l co), (7, ov_i ws), (8, ov_i v2), (9, ov_l (ov_lor co (ov_lshl 1 ((6 * y) + x)))), (11, ov_i (x11 + 1)), (12, ov_i 2000000000), (13, ov_i (ov_or m v102))]) (st2 := []) (pc2 := 161) b_304_158_1 rfl rfl ?_
                    refine ov_goto (tgt := 24) d_304_161 (by decide) ?_
                    refine ov_sub (ls2 := [(0, ov_r 90), (1, ov_i x), (2, ov_i y), (3, ov_i s), (4, ov_i m), (5, ov_l co), (7, ov_i ws), (8, ov_i v2), (9, ov_l (ov_lor co (ov_lshl 1 ((6 * y) + x)))), (11, ov_i (x11 + 1))]) (List.Sublist.subset (by repeat (first | exact List.Sublist.refl _ | apply List.Sublist.cons_cons | apply List.Sublist.cons))) ?_
                    exact ih5 (x11 + 1) _ _ I125 E126 E127 E128 E129 E130 E131 E132 E133 E134 E135 E136 E137 E138 E139 E140 E141 (by show 0 ≤ (x11 + 1) ∧ (x11 + 1) ≤ 3 ∧ (v2 = 0 → (x11 + 1) ≤ 2) ∧ (h124 90 2) = (h 90 2) ∧ (h124 90 7) = (h 90 7) ∧ (h124 90 8) = (h 90 8) ∧ (h124 90 13) = (h 90 13) ∧ (h124 90 20) = (h 90 20) ∧ (h124 90 22) = (h 90 22) ∧ (h124 90 25) = (h 90 25) ∧ (h124 90 26) = (h 90 26) ∧ (h124 90 28) = (h 90 28) ∧ (h124 90 29) = (h 90 29) ∧ (h124 90 30) = (h 90 30) ∧ (h124 90 34) = (h 90 34); omega) (by omega)
  exact L7 4 0 _ _ I rfl rfl rfl rfl rfl rfl rfl rfl rfl rfl rfl rfl rfl rfl rfl rfl (by show 0 ≤ 0 ∧ 0 ≤ 3 ∧ (v2 = 0 → 0 ≤ 2) ∧ (h 90 2) = (h 90 2) ∧ (h 90 7) = (h 90 7) ∧ (h 90 8) = (h 90 8) ∧ (h 90 13) = (h 90 13) ∧ (h 90 20) = (h 90 20) ∧ (h 90 22) = (h 90 22) ∧ (h 90 25) = (h 90 25) ∧ (h 90 26) = (h 90 26) ∧ (h 90 28) = (h 90 28) ∧ (h 90 29) = (h 90 29) ∧ (h 90 30) = (h 90 30) ∧ (h 90 34) = (h 90 34); omega) (by omega)
theorem c_Mo_goesOn_90_all {u : ov_U} {F : ov_H × ov_Z} (k : Nat) : ∀ {z : ov_Z} {h : ov_H} (d : Nat) (hd : (10 + 2 * k + 1) ≤ d) (U : ov_cap u) (I : ov_N F z h) (x : Int) (y : Int) (s : Int) (m : Int) (co : Int) (ws : Int) (g_x : ov_g x) (g_y : ov_g y) (g_s : ov_g s) (g_m : ov_g m) (g_ws : ov_g ws) (p0 : 0 ≤ x ∧ x ≤ 5 ∧ 0 ≤ y ∧ y ≤ 8) (p1 : x < (h 96 0) ∧ y < (h 96 1)) (p2 : x + y + (k : Int) = 13) (p3 : 0 ≤ s ∧ s + 89 * (k : Int) ≤ 3000000) (W : ov_WT (h 96)), ov_T u d ov_m304 [ov_r 90, ov_i x, ov_i y, ov_i s, ov_i m, ov_l co, ov_i ws] z h (P_Mo_goesOn_90 F z h x y s m co ws) := by
  induction k using Nat.strongRecOn with
  | ind k ih => exact fun {z} {h} => @c_Mo_goesOn_90 u F k (fun k' hk => @ih k' hk) z h

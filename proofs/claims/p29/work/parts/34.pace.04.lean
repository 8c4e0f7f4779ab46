abbrev P_Pace_solve_49_70_86 (F : ov_H) (z : ov_Z) (h : ov_H) (s : Int) : Option ov_V → ov_Z → ov_H → Prop := fun r0 z' h' => ∃ r : Int, r0 = some (ov_i r) ∧ ov_I F z' h' ∧ ((r = 0 ∨ r = 1) ∧ (h' 36 7) = (h 36 7) ∧ (h' 1 1) = (h 1 1) ∧ (h' 90 2) = (h 90 2) ∧ (h' 0 10) = (h 0 10) ∧ (h' 0 11) = (h 0 11) ∧ (h' 0 12) = (h 0 12) ∧ (h' 0 13) = (h 0 13) ∧ (h' 3 1) = (h 3 1) ∧ (h' 36 8) = (h 36 8) ∧ (h' 46 3) = (h 46 3) ∧ (h' 46 4) = (h 46 4) ∧ (h' 64 0) = (h 64 0) ∧ (h' 76 0) = (h 76 0))
set_option maxHeartbeats 4000000 in
theorem c_Pace_solve_49_70_86 {u : ov_U} {F : ov_H} {z : ov_Z} {h : ov_H} (d : Nat) (hd : 70 ≤ d) (U : ov_cap u) (I : ov_I F z h) (s : Int) (g_s : ov_g s) : ov_T u d ov_m165 [ov_r 49, ov_r 70, ov_r 86, ov_i s] z h (P_Pace_solve_49_70_86 F z h s) := by
  refine ov_en rfl (Nat.le_of_ble_eq_true rfl) ?_
  show ov_R u d ov_m165 0 [(0, ov_r 49), (1, ov_r 70), (2, ov_r 86), (3, ov_i s)] [] z h (P_Pace_solve_49_70_86 F z h s)
  refine ov_blk (ls2 := [(0, ov_r 49), (1, ov_r 70), (2, ov_r 86), (3, ov_i s)]) (st2 := [ov_r 49]) (pc2 := 1) b_165_0_1 rfl rfl ?_
  refine ov_getf (v := ov_i (h 49 7)) d_165_1 fl_Pace_22 (zb_49 I) (zs_49 I) rfl ?_
  have g1 := rg_49_7 I
  refine ov_blk (ls2 := [(0, ov_r 49), (1, ov_r 70), (2, ov_r 86), (3, ov_i s)]) (st2 := [ov_i s, ov_i (h 49 7)]) (pc2 := 5) b_165_4_1 rfl rfl ?_
  refine ov_icne (tgt := 13) d_165_5 (by decide) (by omega) (by omega) (fun c2 => ?_) (fun c2 => ?_)
  · skip
    refine ov_blk (ls2 := [(0, ov_r 49), (1, ov_r 70), (2, ov_r 86), (3, ov_i s)]) (st2 := [ov_i s, ov_r 49]) (pc2 := 15) b_165_13_2 rfl rfl ?_
    refine ov_putf (x := s) d_165_15 fl_Pace_22 (zb_49 I) (zs_49 I) rfl nk_0 rfl ?_
    have I3 := up_49_7 (x := s) I (by omega)
    refine ov_blk (ls2 := [(0, ov_r 49), (1, ov_r 70), (2, ov_r 86), (3, ov_i s)]) (st2 := [ov_r 70, ov_r 49]) (pc2 := 20) b_165_18_2 rfl rfl ?_
    refine ov_putf (x := 70) d_165_20 fl_Pace_30 (zb_49 I3) (zs_49 I3) rfl nk_2 rfl ?_
    have I4 := up_49_4 (x := 70) I3 (by omega)
    refine ov_blk (ls2 := [(0, ov_r 49), (1, ov_r 70), (2, ov_r 86), (3, ov_i s)]) (st2 := [ov_r 86, ov_r 49]) (pc2 := 25) b_165_23_2 rfl rfl ?_
    refine ov_putf (x := 86) d_165_25 fl_Pace_34 (zb_49 I4) (zs_49 I4) rfl nk_2 rfl ?_
    have I5 := up_49_5 (x := 86) I4 (by omega)
    refine ov_blk (ls2 := [(0, ov_r 49), (1, ov_r 70), (2, ov_r 86), (3, ov_i s)]) (st2 := [ov_r 49, ov_r 49]) (pc2 := 30) b_165_28_2 rfl rfl ?_
    refine ov_getf (v := ov_r 70) d_165_30 fl_Pace_30 (zb_49 I5) (zs_49 I5) rfl ?_
    refine ov_getf (v := ov_i (h 70 8)) d_165_33 fl_Pace_38 (zb_70 I5) (zs_70 I5) rfl ?_
    have g6 := rg_70_8 I
    refine ov_ifeq (tgt := 43) d_165_36 (by decide) (by omega) (fun c7 => ?_) (fun c7 => ?_)
    · skip
      refine ov_blk (ls2 := [(0, ov_r 49), (1, ov_r 70), (2, ov_r 86), (3, ov_i s)]) (st2 := [ov_r 49, ov_r 49]) (pc2 := 44) b_165_43_1 rfl rfl ?_
      refine ov_getf (v := ov_r 70) d_165_44 fl_Pace_30 (zb_49 I5) (zs_49 I5) rfl ?_
      refine ov_getf (v := ov_r 76) d_165_47 fl_Pace_43 (zb_70 I5) (zs_70 I5) (congrArg ov_r (rg_70_7 I5)) ?_
      refine ov_blk (ls2 := [(0, ov_r 49), (1, ov_r 70), (2, ov_r 86), (3, ov_i s)]) (st2 := [ov_i 3, ov_r 76, ov_r 49]) (pc2 := 51) b_165_50_1 rfl rfl ?_
      refine ov_iald d_165_51 (zb_76 I5) (zs_76 I5) (by omega) ?_
      show ov_R u d ov_m165 52 [(0, ov_r 49), (1, ov_r 70), (2, ov_r 86), (3, ov_i s)] [ov_i (h 76 3), ov_r 49] z (ov_up (ov_up (ov_up h 49 7 s) 49 4 70) 49 5 86) (P_Pace_solve_49_70_86 F z h s)
      have g8 := ra_76 I 3
      refine ov_putf (x := (h 76 3)) d_165_52 fl_Pace_46 (zb_49 I5) (zs_49 I5) rfl nk_0 rfl ?_
      have I9 := up_49_6 (x := (h 76 3)) I5 (by omega)
      refine ov_blk (ls2 := [(0, ov_r 49), (1, ov_r 70), (2, ov_r 86), (3, ov_i s)]) (st2 := [ov_r 49]) (pc2 := 56) b_165_55_1 rfl rfl ?_
      refine ov_getf (v := ov_r 51) d_165_56 fl_Pace_18 (zb_49 I9) (zs_49 I9) (congrArg ov_r (rg_49_3 I9)) ?_
      refine ov_blk (ls2 := [(0, ov_r 49), (1, ov_r 70), (2, ov_r 86), (3, ov_i s)]) (st2 := [ov_r 49, ov_r 51]) (pc2 := 60) b_165_59_1 rfl rfl ?_
      refine ov_getf (v := ov_r 86) d_165_60 fl_Pace_34 (zb_49 I9) (zs_49 I9) rfl ?_
      refine ov_getf (v := ov_i (h 86 0)) d_165_63 fl_Pace_49 (zb_86 I9) (zs_86 I9) rfl ?_
      have g10 := rg_86_0 I
      refine ov_blk (ls2 := [(0, ov_r 49), (1, ov_r 70), (2, ov_r 86), (3, ov_i s)]) (st2 := [ov_r 49, ov_i (h 86 0), ov_r 51]) (pc2 := 67) b_165_66_1 rfl rfl ?_
      refine ov_getf (v := ov_i (h 76 3)) d_165_67 fl_Pace_46 (zb_49 I9) (zs_49 I9) rfl ?_
      refine ov_blk (ls2 := [(0, ov_r 49), (1, ov_r 70), (2, ov_r 86), (3, ov_i s)]) (st2 := [ov_i ((h 76 3) + 1), ov_i (h 86 0), ov_r 51]) (pc2 := 72) b_165_70_2 rfl rfl ?_
      have fm := ov_mulb (q := (h 86 0)) (b := ((h 76 3) + 1)) (A := 13) (B := 10) (by omega) (by omega) (by omega) (by omega)
      refine ov_blk (ls2 := [(0, ov_r 49), (1, ov_r 70), (2, ov_r 86), (3, ov_i s)]) (st2 := [ov_r 49, ov_i ((h 86 0) * ((h 76 3) + 1)), ov_r 51]) (pc2 := 74) b_165_72_2 rfl rfl ?_
      refine ov_getf (v := ov_r 70) d_165_74 fl_Pace_30 (zb_49 I9) (zs_49 I9) rfl ?_
      refine ov_getf (v := ov_i (h 70 10)) d_165_77 fl_Pace_54 (zb_70 I9) (zs_70 I9) rfl ?_
      have g11 := rg_70_10 I
      have fn := ov_mulb (q := ((h 86 0) * ((h 76 3) + 1))) (b := (h 70 10)) (A := 130) (B := 1200) (by omega) (by omega) (by omega) (by omega)
      refine ov_blk (ls2 := [(0, ov_r 49), (1, ov_r 70), (2, ov_r 86), (3, ov_i s)]) (st2 := [ov_i (((h 86 0) * ((h 76 3) + 1)) * (h 70 10)), ov_r 51]) (pc2 := 81) b_165_80_1 rfl rfl ?_
      refine ov_cV (as := [ov_i (((h 86 0) * ((h 76 3) + 1)) * (h 70 10))]) (st := []) (d2 := d - 1) d_165_81 lk_Pace_57 rfl (Nat.le_of_ble_eq_true rfl) (c := 4) (zb_51 I9) (zs_51 I9) ⟨by decide, rfl⟩ (by omega) (c_Memo_clear_51 (d - 1) (by omega) U I9 (((h 86 0) * ((h 76 3) + 1)) * (h 70 10)) (by omega) (by omega)) ?_
      rintro _ z13 h14 ⟨rfl, I15, f12⟩
      show ov_R u d ov_m165 84 [(0, ov_r 49), (1, ov_r 70), (2, ov_r 86), (3, ov_i s)] [] z13 h14 (P_Pace_solve_49_70_86 F z h s)
      have f16 : (h14 36 7) = (h 36 7) ∧ (h14 1 1) = (h 1 1) ∧ (h14 90 2) = (h 90 2) ∧ (h14 0 10) = (h 0 10) ∧ (h14 0 11) = (h 0 11) ∧ (h14 0 12) = (h 0 12) ∧ (h14 0 13) = (h 0 13) ∧ (h14 3 1) = (h 3 1) ∧ (h14 36 8) = (h 36 8) ∧ (h14 46 3) = (h 46 3) ∧ (h14 46 4) = (h 46 4) ∧ (h14 49 4) = 70 ∧ (h14 49 5) = 86 ∧ (h14 64 0) = (h 64 0) ∧ (h14 76 0) = (h 76 0) := f12
      clear f12
      have e17 : h14 49 4 = 70 := by omega
      have e18 : h14 49 5 = 86 := by omega
      refine ov_blk (ls2 := [(0, ov_r 49), (1, ov_r 70), (2, ov_r 86), (3, ov_i s)]) (st2 := [ov_r 49, ov_i s, ov_i 0, ov_i 0, ov_r 49]) (pc2 := 89) b_165_84_5 rfl rfl ?_
      refine ov_getf (v := ov_r 70) d_165_89 fl_Pace_30 (zb_49 I15) (zs_49 I15) (congrArg ov_r e17) ?_
      refine ov_getf (v := ov_i (h14 70 10)) d_165_92 fl_Pace_54 (zb_70 I15) (zs_70 I15) rfl ?_
      have g19 := rg_70_10 I15
      refine ov_cSN (as := [ov_i s, ov_i (h14 70 10)]) (st := [ov_i 0, ov_i 0, ov_r 49]) (d2 := d - 1) d_165_95 lk_Pace_61 rfl (Nat.le_of_ble_eq_true rfl) (by omega) (c_OF_modulo (d - 1) (by omega) U I15 s (h14 70 10) (by omega) (by omega)) ?_
      rintro _ _ _ ⟨v21, rfl, rfl, rfl, f20⟩
      show ov_R u d ov_m165 98 [(0, ov_r 49), (1, ov_r 70), (2, ov_r 86), (3, ov_i s)] [ov_i v21, ov_i 0, ov_i 0, ov_r 49] z13 h14 (P_Pace_solve_49_70_86 F z h s)
      have f22 : (0 < (h14 70 10) → 0 ≤ v21 ∧ v21 < (h14 70 10)) ∧ ((h14 70 10) ≤ 0 → v21 = 0) := f20
      clear f20
      refine ov_cV (as := [ov_i 0, ov_i 0, ov_i v21]) (st := []) (d2 := d - 1) d_165_98 lk_Pace_65 rfl (Nat.le_of_ble_eq_true rfl) (c := 5) (zb_49 I15) (zs_49 I15) ⟨by decide, rfl⟩ (by omega) (c_Pace_costFrom_49_k49_4_70_k49_5_86_all (Int.toNat (13 - (0))) (d - 1) (by omega) U I15 0 0 v21 e17 e18 (by omega) (by omega) (by omega) (by omega)) ?_
      rintro _ z25 h26 ⟨v24, rfl, I27, f23⟩
      show ov_R u d ov_m165 101 [(0, ov_r 49), (1, ov_r 70), (2, ov_r 86), (3, ov_i s)] [ov_i v24] z25 h26 (P_Pace_solve_49_70_86 F z h s)
      have f28 : -2147483648 ≤ v24 ∧ v24 ≤ 2147483647 ∧ (h26 36 7) = (h14 36 7) ∧ (h26 1 1) = (h14 1 1) ∧ (h26 90 2) = (h14 90 2) ∧ (h26 0 10) = (h14 0 10) ∧ (h26 0 11) = (h14 0 11) ∧ (h26 0 12) = (h14 0 12) ∧ (h26 0 13) = (h14 0 13) ∧ (h26 3 1) = (h14 3 1) ∧ (h26 36 8) = (h14 36 8) ∧ (h26 46 3) = (h14 46 3) ∧ (h26 46 4) = (h14 46 4) ∧ (h26 49 4) = (h14 49 4) ∧ (h26 49 5) = (h14 49 5) ∧ (h26 64 0) = (h14 64 0) ∧ (h26 76 0) = (h14 76 0) := f23
      clear f23
      have e29 : h26 49 4 = 70 := by omega
      have e30 : h26 49 5 = 86 := by omega
      refine ov_blk (ls2 := [(0, ov_r 49), (1, ov_r 70), (2, ov_r 86), (3, ov_i s), (4, ov_i v24)]) (st2 := [ov_i (-1), ov_i v24, ov_r 49]) (pc2 := 107) b_165_101_4 rfl rfl ?_
      refine ov_iceq (tgt := 114) d_165_107 (by decide) (by omega) (by omega) (fun c31 => ?_) (fun c31 => ?_)
      · skip
        refine ov_blk (ls2 := [(0, ov_r 49), (1, ov_r 70), (2, ov_r 86), (3, ov_i s), (4, ov_i v24)]) (st2 := [ov_i 0, ov_r 49]) (pc2 := 115) b_165_114_1 rfl rfl ?_
        refine ov_putf (x := 0) d_165_115 fl_Pace_26 (zb_49 I27) (zs_49 I27) rfl (nk_3 (by omega)) rfl ?_
        have I32 := up_49_8 (x := 0) I27 (by omega)
        refine ov_blk (ls2 := [(0, ov_r 49), (1, ov_r 70), (2, ov_r 86), (3, ov_i s), (4, ov_i v24)]) (st2 := [ov_r 49]) (pc2 := 119) b_165_118_1 rfl rfl ?_
        refine ov_getf (v := ov_i 0) d_165_119 fl_Pace_26 (zb_49 I32) (zs_49 I32) rfl ?_
        refine ov_ifeq (tgt := 162) d_165_122 (by decide) (by omega) (fun c33 => ?_) (fun c33 => ?_)
        · skip
          refine ov_blk (ls2 := [(0, ov_r 49), (1, ov_r 70), (2, ov_r 86), (3, ov_i s), (4, ov_i v24)]) (st2 := [ov_r 49]) (pc2 := 163) b_165_162_1 rfl rfl ?_
          refine ov_getf (v := ov_i 0) d_165_163 fl_Pace_26 (zb_49 I32) (zs_49 I32) rfl ?_
          exact ov_retz (st := []) d_165_166 rfl (by omega) ⟨_, rfl, I32, (by show (0 = 0 ∨ 0 = 1) ∧ (h26 36 7) = (h 36 7) ∧ (h26 1 1) = (h 1 1) ∧ (h26 90 2) = (h 90 2) ∧ (h26 0 10) = (h 0 10) ∧ (h26 0 11) = (h 0 11) ∧ (h26 0 12) = (h 0 12) ∧ (h26 0 13) = (h 0 13) ∧ (h26 3 1) = (h 3 1) ∧ (h26 36 8) = (h 36 8) ∧ (h26 46 3) = (h 46 3) ∧ (h26 46 4) = (h 46 4) ∧ (h26 64 0) = (h 64 0) ∧ (h26 76 0) = (h 76 0); omega)⟩
        · omega
      · skip
        refine ov_blk (ls2 := [(0, ov_r 49), (1, ov_r 70), (2, ov_r 86), (3, ov_i s), (4, ov_i v24)]) (st2 := [ov_i 1, ov_r 49]) (pc2 := 111) b_165_110_1 rfl rfl ?_
        refine ov_goto (tgt := 115) d_165_111 (by decide) ?_
        refine ov_putf (x := 1) d_165_115 fl_Pace_26 (zb_49 I27) (zs_49 I27) rfl (nk_3 (by omega)) rfl ?_
        have I34 := up_49_8 (x := 1) I27 (by omega)
        refine ov_blk (ls2 := [(0, ov_r 49), (1, ov_r 70), (2, ov_r 86), (3, ov_i s), (4, ov_i v24)]) (st2 := [ov_r 49]) (pc2 := 119) b_165_118_1 rfl rfl ?_
        refine ov_getf (v := ov_i 1) d_165_119 fl_Pace_26 (zb_49 I34) (zs_49 I34) rfl ?_
        refine ov_ifeq (tgt := 162) d_165_122 (by decide) (by omega) (fun c35 => ?_) (fun c35 => ?_)
        · omega
        · skip
          refine ov_blk (ls2 := [(0, ov_r 49), (1, ov_r 70), (2, ov_r 86), (3, ov_i s), (4, ov_i v24)]) (st2 := [ov_i 10000, ov_i v24, ov_r 49]) (pc2 := 131) b_165_125_3 rfl rfl ?_
          refine ov_idiv d_165_131 (by omega) (by omega) (by omega) ?_
          refine ov_havw (fun w36 gw36 qw36 => ?_)
          refine ov_putf (x := w36) d_165_132 fl_Pace_69 (zb_49 I34) (zs_49 I34) rfl nk_0 rfl ?_
          have I37 := up_49_0 (x := w36) I34 (by omega)
          refine ov_blk (ls2 := [(0, ov_r 49), (1, ov_r 70), (2, ov_r 86), (3, ov_i s), (4, ov_i v24)]) (st2 := [ov_i 10000, ov_i v24, ov_i s, ov_r 49]) (pc2 := 142) b_165_135_4 rfl rfl ?_
          refine ov_irem d_165_142 (by omega) (by omega) (by omega) ?_
          have g38 := ov_tmg (a := v24) (b := 10000) (by omega) (by omega)
          refine ov_blk (ls2 := [(0, ov_r 49), (1, ov_r 70), (2, ov_r 86), (3, ov_i s), (4, ov_i v24)]) (st2 := [ov_i (s + (Int.tmod v24 10000)), ov_r 49]) (pc2 := 144) b_165_143_1 rfl rfl ?_
          refine ov_havw (fun w39 gw39 qw39 => ?_)
          refine ov_putf (x := w39) d_165_144 fl_Pace_72 (zb_49 I37) (zs_49 I37) rfl nk_0 rfl ?_
          have I40 := up_49_1 (x := w39) I37 (by omega)
          refine ov_blk (ls2 := [(0, ov_r 49), (1, ov_r 70), (2, ov_r 86), (3, ov_i s), (4, ov_i v24)]) (st2 := [ov_r 49, ov_i s, ov_r 49]) (pc2 := 150) b_165_147_3 rfl rfl ?_
          refine ov_getf (v := ov_r 70) d_165_150 fl_Pace_30 (zb_49 I40) (zs_49 I40) (congrArg ov_r e29) ?_
          refine ov_getf (v := ov_i (h26 70 10)) d_165_153 fl_Pace_54 (zb_70 I40) (zs_70 I40) rfl ?_
          have g41 := rg_70_10 I27
          refine ov_cSN (as := [ov_i s, ov_i (h26 70 10)]) (st := [ov_r 49]) (d2 := d - 1) d_165_156 lk_Pace_61 rfl (Nat.le_of_ble_eq_true rfl) (by omega) (c_OF_modulo (d - 1) (by omega) U I40 s (h26 70 10) (by omega) (by omega)) ?_
          rintro _ _ _ ⟨v43, rfl, rfl, rfl, f42⟩
          show ov_R u d ov_m165 159 [(0, ov_r 49), (1, ov_r 70), (2, ov_r 86), (3, ov_i s), (4, ov_i v24)] [ov_i v43, ov_r 49] z25 (ov_up (ov_up (ov_up h26 49 8 1) 49 0 w36) 49 1 w39) (P_Pace_solve_49_70_86 F z h s)
          have f44 : (0 < (h26 70 10) → 0 ≤ v43 ∧ v43 < (h26 70 10)) ∧ ((h26 70 10) ≤ 0 → v43 = 0) := f42
          clear f42
          refine ov_cV (as := [ov_i v43]) (st := []) (d2 := d - 1) d_165_159 lk_Pace_75 rfl (Nat.le_of_ble_eq_true rfl) (c := 5) (zb_49 I40) (zs_49 I40) ⟨by decide, rfl⟩ (by omega) (c_Pace_layStreets_49_k49_4_70_k49_5_86 (d - 1) (by omega) U I40 v43 e29 e30 (by omega)) ?_
          rintro _ z46 h47 ⟨rfl, I48, f45⟩
          show ov_R u d ov_m165 162 [(0, ov_r 49), (1, ov_r 70), (2, ov_r 86), (3, ov_i s), (4, ov_i v24)] [] z46 h47 (P_Pace_solve_49_70_86 F z h s)
          have f49 : (h47 36 7) = (h26 36 7) ∧ (h47 1 1) = (h26 1 1) ∧ (h47 90 2) = (h26 90 2) ∧ (h47 0 10) = (h26 0 10) ∧ (h47 0 11) = (h26 0 11) ∧ (h47 0 12) = (h26 0 12) ∧ (h47 0 13) = (h26 0 13) ∧ (h47 3 1) = (h26 3 1) ∧ (h47 36 8) = (h26 36 8) ∧ (h47 46 3) = (h26 46 3) ∧ (h47 46 4) = (h26 46 4) ∧ (h47 49 4) = (h26 49 4) ∧ (h47 49 5) = (h26 49 5) ∧ (h47 64 0) = (h26 64 0) ∧ (h47 76 0) = (h26 76 0) := f45
          clear f45
          have e50 : h47 49 4 = 70 := by omega
          have e51 : h47 49 5 = 86 := by omega
          refine ov_blk (ls2 := [(0, ov_r 49), (1, ov_r 70), (2, ov_r 86), (3, ov_i s), (4, ov_i v24)]) (st2 := [ov_r 49]) (pc2 := 163) b_165_162_1 rfl rfl ?_
          refine ov_getf (v := ov_i (h47 49 8)) d_165_163 fl_Pace_26 (zb_49 I48) (zs_49 I48) rfl ?_
          have g52 := rg_49_8 I48
          exact ov_retz (st := []) d_165_166 rfl (by omega) ⟨_, rfl, I48, (by show ((h47 49 8) = 0 ∨ (h47 49 8) = 1) ∧ (h47 36 7) = (h 36 7) ∧ (h47 1 1) = (h 1 1) ∧ (h47 90 2) = (h 90 2) ∧ (h47 0 10) = (h 0 10) ∧ (h47 0 11) = (h 0 11) ∧ (h47 0 12) = (h 0 12) ∧ (h47 0 13) = (h 0 13) ∧ (h47 3 1) = (h 3 1) ∧ (h47 36 8) = (h 36 8) ∧ (h47 46 3) = (h 46 3) ∧ (h47 46 4) = (h 46 4) ∧ (h47 64 0) = (h 64 0) ∧ (h47 76 0) = (h 76 0); omega)⟩
    · skip
      refine ov_blk (ls2 := [(0, ov_r 49), (1, ov_r 70), (2, ov_r 86), (3, ov_i s)]) (st2 := [ov_i 0, ov_r 49]) (pc2 := 40) b_165_39_1 rfl rfl ?_
      refine ov_goto (tgt := 52) d_165_40 (by decide) ?_
      refine ov_putf (x := 0) d_165_52 fl_Pace_46 (zb_49 I5) (zs_49 I5) rfl nk_0 rfl ?_
      have I53 := up_49_6 (x := 0) I5 (by omega)
      refine ov_blk (ls2 := [(0, ov_r 49), (1, ov_r 70), (2, ov_r 86), (3, ov_i s)]) (st2 := [ov_r 49]) (pc2 := 56) b_165_55_1 rfl rfl ?_
      refine ov_getf (v := ov_r 51) d_165_56 fl_Pace_18 (zb_49 I53) (zs_49 I53) (congrArg ov_r (rg_49_3 I53)) ?_
      refine ov_blk (ls2 := [(0, ov_r 49), (1, ov_r 70), (2, ov_r 86), (3, ov_i s)]) (st2 := [ov_r 49, ov_r 51]) (pc2 := 60) b_165_59_1 rfl rfl ?_
      refine ov_getf (v := ov_r 86) d_165_60 fl_Pace_34 (zb_49 I53) (zs_49 I53) rfl ?_
      refine ov_getf (v := ov_i (h 86 0)) d_165_63 fl_Pace_49 (zb_86 I53) (zs_86 I53) rfl ?_
      have g54 := rg_86_0 I
      refine ov_blk (ls2 := [(0, ov_r 49), (1, ov_r 70), (2, ov_r 86), (3, ov_i s)]) (st2 := [ov_r 49, ov_i (h 86 0), ov_r 51]) (pc2 := 67) b_165_66_1 rfl rfl ?_
      refine ov_getf (v := ov_i 0) d_165_67 fl_Pace_46 (zb_49 I53) (zs_49 I53) rfl ?_
      refine ov_blk (ls2 := [(0, ov_r 49), (1, ov_r 70), (2, ov_r 86), (3, ov_i s)]) (st2 := [ov_i (0 + 1), ov_i (h 86 0), ov_r 51]) (pc2 := 72) b_165_70_2 rfl rfl ?_
      have fm := ov_mulb (q := (h 86 0)) (b := (0 + 1)) (A := 13) (B := 10) (by omega) (by omega) (by omega) (by omega)
      refine ov_blk (ls2 := [(0, ov_r 49), (1, ov_r 70), (2, ov_r 86), (3, ov_i s)]) (st2 := [ov_r 49, ov_i ((h 86 0) * (0 + 1)), ov_r 51]) (pc2 := 74) b_165_72_2 rfl rfl ?_
      refine ov_getf (v := ov_r 70) d_165_74 fl_Pace_30 (zb_49 I53) (zs_49 I53) rfl ?_
      refine ov_getf (v := ov_i (h 70 10)) d_165_77 fl_Pace_54 (zb_70 I53) (zs_70 I53) rfl ?_
      have g55 := rg_70_10 I
      have fn := ov_mulb (q := ((h 86 0) * (0 + 1))) (b := (h 70 10)) (A := 130) (B := 1200) (by omega) (by omega) (by omega) (by omega)
      refine ov_blk (ls2 := [(0, ov_r 49), (1, ov_r 70), (2, ov_r 86), (3, ov_i s)]) (st2 := [ov_i (((h 86 0) * (0 + 1)) * (h 70 10)), ov_r 51]) (pc2 := 81) b_165_80_1 rfl rfl ?_
      refine ov_cV (as := [ov_i (((h 86 0) * (0 + 1)) * (h 70 10))]) (st := []) (d2 := d - 1) d_165_81 lk_Pace_57 rfl (Nat.le_of_ble_eq_true rfl) (c := 4) (zb_51 I53) (zs_51 I53) ⟨by decide, rfl⟩ (by omega) (c_Memo_clear_51 (d - 1) (by omega) U I53 (((h 86 0) * (0 + 1)) * (h 70 10)) (by omega) (by omega)) ?_
      rintro _ z57 h58 ⟨rfl, I59, f56⟩
      show ov_R u d ov_m165 84 [(0, ov_r 49), (1, ov_r 70), (2, ov_r 86), (3, ov_i s)] [] z57 h58 (P_Pace_solve_49_70_86 F z h s)
      have f60 : (h58 36 7) = (h 36 7) ∧ (h58 1 1) = (h 1 1) ∧ (h58 90 2) = (h 90 2) ∧ (h58 0 10) = (h 0 10) ∧ (h58 0 11) = (h 0 11) ∧ (h58 0 12) = (h 0 12) ∧ (h58 0 13) = (h 0 13) ∧ (h58 3 1) = (h 3 1) ∧ (h58 36 8) = (h 36 8) ∧ (h58 46 3) = (h 46 3) ∧ (h58 46 4) = (h 46 4) ∧ (h58 49 4) = 70 ∧ (h58 49 5) = 86 ∧ (h58 64 0) = (h 64 0) ∧ (h58 76 0) = (h 76 0) := f56
      clear f56
      have e61 : h58 49 4 = 70 := by omega
      have e62 : h58 49 5 = 86 := by omega
      refine ov_blk (ls2 := [(0, ov_r 49), (1, ov_r 70), (2, ov_r 86), (3, ov_i s)]) (st2 := [ov_r 49, ov_i s, ov_i 0, ov_i 0, ov_r 49]) (pc2 := 89) b_165_84_5 rfl rfl ?_
      refine ov_getf (v := ov_r 70) d_165_89 fl_Pace_30 (zb_49 I59) (zs_49 I59) (congrArg ov_r e61) ?_
      refine ov_getf (v := ov_i (h58 70 10)) d_165_92 fl_Pace_54 (zb_70 I59) (zs_70 I59) rfl ?_
      have g63 := rg_70_10 I59
      refine ov_cSN (as := [ov_i s, ov_i (h58 70 10)]) (st := [ov_i 0, ov_i 0, ov_r 49]) (d2 := d - 1) d_165_95 lk_Pace_61 rfl (Nat.le_of_ble_eq_true rfl) (by omega) (c_OF_modulo (d - 1) (by omega) U I59 s (h58 70 10) (by omega) (by omega)) ?_
      rintro _ _ _ ⟨v65, rfl, rfl, rfl, f64⟩
      show ov_R u d ov_m165 98 [(0, ov_r 49), (1, ov_r 70), (2, ov_r 86), (3, ov_i s)] [ov_i v65, ov_i 0, ov_i 0, ov_r 49] z57 h58 (P_Pace_solve_49_70_86 F z h s)
      have f66 : (0 < (h58 70 10) → 0 ≤ v65 ∧ v65 < (h58 70 10)) ∧ ((h58 70 10) ≤ 0 → v65 = 0) := f64
      clear f64
      refine ov_cV (as := [ov_i 0, ov_i 0, ov_i v65]) (st := []) (d2 := d - 1) d_165_98 lk_Pace_65 rfl (Nat.le_of_ble_eq_true rfl) (c := 5) (zb_49 I59) (zs_49 I59) ⟨by decide, rfl⟩ (by omega) (c_Pace_costFrom_49_k49_4_70_k49_5_86_all (Int.toNat (13 - (0))) (d - 1) (by omega) U I59 0 0 v65 e61 e62 (by omega) (by omega) (by omega) (by omega)) ?_
      rintro _ z69 h70 ⟨v68, rfl, I71, f67⟩
      show ov_R u d ov_m165 101 [(0, ov_r 49), (1, ov_r 70), (2, ov_r 86), (3, ov_i s)] [ov_i v68] z69 h70 (P_Pace_solve_49_70_86 F z h s)
      have f72 : -2147483648 ≤ v68 ∧ v68 ≤ 2147483647 ∧ (h70 36 7) = (h58 36 7) ∧ (h70 1 1) = (h58 1 1) ∧ (h70 90 2) = (h58 90 2) ∧ (h70 0 10) = (h58 0 10) ∧ (h70 0 11) = (h58 0 11) ∧ (h70 0 12) = (h58 0 12) ∧ (h70 0 13) = (h58 0 13) ∧ (h70 3 1) = (h58 3 1) ∧ (h70 36 8) = (h58 36 8) ∧ (h70 46 3) = (h58 46 3) ∧ (h70 46 4) = (h58 46 4) ∧ (h70 49 4) = (h58 49 4) ∧ (h70 49 5) = (h58 49 5) ∧ (h70 64 0) = (h58 64 0) ∧ (h70 76 0) = (h58 76 0) := f67
      clear f67
      have e73 : h70 49 4 = 70 := by omega
      have e74 : h70 49 5 = 86 := by omega
      refine ov_blk (ls2 := [(0, ov_r 49), (1, ov_r 70), (2, ov_r 86), (3, ov_i s), (4, ov_i v68)]) (st2 := [ov_i (-1), ov_i v68, ov_r 49]) (pc2 := 107) b_165_101_4 rfl rfl ?_
      refine ov_iceq (tgt := 114) d_165_107 (by decide) (by omega) (by omega) (fun c75 => ?_) (fun c75 => ?_)
      · skip
        refine ov_blk (ls2 := [(0, ov_r 49), (1, ov_r 70), (2, ov_r 86), (3, ov_i s), (4, ov_i v68)]) (st2 := [ov_i 0, ov_r 49]) (pc2 := 115) b_165_114_1 rfl rfl ?_
        refine ov_putf (x := 0) d_165_115 fl_Pace_26 (zb_49 I71) (zs_49 I71) rfl (nk_3 (by omega)) rfl ?_
        have I76 := up_49_8 (x := 0) I71 (by omega)
        refine ov_blk (ls2 := [(0, ov_r 49), (1, ov_r 70), (2, ov_r 86), (3, ov_i s), (4, ov_i v68)]) (st2 := [ov_r 49]) (pc2 := 119) b_165_118_1 rfl rfl ?_
        refine ov_getf (v := ov_i 0) d_165_119 fl_Pace_26 (zb_49 I76) (zs_49 I76) rfl ?_
        refine ov_ifeq (tgt := 162) d_165_122 (by decide) (by omega) (fun c77 => ?_) (fun c77 => ?_)
        · skip
          refine ov_blk (ls2 := [(0, ov_r 49), (1, ov_r 70), (2, ov_r 86), (3, ov_i s), (4, ov_i v68)]) (st2 := [ov_r 49]) (pc2 := 163) b_165_162_1 rfl rfl ?_
          refine ov_getf (v := ov_i 0) d_165_163 fl_Pace_26 (zb_49 I76) (zs_49 I76) rfl ?_
          exact ov_retz (st := []) d_165_166 rfl (by omega) ⟨_, rfl, I76, (by show (0 = 0 ∨ 0 = 1) ∧ (h70 36 7) = (h 36 7) ∧ (h70 1 1) = (h 1 1) ∧ (h70 90 2) = (h 90 2) ∧ (h70 0 10) = (h 0 10) ∧ (h70 0 11) = (h 0 11) ∧ (h70 0 12) = (h 0 12) ∧ (h70 0 13) = (h 0 13) ∧ (h70 3 1) = (h 3 1) ∧ (h70 36 8) = (h 36 8) ∧ (h70 46 3) = (h 46 3) ∧ (h70 46 4) = (h 46 4) ∧ (h70 64 0) = (h 64 0) ∧ (h70 76 0) = (h 76 0); omega)⟩
        · omega
      · skip
        refine ov_blk (ls2 := [(0, ov_r 49), (1, ov_r 70), (2, ov_r 86), (3, ov_i s), (4, ov_i v68)]) (st2 := [ov_i 1, ov_r 49]) (pc2 := 111) b_165_110_1 rfl rfl ?_
        refine ov_goto (tgt := 115) d_165_111 (by decide) ?_
        refine ov_putf (x := 1) d_165_115 fl_Pace_26 (zb_49 I71) (zs_49 I71) rfl (nk_3 (by omega)) rfl ?_
        have I78 := up_49_8 (x := 1) I71 (by omega)
        refine ov_blk (ls2 := [(0, ov_r 49), (1, ov_r 70), (2, ov_r 86), (3, ov_i s), (4, ov_i v68)]) (st2 := [ov_r 49]) (pc2 := 119) b_165_118_1 rfl rfl ?_
        refine ov_getf (v := ov_i 1) d_165_119 fl_Pace_26 (zb_49 I78) (zs_49 I78) rfl ?_
        refine ov_ifeq (tgt := 162) d_165_122 (by decide) (by omega) (fun c79 => ?_) (fun c79 => ?_)
        · omega
        · skip
          refine ov_blk (ls2 := [(0, ov_r 49), (1, ov_r 70), (2, ov_r 86), (3, ov_i s), (4, ov_i v68)]) (st2 := [ov_i 10000, ov_i v68, ov_r 49]) (pc2 := 131) b_165_125_3 rfl rfl ?_
          refine ov_idiv d_165_131 (by omega) (by omega) (by omega) ?_
          refine ov_havw (fun w80 gw80 qw80 => ?_)
          refine ov_putf (x := w80) d_165_132 fl_Pace_69 (zb_49 I78) (zs_49 I78) rfl nk_0 rfl ?_
          have I81 := up_49_0 (x := w80) I78 (by omega)
          refine ov_blk (ls2 := [(0, ov_r 49), (1, ov_r 70), (2, ov_r 86), (3, ov_i s), (4, ov_i v68)]) (st2 := [ov_i 10000, ov_i v68, ov_i s, ov_r 49]) (pc2 := 142) b_165_135_4 rfl rfl ?_
          refine ov_irem d_165_142 (by omega) (by omega) (by omega) ?_
          have g82 := ov_tmg (a := v68) (b := 10000) (by omega) (by omega)
          refine ov_blk (ls2 := [(0, ov_r 49), (1, ov_r 70), (2, ov_r 86), (3, ov_i s), (4, ov_i v68)]) (st2 := [ov_i (s + (Int.tmod v68 10000)), ov_r 49]) (pc2 := 144) b_165_143_1 rfl rfl ?_
          refine ov_havw (fun w83 gw83 qw83 => ?_)
          refine ov_putf (x := w83) d_165_144 fl_Pace_72 (zb_49 I81) (zs_49 I81) rfl nk_0 rfl ?_
          have I84 := up_49_1 (x := w83) I81 (by omega)
          refine ov_blk (ls2 := [(0, ov_r 49), (1, ov_r 70), (2, ov_r 86), (3, ov_i s), (4, ov_i v68)]) (st2 := [ov_r 49, ov_i s, ov_r 49]) (pc2 := 150) b_165_147_3 rfl rfl ?_
          refine ov_getf (v := ov_r 70) d_165_150 fl_Pace_30 (zb_49 I84) (zs_49 I84) (congrArg ov_r e73) ?_
          refine ov_getf (v := ov_i (h70 70 10)) d_165_153 fl_Pace_54 (zb_70 I84) (zs_70 I84) rfl ?_
          have g85 := rg_70_10 I71
          refine ov_cSN (as := [ov_i s, ov_i (h70 70 10)]) (st := [ov_r 49]) (d2 := d - 1) d_165_156 lk_Pace_61 rfl (Nat.le_of_ble_eq_true rfl) (by omega) (c_OF_modulo (d - 1) (by omega) U I84 s (h70 70 10) (by omega) (by omega)) ?_
          rintro _ _ _ ⟨v87, rfl, rfl, rfl, f86⟩
          show ov_R u d ov_m165 159 [(0, ov_r 49), (1, ov_r 70), (2, ov_r 86), (3, ov_i s), (4, ov_i v68)] [ov_i v87, ov_r 49] z69 (ov_up (ov_up (ov_up h70 49 8 1) 49 0 w80) 49 1 w83) (P_Pace_solve_49_70_86 F z h s)
          have f88 : (0 < (h70 70 10) → 0 ≤ v87 ∧ v87 < (h70 70 10)) ∧ ((h70 70 10) ≤ 0 → v87 = 0) := f86
          clear f86
          refine ov_cV (as := [ov_i v87]) (st := []) (d2 := d - 1) d_165_159 lk_Pace_75 rfl (Nat.le_of_ble_eq_true rfl) (c := 5) (zb_49 I84) (zs_49 I84) ⟨by decide, rfl⟩ (by omega) (c_Pace_layStreets_49_k49_4_70_k49_5_86 (d - 1) (by omega) U I84 v87 e73 e74 (by omega)) ?_
          rintro _ z90 h91 ⟨rfl, I92, f89⟩
          show ov_R u d ov_m165 162 [(0, ov_r 49), (1, ov_r 70), (2, ov_r 86), (3, ov_i s), (4, ov_i v68)] [] z90 h91 (P_Pace_solve_49_70_86 F z h s)
          have f93 : (h91 36 7) = (h70 36 7) ∧ (h91 1 1) = (h70 1 1) ∧ (h91 90 2) = (h70 90 2) ∧ (h91 0 10) = (h70 0 10) ∧ (h91 0 11) = (h70 0 11) ∧ (h91 0 12) = (h70 0 12) ∧ (h91 0 13) = (h70 0 13) ∧ (h91 3 1) = (h70 3 1) ∧ (h91 36 8) = (h70 36 8) ∧ (h91 46 3) = (h70 46 3) ∧ (h91 46 4) = (h70 46 4) ∧ (h91 49 4) = (h70 49 4) ∧ (h91 49 5) = (h70 49 5) ∧ (h91 64 0) = (h70 64 0) ∧ (h91 76 0) = (h70 76 0) := f89
          clear f89
          have e94 : h91 49 4 = 70 := by omega
          have e95 : h91 49 5 = 86 := by omega
          refine ov_blk (ls2 := [(0, ov_r 49), (1, ov_r 70), (2, ov_r 86), (3, ov_i s), (4, ov_i v68)]) (st2 := [ov_r 49]) (pc2 := 163) b_165_162_1 rfl rfl ?_
          refine ov_getf (v := ov_i (h91 49 8)) d_165_163 fl_Pace_26 (zb_49 I92) (zs_49 I92) rfl ?_
          have g96 := rg_49_8 I92
          exact ov_retz (st := []) d_165_166 rfl (by omega) ⟨_, rfl, I92, (by show ((h91 49 8) = 0 ∨ (h91 49 8) = 1) ∧ (h91 36 7) = (h 36 7) ∧ (h91 1 1) = (h 1 1) ∧ (h91 90 2) = (h 90 2) ∧ (h91 0 10) = (h 0 10) ∧ (h91 0 11) = (h 0 11) ∧ (h91 0 12) = (h 0 12) ∧ (h91 0 13) = (h 0 13) ∧ (h91 3 1) = (h 3 1) ∧ (h91 36 8) = (h 36 8) ∧ (h91 46 3) = (h 46 3) ∧ (h91 46 4) = (h 46 4) ∧ (h91 64 0) = (h 64 0) ∧ (h91 76 0) = (h 76 0); omega)⟩
  · skip
    refine ov_blk (ls2 := [(0, ov_r 49), (1, ov_r 70), (2, ov_r 86), (3, ov_i s)]) (st2 := [ov_r 49]) (pc2 := 9) b_165_8_1 rfl rfl ?_
    refine ov_getf (v := ov_i (h 49 8)) d_165_9 fl_Pace_26 (zb_49 I) (zs_49 I) rfl ?_
    have g97 := rg_49_8 I
    exact ov_retz (st := []) d_165_12 rfl (by omega) ⟨_, rfl, I, (by show ((h 49 8) = 0 ∨ (h 49 8) = 1) ∧ (h 36 7) = (h 36 7) ∧ (h 1 1) = (h 1 1) ∧ (h 90 2) = (h 90 2) ∧ (h 0 10) = (h 0 10) ∧ (h 0 11) = (h 0 11) ∧ (h 0 12) = (h 0 12) ∧ (h 0 13) = (h 0 13) ∧ (h 3 1) = (h 3 1) ∧ (h 36 8) = (h 36 8) ∧ (h 46 3) = (h 46 3) ∧ (h 46 4) = (h 46 4) ∧ (h 64 0) = (h 64 0) ∧ (h 76 0) = (h 76 0); omega)⟩

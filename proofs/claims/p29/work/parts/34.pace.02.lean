set_option maxHeartbeats 4000000 in
theorem c_Pace_costFrom_49_k49_4_58_k49_5_86 {u : ov_U} {F : ov_H} (k : Nat) (HC : ∀ k' : Nat, k' < k → ∀ {z : ov_Z} {h : ov_H} (d : Nat) (hd : (20 + 2 * k' + 1) ≤ d) (U : ov_cap u) (I : ov_I F z h) (l : Int) (n : Int) (s : Int) (k0 : h 49 4 = 58) (k1 : h 49 5 = 86) (g_l : ov_g l) (g_n : ov_g n) (g_s : ov_g s) (p0 : 0 ≤ l ∧ l + (k' : Int) = 13), ov_T u d ov_m167 [ov_r 49, ov_i l, ov_i n, ov_i s] z h (P_Pace_costFrom_49_k49_4_58_k49_5_86 F z h l n s)) {z : ov_Z} {h : ov_H} (d : Nat) (hd : (20 + 2 * k + 1) ≤ d) (U : ov_cap u) (I : ov_I F z h) (l : Int) (n : Int) (s : Int) (k0 : h 49 4 = 58) (k1 : h 49 5 = 86) (g_l : ov_g l) (g_n : ov_g n) (g_s : ov_g s) (p0 : 0 ≤ l ∧ l + (k : Int) = 13) : ov_T u d ov_m167 [ov_r 49, ov_i l, ov_i n, ov_i s] z h (P_Pace_costFrom_49_k49_4_58_k49_5_86 F z h l n s) := by
  refine ov_en rfl (Nat.le_of_ble_eq_true rfl) ?_
  show ov_R u d ov_m167 0 [(0, ov_r 49), (1, ov_i l), (2, ov_i n), (3, ov_i s)] [] z h (P_Pace_costFrom_49_k49_4_58_k49_5_86 F z h l n s)
  refine ov_blk (ls2 := [(0, ov_r 49), (1, ov_i l), (2, ov_i n), (3, ov_i s)]) (st2 := [ov_r 49, ov_i l]) (pc2 := 2) b_167_0_2 rfl rfl ?_
  refine ov_getf (v := ov_r 86) d_167_2 fl_Pace_34 (zb_49 I) (zs_49 I) (congrArg ov_r k1) ?_
  refine ov_getf (v := ov_i (h 86 0)) d_167_5 fl_Pace_49 (zb_86 I) (zs_86 I) rfl ?_
  have g1 := rg_86_0 I
  refine ov_iclt (tgt := 13) d_167_8 (by decide) (by omega) (by omega) (fun c2 => ?_) (fun c2 => ?_)
  · skip
    refine ov_blk (ls2 := [(0, ov_r 49), (1, ov_i l), (2, ov_i n), (3, ov_i s)]) (st2 := [ov_r 49, ov_i l]) (pc2 := 15) b_167_13_2 rfl rfl ?_
    refine ov_getf (v := ov_i (h 49 6)) d_167_15 fl_Pace_46 (zb_49 I) (zs_49 I) rfl ?_
    have g3 := rg_49_6 I
    refine ov_blk (ls2 := [(0, ov_r 49), (1, ov_i l), (2, ov_i n), (3, ov_i s)]) (st2 := [ov_i ((h 49 6) + 1), ov_i l]) (pc2 := 20) b_167_18_2 rfl rfl ?_
    refine ov_havw (fun w4 gw4 qw4 => ?_)
    refine ov_blk (ls2 := [(0, ov_r 49), (1, ov_i l), (2, ov_i n), (3, ov_i s)]) (st2 := [ov_i (l * w4)]) (pc2 := 21) b_167_20_1 rfl rfl ?_
    refine ov_havw (fun w5 gw5 qw5 => ?_)
    refine ov_blk (ls2 := [(0, ov_r 49), (1, ov_i l), (2, ov_i n), (3, ov_i s)]) (st2 := [ov_i (w5 + n)]) (pc2 := 23) b_167_21_2 rfl rfl ?_
    refine ov_havw (fun w6 gw6 qw6 => ?_)
    refine ov_blk (ls2 := [(0, ov_r 49), (1, ov_i l), (2, ov_i n), (3, ov_i s)]) (st2 := [ov_r 49, ov_i w6]) (pc2 := 24) b_167_23_1 rfl rfl ?_
    refine ov_getf (v := ov_r 58) d_167_24 fl_Pace_30 (zb_49 I) (zs_49 I) (congrArg ov_r k0) ?_
    refine ov_getf (v := ov_i (h 58 10)) d_167_27 fl_Pace_54 (zb_58 I) (zs_58 I) rfl ?_
    have g7 := rg_58_10 I
    refine ov_blk (ls2 := [(0, ov_r 49), (1, ov_i l), (2, ov_i n), (3, ov_i s)]) (st2 := [ov_i (w6 * (h 58 10))]) (pc2 := 31) b_167_30_1 rfl rfl ?_
    refine ov_havw (fun w8 gw8 qw8 => ?_)
    refine ov_blk (ls2 := [(0, ov_r 49), (1, ov_i l), (2, ov_i n), (3, ov_i s)]) (st2 := [ov_i (w8 + s)]) (pc2 := 33) b_167_31_2 rfl rfl ?_
    refine ov_havw (fun w9 gw9 qw9 => ?_)
    refine ov_blk (ls2 := [(0, ov_r 49), (1, ov_i l), (2, ov_i n), (3, ov_i s), (4, ov_i w9)]) (st2 := [ov_r 49]) (pc2 := 36) b_167_33_2 rfl rfl ?_
    refine ov_getf (v := ov_r 51) d_167_36 fl_Pace_18 (zb_49 I) (zs_49 I) (congrArg ov_r (rg_49_3 I)) ?_
    refine ov_blk (ls2 := [(0, ov_r 49), (1, ov_i l), (2, ov_i n), (3, ov_i s), (4, ov_i w9)]) (st2 := [ov_i w9, ov_i 0, ov_r 51]) (pc2 := 42) b_167_39_2 rfl rfl ?_
    refine ov_cV (as := [ov_i 0, ov_i w9]) (st := []) (d2 := d - 1) d_167_42 lk_Pace_78 rfl (Nat.le_of_ble_eq_true rfl) (c := 4) (zb_51 I) (zs_51 I) ⟨by decide, rfl⟩ (by omega) (c_Memo_holds_51 (d - 1) (by omega) U I 0 w9 (by omega) (by omega) (by omega)) ?_
    rintro _ _ _ ⟨v11, rfl, rfl, rfl, f10⟩
    show ov_R u d ov_m167 45 [(0, ov_r 49), (1, ov_i l), (2, ov_i n), (3, ov_i s), (4, ov_i w9)] [ov_i v11] z h (P_Pace_costFrom_49_k49_4_58_k49_5_86 F z h l n s)
    have f12 : (v11 = 0 ∨ v11 = 1) ∧ (v11 = 1 → 0 ≤ w9 ∧ w9 < (((z.2.2 (h 51 0)).2 : Nat) : Int)) := f10
    clear f10
    refine ov_ifeq (tgt := 58) d_167_45 (by decide) (by omega) (fun c13 => ?_) (fun c13 => ?_)
    · skip
      refine ov_blk (ls2 := [(0, ov_r 49), (1, ov_i l), (2, ov_i n), (3, ov_i s), (4, ov_i w9), (5, ov_i (-1))]) (st2 := [ov_r 49]) (pc2 := 62) b_167_58_3 rfl rfl ?_
      refine ov_cV (as := []) (st := []) (d2 := d - 1) d_167_62 lk_Pace_86 rfl (Nat.le_of_ble_eq_true rfl) (c := 5) (zb_49 I) (zs_49 I) ⟨by decide, rfl⟩ (by omega) (c_Pace_longest_49_k49_4_58_k49_5_86 (d - 1) (by omega) U I k0 k1) ?_
      rintro _ _ _ ⟨v15, rfl, rfl, rfl, f14⟩
      show ov_R u d ov_m167 65 [(0, ov_r 49), (1, ov_i l), (2, ov_i n), (3, ov_i s), (4, ov_i w9), (5, ov_i (-1))] [ov_i v15] z h (P_Pace_costFrom_49_k49_4_58_k49_5_86 F z h l n s)
      have f16 : -1 ≤ v15 ∧ v15 ≤ 30 := f14
      clear f14
      refine ov_blk (ls2 := [(0, ov_r 49), (1, ov_i l), (2, ov_i n), (3, ov_i s), (4, ov_i w9), (5, ov_i (-1)), (6, ov_i v15)]) (st2 := [ov_r 49]) (pc2 := 68) b_167_65_2 rfl rfl ?_
      refine ov_cV (as := []) (st := []) (d2 := d - 1) d_167_68 lk_Pace_90 rfl (Nat.le_of_ble_eq_true rfl) (c := 5) (zb_49 I) (zs_49 I) ⟨by decide, rfl⟩ (by omega) (c_Pace_shortest_49_k49_4_58_k49_5_86 (d - 1) (by omega) U I k0 k1) ?_
      rintro _ _ _ ⟨v18, rfl, rfl, rfl, f17⟩
      show ov_R u d ov_m167 71 [(0, ov_r 49), (1, ov_i l), (2, ov_i n), (3, ov_i s), (4, ov_i w9), (5, ov_i (-1)), (6, ov_i v15)] [ov_i v18] z h (P_Pace_costFrom_49_k49_4_58_k49_5_86 F z h l n s)
      have f19 : -1 ≤ v18 ∧ v18 ≤ 30 := f17
      clear f17
      refine ov_blk (ls2 := [(0, ov_r 49), (1, ov_i l), (2, ov_i n), (3, ov_i s), (4, ov_i w9), (5, ov_i (-1)), (6, ov_i v15), (7, ov_i v18)]) (st2 := []) (pc2 := 73) b_167_71_1 rfl rfl ?_
      have L23 : ∀ (n20 : Nat) (x5 : Int) (x7 : Int) (z24 : ov_Z) (h25 : ov_H) (I26 : ov_I F z24 h25) (q22 : ov_g x5 ∧ -1 ≤ x7 ∧ x7 ≤ 31 ∧ (h25 36 7) = (h 36 7) ∧ (h25 1 1) = (h 1 1) ∧ (h25 90 2) = (h 90 2) ∧ (h25 0 10) = (h 0 10) ∧ (h25 0 11) = (h 0 11) ∧ (h25 0 12) = (h 0 12) ∧ (h25 0 13) = (h 0 13) ∧ (h25 3 1) = (h 3 1) ∧ (h25 36 8) = (h 36 8) ∧ (h25 46 3) = (h 46 3) ∧ (h25 46 4) = (h 46 4) ∧ (h25 49 4) = (h 49 4) ∧ (h25 49 5) = (h 49 5) ∧ (h25 64 0) = (h 64 0) ∧ (h25 76 0) = (h 76 0) ∧ h25 49 4 = 58 ∧ h25 49 5 = 86), 31 - x7 < (n20 : Int) → ov_R u d ov_m167 73 [(0, ov_r 49), (1, ov_i l), (2, ov_i n), (3, ov_i s), (4, ov_i w9), (5, ov_i x5), (6, ov_i v15), (7, ov_i x7)] [] z24 h25 (P_Pace_costFrom_49_k49_4_58_k49_5_86 F z h l n s) := by
        intro n20
        induction n20 with
        | zero =>
          intro x5 x7 z24 h25 I26 q22 hn27
          exact absurd hn27 (by omega)
        | succ n20 ih21 =>
          intro x5 x7 z24 h25 I26 q22 hn27
          have e28 : h25 49 4 = 58 := by omega
          have e29 : h25 49 5 = 86 := by omega
          refine ov_blk (ls2 := [(0, ov_r 49), (1, ov_i l), (2, ov_i n), (3, ov_i s), (4, ov_i w9), (5, ov_i x5), (6, ov_i v15), (7, ov_i x7)]) (st2 := [ov_i v15, ov_i x7]) (pc2 := 77) b_167_73_2 rfl rfl ?_
          refine ov_icgt (tgt := 120) d_167_77 (by decide) (by omega) (by omega) (fun c30 => ?_) (fun c30 => ?_)
          · skip
            refine ov_blk (ls2 := [(0, ov_r 49), (1, ov_i l), (2, ov_i n), (3, ov_i s), (4, ov_i w9), (5, ov_i x5), (6, ov_i v15), (7, ov_i x7)]) (st2 := [ov_r 49]) (pc2 := 121) b_167_120_1 rfl rfl ?_
            refine ov_getf (v := ov_r 51) d_167_121 fl_Pace_18 (zb_49 I26) (zs_49 I26) (congrArg ov_r (rg_49_3 I26)) ?_
            refine ov_blk (ls2 := [(0, ov_r 49), (1, ov_i l), (2, ov_i n), (3, ov_i s), (4, ov_i w9), (5, ov_i x5), (6, ov_i v15), (7, ov_i x7)]) (st2 := [ov_i x5, ov_i w9, ov_i 0, ov_r 51]) (pc2 := 129) b_167_124_3 rfl rfl ?_
            refine ov_cV (as := [ov_i 0, ov_i w9, ov_i x5]) (st := []) (d2 := d - 1) d_167_129 lk_Pace_97 rfl (Nat.le_of_ble_eq_true rfl) (c := 4) (zb_51 I26) (zs_51 I26) ⟨by decide, rfl⟩ (by omega) (c_Memo_put_51 (d - 1) (by omega) U I26 0 w9 x5 (by omega) (by omega) (by omega) (by omega)) ?_
            rintro _ z32 h33 ⟨rfl, I34, f31⟩
            show ov_R u d ov_m167 132 [(0, ov_r 49), (1, ov_i l), (2, ov_i n), (3, ov_i s), (4, ov_i w9), (5, ov_i x5), (6, ov_i v15), (7, ov_i x7)] [] z32 h33 (P_Pace_costFrom_49_k49_4_58_k49_5_86 F z h l n s)
            have f35 : (h33 36 7) = (h25 36 7) ∧ (h33 1 1) = (h25 1 1) ∧ (h33 90 2) = (h25 90 2) ∧ (h33 0 10) = (h25 0 10) ∧ (h33 0 11) = (h25 0 11) ∧ (h33 0 12) = (h25 0 12) ∧ (h33 0 13) = (h25 0 13) ∧ (h33 3 1) = (h25 3 1) ∧ (h33 36 8) = (h25 36 8) ∧ (h33 46 3) = (h25 46 3) ∧ (h33 46 4) = (h25 46 4) ∧ (h33 49 4) = (h25 49 4) ∧ (h33 49 5) = (h25 49 5) ∧ (h33 64 0) = (h25 64 0) ∧ (h33 76 0) = (h25 76 0) := f31
            clear f31
            have e36 : h33 49 4 = 58 := by omega
            have e37 : h33 49 5 = 86 := by omega
            refine ov_blk (ls2 := [(0, ov_r 49), (1, ov_i l), (2, ov_i n), (3, ov_i s), (4, ov_i w9), (5, ov_i x5), (6, ov_i v15), (7, ov_i x7)]) (st2 := [ov_i x5]) (pc2 := 134) b_167_132_1 rfl rfl ?_
            exact ov_reti (st := []) d_167_134 rfl ⟨_, rfl, I34, (by show -2147483648 ≤ x5 ∧ x5 ≤ 2147483647 ∧ (h33 36 7) = (h 36 7) ∧ (h33 1 1) = (h 1 1) ∧ (h33 90 2) = (h 90 2) ∧ (h33 0 10) = (h 0 10) ∧ (h33 0 11) = (h 0 11) ∧ (h33 0 12) = (h 0 12) ∧ (h33 0 13) = (h 0 13) ∧ (h33 3 1) = (h 3 1) ∧ (h33 36 8) = (h 36 8) ∧ (h33 46 3) = (h 46 3) ∧ (h33 46 4) = (h 46 4) ∧ (h33 49 4) = (h 49 4) ∧ (h33 49 5) = (h 49 5) ∧ (h33 64 0) = (h 64 0) ∧ (h33 76 0) = (h 76 0); omega)⟩
          · skip
            refine ov_blk (ls2 := [(0, ov_r 49), (1, ov_i l), (2, ov_i n), (3, ov_i s), (4, ov_i w9), (5, ov_i x5), (6, ov_i v15), (7, ov_i x7)]) (st2 := [ov_i x7, ov_i s, ov_i n, ov_i l, ov_r 49]) (pc2 := 86) b_167_80_5 rfl rfl ?_
            refine ov_cV (as := [ov_i l, ov_i n, ov_i s, ov_i x7]) (st := []) (d2 := d - 1) d_167_86 lk_Pace_93 rfl (Nat.le_of_ble_eq_true rfl) (c := 5) (zb_49 I26) (zs_49 I26) ⟨by decide, rfl⟩ (by omega) (c_Pace_costBy_49_k49_4_58_k49_5_86 k HC (d - 1) (by omega) U I26 l n s x7 e28 e29 (by omega) (by omega) (by omega) (by omega) (by omega) (by omega)) ?_
            rintro _ z40 h41 ⟨v39, rfl, I42, f38⟩
            show ov_R u d ov_m167 89 [(0, ov_r 49), (1, ov_i l), (2, ov_i n), (3, ov_i s), (4, ov_i w9), (5, ov_i x5), (6, ov_i v15), (7, ov_i x7)] [ov_i v39] z40 h41 (P_Pace_costFrom_49_k49_4_58_k49_5_86 F z h l n s)
            have f43 : -2147483648 ≤ v39 ∧ v39 ≤ 2147483647 ∧ (h41 36 7) = (h25 36 7) ∧ (h41 1 1) = (h25 1 1) ∧ (h41 90 2) = (h25 90 2) ∧ (h41 0 10) = (h25 0 10) ∧ (h41 0 11) = (h25 0 11) ∧ (h41 0 12) = (h25 0 12) ∧ (h41 0 13) = (h25 0 13) ∧ (h41 3 1) = (h25 3 1) ∧ (h41 36 8) = (h25 36 8) ∧ (h41 46 3) = (h25 46 3) ∧ (h41 46 4) = (h25 46 4) ∧ (h41 49 4) = (h25 49 4) ∧ (h41 49 5) = (h25 49 5) ∧ (h41 64 0) = (h25 64 0) ∧ (h41 76 0) = (h25 76 0) := f38
            clear f38
            have e44 : h41 49 4 = 58 := by omega
            have e45 : h41 49 5 = 86 := by omega
            refine ov_blk (ls2 := [(0, ov_r 49), (1, ov_i l), (2, ov_i n), (3, ov_i s), (4, ov_i w9), (5, ov_i x5), (6, ov_i v15), (7, ov_i x7), (8, ov_i v39)]) (st2 := [ov_i (-1), ov_i v39]) (pc2 := 94) b_167_89_3 rfl rfl ?_
            refine ov_iceq (tgt := 114) d_167_94 (by decide) (by omega) (by omega) (fun c46 => ?_) (fun c46 => ?_)
            · skip
              refine ov_blk (ls2 := [(0, ov_r 49), (1, ov_i l), (2, ov_i n), (3, ov_i s), (4, ov_i w9), (5, ov_i x5), (6, ov_i v15), (7, ov_i (x7 + 1)), (8, ov_i v39)]) (st2 := []) (pc2 := 117) b_167_114_1 rfl rfl ?_
              refine ov_goto (tgt := 73) d_167_117 (by decide) ?_
              refine ov_sub (ls2 := [(0, ov_r 49), (1, ov_i l), (2, ov_i n), (3, ov_i s), (4, ov_i w9), (5, ov_i x5), (6, ov_i v15), (7, ov_i (x7 + 1))]) (List.Sublist.subset (by repeat (first | exact List.Sublist.refl _ | apply List.Sublist.cons_cons | apply List.Sublist.cons))) ?_
              exact ih21 x5 (x7 + 1) _ _ I42 (by show ov_g x5 ∧ -1 ≤ (x7 + 1) ∧ (x7 + 1) ≤ 31 ∧ (h41 36 7) = (h 36 7) ∧ (h41 1 1) = (h 1 1) ∧ (h41 90 2) = (h 90 2) ∧ (h41 0 10) = (h 0 10) ∧ (h41 0 11) = (h 0 11) ∧ (h41 0 12) = (h 0 12) ∧ (h41 0 13) = (h 0 13) ∧ (h41 3 1) = (h 3 1) ∧ (h41 36 8) = (h 36 8) ∧ (h41 46 3) = (h 46 3) ∧ (h41 46 4) = (h 46 4) ∧ (h41 49 4) = (h 49 4) ∧ (h41 49 5) = (h 49 5) ∧ (h41 64 0) = (h 64 0) ∧ (h41 76 0) = (h 76 0) ∧ (h41 49 4) = 58 ∧ (h41 49 5) = 86; omega) (by omega)
            · skip
              refine ov_blk (ls2 := [(0, ov_r 49), (1, ov_i l), (2, ov_i n), (3, ov_i s), (4, ov_i w9), (5, ov_i x5), (6, ov_i v15), (7, ov_i x7), (8, ov_i v39)]) (st2 := [ov_i (-1), ov_i x5]) (pc2 := 100) b_167_97_2 rfl rfl ?_
              refine ov_iceq (tgt := 110) d_167_100 (by decide) (by omega) (by omega) (fun c47 => ?_) (fun c47 => ?_)
              · skip
                refine ov_blk (ls2 := [(0, ov_r 49), (1, ov_i l), (2, ov_i n), (3, ov_i s), (4, ov_i w9), (5, ov_i v39), (6, ov_i v15), (7, ov_i (x7 + 1)), (8, ov_i v39)]) (st2 := []) (pc2 := 117) b_167_110_3 rfl rfl ?_
                refine ov_goto (tgt := 73) d_167_117 (by decide) ?_
                refine ov_sub (ls2 := [(0, ov_r 49), (1, ov_i l), (2, ov_i n), (3, ov_i s), (4, ov_i w9), (5, ov_i v39), (6, ov_i v15), (7, ov_i (x7 + 1))]) (List.Sublist.subset (by repeat (first | exact List.Sublist.refl _ | apply List.Sublist.cons_cons | apply List.Sublist.cons))) ?_
                exact ih21 v39 (x7 + 1) _ _ I42 (by show ov_g v39 ∧ -1 ≤ (x7 + 1) ∧ (x7 + 1) ≤ 31 ∧ (h41 36 7) = (h 36 7) ∧ (h41 1 1) = (h 1 1) ∧ (h41 90 2) = (h 90 2) ∧ (h41 0 10) = (h 0 10) ∧ (h41 0 11) = (h 0 11) ∧ (h41 0 12) = (h 0 12) ∧ (h41 0 13) = (h 0 13) ∧ (h41 3 1) = (h 3 1) ∧ (h41 36 8) = (h 36 8) ∧ (h41 46 3) = (h 46 3) ∧ (h41 46 4) = (h 46 4) ∧ (h41 49 4) = (h 49 4) ∧ (h41 49 5) = (h 49 5) ∧ (h41 64 0) = (h 64 0) ∧ (h41 76 0) = (h 76 0) ∧ (h41 49 4) = 58 ∧ (h41 49 5) = 86; omega) (by omega)
              · skip
                refine ov_blk (ls2 := [(0, ov_r 49), (1, ov_i l), (2, ov_i n), (3, ov_i s), (4, ov_i w9), (5, ov_i x5), (6, ov_i v15), (7, ov_i x7), (8, ov_i v39)]) (st2 := [ov_i x5, ov_i v39]) (pc2 := 107) b_167_103_2 rfl rfl ?_
                refine ov_icge (tgt := 114) d_167_107 (by decide) (by omega) (by omega) (fun c48 => ?_) (fun c48 => ?_)
                · skip
                  refine ov_blk (ls2 := [(0, ov_r 49), (1, ov_i l), (2, ov_i n), (3, ov_i s), (4, ov_i w9), (5, ov_i x5), (6, ov_i v15), (7, ov_i (x7 + 1)), (8, ov_i v39)]) (st2 := []) (pc2 := 117) b_167_114_1 rfl rfl ?_
                  refine ov_goto (tgt := 73) d_167_117 (by decide) ?_
                  refine ov_sub (ls2 := [(0, ov_r 49), (1, ov_i l), (2, ov_i n), (3, ov_i s), (4, ov_i w9), (5, ov_i x5), (6, ov_i v15), (7, ov_i (x7 + 1))]) (List.Sublist.subset (by repeat (first | exact List.Sublist.refl _ | apply List.Sublist.cons_cons | apply List.Sublist.cons))) ?_
                  exact ih21 x5 (x7 + 1) _ _ I42 (by show ov_g x5 ∧ -1 ≤ (x7 + 1) ∧ (x7 + 1) ≤ 31 ∧ (h41 36 7) = (h 36 7) ∧ (h41 1 1) = (h 1 1) ∧ (h41 90 2) = (h 90 2) ∧ (h41 0 10) = (h 0 10) ∧ (h41 0 11) = (h 0 11) ∧ (h41 0 12) = (h 0 12) ∧ (h41 0 13) = (h 0 13) ∧ (h41 3 1) = (h 3 1) ∧ (h41 36 8) = (h 36 8) ∧ (h41 46 3) = (h 46 3) ∧ (h41 46 4) = (h 46 4) ∧ (h41 49 4) = (h 49 4) ∧ (h41 49 5) = (h 49 5) ∧ (h41 64 0) = (h 64 0) ∧ (h41 76 0) = (h 76 0) ∧ (h41 49 4) = 58 ∧ (h41 49 5) = 86; omega) (by omega)
                · skip
                  refine ov_blk (ls2 := [(0, ov_r 49), (1, ov_i l), (2, ov_i n), (3, ov_i s), (4, ov_i w9), (5, ov_i v39), (6, ov_i v15), (7, ov_i (x7 + 1)), (8, ov_i v39)]) (st2 := []) (pc2 := 117) b_167_110_3 rfl rfl ?_
                  refine ov_goto (tgt := 73) d_167_117 (by decide) ?_
                  refine ov_sub (ls2 := [(0, ov_r 49), (1, ov_i l), (2, ov_i n), (3, ov_i s), (4, ov_i w9), (5, ov_i v39), (6, ov_i v15), (7, ov_i (x7 + 1))]) (List.Sublist.subset (by repeat (first | exact List.Sublist.refl _ | apply List.Sublist.cons_cons | apply List.Sublist.cons))) ?_
                  exact ih21 v39 (x7 + 1) _ _ I42 (by show ov_g v39 ∧ -1 ≤ (x7 + 1) ∧ (x7 + 1) ≤ 31 ∧ (h41 36 7) = (h 36 7) ∧ (h41 1 1) = (h 1 1) ∧ (h41 90 2) = (h 90 2) ∧ (h41 0 10) = (h 0 10) ∧ (h41 0 11) = (h 0 11) ∧ (h41 0 12) = (h 0 12) ∧ (h41 0 13) = (h 0 13) ∧ (h41 3 1) = (h 3 1) ∧ (h41 36 8) = (h 36 8) ∧ (h41 46 3) = (h 46 3) ∧ (h41 46 4) = (h 46 4) ∧ (h41 49 4) = (h 49 4) ∧ (h41 49 5) = (h 49 5) ∧ (h41 64 0) = (h 64 0) ∧ (h41 76 0) = (h 76 0) ∧ (h41 49 4) = 58 ∧ (h41 49 5) = 86; omega) (by omega)
      exact L23 40 (-1) v18 _ _ I (by show ov_g (-1) ∧ -1 ≤ v18 ∧ v18 ≤ 31 ∧ (h 36 7) = (h 36 7) ∧ (h 1 1) = (h 1 1) ∧ (h 90 2) = (h 90 2) ∧ (h 0 10) = (h 0 10) ∧ (h 0 11) = (h 0 11) ∧ (h 0 12) = (h 0 12) ∧ (h 0 13) = (h 0 13) ∧ (h 3 1) = (h 3 1) ∧ (h 36 8) = (h 36 8) ∧ (h 46 3) = (h 46 3) ∧ (h 46 4) = (h 46 4) ∧ (h 49 4) = (h 49 4) ∧ (h 49 5) = (h 49 5) ∧ (h 64 0) = (h 64 0) ∧ (h 76 0) = (h 76 0) ∧ (h 49 4) = 58 ∧ (h 49 5) = 86; omega) (by omega)
    · skip
      refine ov_blk (ls2 := [(0, ov_r 49), (1, ov_i l), (2, ov_i n), (3, ov_i s), (4, ov_i w9)]) (st2 := [ov_r 49]) (pc2 := 49) b_167_48_1 rfl rfl ?_
      refine ov_getf (v := ov_r 51) d_167_49 fl_Pace_18 (zb_49 I) (zs_49 I) (congrArg ov_r (rg_49_3 I)) ?_
      refine ov_blk (ls2 := [(0, ov_r 49), (1, ov_i l), (2, ov_i n), (3, ov_i s), (4, ov_i w9)]) (st2 := [ov_i w9, ov_r 51]) (pc2 := 54) b_167_52_1 rfl rfl ?_
      refine ov_cV (as := [ov_i w9]) (st := []) (d2 := d - 1) d_167_54 lk_Pace_82 rfl (Nat.le_of_ble_eq_true rfl) (c := 4) (zb_51 I) (zs_51 I) ⟨by decide, rfl⟩ (by omega) (c_Memo_number_51 (d - 1) (by omega) U I w9 (by omega) (by omega)) ?_
      rintro _ _ _ ⟨v50, rfl, rfl, rfl, f49⟩
      show ov_R u d ov_m167 57 [(0, ov_r 49), (1, ov_i l), (2, ov_i n), (3, ov_i s), (4, ov_i w9)] [ov_i v50] z h (P_Pace_costFrom_49_k49_4_58_k49_5_86 F z h l n s)
      have f51 : -2147483648 ≤ v50 ∧ v50 ≤ 2147483647 := f49
      clear f49
      exact ov_reti (st := []) d_167_57 rfl ⟨_, rfl, I, (by show -2147483648 ≤ v50 ∧ v50 ≤ 2147483647 ∧ (h 36 7) = (h 36 7) ∧ (h 1 1) = (h 1 1) ∧ (h 90 2) = (h 90 2) ∧ (h 0 10) = (h 0 10) ∧ (h 0 11) = (h 0 11) ∧ (h 0 12) = (h 0 12) ∧ (h 0 13) = (h 0 13) ∧ (h 3 1) = (h 3 1) ∧ (h 36 8) = (h 36 8) ∧ (h 46 3) = (h 46 3) ∧ (h 46 4) = (h 46 4) ∧ (h 49 4) = (h 49 4) ∧ (h 49 5) = (h 49 5) ∧ (h 64 0) = (h 64 0) ∧ (h 76 0) = (h 76 0); omega)⟩
  · skip
    refine ov_blk (ls2 := [(0, ov_r 49), (1, ov_i l), (2, ov_i n), (3, ov_i s)]) (st2 := [ov_i 0]) (pc2 := 12) b_167_11_1 rfl rfl ?_
    exact ov_reti (st := []) d_167_12 rfl ⟨_, rfl, I, (by show -2147483648 ≤ 0 ∧ 0 ≤ 2147483647 ∧ (h 36 7) = (h 36 7) ∧ (h 1 1) = (h 1 1) ∧ (h 90 2) = (h 90 2) ∧ (h 0 10) = (h 0 10) ∧ (h 0 11) = (h 0 11) ∧ (h 0 12) = (h 0 12) ∧ (h 0 13) = (h 0 13) ∧ (h 3 1) = (h 3 1) ∧ (h 36 8) = (h 36 8) ∧ (h 46 3) = (h 46 3) ∧ (h 46 4) = (h 46 4) ∧ (h 49 4) = (h 49 4) ∧ (h 49 5) = (h 49 5) ∧ (h 64 0) = (h 64 0) ∧ (h 76 0) = (h 76 0); omega)⟩
theorem c_Pace_costFrom_49_k49_4_58_k49_5_86_all {u : ov_U} {F : ov_H} (k : Nat) : ∀ {z : ov_Z} {h : ov_H} (d : Nat) (hd : (20 + 2 * k + 1) ≤ d) (U : ov_cap u) (I : ov_I F z h) (l : Int) (n : Int) (s : Int) (k0 : h 49 4 = 58) (k1 : h 49 5 = 86) (g_l : ov_g l) (g_n : ov_g n) (g_s : ov_g s) (p0 : 0 ≤ l ∧ l + (k : Int) = 13), ov_T u d ov_m167 [ov_r 49, ov_i l, ov_i n, ov_i s] z h (P_Pace_costFrom_49_k49_4_58_k49_5_86 F z h l n s) := by
  induction k using Nat.strongRecOn with
  | ind k ih => exact fun {z} {h} => @c_Pace_costFrom_49_k49_4_58_k49_5_86 u F k (fun k' hk => @ih k' hk) z h
theorem c_Pace_costBy_49_k49_4_58_k49_5_86_all {u : ov_U} {F : ov_H} (k : Nat) : ∀ {z : ov_Z} {h : ov_H} (d : Nat) (hd : (20 + 2 * k + 0) ≤ d) (U : ov_cap u) (I : ov_I F z h) (l : Int) (n : Int) (s : Int) (t : Int) (k0 : h 49 4 = 58) (k1 : h 49 5 = 86) (g_l : ov_g l) (g_n : ov_g n) (g_s : ov_g s) (g_t : ov_g t) (p0 : 0 ≤ l ∧ l + (k : Int) = 13) (p1 : l ≤ 12), ov_T u d ov_m170 [ov_r 49, ov_i l, ov_i n, ov_i s, ov_i t] z h (P_Pace_costBy_49_k49_4_58_k49_5_86 F z h l n s t) := fun {z} {h} => @c_Pace_costBy_49_k49_4_58_k49_5_86 u F k (fun k' _ => @c_Pace_costFrom_49_k49_4_58_k49_5_86_all u F k') z h
abbrev P_Pace_layStreets_49_k49_4_58_k49_5_86 (F : ov_H) (z : ov_Z) (h : ov_H) (f : Int) : Option ov_V → ov_Z → ov_H → Prop := fun r0 z' h' => r0 = none ∧ ov_I F z' h' ∧ ((h' 36 7) = (h 36 7) ∧ (h' 1 1) = (h 1 1) ∧ (h' 90 2) = (h 90 2) ∧ (h' 0 10) = (h 0 10) ∧ (h' 0 11) = (h 0 11) ∧ (h' 0 12) = (h 0 12) ∧ (h' 0 13) = (h 0 13) ∧ (h' 3 1) = (h 3 1) ∧ (h' 36 8) = (h 36 8) ∧ (h' 46 3) = (h 46 3) ∧ (h' 46 4) = (h 46 4) ∧ (h' 49 4) = (h 49 4) ∧ (h' 49 5) = (h 49 5) ∧ (h' 64 0) = (h 64 0) ∧ (h' 76 0) = (h 76 0))
set_option maxHeartbeats 4000000 in
theorem c_Pace_layStreets_49_k49_4_58_k49_5_86 {u : ov_U} {F : ov_H} {z : ov_Z} {h : ov_H} (d : Nat) (hd : 60 ≤ d) (U : ov_cap u) (I : ov_I F z h) (f : Int) (k0 : h 49 4 = 58) (k1 : h 49 5 = 86) (g_f : ov_g f) : ov_T u d ov_m171 [ov_r 49, ov_i f] z h (P_Pace_layStreets_49_k49_4_58_k49_5_86 F z h f) := by
  refine ov_en rfl (Nat.le_of_ble_eq_true rfl) ?_
  show ov_R u d ov_m171 0 [(0, ov_r 49), (1, ov_i f)] [] z h (P_Pace_layStreets_49_k49_4_58_k49_5_86 F z h f)
  refine ov_blk (ls2 := [(0, ov_r 49), (1, ov_i f), (2, ov_i f), (3, ov_i 0), (4, ov_i 0)]) (st2 := []) (pc2 := 7) b_171_0_6 rfl rfl ?_
  have L4 : ∀ (n1 : Nat) (x2 : Int) (x3 : Int) (x4 : Int) (z5 : ov_Z) (h6 : ov_H) (I7 : ov_I F z5 h6) (q3 : ov_g x2 ∧ ov_g x3 ∧ 0 ≤ x4 ∧ x4 ≤ 13 ∧ (h6 36 7) = (h 36 7) ∧ (h6 1 1) = (h 1 1) ∧ (h6 90 2) = (h 90 2) ∧ (h6 0 10) = (h 0 10) ∧ (h6 0 11) = (h 0 11) ∧ (h6 0 12) = (h 0 12) ∧ (h6 0 13) = (h 0 13) ∧ (h6 3 1) = (h 3 1) ∧ (h6 36 8) = (h 36 8) ∧ (h6 46 3) = (h 46 3) ∧ (h6 46 4) = (h 46 4) ∧ (h6 49 4) = (h 49 4) ∧ (h6 49 5) = (h 49 5) ∧ (h6 64 0) = (h 64 0) ∧ (h6 76 0) = (h 76 0) ∧ h6 49 4 = 58 ∧ h6 49 5 = 86), 13 - x4 < (n1 : Int) → ov_R u d ov_m171 7 [(0, ov_r 49), (1, ov_i f), (2, ov_i x2), (3, ov_i x3), (4, ov_i x4)] [] z5 h6 (P_Pace_layStreets_49_k49_4_58_k49_5_86 F z h f) := by
    intro n1
    induction n1 with
    | zero =>
      intro x2 x3 x4 z5 h6 I7 q3 hn8
      exact absurd hn8 (by omega)
    | succ n1 ih2 =>
      intro x2 x3 x4 z5 h6 I7 q3 hn8
      have e9 : h6 49 4 = 58 := by omega
      have e10 : h6 49 5 = 86 := by omega
      refine ov_blk (ls2 := [(0, ov_r 49), (1, ov_i f), (2, ov_i x2), (3, ov_i x3), (4, ov_i x4)]) (st2 := [ov_r 49, ov_i x4]) (pc2 := 10) b_171_7_2 rfl rfl ?_
      refine ov_getf (v := ov_r 86) d_171_10 fl_Pace_34 (zb_49 I7) (zs_49 I7) (congrArg ov_r e10) ?_
      refine ov_getf (v := ov_i (h6 86 0)) d_171_13 fl_Pace_49 (zb_86 I7) (zs_86 I7) rfl ?_
      have g11 := rg_86_0 I7
      refine ov_icge (tgt := 154) d_171_16 (by decide) (by omega) (by omega) (fun c12 => ?_) (fun c12 => ?_)
      · skip
        exact ov_retv (st := []) d_171_154 rfl ⟨rfl, I7, (by show (h6 36 7) = (h 36 7) ∧ (h6 1 1) = (h 1 1) ∧ (h6 90 2) = (h 90 2) ∧ (h6 0 10) = (h 0 10) ∧ (h6 0 11) = (h 0 11) ∧ (h6 0 12) = (h 0 12) ∧ (h6 0 13) = (h 0 13) ∧ (h6 3 1) = (h 3 1) ∧ (h6 36 8) = (h 36 8) ∧ (h6 46 3) = (h 46 3) ∧ (h6 46 4) = (h 46 4) ∧ (h6 49 4) = (h 49 4) ∧ (h6 49 5) = (h 49 5) ∧ (h6 64 0) = (h 64 0) ∧ (h6 76 0) = (h 76 0); omega)⟩
      · skip
        refine ov_blk (ls2 := [(0, ov_r 49), (1, ov_i f), (2, ov_i x2), (3, ov_i x3), (4, ov_i x4)]) (st2 := [ov_i x2, ov_i x3, ov_i x4, ov_r 49]) (pc2 := 24) b_171_19_4 rfl rfl ?_
        refine ov_cV (as := [ov_i x4, ov_i x3, ov_i x2]) (st := []) (d2 := d - 1) d_171_24 lk_Pace_65 rfl (Nat.le_of_ble_eq_true rfl) (c := 5) (zb_49 I7) (zs_49 I7) ⟨by decide, rfl⟩ (by omega) (c_Pace_costFrom_49_k49_4_58_k49_5_86_all (Int.toNat (13 - (x4))) (d - 1) (by omega) U I7 x4 x3 x2 e9 e10 (by omega) (by omega) (by omega) (by omega)) ?_
        rintro _ z15 h16 ⟨v14, rfl, I17, f13⟩
        show ov_R u d ov_m171 27 [(0, ov_r 49), (1, ov_i f), (2, ov_i x2), (3, ov_i x3), (4, ov_i x4)] [ov_i v14] z15 h16 (P_Pace_layStreets_49_k49_4_58_k49_5_86 F z h f)
        have f18 : -2147483648 ≤ v14 ∧ v14 ≤ 2147483647 ∧ (h16 36 7) = (h6 36 7) ∧ (h16 1 1) = (h6 1 1) ∧ (h16 90 2) = (h6 90 2) ∧ (h16 0 10) = (h6 0 10) ∧ (h16 0 11) = (h6 0 11) ∧ (h16 0 12) = (h6 0 12) ∧ (h16 0 13) = (h6 0 13) ∧ (h16 3 1) = (h6 3 1) ∧ (h16 36 8) = (h6 36 8) ∧ (h16 46 3) = (h6 46 3) ∧ (h16 46 4) = (h6 46 4) ∧ (h16 49 4) = (h6 49 4) ∧ (h16 49 5) = (h6 49 5) ∧ (h16 64 0) = (h6 64 0) ∧ (h16 76 0) = (h6 76 0) := f13
        clear f13
        have e19 : h16 49 4 = 58 := by omega
        have e20 : h16 49 5 = 86 := by omega
        refine ov_blk (ls2 := [(0, ov_r 49), (1, ov_i f), (2, ov_i x2), (3, ov_i x3), (4, ov_i x4), (5, ov_i v14)]) (st2 := [ov_r 49]) (pc2 := 30) b_171_27_2 rfl rfl ?_
        refine ov_cV (as := []) (st := []) (d2 := d - 1) d_171_30 lk_Pace_90 rfl (Nat.le_of_ble_eq_true rfl) (c := 5) (zb_49 I17) (zs_49 I17) ⟨by decide, rfl⟩ (by omega) (c_Pace_shortest_49_k49_4_58_k49_5_86 (d - 1) (by omega) U I17 e19 e20) ?_
        rintro _ _ _ ⟨v22, rfl, rfl, rfl, f21⟩
        show ov_R u d ov_m171 33 [(0, ov_r 49), (1, ov_i f), (2, ov_i x2), (3, ov_i x3), (4, ov_i x4), (5, ov_i v14)] [ov_i v22] z15 h16 (P_Pace_layStreets_49_k49_4_58_k49_5_86 F z h f)
        have f23 : -1 ≤ v22 ∧ v22 ≤ 30 := f21
        clear f21
        refine ov_blk (ls2 := [(0, ov_r 49), (1, ov_i f), (2, ov_i x2), (3, ov_i x3), (4, ov_i x4), (5, ov_i v14), (6, ov_i v22)]) (st2 := [ov_r 49]) (pc2 := 36) b_171_33_2 rfl rfl ?_
        refine ov_cV (as := []) (st := []) (d2 := d - 1) d_171_36 lk_Pace_86 rfl (Nat.le_of_ble_eq_true rfl) (c := 5) (zb_49 I17) (zs_49 I17) ⟨by decide, rfl⟩ (by omega) (c_Pace_longest_49_k49_4_58_k49_5_86 (d - 1) (by omega) U I17 e19 e20) ?_
        rintro _ _ _ ⟨v25, rfl, rfl, rfl, f24⟩
        show ov_R u d ov_m171 39 [(0, ov_r 49), (1, ov_i f), (2, ov_i x2), (3, ov_i x3), (4, ov_i x4), (5, ov_i v14), (6, ov_i v22)] [ov_i v25] z15 h16 (P_Pace_layStreets_49_k49_4_58_k49_5_86 F z h f)
        have f26 : -1 ≤ v25 ∧ v25 ≤ 30 := f24
        clear f24
        refine ov_blk (ls2 := [(0, ov_r 49), (1, ov_i f), (2, ov_i x2), (3, ov_i x3), (4, ov_i x4), (5, ov_i v14), (6, ov_i v22), (7, ov_i v25)]) (st2 := []) (pc2 := 41) b_171_39_1 rfl rfl ?_
        have L30 : ∀ (n27 : Nat) (x6 : Int) (z31 : ov_Z) (h32 : ov_H) (I33 : ov_I F z31 h32) (q29 : -1 ≤ x6 ∧ x6 ≤ 31 ∧ (h32 36 7) = (h 36 7) ∧ (h32 1 1) = (h 1 1) ∧ (h32 90 2) = (h 90 2) ∧ (h32 0 10) = (h 0 10) ∧ (h32 0 11) = (h 0 11) ∧ (h32 0 12) = (h 0 12) ∧ (h32 0 13) = (h 0 13) ∧ (h32 3 1) = (h 3 1) ∧ (h32 36 8) = (h 36 8) ∧ (h32 46 3) = (h 46 3) ∧ (h32 46 4) = (h 46 4) ∧ (h32 49 4) = (h 49 4) ∧ (h32 49 5) = (h 49 5) ∧ (h32 64 0) = (h 64 0) ∧ (h32 76 0) = (h 76 0) ∧ h32 49 4 = 58 ∧ h32 49 5 = 86), 31 - x6 < (n27 : Int) → ov_R u d ov_m171 41 [(0, ov_r 49), (1, ov_i f), (2, ov_i x2), (3, ov_i x3), (4, ov_i x4), (5, ov_i v14), (6, ov_i x6), (7, ov_i v25)] [] z31 h32 (P_Pace_layStreets_49_k49_4_58_k49_5_86 F z h f) := by
          intro n27
          induction n27 with
          | zero =>
            intro x6 z31 h32 I33 q29 hn34
            exact absurd hn34 (by omega)
          | succ n27 ih28 =>
            intro x6 z31 h32 I33 q29 hn34
            have e35 : h32 49 4 = 58 := by omega
            have e36 : h32 49 5 = 86 := by omega
            refine ov_blk (ls2 := [(0, ov_r 49), (1, ov_i f), (2, ov_i x2), (3, ov_i x3), (4, ov_i x4), (5, ov_i v14), (6, ov_i x6), (7, ov_i v25)]) (st2 := [ov_i v25, ov_i x6]) (pc2 := 45) b_171_41_2 rfl rfl ?_
            refine ov_icge (tgt := 69) d_171_45 (by decide) (by omega) (by omega) (fun c37 => ?_) (fun c37 => ?_)
            · skip
              refine ov_blk (ls2 := [(0, ov_r 49), (1, ov_i f), (2, ov_i x2), (3, ov_i x3), (4, ov_i x4), (5, ov_i v14), (6, ov_i x6), (7, ov_i v25)]) (st2 := [ov_r 49]) (pc2 := 70) b_171_69_1 rfl rfl ?_
              refine ov_getf (v := ov_r 50) d_171_70 fl_Pace_9 (zb_49 I33) (zs_49 I33) (congrArg ov_r (rg_49_2 I33)) ?_
              refine ov_blk (ls2 := [(0, ov_r 49), (1, ov_i f), (2, ov_i x2), (3, ov_i x3), (4, ov_i x4), (5, ov_i v14), (6, ov_i x6), (7, ov_i v25)]) (st2 := [ov_i x6, ov_i x4, ov_r 50]) (pc2 := 77) b_171_73_2 rfl rfl ?_
              refine ov_iast d_171_77 (zb_50 I33) (zs_50 I33) (by omega) ?_
              have I38 := ua_50 (k := x4) (x := x6) I33 (by omega)
              refine ov_blk (ls2 := [(0, ov_r 49), (1, ov_i f), (2, ov_i x2), (3, ov_i x3), (4, ov_i x4), (5, ov_i v14), (6, ov_i x6), (7, ov_i v25)]) (st2 := [ov_r 49, ov_i x6, ov_i x3]) (pc2 := 82) b_171_78_3 rfl rfl ?_
              refine ov_getf (v := ov_r 58) d_171_82 fl_Pace_30 (zb_49 I38) (zs_49 I38) (congrArg ov_r e35) ?_
              refine ov_getf (v := ov_r 64) d_171_85 fl_Pace_43 (zb_58 I38) (zs_58 I38) (congrArg ov_r (rg_58_7 I38)) ?_
              refine ov_blk (ls2 := [(0, ov_r 49), (1, ov_i f), (2, ov_i x2), (3, ov_i x3), (4, ov_i x4), (5, ov_i v14), (6, ov_i x6), (7, ov_i v25)]) (st2 := [ov_i 0, ov_r 64, ov_i x6, ov_i x3]) (pc2 := 89) b_171_88_1 rfl rfl ?_
              refine ov_iald d_171_89 (zb_64 I38) (zs_64 I38) (by omega) ?_
              show ov_R u d ov_m171 90 [(0, ov_r 49), (1, ov_i f), (2, ov_i x2), (3, ov_i x3), (4, ov_i x4), (5, ov_i v14), (6, ov_i x6), (7, ov_i v25)] [ov_i (h32 64 0), ov_i x6, ov_i x3] z31 (ov_up h32 50 x4 x6) (P_Pace_layStreets_49_k49_4_58_k49_5_86 F z h f)
              have g39 := ra_64 I33 0
              refine ov_icge (tgt := 97) d_171_90 (by decide) (by omega) (by omega) (fun c40 => ?_) (fun c40 => ?_)
              · skip
                refine ov_blk (ls2 := [(0, ov_r 49), (1, ov_i f), (2, ov_i x2), (3, ov_i x3), (4, ov_i x4), (5, ov_i v14), (6, ov_i x6), (7, ov_i v25)]) (st2 := [ov_i (x3 + 0)]) (pc2 := 99) b_171_97_2 rfl rfl ?_
                refine ov_havw (fun w41 gw41 qw41 => ?_)
                refine ov_blk (ls2 := [(0, ov_r 49), (1, ov_i f), (2, ov_i x2), (3, ov_i w41), (4, ov_i x4), (5, ov_i v14), (6, ov_i x6), (7, ov_i v25)]) (st2 := [ov_r 49]) (pc2 := 101) b_171_99_2 rfl rfl ?_
                refine ov_getf (v := ov_r 58) d_171_101 fl_Pace_30 (zb_49 I38) (zs_49 I38) (congrArg ov_r e35) ?_
                refine ov_blk (ls2 := [(0, ov_r 49), (1, ov_i f), (2, ov_i x2), (3, ov_i w41), (4, ov_i x4), (5, ov_i v14), (6, ov_i x6), (7, ov_i v25)]) (st2 := [ov_r 49, ov_r 58]) (pc2 := 105) b_171_104_1 rfl rfl ?_
                refine ov_getf (v := ov_r 86) d_171_105 fl_Pace_34 (zb_49 I38) (zs_49 I38) (congrArg ov_r e36) ?_
                refine ov_getf (v := ov_r 87) d_171_108 fl_Pace_101 (zb_86 I38) (zs_86 I38) (congrArg ov_r (rg_86_2 I38)) ?_
                refine ov_blk (ls2 := [(0, ov_r 49), (1, ov_i f), (2, ov_i x2), (3, ov_i w41), (4, ov_i x4), (5, ov_i v14), (6, ov_i x6), (7, ov_i v25)]) (st2 := [ov_i x4, ov_r 87, ov_r 58]) (pc2 := 113) b_171_111_1 rfl rfl ?_
                refine ov_iald d_171_113 (zb_87 I38) (zs_87 I38) (by omega) ?_
                show ov_R u d ov_m171 114 [(0, ov_r 49), (1, ov_i f), (2, ov_i x2), (3, ov_i w41), (4, ov_i x4), (5, ov_i v14), (6, ov_i x6), (7, ov_i v25)] [ov_i (h32 87 x4), ov_r 58] z31 (ov_up h32 50 x4 x6) (P_Pace_layStreets_49_k49_4_58_k49_5_86 F z h f)
                have g42 := ra_87 I33 x4
                refine ov_blk (ls2 := [(0, ov_r 49), (1, ov_i f), (2, ov_i x2), (3, ov_i w41), (4, ov_i x4), (5, ov_i v14), (6, ov_i x6), (7, ov_i v25)]) (st2 := [ov_r 49, ov_i (h32 87 x4), ov_r 58]) (pc2 := 115) b_171_114_1 rfl rfl ?_
                refine ov_getf (v := ov_r 86) d_171_115 fl_Pace_34 (zb_49 I38) (zs_49 I38) (congrArg ov_r e36) ?_
                refine ov_getf (v := ov_r 88) d_171_118 fl_Pace_104 (zb_86 I38) (zs_86 I38) (congrArg ov_r (rg_86_3 I38)) ?_
                refine ov_blk (ls2 := [(0, ov_r 49), (1, ov_i f), (2, ov_i x2), (3, ov_i w41), (4, ov_i x4), (5, ov_i v14), (6, ov_i x6), (7, ov_i v25)]) (st2 := [ov_i x4, ov_r 88, ov_i (h32 87 x4), ov_r 58]) (pc2 := 123) b_171_121_1 rfl rfl ?_
                refine ov_iald d_171_123 (zb_88 I38) (zs_88 I38) (by omega) ?_
                show ov_R u d ov_m171 124 [(0, ov_r 49), (1, ov_i f), (2, ov_i x2), (3, ov_i w41), (4, ov_i x4), (5, ov_i v14), (6, ov_i x6), (7, ov_i v25)] [ov_i (h32 88 x4), ov_i (h32 87 x4), ov_r 58] z31 (ov_up h32 50 x4 x6) (P_Pace_layStreets_49_k49_4_58_k49_5_86 F z h f)
                have g43 := ra_88 I33 x4
                refine ov_blk (ls2 := [(0, ov_r 49), (1, ov_i f), (2, ov_i x2), (3, ov_i w41), (4, ov_i x4), (5, ov_i v14), (6, ov_i x6), (7, ov_i v25)]) (st2 := [ov_i x2, ov_i (h32 88 x4), ov_i (h32 87 x4), ov_r 58]) (pc2 := 125) b_171_124_1 rfl rfl ?_
                refine ov_cV (as := [ov_i (h32 87 x4), ov_i (h32 88 x4), ov_i x2]) (st := []) (d2 := d - 1) d_171_125 lk_Pace_110 rfl (Nat.le_of_ble_eq_true rfl) (c := 9) (zb_58 I38) (zs_58 I38) ⟨by decide, rfl⟩ (by omega) (c_Town_waitFor_58 (d - 1) (by omega) U I38 (h32 87 x4) (h32 88 x4) x2 (by omega) (by omega) (by omega) (by omega)) ?_
                rintro _ _ _ ⟨v45, rfl, rfl, rfl, f44⟩
                show ov_R u d ov_m171 128 [(0, ov_r 49), (1, ov_i f), (2, ov_i x2), (3, ov_i w41), (4, ov_i x4), (5, ov_i v14), (6, ov_i x6), (7, ov_i v25)] [ov_i v45] z31 (ov_up h32 50 x4 x6) (P_Pace_layStreets_49_k49_4_58_k49_5_86 F z h f)
                have f46 : 0 ≤ v45 ∧ v45 ≤ 60 := f44
                clear f44
                refine ov_blk (ls2 := [(0, ov_r 49), (1, ov_i f), (2, ov_i x2), (3, ov_i w41), (4, ov_i x4), (5, ov_i v14), (6, ov_i x6), (7, ov_i v25), (8, ov_i v45)]) (st2 := [ov_i (x2 + v45)]) (pc2 := 134) b_171_128_4 rfl rfl ?_
                refine ov_havw (fun w47 gw47 qw47 => ?_)
                refine ov_blk (ls2 := [(0, ov_r 49), (1, ov_i f), (2, ov_i x2), (3, ov_i w41), (4, ov_i x4), (5, ov_i v14), (6, ov_i x6), (7, ov_i v25), (8, ov_i v45)]) (st2 := [ov_i (w47 + x6)]) (pc2 := 137) b_171_134_2 rfl rfl ?_
                refine ov_havw (fun w48 gw48 qw48 => ?_)
                refine ov_blk (ls2 := [(0, ov_r 49), (1, ov_i f), (2, ov_i x2), (3, ov_i w41), (4, ov_i x4), (5, ov_i v14), (6, ov_i x6), (7, ov_i v25), (8, ov_i v45)]) (st2 := [ov_r 49, ov_i w48]) (pc2 := 138) b_171_137_1 rfl rfl ?_
                refine ov_getf (v := ov_r 58) d_171_138 fl_Pace_30 (zb_49 I38) (zs_49 I38) (congrArg ov_r e35) ?_
                refine ov_getf (v := ov_i (h32 58 10)) d_171_141 fl_Pace_54 (zb_58 I38) (zs_58 I38) rfl ?_
                have g49 := rg_58_10 I33
                refine ov_cSN (as := [ov_i w48, ov_i (h32 58 10)]) (st := []) (d2 := d - 1) d_171_144 lk_Pace_61 rfl (Nat.le_of_ble_eq_true rfl) (by omega) (c_OF_modulo (d - 1) (by omega) U I38 w48 (h32 58 10) (by omega) (by omega)) ?_
                rintro _ _ _ ⟨v51, rfl, rfl, rfl, f50⟩
                show ov_R u d ov_m171 147 [(0, ov_r 49), (1, ov_i f), (2, ov_i x2), (3, ov_i w41), (4, ov_i x4), (5, ov_i v14), (6, ov_i x6), (7, ov_i v25), (8, ov_i v45)] [ov_i v51] z31 (ov_up h32 50 x4 x6) (P_Pace_layStreets_49_k49_4_58_k49_5_86 F z h f)
                have f52 : (0 < (h32 58 10) → 0 ≤ v51 ∧ v51 < (h32 58 10)) ∧ ((h32 58 10) ≤ 0 → v51 = 0) := f50
                clear f50
                refine ov_blk (ls2 := [(0, ov_r 49), (1, ov_i f), (2, ov_i v51), (3, ov_i w41), (4, ov_i (x4 + 1)), (5, ov_i v14), (6, ov_i x6), (7, ov_i v25), (8, ov_i v45)]) (st2 := []) (pc2 := 151) b_171_147_2 rfl rfl ?_
                refine ov_goto (tgt := 7) d_171_151 (by decide) ?_
                refine ov_sub (ls2 := [(0, ov_r 49), (1, ov_i f), (2, ov_i v51), (3, ov_i w41), (4, ov_i (x4 + 1))]) (List.Sublist.subset (by repeat (first | exact List.Sublist.refl _ | apply List.Sublist.cons_cons | apply List.Sublist.cons))) ?_
                exact ih2 v51 w41 (x4 + 1) _ _ I38 (by show ov_g v51 ∧ ov_g w41 ∧ 0 ≤ (x4 + 1) ∧ (x4 + 1) ≤ 13 ∧ (h32 36 7) = (h 36 7) ∧ (h32 1 1) = (h 1 1) ∧ (h32 90 2) = (h 90 2) ∧ (h32 0 10) = (h 0 10) ∧ (h32 0 11) = (h 0 11) ∧ (h32 0 12) = (h 0 12) ∧ (h32 0 13) = (h 0 13) ∧ (h32 3 1) = (h 3 1) ∧ (h32 36 8) = (h 36 8) ∧ (h32 46 3) = (h 46 3) ∧ (h32 46 4) = (h 46 4) ∧ (h32 49 4) = (h 49 4) ∧ (h32 49 5) = (h 49 5) ∧ (h32 64 0) = (h 64 0) ∧ (h32 76 0) = (h 76 0) ∧ (h32 49 4) = 58 ∧ (h32 49 5) = 86; omega) (by omega)
              · skip
                refine ov_blk (ls2 := [(0, ov_r 49), (1, ov_i f), (2, ov_i x2), (3, ov_i x3), (4, ov_i x4), (5, ov_i v14), (6, ov_i x6), (7, ov_i v25)]) (st2 := [ov_i 1, ov_i x3]) (pc2 := 94) b_171_93_1 rfl rfl ?_
                refine ov_goto (tgt := 98) d_171_94 (by decide) ?_
                refine ov_blk (ls2 := [(0, ov_r 49), (1, ov_i f), (2, ov_i x2), (3, ov_i x3), (4, ov_i x4), (5, ov_i v14), (6, ov_i x6), (7, ov_i v25)]) (st2 := [ov_i (x3 + 1)]) (pc2 := 99) b_171_98_1 rfl rfl ?_
                refine ov_havw (fun w53 gw53 qw53 => ?_)
                refine ov_blk (ls2 := [(0, ov_r 49), (1, ov_i f), (2, ov_i x2), (3, ov_i w53), (4, ov_i x4), (5, ov_i v14), (6, ov_i x6), (7, ov_i v25)]) (st2 := [ov_r 49]) (pc2 := 101) b_171_99_2 rfl rfl ?_
                refine ov_getf (v := ov_r 58) d_171_101 fl_Pace_30 (zb_49 I38) (zs_49 I38) (congrArg ov_r e35) ?_
                refine ov_blk (ls2 := [(0, ov_r 49), (1, ov_i f), (2, ov_i x2), (3, ov_i w53), (4, ov_i x4), (5, ov_i v14), (6, ov_i x6), (7, ov_i v25)]) (st2 := [ov_r 49, ov_r 58]) (pc2 := 105) b_171_104_1 rfl rfl ?_
                refine ov_getf (v := ov_r 86) d_171_105 fl_Pace_34 (zb_49 I38) (zs_49 I38) (congrArg ov_r e36) ?_
                refine ov_getf (v := ov_r 87) d_171_108 fl_Pace_101 (zb_86 I38) (zs_86 I38) (congrArg ov_r (rg_86_2 I38)) ?_
                refine ov_blk (ls2 := [(0, ov_r 49), (1, ov_i f), (2, ov_i x2), (3, ov_i w53), (4, ov_i x4), (5, ov_i v14), (6, ov_i x6), (7, ov_i v25)]) (st2 := [ov_i x4, ov_r 87, ov_r 58]) (pc2 := 113) b_171_111_1 rfl rfl ?_
                refine ov_iald d_171_113 (zb_87 I38) (zs_87 I38) (by omega) ?_
                show ov_R u d ov_m171 114 [(0, ov_r 49), (1, ov_i f), (2, ov_i x2), (3, ov_i w53), (4, ov_i x4), (5, ov_i v14), (6, ov_i x6), (7, ov_i v25)] [ov_i (h32 87 x4), ov_r 58] z31 (ov_up h32 50 x4 x6) (P_Pace_layStreets_49_k49_4_58_k49_5_86 F z h f)
                have g54 := ra_87 I33 x4
                refine ov_blk (ls2 := [(0, ov_r 49), (1, ov_i f), (2, ov_i x2), (3, ov_i w53), (4, ov_i x4), (5, ov_i v14), (6, ov_i x6), (7, ov_i v25)]) (st2 := [ov_r 49, ov_i (h32 87 x4), ov_r 58]) (pc2 := 115) b_171_114_1 rfl rfl ?_
                refine ov_getf (v := ov_r 86) d_171_115 fl_Pace_34 (zb_49 I38) (zs_49 I38) (congrArg ov_r e36) ?_
                refine ov_getf (v := ov_r 88) d_171_118 fl_Pace_104 (zb_86 I38) (zs_86 I38) (congrArg ov_r (rg_86_3 I38)) ?_
                refine ov_blk (ls2 := [(0, ov_r 49), (1, ov_i f), (2, ov_i x2), (3, ov_i w53), (4, ov_i x4), (5, ov_i v14), (6, ov_i x6), (7, ov_i v25)]) (st2 := [ov_i x4, ov_r 88, ov_i (h32 87 x4), ov_r 58]) (pc2 := 123) b_171_121_1 rfl rfl ?_
                refine ov_iald d_171_123 (zb_88 I38) (zs_88 I38) (by omega) ?_
                show ov_R u d ov_m171 124 [(0, ov_r 49), (1, ov_i f), (2, ov_i x2), (3, ov_i w53), (4, ov_i x4), (5, ov_i v14), (6, ov_i x6), (7, ov_i v25)] [ov_i (h32 88 x4), ov_i (h32 87 x4), ov_r 58] z31 (ov_up h32 50 x4 x6) (P_Pace_layStreets_49_k49_4_58_k49_5_86 F z h f)
                have g55 := ra_88 I33 x4
                refine ov_blk (ls2 := [(0, ov_r 49), (1, ov_i f), (2, ov_i x2), (3, ov_i w53), (4, ov_i x4), (5, ov_i v14), (6, ov_i x6), (7, ov_i v25)]) (st2 := [ov_i x2, ov_i (h32 88 x4), ov_i (h32 87 x4), ov_r 58]) (pc2 := 125) b_171_124_1 rfl rfl ?_
                refine ov_cV (as := [ov_i (h32 87 x4), ov_i (h32 88 x4), ov_i x2]) (st := []) (d2 := d - 1) d_171_125 lk_Pace_110 rfl (Nat.le_of_ble_eq_true rfl) (c := 9) (zb_58 I38) (zs_58 I38) ⟨by decide, rfl⟩ (by omega) (c_Town_waitFor_58 (d - 1) (by omega) U I38 (h32 87 x4) (h32 88 x4) x2 (by omega) (by omega) (by omega) (by omega)) ?_
                rintro _ _ _ ⟨v57, rfl, rfl, rfl, f56⟩
                show ov_R u d ov_m171 128 [(0, ov_r 49), (1, ov_i f), (2, ov_i x2), (3, ov_i w53), (4, ov_i x4), (5, ov_i v14), (6, ov_i x6), (7, ov_i v25)] [ov_i v57] z31 (ov_up h32 50 x4 x6) (P_Pace_layStreets_49_k49_4_58_k49_5_86 F z h f)
                have f58 : 0 ≤ v57 ∧ v57 ≤ 60 := f56
                clear f56
                refine ov_blk (ls2 := [(0, ov_r 49), (1, ov_i f), (2, ov_i x2), (3, ov_i w53), (4, ov_i x4), (5, ov_i v14), (6, ov_i x6), (7, ov_i v25), (8, ov_i v57)]) (st2 := [ov_i (x2 + v57)]) (pc2 := 134) b_171_128_4 rfl rfl ?_
                refine ov_havw (fun w59 gw59 qw59 => ?_)
                refine ov_blk (ls2 := [(0, ov_r 49), (1, ov_i f), (2, ov_i x2), (3, ov_i w53), (4, ov_i x4), (5, ov_i v14), (6, ov_i x6), (7, ov_i v25), (8, ov_i v57)]) (st2 := [ov_i (w59 + x6)]) (pc2 := 137) b_171_134_2 rfl rfl ?_
                refine ov_havw (fun w60 gw60 qw60 => ?_)
                refine ov_blk (ls2 := [(0, ov_r 49), (1, ov_i f), (2, ov_i x2), (3, ov_i w53), (4, ov_i x4), (5, ov_i v14), (6, ov_i x6), (7, ov_i v25), (8, ov_i v57)]) (st2 := [ov_r 49, ov_i w60]) (pc2 := 138) b_171_137_1 rfl rfl ?_
                refine ov_getf (v := ov_r 58) d_171_138 fl_Pace_30 (zb_49 I38) (zs_49 I38) (congrArg ov_r e35) ?_
                refine ov_getf (v := ov_i (h32 58 10)) d_171_141 fl_Pace_54 (zb_58 I38) (zs_58 I38) rfl ?_
                have g61 := rg_58_10 I33
                refine ov_cSN (as := [ov_i w60, ov_i (h32 58 10)]) (st := []) (d2 := d - 1) d_171_144 lk_Pace_61 rfl (Nat.le_of_ble_eq_true rfl) (by omega) (c_OF_modulo (d - 1) (by omega) U I38 w60 (h32 58 10) (by omega) (by omega)) ?_
                rintro _ _ _ ⟨v63, rfl, rfl, rfl, f62⟩
                show ov_R u d ov_m171 147 [(0, ov_r 49), (1, ov_i f), (2, ov_i x2), (3, ov_i w53), (4, ov_i x4), (5, ov_i v14), (6, ov_i x6), (7, ov_i v25), (8, ov_i v57)] [ov_i v63] z31 (ov_up h32 50 x4 x6) (P_Pace_layStreets_49_k49_4_58_k49_5_86 F z h f)
                have f64 : (0 < (h32 58 10) → 0 ≤ v63 ∧ v63 < (h32 58 10)) ∧ ((h32 58 10) ≤ 0 → v63 = 0) := f62
                clear f62
                refine ov_blk (ls2 := [(0, ov_r 49), (1, ov_i f), (2, ov_i v63), (3, ov_i w53), (4, ov_i (x4 + 1)), (5, ov_i v14), (6, ov_i x6), (7, ov_i v25), (8, ov_i v57)]) (st2 := []) (pc2 := 151) b_171_147_2 rfl rfl ?_
                refine ov_goto (tgt := 7) d_171_151 (by decide) ?_
                refine ov_sub (ls2 := [(0, ov_r 49), (1, ov_i f), (2, ov_i v63), (3, ov_i w53), (4, ov_i (x4 + 1))]) (List.Sublist.subset (by repeat (first | exact List.Sublist.refl _ | apply List.Sublist.cons_cons | apply List.Sublist.cons))) ?_
                exact ih2 v63 w53 (x4 + 1) _ _ I38 (by show ov_g v63 ∧ ov_g w53 ∧ 0 ≤ (x4 + 1) ∧ (x4 + 1) ≤ 13 ∧ (h32 36 7) = (h 36 7) ∧ (h32 1 1) = (h 1 1) ∧ (h32 90 2) = (h 90 2) ∧ (h32 0 10) = (h 0 10) ∧ (h32 0 11) = (h 0 11) ∧ (h32 0 12) = (h 0 12) ∧ (h32 0 13) = (h 0 13) ∧ (h32 3 1) = (h 3 1) ∧ (h32 36 8) = (h 36 8) ∧ (h32 46 3) = (h 46 3) ∧ (h32 46 4) = (h 46 4) ∧ (h32 49 4) = (h 49 4) ∧ (h32 49 5) = (h 49 5) ∧ (h32 64 0) = (h 64 0) ∧ (h32 76 0) = (h 76 0) ∧ (h32 49 4) = 58 ∧ (h32 49 5) = 86; omega) (by omega)
            · skip
              refine ov_blk (ls2 := [(0, ov_r 49), (1, ov_i f), (2, ov_i x2), (3, ov_i x3), (4, ov_i x4), (5, ov_i v14), (6, ov_i x6), (7, ov_i v25)]) (st2 := [ov_i x6, ov_i x2, ov_i x3, ov_i x4, ov_r 49]) (pc2 := 55) b_171_48_5 rfl rfl ?_
              refine ov_cV (as := [ov_i x4, ov_i x3, ov_i x2, ov_i x6]) (st := []) (d2 := d - 1) d_171_55 lk_Pace_93 rfl (Nat.le_of_ble_eq_true rfl) (c := 5) (zb_49 I33) (zs_49 I33) ⟨by decide, rfl⟩ (by omega) (c_Pace_costBy_49_k49_4_58_k49_5_86_all (Int.toNat (13 - (x4))) (d - 1) (by omega) U I33 x4 x3 x2 x6 e35 e36 (by omega) (by omega) (by omega) (by omega) (by omega) (by omega)) ?_
              rintro _ z67 h68 ⟨v66, rfl, I69, f65⟩
              show ov_R u d ov_m171 58 [(0, ov_r 49), (1, ov_i f), (2, ov_i x2), (3, ov_i x3), (4, ov_i x4), (5, ov_i v14), (6, ov_i x6), (7, ov_i v25)] [ov_i v66] z67 h68 (P_Pace_layStreets_49_k49_4_58_k49_5_86 F z h f)
              have f70 : -2147483648 ≤ v66 ∧ v66 ≤ 2147483647 ∧ (h68 36 7) = (h32 36 7) ∧ (h68 1 1) = (h32 1 1) ∧ (h68 90 2) = (h32 90 2) ∧ (h68 0 10) = (h32 0 10) ∧ (h68 0 11) = (h32 0 11) ∧ (h68 0 12) = (h32 0 12) ∧ (h68 0 13) = (h32 0 13) ∧ (h68 3 1) = (h32 3 1) ∧ (h68 36 8) = (h32 36 8) ∧ (h68 46 3) = (h32 46 3) ∧ (h68 46 4) = (h32 46 4) ∧ (h68 49 4) = (h32 49 4) ∧ (h68 49 5) = (h32 49 5) ∧ (h68 64 0) = (h32 64 0) ∧ (h68 76 0) = (h32 76 0) := f65
              clear f65
              have e71 : h68 49 4 = 58 := by omega
              have e72 : h68 49 5 = 86 := by omega
              refine ov_blk (ls2 := [(0, ov_r 49), (1, ov_i f), (2, ov_i x2), (3, ov_i x3), (4, ov_i x4), (5, ov_i v14), (6, ov_i x6), (7, ov_i v25)]) (st2 := [ov_i v14, ov_i v66]) (pc2 := 60) b_171_58_1 rfl rfl ?_
              refine ov_iceq (tgt := 69) d_171_60 (by decide) (by omega) (by omega) (fun c73 => ?_) (fun c73 => ?_)
              · skip
                refine ov_blk (ls2 := [(0, ov_r 49), (1, ov_i f), (2, ov_i x2), (3, ov_i x3), (4, ov_i x4), (5, ov_i v14), (6, ov_i x6), (7, ov_i v25)]) (st2 := [ov_r 49]) (pc2 := 70) b_171_69_1 rfl rfl ?_
                refine ov_getf (v := ov_r 50) d_171_70 fl_Pace_9 (zb_49 I69) (zs_49 I69) (congrArg ov_r (rg_49_2 I69)) ?_
                refine ov_blk (ls2 := [(0, ov_r 49), (1, ov_i f), (2, ov_i x2), (3, ov_i x3), (4, ov_i x4), (5, ov_i v14), (6, ov_i x6), (7, ov_i v25)]) (st2 := [ov_i x6, ov_i x4, ov_r 50]) (pc2 := 77) b_171_73_2 rfl rfl ?_
                refine ov_iast d_171_77 (zb_50 I69) (zs_50 I69) (by omega) ?_
                have I74 := ua_50 (k := x4) (x := x6) I69 (by omega)
                refine ov_blk (ls2 := [(0, ov_r 49), (1, ov_i f), (2, ov_i x2), (3, ov_i x3), (4, ov_i x4), (5, ov_i v14), (6, ov_i x6), (7, ov_i v25)]) (st2 := [ov_r 49, ov_i x6, ov_i x3]) (pc2 := 82) b_171_78_3 rfl rfl ?_
                refine ov_getf (v := ov_r 58) d_171_82 fl_Pace_30 (zb_49 I74) (zs_49 I74) (congrArg ov_r e71) ?_
                refine ov_getf (v := ov_r 64) d_171_85 fl_Pace_43 (zb_58 I74) (zs_58 I74) (congrArg ov_r (rg_58_7 I74)) ?_
                refine ov_blk (ls2 := [(0, ov_r 49), (1, ov_i f), (2, ov_i x2), (3, ov_i x3), (4, ov_i x4), (5, ov_i v14), (6, ov_i x6), (7, ov_i v25)]) (st2 := [ov_i 0, ov_r 64, ov_i x6, ov_i x3]) (pc2 := 89) b_171_88_1 rfl rfl ?_
                refine ov_iald d_171_89 (zb_64 I74) (zs_64 I74) (by omega) ?_
                show ov_R u d ov_m171 90 [(0, ov_r 49), (1, ov_i f), (2, ov_i x2), (3, ov_i x3), (4, ov_i x4), (5, ov_i v14), (6, ov_i x6), (7, ov_i v25)] [ov_i (h68 64 0), ov_i x6, ov_i x3] z67 (ov_up h68 50 x4 x6) (P_Pace_layStreets_49_k49_4_58_k49_5_86 F z h f)
                have g75 := ra_64 I69 0
                refine ov_icge (tgt := 97) d_171_90 (by decide) (by omega) (by omega) (fun c76 => ?_) (fun c76 => ?_)
                · skip
                  refine ov_blk (ls2 := [(0, ov_r 49), (1, ov_i f), (2, ov_i x2), (3, ov_i x3), (4, ov_i x4), (5, ov_i v14), (6, ov_i x6), (7, ov_i v25)]) (st2 := [ov_i (x3 + 0)]) (pc2 := 99) b_171_97_2 rfl rfl ?_
                  refine ov_havw (fun w77 gw77 qw77 => ?_)
                  refine ov_blk (ls2 := [(0, ov_r 49), (1, ov_i f), (2, ov_i x2), (3, ov_i w77), (4, ov_i x4), (5, ov_i v14), (6, ov_i x6), (7, ov_i v25)]) (st2 := [ov_r 49]) (pc2 := 101) b_171_99_2 rfl rfl ?_
                  refine ov_getf (v := ov_r 58) d_171_101 fl_Pace_30 (zb_49 I74) (zs_49 I74) (congrArg ov_r e71) ?_
                  refine ov_blk (ls2 := [(0, ov_r 49), (1, ov_i f), (2, ov_i x2), (3, ov_i w77), (4, ov_i x4), (5, ov_i v14), (6, ov_i x6), (7, ov_i v25)]) (st2 := [ov_r 49, ov_r 58]) (pc2 := 105) b_171_104_1 rfl rfl ?_
                  refine ov_getf (v := ov_r 86) d_171_105 fl_Pace_34 (zb_49 I74) (zs_49 I74) (congrArg ov_r e72) ?_
                  refine ov_getf (v := ov_r 87) d_171_108 fl_Pace_101 (zb_86 I74) (zs_86 I74) (congrArg ov_r (rg_86_2 I74)) ?_
                  refine ov_blk (ls2 := [(0, ov_r 49), (1, ov_i f), (2, ov_i x2), (3, ov_i w77), (4, ov_i x4), (5, ov_i v14), (6, ov_i x6), (7, ov_i v25)]) (st2 := [ov_i x4, ov_r 87, ov_r 58]) (pc2 := 113) b_171_111_1 rfl rfl ?_
                  refine ov_iald d_171_113 (zb_87 I74) (zs_87 I74) (by omega) ?_
                  show ov_R u d ov_m171 114 [(0, ov_r 49), (1, ov_i f), (2, ov_i x2), (3, ov_i w77), (4, ov_i x4), (5, ov_i v14), (6, ov_i x6), (7, ov_i v25)] [ov_i (h68 87 x4), ov_r 58] z67 (ov_up h68 50 x4 x6) (P_Pace_layStreets_49_k49_4_58_k49_5_86 F z h f)
                  have g78 := ra_87 I69 x4
                  refine ov_blk (ls2 := [(0, ov_r 49), (1, ov_i f), (2, ov_i x2), (3, ov_i w77), (4, ov_i x4), (5, ov_i v14), (6, ov_i x6), (7, ov_i v25)]) (st2 := [ov_r 49, ov_i (h68 87 x4), ov_r 58]) (pc2 := 115) b_171_114_1 rfl rfl ?_
                  refine ov_getf (v := ov_r 86) d_171_115 fl_Pace_34 (zb_49 I74) (zs_49 I74) (congrArg ov_r e72) ?_
                  refine ov_getf (v := ov_r 88) d_171_118 fl_Pace_104 (zb_86 I74) (zs_86 I74) (congrArg ov_r (rg_86_3 I74)) ?_
                  refine ov_blk (ls2 := [(0, ov_r 49), (1, ov_i f), (2, ov_i x2), (3, ov_i w77), (4, ov_i x4), (5, ov_i v14), (6, ov_i x6), (7, ov_i v25)]) (st2 := [ov_i x4, ov_r 88, ov_i (h68 87 x4), ov_r 58]) (pc2 := 123) b_171_121_1 rfl rfl ?_
                  refine ov_iald d_171_123 (zb_88 I74) (zs_88 I74) (by omega) ?_
                  show ov_R u d ov_m171 124 [(0, ov_r 49), (1, ov_i f), (2, ov_i x2), (3, ov_i w77), (4, ov_i x4), (5, ov_i v14), (6, ov_i x6), (7, ov_i v25)] [ov_i (h68 88 x4), ov_i (h68 87 x4), ov_r 58] z67 (ov_up h68 50 x4 x6) (P_Pace_layStreets_49_k49_4_58_k49_5_86 F z h f)
                  have g79 := ra_88 I69 x4
                  refine ov_blk (ls2 := [(0, ov_r 49), (1, ov_i f), (2, ov_i x2), (3, ov_i w77), (4, ov_i x4), (5, ov_i v14), (6, ov_i x6), (7, ov_i v25)]) (st2 := [ov_i x2, ov_i (h68 88 x4), ov_i (h68 87 x4), ov_r 58]) (pc2 := 125) b_171_124_1 rfl rfl ?_
                  refine ov_cV (as := [ov_i (h68 87 x4), ov_i (h68 88 x4), ov_i x2]) (st := []) (d2 := d - 1) d_171_125 lk_Pace_110 rfl (Nat.le_of_ble_eq_true rfl) (c := 9) (zb_58 I74) (zs_58 I74) ⟨by decide, rfl⟩ (by omega) (c_Town_waitFor_58 (d - 1) (by omega) U I74 (h68 87 x4) (h68 88 x4) x2 (by omega) (by omega) (by omega) (by omega)) ?_
                  rintro _ _ _ ⟨v81, rfl, rfl, rfl, f80⟩
                  show ov_R u d ov_m171 128 [(0, ov_r 49), (1, ov_i f), (2, ov_i x2), (3, ov_i w77), (4, ov_i x4), (5, ov_i v14), (6, ov_i x6), (7, ov_i v25)] [ov_i v81] z67 (ov_up h68 50 x4 x6) (P_Pace_layStreets_49_k49_4_58_k49_5_86 F z h f)
                  have f82 : 0 ≤ v81 ∧ v81 ≤ 60 := f80
                  clear f80
                  refine ov_blk (ls2 := [(0, ov_r 49), (1, ov_i f), (2, ov_i x2), (3, ov_i w77), (4, ov_i x4), (5, ov_i v14), (6, ov_i x6), (7, ov_i v25), (8, ov_i v81)]) (st2 := [ov_i (x2 + v81)]) (pc2 := 134) b_171_128_4 rfl rfl ?_
                  refine ov_havw (fun w83 gw83 qw83 => ?_)
                  refine ov_blk (ls2 := [(0, ov_r 49), (1, ov_i f), (2, ov_i x2), (3, ov_i w77), (4, ov_i x4), (5, ov_i v14), (6, ov_i x6), (7, ov_i v25), (8, ov_i v81)]) (st2 := [ov_i (w83 + x6)]) (pc2 := 137) b_171_134_2 rfl rfl ?_
                  refine ov_havw (fun w84 gw84 qw84 => ?_)
                  refine ov_blk (ls2 := [(0, ov_r 49), (1, ov_i f), (2, ov_i x2), (3, ov_i w77), (4, ov_i x4), (5, ov_i v14), (6, ov_i x6), (7, ov_i v25), (8, ov_i v81)]) (st2 := [ov_r 49, ov_i w84]) (pc2 := 138) b_171_137_1 rfl rfl ?_
                  refine ov_getf (v := ov_r 58) d_171_138 fl_Pace_30 (zb_49 I74) (zs_49 I74) (congrArg ov_r e71) ?_
                  refine ov_getf (v := ov_i (h68 58 10)) d_171_141 fl_Pace_54 (zb_58 I74) (zs_58 I74) rfl ?_
                  have g85 := rg_58_10 I69
                  refine ov_cSN (as := [ov_i w84, ov_i (h68 58 10)]) (st := []) (d2 := d - 1) d_171_144 lk_Pace_61 rfl (Nat.le_of_ble_eq_true rfl) (by omega) (c_OF_modulo (d - 1) (by omega) U I74 w84 (h68 58 10) (by omega) (by omega)) ?_
                  rintro _ _ _ ⟨v87, rfl, rfl, rfl, f86⟩
                  show ov_R u d ov_m171 147 [(0, ov_r 49), (1, ov_i f), (2, ov_i x2), (3, ov_i w77), (4, ov_i x4), (5, ov_i v14), (6, ov_i x6), (7, ov_i v25), (8, ov_i v81)] [ov_i v87] z67 (ov_up h68 50 x4 x6) (P_Pace_layStreets_49_k49_4_58_k49_5_86 F z h f)
                  have f88 : (0 < (h68 58 10) → 0 ≤ v87 ∧ v87 < (h68 58 10)) ∧ ((h68 58 10) ≤ 0 → v87 = 0) := f86
                  clear f86
                  refine ov_blk (ls2 := [(0, ov_r 49), (1, ov_i f), (2, ov_i v87), (3, ov_i w77), (4, ov_i (x4 + 1)), (5, ov_i v14), (6, ov_i x6), (7, ov_i v25), (8, ov_i v81)]) (st2 := []) (pc2 := 151) b_171_147_2 rfl rfl ?_
                  refine ov_goto (tgt := 7) d_171_151 (by decide) ?_
                  refine ov_sub (ls2 := [(0, ov_r 49), (1, ov_i f), (2, ov_i v87), (3, ov_i w77), (4, ov_i (x4 + 1))]) (List.Sublist.subset (by repeat (first | exact List.Sublist.refl _ | apply List.Sublist.cons_cons | apply List.Sublist.cons))) ?_
                  exact ih2 v87 w77 (x4 + 1) _ _ I74 (by show ov_g v87 ∧ ov_g w77 ∧ 0 ≤ (x4 + 1) ∧ (x4 + 1) ≤ 13 ∧ (h68 36 7) = (h 36 7) ∧ (h68 1 1) = (h 1 1) ∧ (h68 90 2) = (h 90 2) ∧ (h68 0 10) = (h 0 10) ∧ (h68 0 11) = (h 0 11) ∧ (h68 0 12) = (h 0 12) ∧ (h68 0 13) = (h 0 13) ∧ (h68 3 1) = (h 3 1) ∧ (h68 36 8) = (h 36 8) ∧ (h68 46 3) = (h 46 3) ∧ (h68 46 4) = (h 46 4) ∧ (h68 49 4) = (h 49 4) ∧ (h68 49 5) = (h 49 5) ∧ (h68 64 0) = (h 64 0) ∧ (h68 76 0) = (h 76 0) ∧ (h68 49 4) = 58 ∧ (h68 49 5) = 86; omega) (by omega)
                · skip
                  refine ov_blk (ls2 := [(0, ov_r 49), (1, ov_i f), (2, ov_i x2), (3, ov_i x3), (4, ov_i x4), (5, ov_i v14), (6, ov_i x6), (7, ov_i v25)]) (st2 := [ov_i 1, ov_i x3]) (pc2 := 94) b_171_93_1 rfl rfl ?_
                  refine ov_goto (tgt := 98) d_171_94 (by decide) ?_
                  refine ov_blk (ls2 := [(0, ov_r 49), (1, ov_i f), (2, ov_i x2), (3, ov_i x3), (4, ov_i x4), (5, ov_i v14), (6, ov_i x6), (7, ov_i v25)]) (st2 := [ov_i (x3 + 1)]) (pc2 := 99) b_171_98_1 rfl rfl ?_
                  refine ov_havw (fun w89 gw89 qw89 => ?_)
                  refine ov_blk (ls2 := [(0, ov_r 49), (1, ov_i f), (2, ov_i x2), (3, ov_i w89), (4, ov_i x4), (5, ov_i v14), (6, ov_i x6), (7, ov_i v25)]) (st2 := [ov_r 49]) (pc2 := 101) b_171_99_2 rfl rfl ?_
                  refine ov_getf (v := ov_r 58) d_171_101 fl_Pace_30 (zb_49 I74) (zs_49 I74) (congrArg ov_r e71) ?_
                  refine ov_blk (ls2 := [(0, ov_r 49), (1, ov_i f), (2, ov_i x2), (3, ov_i w89), (4, ov_i x4), (5, ov_i v14), (6, ov_i x6), (7, ov_i v25)]) (st2 := [ov_r 49, ov_r 58]) (pc2 := 105) b_171_104_1 rfl rfl ?_
                  refine ov_getf (v := ov_r 86) d_171_105 fl_Pace_34 (zb_49 I74) (zs_49 I74) (congrArg ov_r e72) ?_
                  refine ov_getf (v := ov_r 87) d_171_108 fl_Pace_101 (zb_86 I74) (zs_86 I74) (congrArg ov_r (rg_86_2 I74)) ?_
                  refine ov_blk (ls2 := [(0, ov_r 49), (1, ov_i f), (2, ov_i x2), (3, ov_i w89), (4, ov_i x4), (5, ov_i v14), (6, ov_i x6), (7, ov_i v25)]) (st2 := [ov_i x4, ov_r 87, ov_r 58]) (pc2 := 113) b_171_111_1 rfl rfl ?_
                  refine ov_iald d_171_113 (zb_87 I74) (zs_87 I74) (by omega) ?_
                  show ov_R u d ov_m171 114 [(0, ov_r 49), (1, ov_i f), (2, ov_i x2), (3, ov_i w89), (4, ov_i x4), (5, ov_i v14), (6, ov_i x6), (7, ov_i v25)] [ov_i (h68 87 x4), ov_r 58] z67 (ov_up h68 50 x4 x6) (P_Pace_layStreets_49_k49_4_58_k49_5_86 F z h f)
                  have g90 := ra_87 I69 x4
                  refine ov_blk (ls2 := [(0, ov_r 49), (1, ov_i f), (2, ov_i x2), (3, ov_i w89), (4, ov_i x4), (5, ov_i v14), (6, ov_i x6), (7, ov_i v25)]) (st2 := [ov_r 49, ov_i (h68 87 x4), ov_r 58]) (pc2 := 115) b_171_114_1 rfl rfl ?_
                  refine ov_getf (v := ov_r 86) d_171_115 fl_Pace_34 (zb_49 I74) (zs_49 I74) (congrArg ov_r e72) ?_
                  refine ov_getf (v := ov_r 88) d_171_118 fl_Pace_104 (zb_86 I74) (zs_86 I74) (congrArg ov_r (rg_86_3 I74)) ?_
                  refine ov_blk (ls2 := [(0, ov_r 49), (1, ov_i f), (2, ov_i x2), (3, ov_i w89), (4, ov_i x4), (5, ov_i v14), (6, ov_i x6), (7, ov_i v25)]) (st2 := [ov_i x4, ov_r 88, ov_i (h68 87 x4), ov_r 58]) (pc2 := 123) b_171_121_1 rfl rfl ?_
                  refine ov_iald d_171_123 (zb_88 I74) (zs_88 I74) (by omega) ?_
                  show ov_R u d ov_m171 124 [(0, ov_r 49), (1, ov_i f), (2, ov_i x2), (3, ov_i w89), (4, ov_i x4), (5, ov_i v14), (6, ov_i x6), (7, ov_i v25)] [ov_i (h68 88 x4), ov_i (h68 87 x4), ov_r 58] z67 (ov_up h68 50 x4 x6) (P_Pace_layStreets_49_k49_4_58_k49_5_86 F z h f)
                  have g91 := ra_88 I69 x4
                  refine ov_blk (ls2 := [(0, ov_r 49), (1, ov_i f), (2, ov_i x2), (3, ov_i w89), (4, ov_i x4), (5, ov_i v14), (6, ov_i x6), (7, ov_i v25)]) (st2 := [ov_i x2, ov_i (h68 88 x4), ov_i (h68 87 x4), ov_r 58]) (pc2 := 125) b_171_124_1 rfl rfl ?_
                  refine ov_cV (as := [ov_i (h68 87 x4), ov_i (h68 88 x4), ov_i x2]) (st := []) (d2 := d - 1) d_171_125 lk_Pace_110 rfl (Nat.le_of_ble_eq_true rfl) (c := 9) (zb_58 I74) (zs_58 I74) ⟨by decide, rfl⟩ (by omega) (c_Town_waitFor_58 (d - 1) (by omega) U I74 (h68 87 x4) (h68 88 x4) x2 (by omega) (by omega) (by omega) (by omega)) ?_
                  rintro _ _ _ ⟨v93, rfl, rfl, rfl, f92⟩
                  show ov_R u d ov_m171 128 [(0, ov_r 49), (1, ov_i f), (2, ov_i x2), (3, ov_i w89), (4, ov_i x4), (5, ov_i v14), (6, ov_i x6), (7, ov_i v25)] [ov_i v93] z67 (ov_up h68 50 x4 x6) (P_Pace_layStreets_49_k49_4_58_k49_5_86 F z h f)
                  have f94 : 0 ≤ v93 ∧ v93 ≤ 60 := f92
                  clear f92
                  refine ov_blk (ls2 := [(0, ov_r 49), (1, ov_i f), (2, ov_i x2), (3, ov_i w89), (4, ov_i x4), (5, ov_i v14), (6, ov_i x6), (7, ov_i v25), (8, ov_i v93)]) (st2 := [ov_i (x2 + v93)]) (pc2 := 134) b_171_128_4 rfl rfl ?_
                  refine ov_havw (fun w95 gw95 qw95 => ?_)
                  refine ov_blk (ls2 := [(0, ov_r 49), (1, ov_i f), (2, ov_i x2), (3, ov_i w89), (4, ov_i x4), (5, ov_i v14), (6, ov_i x6), (7, ov_i v25), (8, ov_i v93)]) (st2 := [ov_i (w95 + x6)]) (pc2 := 137) b_171_134_2 rfl rfl ?_
                  refine ov_havw (fun w96 gw96 qw96 => ?_)
                  refine ov_blk (ls2 := [(0, ov_r 49), (1, ov_i f), (2, ov_i x2), (3, ov_i w89), (4, ov_i x4), (5, ov_i v14), (6, ov_i x6), (7, ov_i v25), (8, ov_i v93)]) (st2 := [ov_r 49, ov_i w96]) (pc2 := 138) b_171_137_1 rfl rfl ?_
                  refine ov_getf (v := ov_r 58) d_171_138 fl_Pace_30 (zb_49 I74) (zs_49 I74) (congrArg ov_r e71) ?_
                  refine ov_getf (v := ov_i (h68 58 10)) d_171_141 fl_Pace_54 (zb_58 I74) (zs_58 I74) rfl ?_
                  have g97 := rg_58_10 I69
                  refine ov_cSN (as := [ov_i w96, ov_i (h68 58 10)]) (st := []) (d2 := d - 1) d_171_144 lk_Pace_61 rfl (Nat.le_of_ble_eq_true rfl) (by omega) (c_OF_modulo (d - 1) (by omega) U I74 w96 (h68 58 10) (by omega) (by omega)) ?_
                  rintro _ _ _ ⟨v99, rfl, rfl, rfl, f98⟩
                  show ov_R u d ov_m171 147 [(0, ov_r 49), (1, ov_i f), (2, ov_i x2), (3, ov_i w89), (4, ov_i x4), (5, ov_i v14), (6, ov_i x6), (7, ov_i v25), (8, ov_i v93)] [ov_i v99] z67 (ov_up h68 50 x4 x6) (P_Pace_layStreets_49_k49_4_58_k49_5_86 F z h f)
                  have f100 : (0 < (h68 58 10) → 0 ≤ v99 ∧ v99 < (h68 58 10)) ∧ ((h68 58 10) ≤ 0 → v99 = 0) := f98
                  clear f98
                  refine ov_blk (ls2 := [(0, ov_r 49), (1, ov_i f), (2, ov_i v99), (3, ov_i w89), (4, ov_i (x4 + 1)), (5, ov_i v14), (6, ov_i x6), (7, ov_i v25), (8, ov_i v93)]) (st2 := []) (pc2 := 151) b_171_147_2 rfl rfl ?_
                  refine ov_goto (tgt := 7) d_171_151 (by decide) ?_
                  refine ov_sub (ls2 := [(0, ov_r 49), (1, ov_i f), (2, ov_i v99), (3, ov_i w89), (4, ov_i (x4 + 1))]) (List.Sublist.subset (by repeat (first | exact List.Sublist.refl _ | apply List.Sublist.cons_cons | apply List.Sublist.cons))) ?_
                  exact ih2 v99 w89 (x4 + 1) _ _ I74 (by show ov_g v99 ∧ ov_g w89 ∧ 0 ≤ (x4 + 1) ∧ (x4 + 1) ≤ 13 ∧ (h68 36 7) = (h 36 7) ∧ (h68 1 1) = (h 1 1) ∧ (h68 90 2) = (h 90 2) ∧ (h68 0 10) = (h 0 10) ∧ (h68 0 11) = (h 0 11) ∧ (h68 0 12) = (h 0 12) ∧ (h68 0 13) = (h 0 13) ∧ (h68 3 1) = (h 3 1) ∧ (h68 36 8) = (h 36 8) ∧ (h68 46 3) = (h 46 3) ∧ (h68 46 4) = (h 46 4) ∧ (h68 49 4) = (h 49 4) ∧ (h68 49 5) = (h 49 5) ∧ (h68 64 0) = (h 64 0) ∧ (h68 76 0) = (h 76 0) ∧ (h68 49 4) = 58 ∧ (h68 49 5) = 86; omega) (by omega)
              · skip
                refine ov_blk (ls2 := [(0, ov_r 49), (1, ov_i f), (2, ov_i x2), (3, ov_i x3), (4, ov_i x4), (5, ov_i v14), (6, ov_i (x6 + 1)), (7, ov_i v25)]) (st2 := []) (pc2 := 66) b_171_63_1 rfl rfl ?_
                refine ov_goto (tgt := 41) d_171_66 (by decide) ?_
                exact ih28 (x6 + 1) _ _ I69 (by show -1 ≤ (x6 + 1) ∧ (x6 + 1) ≤ 31 ∧ (h68 36 7) = (h 36 7) ∧ (h68 1 1) = (h 1 1) ∧ (h68 90 2) = (h 90 2) ∧ (h68 0 10) = (h 0 10) ∧ (h68 0 11) = (h 0 11) ∧ (h68 0 12) = (h 0 12) ∧ (h68 0 13) = (h 0 13) ∧ (h68 3 1) = (h 3 1) ∧ (h68 36 8) = (h 36 8) ∧ (h68 46 3) = (h 46 3) ∧ (h68 46 4) = (h 46 4) ∧ (h68 49 4) = (h 49 4) ∧ (h68 49 5) = (h 49 5) ∧ (h68 64 0) = (h 64 0) ∧ (h68 76 0) = (h 76 0) ∧ (h68 49 4) = 58 ∧ (h68 49 5) = 86; omega) (by omega)
        exact L30 40 v22 _ _ I17 (by show -1 ≤ v22 ∧ v22 ≤ 31 ∧ (h16 36 7) = (h 36 7) ∧ (h16 1 1) = (h 1 1) ∧ (h16 90 2) = (h 90 2) ∧ (h16 0 10) = (h 0 10) ∧ (h16 0 11) = (h 0 11) ∧ (h16 0 12) = (h 0 12) ∧ (h16 0 13) = (h 0 13) ∧ (h16 3 1) = (h 3 1) ∧ (h16 36 8) = (h 36 8) ∧ (h16 46 3) = (h 46 3) ∧ (h16 46 4) = (h 46 4) ∧ (h16 49 4) = (h 49 4) ∧ (h16 49 5) = (h 49 5) ∧ (h16 64 0) = (h 64 0) ∧ (h16 76 0) = (h 76 0) ∧ (h16 49 4) = 58 ∧ (h16 49 5) = 86; omega) (by omega)
  exact L4 14 f 0 0 _ _ I (by show ov_g f ∧ ov_g 0 ∧ 0 ≤ 0 ∧ 0 ≤ 13 ∧ (h 36 7) = (h 36 7) ∧ (h 1 1) = (h 1 1) ∧ (h 90 2) = (h 90 2) ∧ (h 0 10) = (h 0 10) ∧ (h 0 11) = (h 0 11) ∧ (h 0 12) = (h 0 12) ∧ (h 0 13) = (h 0 13) ∧ (h 3 1) = (h 3 1) ∧ (h 36 8) = (h 36 8) ∧ (h 46 3) = (h 46 3) ∧ (h 46 4) = (h 46 4) ∧ (h 49 4) = (h 49 4) ∧ (h 49 5) = (h 49 5) ∧ (h 64 0) = (h 64 0) ∧ (h 76 0) = (h 76 0) ∧ (h 49 4) = 58 ∧ (h 49 5) = 86; omega) (by omega)
abbrev P_Pace_solve_49_58_86 (F : ov_H) (z : ov_Z) (h : ov_H) (s : Int) : Option ov_V → ov_Z → ov_H → Prop := fun r0 z' h' => ∃ r : Int, r0 = some (ov_i r) ∧ ov_I F z' h' ∧ ((r = 0 ∨ r = 1) ∧ (h' 36 7) = (h 36 7) ∧ (h' 1 1) = (h 1 1) ∧ (h' 90 2) = (h 90 2) ∧ (h' 0 10) = (h 0 10) ∧ (h' 0 11) = (h 0 11) ∧ (h' 0 12) = (h 0 12) ∧ (h' 0 13) = (h 0 13) ∧ (h' 3 1) = (h 3 1) ∧ (h' 36 8) = (h 36 8) ∧ (h' 46 3) = (h 46 3) ∧ (h' 46 4) = (h 46 4) ∧ (h' 64 0) = (h 64 0) ∧ (h' 76 0) = (h 76 0))
set_option maxHeartbeats 4000000 in
theorem c_Pace_solve_49_58_86 {u : ov_U} {F : ov_H} {z : ov_Z} {h : ov_H} (d : Nat) (hd : 70 ≤ d) (U : ov_cap u) (I : ov_I F z h) (s : Int) (g_s : ov_g s) : ov_T u d ov_m165 [ov_r 49, ov_r 58, ov_r 86, ov_i s] z h (P_Pace_solve_49_58_86 F z h s) := by
  refine ov_en rfl (Nat.le_of_ble_eq_true rfl) ?_
  show ov_R u d ov_m165 0 [(0, ov_r 49), (1, ov_r 58), (2, ov_r 86), (3, ov_i s)] [] z h (P_Pace_solve_49_58_86 F z h s)
  refine ov_blk (ls2 := [(0, ov_r 49), (1, ov_r 58), (2, ov_r 86), (3, ov_i s)]) (st2 := [ov_r 49]) (pc2 := 1) b_165_0_1 rfl rfl ?_
  refine ov_getf (v := ov_i (h 49 7)) d_165_1 fl_Pace_22 (zb_49 I) (zs_49 I) rfl ?_
  have g1 := rg_49_7 I
  refine ov_blk (ls2 := [(0, ov_r 49), (1, ov_r 58), (2, ov_r 86), (3, ov_i s)]) (st2 := [ov_i s, ov_i (h 49 7)]) (pc2 := 5) b_165_4_1 rfl rfl ?_
  refine ov_icne (tgt := 13) d_165_5 (by decide) (by omega) (by omega) (fun c2 => ?_) (fun c2 => ?_)
  · skip
    refine ov_blk (ls2 := [(0, ov_r 49), (1, ov_r 58), (2, ov_r 86), (3, ov_i s)]) (st2 := [ov_i s, ov_r 49]) (pc2 := 15) b_165_13_2 rfl rfl ?_
    refine ov_putf (x := s) d_165_15 fl_Pace_22 (zb_49 I) (zs_49 I) rfl nk_0 rfl ?_
    have I3 := up_49_7 (x := s) I (by omega)
    refine ov_blk (ls2 := [(0, ov_r 49), (1, ov_r 58), (2, ov_r 86), (3, ov_i s)]) (st2 := [ov_r 58, ov_r 49]) (pc2 := 20) b_165_18_2 rfl rfl ?_
    refine ov_putf (x := 58) d_165_20 fl_Pace_30 (zb_49 I3) (zs_49 I3) rfl nk_2 rfl ?_
    have I4 := up_49_4 (x := 58) I3 (by omega)
    refine ov_blk (ls2 := [(0, ov_r 49), (1, ov_r 58), (2, ov_r 86), (3, ov_i s)]) (st2 := [ov_r 86, ov_r 49]) (pc2 := 25) b_165_23_2 rfl rfl ?_
    refine ov_putf (x := 86) d_165_25 fl_Pace_34 (zb_49 I4) (zs_49 I4) rfl nk_2 rfl ?_
    have I5 := up_49_5 (x := 86) I4 (by omega)
    refine ov_blk (ls2 := [(0, ov_r 49), (1, ov_r 58), (2, ov_r 86), (3, ov_i s)]) (st2 := [ov_r 49, ov_r 49]) (pc2 := 30) b_165_28_2 rfl rfl ?_
    refine ov_getf (v := ov_r 58) d_165_30 fl_Pace_30 (zb_49 I5) (zs_49 I5) rfl ?_
    refine ov_getf (v := ov_i (h 58 8)) d_165_33 fl_Pace_38 (zb_58 I5) (zs_58 I5) rfl ?_
    have g6 := rg_58_8 I
    refine ov_ifeq (tgt := 43) d_165_36 (by decide) (by omega) (fun c7 => ?_) (fun c7 => ?_)
    · skip
      refine ov_blk (ls2 := [(0, ov_r 49), (1, ov_r 58), (2, ov_r 86), (3, ov_i s)]) (st2 := [ov_r 49, ov_r 49]) (pc2 := 44) b_165_43_1 rfl rfl ?_
      refine ov_getf (v := ov_r 58) d_165_44 fl_Pace_30 (zb_49 I5) (zs_49 I5) rfl ?_
      refine ov_getf (v := ov_r 64) d_165_47 fl_Pace_43 (zb_58 I5) (zs_58 I5) (congrArg ov_r (rg_58_7 I5)) ?_
      refine ov_blk (ls2 := [(0, ov_r 49), (1, ov_r 58), (2, ov_r 86), (3, ov_i s)]) (st2 := [ov_i 3, ov_r 64, ov_r 49]) (pc2 := 51) b_165_50_1 rfl rfl ?_
      refine ov_iald d_165_51 (zb_64 I5) (zs_64 I5) (by omega) ?_
      show ov_R u d ov_m165 52 [(0, ov_r 49), (1, ov_r 58), (2, ov_r 86), (3, ov_i s)] [ov_i (h 64 3), ov_r 49] z (ov_up (ov_up (ov_up h 49 7 s) 49 4 58) 49 5 86) (P_Pace_solve_49_58_86 F z h s)
      have g8 := ra_64 I 3
      refine ov_putf (x := (h 64 3)) d_165_52 fl_Pace_46 (zb_49 I5) (zs_49 I5) rfl nk_0 rfl ?_
      have I9 := up_49_6 (x := (h 64 3)) I5 (by omega)
      refine ov_blk (ls2 := [(0, ov_r 49), (1, ov_r 58), (2, ov_r 86), (3, ov_i s)]) (st2 := [ov_r 49]) (pc2 := 56) b_165_55_1 rfl rfl ?_
      refine ov_getf (v := ov_r 51) d_165_56 fl_Pace_18 (zb_49 I9) (zs_49 I9) (congrArg ov_r (rg_49_3 I9)) ?_
      refine ov_blk (ls2 := [(0, ov_r 49), (1, ov_r 58), (2, ov_r 86), (3, ov_i s)]) (st2 := [ov_r 49, ov_r 51]) (pc2 := 60) b_165_59_1 rfl rfl ?_
      refine ov_getf (v := ov_r 86) d_165_60 fl_Pace_34 (zb_49 I9) (zs_49 I9) rfl ?_
      refine ov_getf (v := ov_i (h 86 0)) d_165_63 fl_Pace_49 (zb_86 I9) (zs_86 I9) rfl ?_
      have g10 := rg_86_0 I
      refine ov_blk (ls2 := [(0, ov_r 49), (1, ov_r 58), (2, ov_r 86), (3, ov_i s)]) (st2 := [ov_r 49, ov_i (h 86 0), ov_r 51]) (pc2 := 67) b_165_66_1 rfl rfl ?_
      refine ov_getf (v := ov_i (h 64 3)) d_165_67 fl_Pace_46 (zb_49 I9) (zs_49 I9) rfl ?_
      refine ov_blk (ls2 := [(0, ov_r 49), (1, ov_r 58), (2, ov_r 86), (3, ov_i s)]) (st2 := [ov_i ((h 64 3) + 1), ov_i (h 86 0), ov_r 51]) (pc2 := 72) b_165_70_2 rfl rfl ?_
      have fm := ov_mulb (q := (h 86 0)) (b := ((h 64 3) + 1)) (A := 13) (B := 10) (by omega) (by omega) (by omega) (by omega)
      refine ov_blk (ls2 := [(0, ov_r 49), (1, ov_r 58), (2, ov_r 86), (3, ov_i s)]) (st2 := [ov_r 49, ov_i ((h 86 0) * ((h 64 3) + 1)), ov_r 51]) (pc2 := 74) b_165_72_2 rfl rfl ?_
      refine ov_getf (v := ov_r 58) d_165_74 fl_Pace_30 (zb_49 I9) (zs_49 I9) rfl ?_
      refine ov_getf (v := ov_i (h 58 10)) d_165_77 fl_Pace_54 (zb_58 I9) (zs_58 I9) rfl ?_
      have g11 := rg_58_10 I
      have fn := ov_mulb (q := ((h 86 0) * ((h 64 3) + 1))) (b := (h 58 10)) (A := 130) (B := 1200) (by omega) (by omega) (by omega) (by omega)
      refine ov_blk (ls2 := [(0, ov_r 49), (1, ov_r 58), (2, ov_r 86), (3, ov_i s)]) (st2 := [ov_i (((h 86 0) * ((h 64 3) + 1)) * (h 58 10)), ov_r 51]) (pc2 := 81) b_165_80_1 rfl rfl ?_
      refine ov_cV (as := [ov_i (((h 86 0) * ((h 64 3) + 1)) * (h 58 10))]) (st := []) (d2 := d - 1) d_165_81 lk_Pace_57 rfl (Nat.le_of_ble_eq_true rfl) (c := 4) (zb_51 I9) (zs_51 I9) ⟨by decide, rfl⟩ (by omega) (c_Memo_clear_51 (d - 1) (by omega) U I9 (((h 86 0) * ((h 64 3) + 1)) * (h 58 10)) (by omega) (by omega)) ?_
      rintro _ z13 h14 ⟨rfl, I15, f12⟩
      show ov_R u d ov_m165 84 [(0, ov_r 49), (1, ov_r 58), (2, ov_r 86), (3, ov_i s)] [] z13 h14 (P_Pace_solve_49_58_86 F z h s)
      have f16 : (h14 36 7) = (h 36 7) ∧ (h14 1 1) = (h 1 1) ∧ (h14 90 2) = (h 90 2) ∧ (h14 0 10) = (h 0 10) ∧ (h14 0 11) = (h 0 11) ∧ (h14 0 12) = (h 0 12) ∧ (h14 0 13) = (h 0 13) ∧ (h14 3 1) = (h 3 1) ∧ (h14 36 8) = (h 36 8) ∧ (h14 46 3) = (h 46 3) ∧ (h14 46 4) = (h 46 4) ∧ (h14 49 4) = 58 ∧ (h14 49 5) = 86 ∧ (h14 64 0) = (h 64 0) ∧ (h14 76 0) = (h 76 0) := f12
      clear f12
      have e17 : h14 49 4 = 58 := by omega
      have e18 : h14 49 5 = 86 := by omega
      refine ov_blk (ls2 := [(0, ov_r 49), (1, ov_r 58), (2, ov_r 86), (3, ov_i s)]) (st2 := [ov_r 49, ov_i s, ov_i 0, ov_i 0, ov_r 49]) (pc2 := 89) b_165_84_5 rfl rfl ?_
      refine ov_getf (v := ov_r 58) d_165_89 fl_Pace_30 (zb_49 I15) (zs_49 I15) (congrArg ov_r e17) ?_
      refine ov_getf (v := ov_i (h14 58 10)) d_165_92 fl_Pace_54 (zb_58 I15) (zs_58 I15) rfl ?_
      have g19 := rg_58_10 I15
      refine ov_cSN (as := [ov_i s, ov_i (h14 58 10)]) (st := [ov_i 0, ov_i 0, ov_r 49]) (d2 := d - 1) d_165_95 lk_Pace_61 rfl (Nat.le_of_ble_eq_true rfl) (by omega) (c_OF_modulo (d - 1) (by omega) U I15 s (h14 58 10) (by omega) (by omega)) ?_
      rintro _ _ _ ⟨v21, rfl, rfl, rfl, f20⟩
      show ov_R u d ov_m165 98 [(0, ov_r 49), (1, ov_r 58), (2, ov_r 86), (3, ov_i s)] [ov_i v21, ov_i 0, ov_i 0, ov_r 49] z13 h14 (P_Pace_solve_49_58_86 F z h s)
      have f22 : (0 < (h14 58 10) → 0 ≤ v21 ∧ v21 < (h14 58 10)) ∧ ((h14 58 10) ≤ 0 → v21 = 0) := f20
      clear f20
      refine ov_cV (as := [ov_i 0, ov_i 0, ov_i v21]) (st := []) (d2 := d - 1) d_165_98 lk_Pace_65 rfl (Nat.le_of_ble_eq_true rfl) (c := 5) (zb_49 I15) (zs_49 I15) ⟨by decide, rfl⟩ (by omega) (c_Pace_costFrom_49_k49_4_58_k49_5_86_all (Int.toNat (13 - (0))) (d - 1) (by omega) U I15 0 0 v21 e17 e18 (by omega) (by omega) (by omega) (by omega)) ?_
      rintro _ z25 h26 ⟨v24, rfl, I27, f23⟩
      show ov_R u d ov_m165 101 [(0, ov_r 49), (1, ov_r 58), (2, ov_r 86), (3, ov_i s)] [ov_i v24] z25 h26 (P_Pace_solve_49_58_86 F z h s)
      have f28 : -2147483648 ≤ v24 ∧ v24 ≤ 2147483647 ∧ (h26 36 7) = (h14 36 7) ∧ (h26 1 1) = (h14 1 1) ∧ (h26 90 2) = (h14 90 2) ∧ (h26 0 10) = (h14 0 10) ∧ (h26 0 11) = (h14 0 11) ∧ (h26 0 12) = (h14 0 12) ∧ (h26 0 13) = (h14 0 13) ∧ (h26 3 1) = (h14 3 1) ∧ (h26 36 8) = (h14 36 8) ∧ (h26 46 3) = (h14 46 3) ∧ (h26 46 4) = (h14 46 4) ∧ (h26 49 4) = (h14 49 4) ∧ (h26 49 5) = (h14 49 5) ∧ (h26 64 0) = (h14 64 0) ∧ (h26 76 0) = (h14 76 0) := f23
      clear f23
      have e29 : h26 49 4 = 58 := by omega
      have e30 : h26 49 5 = 86 := by omega
      refine ov_blk (ls2 := [(0, ov_r 49), (1, ov_r 58), (2, ov_r 86), (3, ov_i s), (4, ov_i v24)]) (st2 := [ov_i (-1), ov_i v24, ov_r 49]) (pc2 := 107) b_165_101_4 rfl rfl ?_
      refine ov_iceq (tgt := 114) d_165_107 (by decide) (by omega) (by omega) (fun c31 => ?_) (fun c31 => ?_)
      · skip
        refine ov_blk (ls2 := [(0, ov_r 49), (1, ov_r 58), (2, ov_r 86), (3, ov_i s), (4, ov_i v24)]) (st2 := [ov_i 0, ov_r 49]) (pc2 := 115) b_165_114_1 rfl rfl ?_
        refine ov_putf (x := 0) d_165_115 fl_Pace_26 (zb_49 I27) (zs_49 I27) rfl (nk_3 (by omega)) rfl ?_
        have I32 := up_49_8 (x := 0) I27 (by omega)
        refine ov_blk (ls2 := [(0, ov_r 49), (1, ov_r 58), (2, ov_r 86), (3, ov_i s), (4, ov_i v24)]) (st2 := [ov_r 49]) (pc2 := 119) b_165_118_1 rfl rfl ?_
        refine ov_getf (v := ov_i 0) d_165_119 fl_Pace_26 (zb_49 I32) (zs_49 I32) rfl ?_
        refine ov_ifeq (tgt := 162) d_165_122 (by decide) (by omega) (fun c33 => ?_) (fun c33 => ?_)
        · skip
          refine ov_blk (ls2 := [(0, ov_r 49), (1, ov_r 58), (2, ov_r 86), (3, ov_i s), (4, ov_i v24)]) (st2 := [ov_r 49]) (pc2 := 163) b_165_162_1 rfl rfl ?_
          refine ov_getf (v := ov_i 0) d_165_163 fl_Pace_26 (zb_49 I32) (zs_49 I32) rfl ?_
          exact ov_retz (st := []) d_165_166 rfl (by omega) ⟨_, rfl, I32, (by show (0 = 0 ∨ 0 = 1) ∧ (h26 36 7) = (h 36 7) ∧ (h26 1 1) = (h 1 1) ∧ (h26 90 2) = (h 90 2) ∧ (h26 0 10) = (h 0 10) ∧ (h26 0 11) = (h 0 11) ∧ (h26 0 12) = (h 0 12) ∧ (h26 0 13) = (h 0 13) ∧ (h26 3 1) = (h 3 1) ∧ (h26 36 8) = (h 36 8) ∧ (h26 46 3) = (h 46 3) ∧ (h26 46 4) = (h 46 4) ∧ (h26 64 0) = (h 64 0) ∧ (h26 76 0) = (h 76 0); omega)⟩
        · omega
      · skip
        refine ov_blk (ls2 := [(0, ov_r 49), (1, ov_r 58), (2, ov_r 86), (3, ov_i s), (4, ov_i v24)]) (st2 := [ov_i 1, ov_r 49]) (pc2 := 111) b_165_110_1 rfl rfl ?_
        refine ov_goto (tgt := 115) d_165_111 (by decide) ?_
        refine ov_putf (x := 1) d_165_115 fl_Pace_26 (zb_49 I27) (zs_49 I27) rfl (nk_3 (by omega)) rfl ?_
        have I34 := up_49_8 (x := 1) I27 (by omega)
        refine ov_blk (ls2 := [(0, ov_r 49), (1, ov_r 58), (2, ov_r 86), (3, ov_i s), (4, ov_i v24)]) (st2 := [ov_r 49]) (pc2 := 119) b_165_118_1 rfl rfl ?_
        refine ov_getf (v := ov_i 1) d_165_119 fl_Pace_26 (zb_49 I34) (zs_49 I34) rfl ?_
        refine ov_ifeq (tgt := 162) d_165_122 (by decide) (by omega) (fun c35 => ?_) (fun c35 => ?_)
        · omega
        · skip
          refine ov_blk (ls2 := [(0, ov_r 49), (1, ov_r 58), (2, ov_r 86), (3, ov_i s), (4, ov_i v24)]) (st2 := [ov_i 10000, ov_i v24, ov_r 49]) (pc2 := 131) b_165_125_3 rfl rfl ?_
          refine ov_idiv d_165_131 (by omega) (by omega) (by omega) ?_
          refine ov_havw (fun w36 gw36 qw36 => ?_)
          refine ov_putf (x := w36) d_165_132 fl_Pace_69 (zb_49 I34) (zs_49 I34) rfl nk_0 rfl ?_
          have I37 := up_49_0 (x := w36) I34 (by omega)
          refine ov_blk (ls2 := [(0, ov_r 49), (1, ov_r 58), (2, ov_r 86), (3, ov_i s), (4, ov_i v24)]) (st2 := [ov_i 10000, ov_i v24, ov_i s, ov_r 49]) (pc2 := 142) b_165_135_4 rfl rfl ?_
          refine ov_irem d_165_142 (by omega) (by omega) (by omega) ?_
          have g38 := ov_tmg (a := v24) (b := 10000) (by omega) (by omega)
          refine ov_blk (ls2 := [(0, ov_r 49), (1, ov_r 58), (2, ov_r 86), (3, ov_i s), (4, ov_i v24)]) (st2 := [ov_i (s + (Int.tmod v24 10000)), ov_r 49]) (pc2 := 144) b_165_143_1 rfl rfl ?_
          refine ov_havw (fun w39 gw39 qw39 => ?_)
          refine ov_putf (x := w39) d_165_144 fl_Pace_72 (zb_49 I37) (zs_49 I37) rfl nk_0 rfl ?_
          have I40 := up_49_1 (x := w39) I37 (by omega)
          refine ov_blk (ls2 := [(0, ov_r 49), (1, ov_r 58), (2, ov_r 86), (3, ov_i s), (4, ov_i v24)]) (st2 := [ov_r 49, ov_i s, ov_r 49]) (pc2 := 150) b_165_147_3 rfl rfl ?_
          refine ov_getf (v := ov_r 58) d_165_150 fl_Pace_30 (zb_49 I40) (zs_49 I40) (congrArg ov_r e29) ?_
          refine ov_getf (v := ov_i (h26 58 10)) d_165_153 fl_Pace_54 (zb_58 I40) (zs_58 I40) rfl ?_
          have g41 := rg_58_10 I27
          refine ov_cSN (as := [ov_i s, ov_i (h26 58 10)]) (st := [ov_r 49]) (d2 := d - 1) d_165_156 lk_Pace_61 rfl (Nat.le_of_ble_eq_true rfl) (by omega) (c_OF_modulo (d - 1) (by omega) U I40 s (h26 58 10) (by omega) (by omega)) ?_
          rintro _ _ _ ⟨v43, rfl, rfl, rfl, f42⟩
          show ov_R u d ov_m165 159 [(0, ov_r 49), (1, ov_r 58), (2, ov_r 86), (3, ov_i s), (4, ov_i v24)] [ov_i v43, ov_r 49] z25 (ov_up (ov_up (ov_up h26 49 8 1) 49 0 w36) 49 1 w39) (P_Pace_solve_49_58_86 F z h s)
          have f44 : (0 < (h26 58 10) → 0 ≤ v43 ∧ v43 < (h26 58 10)) ∧ ((h26 58 10) ≤ 0 → v43 = 0) := f42
          clear f42
          refine ov_cV (as := [ov_i v43]) (st := []) (d2 := d - 1) d_165_159 lk_Pace_75 rfl (Nat.le_of_ble_eq_true rfl) (c := 5) (zb_49 I40) (zs_49 I40) ⟨by decide, rfl⟩ (by omega) (c_Pace_layStreets_49_k49_4_58_k49_5_86 (d - 1) (by omega) U I40 v43 e29 e30 (by omega)) ?_
          rintro _ z46 h47 ⟨rfl, I48, f45⟩
          show ov_R u d ov_m165 162 [(0, ov_r 49), (1, ov_r 58), (2, ov_r 86), (3, ov_i s), (4, ov_i v24)] [] z46 h47 (P_Pace_solve_49_58_86 F z h s)
          have f49 : (h47 36 7) = (h26 36 7) ∧ (h47 1 1) = (h26 1 1) ∧ (h47 90 2) = (h26 90 2) ∧ (h47 0 10) = (h26 0 10) ∧ (h47 0 11) = (h26 0 11) ∧ (h47 0 12) = (h26 0 12) ∧ (h47 0 13) = (h26 0 13) ∧ (h47 3 1) = (h26 3 1) ∧ (h47 36 8) = (h26 36 8) ∧ (h47 46 3) = (h26 46 3) ∧ (h47 46 4) = (h26 46 4) ∧ (h47 49 4) = (h26 49 4) ∧ (h47 49 5) = (h26 49 5) ∧ (h47 64 0) = (h26 64 0) ∧ (h47 76 0) = (h26 76 0) := f45
          clear f45
          have e50 : h47 49 4 = 58 := by omega
          have e51 : h47 49 5 = 86 := by omega
          refine ov_blk (ls2 := [(0, ov_r 49), (1, ov_r 58), (2, ov_r 86), (3, ov_i s), (4, ov_i v24)]) (st2 := [ov_r 49]) (pc2 := 163) b_165_162_1 rfl rfl ?_
          refine ov_getf (v := ov_i (h47 49 8)) d_165_163 fl_Pace_26 (zb_49 I48) (zs_49 I48) rfl ?_
          have g52 := rg_49_8 I48
          exact ov_retz (st := []) d_165_166 rfl (by omega) ⟨_, rfl, I48, (by show ((h47 49 8) = 0 ∨ (h47 49 8) = 1) ∧ (h47 36 7) = (h 36 7) ∧ (h47 1 1) = (h 1 1) ∧ (h47 90 2) = (h 90 2) ∧ (h47 0 10) = (h 0 10) ∧ (h47 0 11) = (h 0 11) ∧ (h47 0 12) = (h 0 12) ∧ (h47 0 13) = (h 0 13) ∧ (h47 3 1) = (h 3 1) ∧ (h47 36 8) = (h 36 8) ∧ (h47 46 3) = (h 46 3) ∧ (h47 46 4) = (h 46 4) ∧ (h47 64 0) = (h 64 0) ∧ (h47 76 0) = (h 76 0); omega)⟩
    · skip
      refine ov_blk (ls2 := [(0, ov_r 49), (1, ov_r 58), (2, ov_r 86), (3, ov_i s)]) (st2 := [ov_i 0, ov_r 49]) (pc2 := 40) b_165_39_1 rfl rfl ?_
      refine ov_goto (tgt := 52) d_165_40 (by decide) ?_
      refine ov_putf (x := 0) d_165_52 fl_Pace_46 (zb_49 I5) (zs_49 I5) rfl nk_0 rfl ?_
      have I53 := up_49_6 (x := 0) I5 (by omega)
      refine ov_blk (ls2 := [(0, ov_r 49), (1, ov_r 58), (2, ov_r 86), (3, ov_i s)]) (st2 := [ov_r 49]) (pc2 := 56) b_165_55_1 rfl rfl ?_
      refine ov_getf (v := ov_r 51) d_165_56 fl_Pace_18 (zb_49 I53) (zs_49 I53) (congrArg ov_r (rg_49_3 I53)) ?_
      refine ov_blk (ls2 := [(0, ov_r 49), (1, ov_r 58), (2, ov_r 86), (3, ov_i s)]) (st2 := [ov_r 49, ov_r 51]) (pc2 := 60) b_165_59_1 rfl rfl ?_
      refine ov_getf (v := ov_r 86) d_165_60 fl_Pace_34 (zb_49 I53) (zs_49 I53) rfl ?_
      refine ov_getf (v := ov_i (h 86 0)) d_165_63 fl_Pace_49 (zb_86 I53) (zs_86 I53) rfl ?_
      have g54 := rg_86_0 I
      refine ov_blk (ls2 := [(0, ov_r 49), (1, ov_r 58), (2, ov_r 86), (3, ov_i s)]) (st2 := [ov_r 49, ov_i (h 86 0), ov_r 51]) (pc2 := 67) b_165_66_1 rfl rfl ?_
      refine ov_getf (v := ov_i 0) d_165_67 fl_Pace_46 (zb_49 I53) (zs_49 I53) rfl ?_
      refine ov_blk (ls2 := [(0, ov_r 49), (1, ov_r 58), (2, ov_r 86), (3, ov_i s)]) (st2 := [ov_i (0 + 1), ov_i (h 86 0), ov_r 51]) (pc2 := 72) b_165_70_2 rfl rfl ?_
      have fm := ov_mulb (q := (h 86 0)) (b := (0 + 1)) (A := 13) (B := 10) (by omega) (by omega) (by omega) (by omega)
      refine ov_blk (ls2 := [(0, ov_r 49), (1, ov_r 58), (2, ov_r 86), (3, ov_i s)]) (st2 := [ov_r 49, ov_i ((h 86 0) * (0 + 1)), ov_r 51]) (pc2 := 74) b_165_72_2 rfl rfl ?_
      refine ov_getf (v := ov_r 58) d_165_74 fl_Pace_30 (zb_49 I53) (zs_49 I53) rfl ?_
      refine ov_getf (v := ov_i (h 58 10)) d_165_77 fl_Pace_54 (zb_58 I53) (zs_58 I53) rfl ?_
      have g55 := rg_58_10 I
      have fn := ov_mulb (q := ((h 86 0) * (0 + 1))) (b := (h 58 10)) (A := 130) (B := 1200) (by omega) (by omega) (by omega) (by omega)
      refine ov_blk (ls2 := [(0, ov_r 49), (1, ov_r 58), (2, ov_r 86), (3, ov_i s)]) (st2 := [ov_i (((h 86 0) * (0 + 1)) * (h 58 10)), ov_r 51]) (pc2 := 81) b_165_80_1 rfl rfl ?_
      refine ov_cV (as := [ov_i (((h 86 0) * (0 + 1)) * (h 58 10))]) (st := []) (d2 := d - 1) d_165_81 lk_Pace_57 rfl (Nat.le_of_ble_eq_true rfl) (c := 4) (zb_51 I53) (zs_51 I53) ⟨by decide, rfl⟩ (by omega) (c_Memo_clear_51 (d - 1) (by omega) U I53 (((h 86 0) * (0 + 1)) * (h 58 10)) (by omega) (by omega)) ?_
      rintro _ z57 h58 ⟨rfl, I59, f56⟩
      show ov_R u d ov_m165 84 [(0, ov_r 49), (1, ov_r 58), (2, ov_r 86), (3, ov_i s)] [] z57 h58 (P_Pace_solve_49_58_86 F z h s)
      have f60 : (h58 36 7) = (h 36 7) ∧ (h58 1 1) = (h 1 1) ∧ (h58 90 2) = (h 90 2) ∧ (h58 0 10) = (h 0 10) ∧ (h58 0 11) = (h 0 11) ∧ (h58 0 12) = (h 0 12) ∧ (h58 0 13) = (h 0 13) ∧ (h58 3 1) = (h 3 1) ∧ (h58 36 8) = (h 36 8) ∧ (h58 46 3) = (h 46 3) ∧ (h58 46 4) = (h 46 4) ∧ (h58 49 4) = 58 ∧ (h58 49 5) = 86 ∧ (h58 64 0) = (h 64 0) ∧ (h58 76 0) = (h 76 0) := f56
      clear f56
      have e61 : h58 49 4 = 58 := by omega
      have e62 : h58 49 5 = 86 := by omega
      refine ov_blk (ls2 := [(0, ov_r 49), (1, ov_r 58), (2, ov_r 86), (3, ov_i s)]) (st2 := [ov_r 49, ov_i s, ov_i 0, ov_i 0, ov_r 49]) (pc2 := 89) b_165_84_5 rfl rfl ?_
      refine ov_getf (v := ov_r 58) d_165_89 fl_Pace_30 (zb_49 I59) (zs_49 I59) (congrArg ov_r e61) ?_
      refine ov_getf (v := ov_i (h58 58 10)) d_165_92 fl_Pace_54 (zb_58 I59) (zs_58 I59) rfl ?_
      have g63 := rg_58_10 I59
      refine ov_cSN (as := [ov_i s, ov_i (h58 58 10)]) (st := [ov_i 0, ov_i 0, ov_r 49]) (d2 := d - 1) d_165_95 lk_Pace_61 rfl (Nat.le_of_ble_eq_true rfl) (by omega) (c_OF_modulo (d - 1) (by omega) U I59 s (h58 58 10) (by omega) (by omega)) ?_
      rintro _ _ _ ⟨v65, rfl, rfl, rfl, f64⟩
      show ov_R u d ov_m165 98 [(0, ov_r 49), (1, ov_r 58), (2, ov_r 86), (3, ov_i s)] [ov_i v65, ov_i 0, ov_i 0, ov_r 49] z57 h58 (P_Pace_solve_49_58_86 F z h s)
      have f66 : (0 < (h58 58 10) → 0 ≤ v65 ∧ v65 < (h58 58 10)) ∧ ((h58 58 10) ≤ 0 → v65 = 0) := f64
      clear f64
      refine ov_cV (as := [ov_i 0, ov_i 0, ov_i v65]) (st := []) (d2 := d - 1) d_165_98 lk_Pace_65 rfl (Nat.le_of_ble_eq_true rfl) (c := 5) (zb_49 I59) (zs_49 I59) ⟨by decide, rfl⟩ (by omega) (c_Pace_costFrom_49_k49_4_58_k49_5_86_all (Int.toNat (13 - (0))) (d - 1) (by omega) U I59 0 0 v65 e61 e62 (by omega) (by omega) (by omega) (by omega)) ?_
      rintro _ z69 h70 ⟨v68, rfl, I71, f67⟩
      show ov_R u d ov_m165 101 [(0, ov_r 49), (1, ov_r 58), (2, ov_r 86), (3, ov_i s)] [ov_i v68] z69 h70 (P_Pace_solve_49_58_86 F z h s)
      have f72 : -2147483648 ≤ v68 ∧ v68 ≤ 2147483647 ∧ (h70 36 7) = (h58 36 7) ∧ (h70 1 1) = (h58 1 1) ∧ (h70 90 2) = (h58 90 2) ∧ (h70 0 10) = (h58 0 10) ∧ (h70 0 11) = (h58 0 11) ∧ (h70 0 12) = (h58 0 12) ∧ (h70 0 13) = (h58 0 13) ∧ (h70 3 1) = (h58 3 1) ∧ (h70 36 8) = (h58 36 8) ∧ (h70 46 3) = (h58 46 3) ∧ (h70 46 4) = (h58 46 4) ∧ (h70 49 4) = (h58 49 4) ∧ (h70 49 5) = (h58 49 5) ∧ (h70 64 0) = (h58 64 0) ∧ (h70 76 0) = (h58 76 0) := f67
      clear f67
      have e73 : h70 49 4 = 58 := by omega
      have e74 : h70 49 5 = 86 := by omega
      refine ov_blk (ls2 := [(0, ov_r 49), (1, ov_r 58), (2, ov_r 86), (3, ov_i s), (4, ov_i v68)]) (st2 := [ov_i (-1), ov_i v68, ov_r 49]) (pc2 := 107) b_165_101_4 rfl rfl ?_
      refine ov_iceq (tgt := 114) d_165_107 (by decide) (by omega) (by omega) (fun c75 => ?_) (fun c75 => ?_)
      · skip
        refine ov_blk (ls2 := [(0, ov_r 49), (1, ov_r 58), (2, ov_r 86), (3, ov_i s), (4, ov_i v68)]) (st2 := [ov_i 0, ov_r 49]) (pc2 := 115) b_165_114_1 rfl rfl ?_
        refine ov_putf (x := 0) d_165_115 fl_Pace_26 (zb_49 I71) (zs_49 I71) rfl (nk_3 (by omega)) rfl ?_
        have I76 := up_49_8 (x := 0) I71 (by omega)
        refine ov_blk (ls2 := [(0, ov_r 49), (1, ov_r 58), (2, ov_r 86), (3, ov_i s), (4, ov_i v68)]) (st2 := [ov_r 49]) (pc2 := 119) b_165_118_1 rfl rfl ?_
        refine ov_getf (v := ov_i 0) d_165_119 fl_Pace_26 (zb_49 I76) (zs_49 I76) rfl ?_
        refine ov_ifeq (tgt := 162) d_165_122 (by decide) (by omega) (fun c77 => ?_) (fun c77 => ?_)
        · skip
          refine ov_blk (ls2 := [(0, ov_r 49), (1, ov_r 58), (2, ov_r 86), (3, ov_i s), (4, ov_i v68)]) (st2 := [ov_r 49]) (pc2 := 163) b_165_162_1 rfl rfl ?_
          refine ov_getf (v := ov_i 0) d_165_163 fl_Pace_26 (zb_49 I76) (zs_49 I76) rfl ?_
          exact ov_retz (st := []) d_165_166 rfl (by omega) ⟨_, rfl, I76, (by show (0 = 0 ∨ 0 = 1) ∧ (h70 36 7) = (h 36 7) ∧ (h70 1 1) = (h 1 1) ∧ (h70 90 2) = (h 90 2) ∧ (h70 0 10) = (h 0 10) ∧ (h70 0 11) = (h 0 11) ∧ (h70 0 12) = (h 0 12) ∧ (h70 0 13) = (h 0 13) ∧ (h70 3 1) = (h 3 1) ∧ (h70 36 8) = (h 36 8) ∧ (h70 46 3) = (h 46 3) ∧ (h70 46 4) = (h 46 4) ∧ (h70 64 0) = (h 64 0) ∧ (h70 76 0) = (h 76 0); omega)⟩
        · omega
      · skip
        refine ov_blk (ls2 := [(0, ov_r 49), (1, ov_r 58), (2, ov_r 86), (3, ov_i s), (4, ov_i v68)]) (st2 := [ov_i 1, ov_r 49]) (pc2 := 111) b_165_110_1 rfl rfl ?_
        refine ov_goto (tgt := 115) d_165_111 (by decide) ?_
        refine ov_putf (x := 1) d_165_115 fl_Pace_26 (zb_49 I71) (zs_49 I71) rfl (nk_3 (by omega)) rfl ?_
        have I78 := up_49_8 (x := 1) I71 (by omega)
        refine ov_blk (ls2 := [(0, ov_r 49), (1, ov_r 58), (2, ov_r 86), (3, ov_i s), (4, ov_i v68)]) (st2 := [ov_r 49]) (pc2 := 119) b_165_118_1 rfl rfl ?_
        refine ov_getf (v := ov_i 1) d_165_119 fl_Pace_26 (zb_49 I78) (zs_49 I78) rfl ?_
        refine ov_ifeq (tgt := 162) d_165_122 (by decide) (by omega) (fun c79 => ?_) (fun c79 => ?_)
        · omega
        · skip
          refine ov_blk (ls2 := [(0, ov_r 49), (1, ov_r 58), (2, ov_r 86), (3, ov_i s), (4, ov_i v68)]) (st2 := [ov_i 10000, ov_i v68, ov_r 49]) (pc2 := 131) b_165_125_3 rfl rfl ?_
          refine ov_idiv d_165_131 (by omega) (by omega) (by omega) ?_
          refine ov_havw (fun w80 gw80 qw80 => ?_)
          refine ov_putf (x := w80) d_165_132 fl_Pace_69 (zb_49 I78) (zs_49 I78) rfl nk_0 rfl ?_
          have I81 := up_49_0 (x := w80) I78 (by omega)
          refine ov_blk (ls2 := [(0, ov_r 49), (1, ov_r 58), (2, ov_r 86), (3, ov_i s), (4, ov_i v68)]) (st2 := [ov_i 10000, ov_i v68, ov_i s, ov_r 49]) (pc2 := 142) b_165_135_4 rfl rfl ?_
          refine ov_irem d_165_142 (by omega) (by omega) (by omega) ?_
          have g82 := ov_tmg (a := v68) (b := 10000) (by omega) (by omega)
          refine ov_blk (ls2 := [(0, ov_r 49), (1, ov_r 58), (2, ov_r 86), (3, ov_i s), (4, ov_i v68)]) (st2 := [ov_i (s + (Int.tmod v68 10000)), ov_r 49]) (pc2 := 144) b_165_143_1 rfl rfl ?_
          refine ov_havw (fun w83 gw83 qw83 => ?_)
          refine ov_putf (x := w83) d_165_144 fl_Pace_72 (zb_49 I81) (zs_49 I81) rfl nk_0 rfl ?_
          have I84 := up_49_1 (x := w83) I81 (by omega)
          refine ov_blk (ls2 := [(0, ov_r 49), (1, ov_r 58), (2, ov_r 86), (3, ov_i s), (4, ov_i v68)]) (st2 := [ov_r 49, ov_i s, ov_r 49]) (pc2 := 150) b_165_147_3 rfl rfl ?_
          refine ov_getf (v := ov_r 58) d_165_150 fl_Pace_30 (zb_49 I84) (zs_49 I84) (congrArg ov_r e73) ?_
          refine ov_getf (v := ov_i (h70 58 10)) d_165_153 fl_Pace_54 (zb_58 I84) (zs_58 I84) rfl ?_
          have g85 := rg_58_10 I71
          refine ov_cSN (as := [ov_i s, ov_i (h70 58 10)]) (st := [ov_r 49]) (d2 := d - 1) d_165_156 lk_Pace_61 rfl (Nat.le_of_ble_eq_true rfl) (by omega) (c_OF_modulo (d - 1) (by omega) U I84 s (h70 58 10) (by omega) (by omega)) ?_
          rintro _ _ _ ⟨v87, rfl, rfl, rfl, f86⟩
          show ov_R u d ov_m165 159 [(0, ov_r 49), (1, ov_r 58), (2, ov_r 86), (3, ov_i s), (4, ov_i v68)] [ov_i v87, ov_r 49] z69 (ov_up (ov_up (ov_up h70 49 8 1) 49 0 w80) 49 1 w83) (P_Pace_solve_49_58_86 F z h s)
          have f88 : (0 < (h70 58 10) → 0 ≤ v87 ∧ v87 < (h70 58 10)) ∧ ((h70 58 10) ≤ 0 → v87 = 0) := f86
          clear f86
          refine ov_cV (as := [ov_i v87]) (st := []) (d2 := d - 1) d_165_159 lk_Pace_75 rfl (Nat.le_of_ble_eq_true rfl) (c := 5) (zb_49 I84) (zs_49 I84) ⟨by decide, rfl⟩ (by omega) (c_Pace_layStreets_49_k49_4_58_k49_5_86 (d - 1) (by omega) U I84 v87 e73 e74 (by omega)) ?_
          rintro _ z90 h91 ⟨rfl, I92, f89⟩
          show ov_R u d ov_m165 162 [(0, ov_r 49), (1, ov_r 58), (2, ov_r 86), (3, ov_i s), (4, ov_i v68)] [] z90 h91 (P_Pace_solve_49_58_86 F z h s)
          have f93 : (h91 36 7) = (h70 36 7) ∧ (h91 1 1) = (h70 1 1) ∧ (h91 90 2) = (h70 90 2) ∧ (h91 0 10) = (h70 0 10) ∧ (h91 0 11) = (h70 0 11) ∧ (h91 0 12) = (h70 0 12) ∧ (h91 0 13) = (h70 0 13) ∧ (h91 3 1) = (h70 3 1) ∧ (h91 36 8) = (h70 36 8) ∧ (h91 46 3) = (h70 46 3) ∧ (h91 46 4) = (h70 46 4) ∧ (h91 49 4) = (h70 49 4) ∧ (h91 49 5) = (h70 49 5) ∧ (h91 64 0) = (h70 64 0) ∧ (h91 76 0) = (h70 76 0) := f89
          clear f89
          have e94 : h91 49 4 = 58 := by omega
          have e95 : h91 49 5 = 86 := by omega
          refine ov_blk (ls2 := [(0, ov_r 49), (1, ov_r 58), (2, ov_r 86), (3, ov_i s), (4, ov_i v68)]) (st2 := [ov_r 49]) (pc2 := 163) b_165_162_1 rfl rfl ?_
          refine ov_getf (v := ov_i (h91 49 8)) d_165_163 fl_Pace_26 (zb_49 I92) (zs_49 I92) rfl ?_
          have g96 := rg_49_8 I92
          exact ov_retz (st := []) d_165_166 rfl (by omega) ⟨_, rfl, I92, (by show ((h91 49 8) = 0 ∨ (h91 49 8) = 1) ∧ (h91 36 7) = (h 36 7) ∧ (h91 1 1) = (h 1 1) ∧ (h91 90 2) = (h 90 2) ∧ (h91 0 10) = (h 0 10) ∧ (h91 0 11) = (h 0 11) ∧ (h91 0 12) = (h 0 12) ∧ (h91 0 13) = (h 0 13) ∧ (h91 3 1) = (h 3 1) ∧ (h91 36 8) = (h 36 8) ∧ (h91 46 3) = (h 46 3) ∧ (h91 46 4) = (h 46 4) ∧ (h91 64 0) = (h 64 0) ∧ (h91 76 0) = (h 76 0); omega)⟩
  · skip
    refine ov_blk (ls2 := [(0, ov_r 49), (1, ov_r 58), (2, ov_r 86), (3, ov_i s)]) (st2 := [ov_r 49]) (pc2 := 9) b_165_8_1 rfl rfl ?_
    refine ov_getf (v := ov_i (h 49 8)) d_165_9 fl_Pace_26 (zb_49 I) (zs_49 I) rfl ?_
    have g97 := rg_49_8 I
    exact ov_retz (st := []) d_165_12 rfl (by omega) ⟨_, rfl, I, (by show ((h 49 8) = 0 ∨ (h 49 8) = 1) ∧ (h 36 7) = (h 36 7) ∧ (h 1 1) = (h 1 1) ∧ (h 90 2) = (h 90 2) ∧ (h 0 10) = (h 0 10) ∧ (h 0 11) = (h 0 11) ∧ (h 0 12) = (h 0 12) ∧ (h 0 13) = (h 0 13) ∧ (h 3 1) = (h 3 1) ∧ (h 36 8) = (h 36 8) ∧ (h 46 3) = (h 46 3) ∧ (h 46 4) = (h 46 4) ∧ (h 64 0) = (h 64 0) ∧ (h 76 0) = (h 76 0); omega)⟩
abbrev P_Pace_shortest_49_k49_4_70_k49_5_82 (F : ov_H) (z : ov_Z) (h : ov_H)  : Option ov_V → ov_Z → ov_H → Prop := fun r0 z' h' => ∃ r : Int, r0 = some (ov_i r) ∧ z = z' ∧ h = h' ∧ (-1 ≤ r ∧ r ≤ 30)
set_option maxHeartbeats 4000000 in
theorem c_Pace_shortest_49_k49_4_70_k49_5_82 {u : ov_U} {F : ov_H} {z : ov_Z} {h : ov_H} (d : Nat) (hd : 0 ≤ d) (U : ov_cap u) (I : ov_I F z h) (k0 : h 49 4 = 70) (k1 : h 49 5 = 82) : ov_T u d ov_m169 [ov_r 49] z h (P_Pace_shortest_49_k49_4_70_k49_5_82 F z h) := by
  refine ov_en rfl (Nat.le_of_ble_eq_true rfl) ?_
  show ov_R u d ov_m169 0 [(0, ov_r 49)] [] z h (P_Pace_shortest_49_k49_4_70_k49_5_82 F z h)
  refine ov_blk (ls2 := [(0, ov_r 49)]) (st2 := [ov_r 49]) (pc2 := 1) b_169_0_1 rfl rfl ?_
  refine ov_getf (v := ov_r 70) d_169_1 fl_Pace_30 (zb_49 I) (zs_49 I) (congrArg ov_r k0) ?_
  refine ov_getf (v := ov_r 76) d_169_4 fl_Pace_43 (zb_70 I) (zs_70 I) (congrArg ov_r (rg_70_7 I)) ?_
  refine ov_blk (ls2 := [(0, ov_r 49)]) (st2 := [ov_i 1, ov_r 76]) (pc2 := 8) b_169_7_1 rfl rfl ?_
  refine ov_iald d_169_8 (zb_76 I) (zs_76 I) (by omega) ?_
  have g1 := ra_76 I 1
  refine ov_blk (ls2 := [(0, ov_r 49)]) (st2 := [ov_r 49, ov_i (h 76 1)]) (pc2 := 10) b_169_9_1 rfl rfl ?_
  refine ov_getf (v := ov_r 70) d_169_10 fl_Pace_30 (zb_49 I) (zs_49 I) (congrArg ov_r k0) ?_
  refine ov_getf (v := ov_r 76) d_169_13 fl_Pace_43 (zb_70 I) (zs_70 I) (congrArg ov_r (rg_70_7 I)) ?_
  refine ov_blk (ls2 := [(0, ov_r 49)]) (st2 := [ov_i 2, ov_r 76, ov_i (h 76 1)]) (pc2 := 17) b_169_16_1 rfl rfl ?_
  refine ov_iald d_169_17 (zb_76 I) (zs_76 I) (by omega) ?_
  have g2 := ra_76 I 2
  refine ov_icle (tgt := 33) d_169_18 (by decide) (by omega) (by omega) (fun c3 => ?_) (fun c3 => ?_)
  · skip
    refine ov_blk (ls2 := [(0, ov_r 49)]) (st2 := [ov_r 49]) (pc2 := 34) b_169_33_1 rfl rfl ?_
    refine ov_getf (v := ov_r 70) d_169_34 fl_Pace_30 (zb_49 I) (zs_49 I) (congrArg ov_r k0) ?_
    refine ov_getf (v := ov_r 76) d_169_37 fl_Pace_43 (zb_70 I) (zs_70 I) (congrArg ov_r (rg_70_7 I)) ?_
    refine ov_blk (ls2 := [(0, ov_r 49)]) (st2 := [ov_i 1, ov_r 76]) (pc2 := 41) b_169_40_1 rfl rfl ?_
    refine ov_iald d_169_41 (zb_76 I) (zs_76 I) (by omega) ?_
    exact ov_reti (st := []) d_169_42 rfl ⟨_, rfl, rfl, rfl, (by show -1 ≤ (h 76 1) ∧ (h 76 1) ≤ 30; omega)⟩
  · skip
    refine ov_blk (ls2 := [(0, ov_r 49)]) (st2 := [ov_r 49]) (pc2 := 22) b_169_21_1 rfl rfl ?_
    refine ov_getf (v := ov_r 70) d_169_22 fl_Pace_30 (zb_49 I) (zs_49 I) (congrArg ov_r k0) ?_
    refine ov_getf (v := ov_r 76) d_169_25 fl_Pace_43 (zb_70 I) (zs_70 I) (congrArg ov_r (rg_70_7 I)) ?_
    refine ov_blk (ls2 := [(0, ov_r 49)]) (st2 := [ov_i 0, ov_r 76]) (pc2 := 29) b_169_28_1 rfl rfl ?_
    refine ov_iald d_169_29 (zb_76 I) (zs_76 I) (by omega) ?_
    have g5 := ra_76 I 0
    refine ov_goto (tgt := 42) d_169_30 (by decide) ?_
    exact ov_reti (st := []) d_169_42 rfl ⟨_, rfl, rfl, rfl, (by show -1 ≤ (h 76 0) ∧ (h 76 0) ≤ 30; omega)⟩
abbrev P_Pace_longest_49_k49_4_70_k49_5_82 (F : ov_H) (z : ov_Z) (h : ov_H)  : Option ov_V → ov_Z → ov_H → Prop := fun r0 z' h' => ∃ r : Int, r0 = some (ov_i r) ∧ z = z' ∧ h = h' ∧ (-1 ≤ r ∧ r ≤ 30)
set_option maxHeartbeats 4000000 in
theorem c_Pace_longest_49_k49_4_70_k49_5_82 {u : ov_U} {F : ov_H} {z : ov_Z} {h : ov_H} (d : Nat) (hd : 0 ≤ d) (U : ov_cap u) (I : ov_I F z h) (k0 : h 49 4 = 70) (k1 : h 49 5 = 82) : ov_T u d ov_m168 [ov_r 49] z h (P_Pace_longest_49_k49_4_70_k49_5_82 F z h) := by
  refine ov_en rfl (Nat.le_of_ble_eq_true rfl) ?_
  show ov_R u d ov_m168 0 [(0, ov_r 49)] [] z h (P_Pace_longest_49_k49_4_70_k49_5_82 F z h)
  refine ov_blk (ls2 := [(0, ov_r 49)]) (st2 := [ov_r 49]) (pc2 := 1) b_168_0_1 rfl rfl ?_
  refine ov_getf (v := ov_r 70) d_168_1 fl_Pace_30 (zb_49 I) (zs_49 I) (congrArg ov_r k0) ?_
  refine ov_getf (v := ov_r 76) d_168_4 fl_Pace_43 (zb_70 I) (zs_70 I) (congrArg ov_r (rg_70_7 I)) ?_
  refine ov_blk (ls2 := [(0, ov_r 49)]) (st2 := [ov_i 1, ov_r 76]) (pc2 := 8) b_168_7_1 rfl rfl ?_
  refine ov_iald d_168_8 (zb_76 I) (zs_76 I) (by omega) ?_
  have g1 := ra_76 I 1
  refine ov_blk (ls2 := [(0, ov_r 49)]) (st2 := [ov_r 49, ov_i (h 76 1)]) (pc2 := 10) b_168_9_1 rfl rfl ?_
  refine ov_getf (v := ov_r 70) d_168_10 fl_Pace_30 (zb_49 I) (zs_49 I) (congrArg ov_r k0) ?_
  refine ov_getf (v := ov_r 76) d_168_13 fl_Pace_43 (zb_70 I) (zs_70 I) (congrArg ov_r (rg_70_7 I)) ?_
  refine ov_blk (ls2 := [(0, ov_r 49)]) (st2 := [ov_i 2, ov_r 76, ov_i (h 76 1)]) (pc2 := 17) b_168_16_1 rfl rfl ?_
  refine ov_iald d_168_17 (zb_76 I) (zs_76 I) (by omega) ?_
  have g2 := ra_76 I 2
  refine ov_icle (tgt := 33) d_168_18 (by decide) (by omega) (by omega) (fun c3 => ?_) (fun c3 => ?_)
  · skip
    refine ov_blk (ls2 := [(0, ov_r 49)]) (st2 := [ov_r 49]) (pc2 := 34) b_168_33_1 rfl rfl ?_
    refine ov_getf (v := ov_r 70) d_168_34 fl_Pace_30 (zb_49 I) (zs_49 I) (congrArg ov_r k0) ?_
    refine ov_getf (v := ov_r 76) d_168_37 fl_Pace_43 (zb_70 I) (zs_70 I) (congrArg ov_r (rg_70_7 I)) ?_
    refine ov_blk (ls2 := [(0, ov_r 49)]) (st2 := [ov_i 2, ov_r 76]) (pc2 := 41) b_168_40_1 rfl rfl ?_
    refine ov_iald d_168_41 (zb_76 I) (zs_76 I) (by omega) ?_
    exact ov_reti (st := []) d_168_42 rfl ⟨_, rfl, rfl, rfl, (by show -1 ≤ (h 76 2) ∧ (h 76 2) ≤ 30; omega)⟩
  · skip
    refine ov_blk (ls2 := [(0, ov_r 49)]) (st2 := [ov_r 49]) (pc2 := 22) b_168_21_1 rfl rfl ?_
    refine ov_getf (v := ov_r 70) d_168_22 fl_Pace_30 (zb_49 I) (zs_49 I) (congrArg ov_r k0) ?_
    refine ov_getf (v := ov_r 76) d_168_25 fl_Pace_43 (zb_70 I) (zs_70 I) (congrArg ov_r (rg_70_7 I)) ?_
    refine ov_blk (ls2 := [(0, ov_r 49)]) (st2 := [ov_i 0, ov_r 76]) (pc2 := 29) b_168_28_1 rfl rfl ?_
    refine ov_iald d_168_29 (zb_76 I) (zs_76 I) (by omega) ?_
    have g5 := ra_76 I 0
    refine ov_goto (tgt := 42) d_168_30 (by decide) ?_
    exact ov_reti (st := []) d_168_42 rfl ⟨_, rfl, rfl, rfl, (by show -1 ≤ (h 76 0) ∧ (h 76 0) ≤ 30; omega)⟩
abbrev P_Pace_costBy_49_k49_4_70_k49_5_82 (F : ov_H) (z : ov_Z) (h : ov_H) (l : Int) (n : Int) (s : Int) (t : Int) : Option ov_V → ov_Z → ov_H → Prop := fun r0 z' h' => ∃ r : Int, r0 = some (ov_i r) ∧ ov_I F z' h' ∧ (-2147483648 ≤ r ∧ r ≤ 2147483647 ∧ h' 36 7 = h 36 7 ∧ h' 1 1 = h 1 1 ∧ h' 90 2 = h 90 2 ∧ h' 0 10 = h 0 10 ∧ h' 0 11 = h 0 11 ∧ h' 0 12 = h 0 12 ∧ h' 0 13 = h 0 13 ∧ h' 3 1 = h 3 1 ∧ h' 36 8 = h 36 8 ∧ h' 46 3 = h 46 3 ∧ h' 46 4 = h 46 4 ∧ h' 49 4 = h 49 4 ∧ h' 49 5 = h 49 5 ∧ h' 64 0 = h 64 0 ∧ h' 76 0 = h 76 0)
abbrev P_Pace_costFrom_49_k49_4_70_k49_5_82 (F : ov_H) (z : ov_Z) (h : ov_H) (l : Int) (n : Int) (s : Int) : Option ov_V → ov_Z → ov_H → Prop := fun r0 z' h' => ∃ r : Int, r0 = some (ov_i r) ∧ ov_I F z' h' ∧ (-2147483648 ≤ r ∧ r ≤ 2147483647 ∧ h' 36 7 = h 36 7 ∧ h' 1 1 = h 1 1 ∧ h' 90 2 = h 90 2 ∧ h' 0 10 = h 0 10 ∧ h' 0 11 = h 0 11 ∧ h' 0 12 = h 0 12 ∧ h' 0 13 = h 0 13 ∧ h' 3 1 = h 3 1 ∧ h' 36 8 = h 36 8 ∧ h' 46 3 = h 46 3 ∧ h' 46 4 = h 46 4 ∧ h' 49 4 = h 49 4 ∧ h' 49 5 = h 49 5 ∧ h' 64 0 = h 64 0 ∧ h' 76 0 = h 76 0)
set_option maxHeartbeats 4000000 in
theorem c_Pace_costBy_49_k49_4_70_k49_5_82 {u : ov_U} {F : ov_H} (k : Nat) (HC : ∀ k' : Nat, k' < k → ∀ {z : ov_Z} {h : ov_H} (d : Nat) (hd : (20 + 2 * k' + 1) ≤ d) (U : ov_cap u) (I : ov_I F z h) (l : Int) (n : Int) (s : Int) (k0 : h 49 4 = 70) (k1 : h 49 5 = 82) (g_l : ov_g l) (g_n : ov_g n) (g_s : ov_g s) (p0 : 0 ≤ l ∧ l + (k' : Int) = 13), ov_T u d ov_m167 [ov_r 49, ov_i l, ov_i n, ov_i s] z h (P_Pace_costFrom_49_k49_4_70_k49_5_82 F z h l n s)) {z : ov_Z} {h : ov_H} (d : Nat) (hd : (20 + 2 * k + 0) ≤ d) (U : ov_cap u) (I : ov_I F z h) (l : Int) (n : Int) (s : Int) (t : Int) (k0 : h 49 4 = 70) (k1 : h 49 5 = 82) (g_l : ov_g l) (g_n : ov_g n) (g_s : ov_g s) (g_t : ov_g t) (p0 : 0 ≤ l ∧ l + (k : Int) = 13) (p1 : l ≤ 12) : ov_T u d ov_m170 [ov_r 49, ov_i l, ov_i n, ov_i s, ov_i t] z h (P_Pace_costBy_49_k49_4_70_k49_5_82 F z h l n s t) := by
  refine ov_en rfl (Nat.le_of_ble_eq_true rfl) ?_
  show ov_R u d ov_m170 0 [(0, ov_r 49), (1, ov_i l), (2, ov_i n), (3, ov_i s), (4, ov_i t)] [] z h (P_Pace_costBy_49_k49_4_70_k49_5_82 F z h l n s t)
  refine ov_blk (ls2 := [(0, ov_r 49), (1, ov_i l), (2, ov_i n), (3, ov_i s), (4, ov_i t)]) (st2 := [ov_r 49, ov_i t]) (pc2 := 3) b_170_0_2 rfl rfl ?_
  refine ov_getf (v := ov_r 70) d_170_3 fl_Pace_30 (zb_49 I) (zs_49 I) (congrArg ov_r k0) ?_
  refine ov_getf (v := ov_r 76) d_170_6 fl_Pace_43 (zb_70 I) (zs_70 I) (congrArg ov_r (rg_70_7 I)) ?_
  refine ov_blk (ls2 := [(0, ov_r 49), (1, ov_i l), (2, ov_i n), (3, ov_i s), (4, ov_i t)]) (st2 := [ov_i 0, ov_r 76, ov_i t]) (pc2 := 10) b_170_9_1 rfl rfl ?_
  refine ov_iald d_170_10 (zb_76 I) (zs_76 I) (by omega) ?_
  have g1 := ra_76 I 0
  refine ov_icge (tgt := 20) d_170_11 (by decide) (by omega) (by omega) (fun c2 => ?_) (fun c2 => ?_)
  · skip
    refine ov_blk (ls2 := [(0, ov_r 49), (1, ov_i l), (2, ov_i n), (3, ov_i s), (4, ov_i t), (5, ov_i n)]) (st2 := [ov_r 49, ov_i n]) (pc2 := 26) b_170_20_4 rfl rfl ?_
    refine ov_getf (v := ov_i (h 49 6)) d_170_26 fl_Pace_46 (zb_49 I) (zs_49 I) rfl ?_
    have g3 := rg_49_6 I
    refine ov_icgt (tgt := 60) d_170_29 (by decide) (by omega) (by omega) (fun c4 => ?_) (fun c4 => ?_)
    · skip
      refine ov_blk (ls2 := [(0, ov_r 49), (1, ov_i l), (2, ov_i n), (3, ov_i s), (4, ov_i t), (5, ov_i n)]) (st2 := [ov_i (-1)]) (pc2 := 61) b_170_60_1 rfl rfl ?_
      exact ov_reti (st := []) d_170_61 rfl ⟨_, rfl, I, (by show -2147483648 ≤ (-1) ∧ (-1) ≤ 2147483647 ∧ (h 36 7) = (h 36 7) ∧ (h 1 1) = (h 1 1) ∧ (h 90 2) = (h 90 2) ∧ (h 0 10) = (h 0 10) ∧ (h 0 11) = (h 0 11) ∧ (h 0 12) = (h 0 12) ∧ (h 0 13) = (h 0 13) ∧ (h 3 1) = (h 3 1) ∧ (h 36 8) = (h 36 8) ∧ (h 46 3) = (h 46 3) ∧ (h 46 4) = (h 46 4) ∧ (h 49 4) = (h 49 4) ∧ (h 49 5) = (h 49 5) ∧ (h 64 0) = (h 64 0) ∧ (h 76 0) = (h 76 0); omega)⟩
    · skip
      refine ov_blk (ls2 := [(0, ov_r 49), (1, ov_i l), (2, ov_i n), (3, ov_i s), (4, ov_i t), (5, ov_i n)]) (st2 := [ov_r 49]) (pc2 := 33) b_170_32_1 rfl rfl ?_
      refine ov_getf (v := ov_r 70) d_170_33 fl_Pace_30 (zb_49 I) (zs_49 I) (congrArg ov_r k0) ?_
      refine ov_blk (ls2 := [(0, ov_r 49), (1, ov_i l), (2, ov_i n), (3, ov_i s), (4, ov_i t), (5, ov_i n)]) (st2 := [ov_r 49, ov_r 70]) (pc2 := 37) b_170_36_1 rfl rfl ?_
      refine ov_getf (v := ov_r 82) d_170_37 fl_Pace_34 (zb_49 I) (zs_49 I) (congrArg ov_r k1) ?_
      refine ov_getf (v := ov_r 83) d_170_40 fl_Pace_101 (zb_82 I) (zs_82 I) (congrArg ov_r (rg_82_2 I)) ?_
      refine ov_blk (ls2 := [(0, ov_r 49), (1, ov_i l), (2, ov_i n), (3, ov_i s), (4, ov_i t), (5, ov_i n)]) (st2 := [ov_i l, ov_r 83, ov_r 70]) (pc2 := 44) b_170_43_1 rfl rfl ?_
      refine ov_iald d_170_44 (zb_83 I) (zs_83 I) (by omega) ?_
      have g5 := ra_83 I l
      refine ov_blk (ls2 := [(0, ov_r 49), (1, ov_i l), (2, ov_i n), (3, ov_i s), (4, ov_i t), (5, ov_i n)]) (st2 := [ov_r 49, ov_i (h 83 l), ov_r 70]) (pc2 := 46) b_170_45_1 rfl rfl ?_
      refine ov_getf (v := ov_r 82) d_170_46 fl_Pace_34 (zb_49 I) (zs_49 I) (congrArg ov_r k1) ?_
      refine ov_getf (v := ov_r 84) d_170_49 fl_Pace_104 (zb_82 I) (zs_82 I) (congrArg ov_r (rg_82_3 I)) ?_
      refine ov_blk (ls2 := [(0, ov_r 49), (1, ov_i l), (2, ov_i n), (3, ov_i s), (4, ov_i t), (5, ov_i n)]) (st2 := [ov_i l, ov_r 84, ov_i (h 83 l), ov_r 70]) (pc2 := 53) b_170_52_1 rfl rfl ?_
      refine ov_iald d_170_53 (zb_84 I) (zs_84 I) (by omega) ?_
      have g6 := ra_84 I l
      refine ov_cV (as := [ov_i (h 83 l), ov_i (h 84 l)]) (st := []) (d2 := d - 1) d_170_54 lk_Pace_107 rfl (Nat.le_of_ble_eq_true rfl) (c := 9) (zb_70 I) (zs_70 I) ⟨by decide, rfl⟩ (by omega) (c_Town_isOpen_70 (d - 1) (by omega) U I (h 83 l) (h 84 l) (by omega) (by omega) (by omega)) ?_
      rintro _ _ _ ⟨v8, rfl, rfl, rfl, f7⟩
      show ov_R u d ov_m170 57 [(0, ov_r 49), (1, ov_i l), (2, ov_i n), (3, ov_i s), (4, ov_i t), (5, ov_i n)] [ov_i v8] z h (P_Pace_costBy_49_k49_4_70_k49_5_82 F z h l n s t)
      have f9 : (v8 = 0 ∨ v8 = 1) ∧ (v8 = 1 → ((h 84 l) = 0 ∧ (h 83 l) ≤ 52) ∨ ((h 84 l) = 1 ∧ (h 83 l) ≤ 47)) := f7
      clear f7
      refine ov_ifne (tgt := 62) d_170_57 (by decide) (by omega) (fun c10 => ?_) (fun c10 => ?_)
      · skip
        refine ov_blk (ls2 := [(0, ov_r 49), (1, ov_i l), (2, ov_i n), (3, ov_i s), (4, ov_i t), (5, ov_i n)]) (st2 := [ov_r 49]) (pc2 := 63) b_170_62_1 rfl rfl ?_
        refine ov_getf (v := ov_r 70) d_170_63 fl_Pace_30 (zb_49 I) (zs_49 I) (congrArg ov_r k0) ?_
        refine ov_blk (ls2 := [(0, ov_r 49), (1, ov_i l), (2, ov_i n), (3, ov_i s), (4, ov_i t), (5, ov_i n)]) (st2 := [ov_r 49, ov_r 70]) (pc2 := 67) b_170_66_1 rfl rfl ?_
        refine ov_getf (v := ov_r 82) d_170_67 fl_Pace_34 (zb_49 I) (zs_49 I) (congrArg ov_r k1) ?_
        refine ov_getf (v := ov_r 83) d_170_70 fl_Pace_101 (zb_82 I) (zs_82 I) (congrArg ov_r (rg_82_2 I)) ?_
        refine ov_blk (ls2 := [(0, ov_r 49), (1, ov_i l), (2, ov_i n), (3, ov_i s), (4, ov_i t), (5, ov_i n)]) (st2 := [ov_i l, ov_r 83, ov_r 70]) (pc2 := 74) b_170_73_1 rfl rfl ?_
        refine ov_iald d_170_74 (zb_83 I) (zs_83 I) (by omega) ?_
        refine ov_blk (ls2 := [(0, ov_r 49), (1, ov_i l), (2, ov_i n), (3, ov_i s), (4, ov_i t), (5, ov_i n)]) (st2 := [ov_r 49, ov_i (h 83 l), ov_r 70]) (pc2 := 76) b_170_75_1 rfl rfl ?_
        refine ov_getf (v := ov_r 82) d_170_76 fl_Pace_34 (zb_49 I) (zs_49 I) (congrArg ov_r k1) ?_
        refine ov_getf (v := ov_r 84) d_170_79 fl_Pace_104 (zb_82 I) (zs_82 I) (congrArg ov_r (rg_82_3 I)) ?_
        refine ov_blk (ls2 := [(0, ov_r 49), (1, ov_i l), (2, ov_i n), (3, ov_i s), (4, ov_i t), (5, ov_i n)]) (st2 := [ov_i l, ov_r 84, ov_i (h 83 l), ov_r 70]) (pc2 := 83) b_170_82_1 rfl rfl ?_
        refine ov_iald d_170_83 (zb_84 I) (zs_84 I) (by omega) ?_
        refine ov_blk (ls2 := [(0, ov_r 49), (1, ov_i l), (2, ov_i n), (3, ov_i s), (4, ov_i t), (5, ov_i n)]) (st2 := [ov_i s, ov_i (h 84 l), ov_i (h 83 l), ov_r 70]) (pc2 := 85) b_170_84_1 rfl rfl ?_
        refine ov_cV (as := [ov_i (h 83 l), ov_i (h 84 l), ov_i s]) (st := []) (d2 := d - 1) d_170_85 lk_Pace_110 rfl (Nat.le_of_ble_eq_true rfl) (c := 9) (zb_70 I) (zs_70 I) ⟨by decide, rfl⟩ (by omega) (c_Town_waitFor_70 (d - 1) (by omega) U I (h 83 l) (h 84 l) s (by omega) (by omega) (by omega) (by omega)) ?_
        rintro _ _ _ ⟨v14, rfl, rfl, rfl, f13⟩
        show ov_R u d ov_m170 88 [(0, ov_r 49), (1, ov_i l), (2, ov_i n), (3, ov_i s), (4, ov_i t), (5, ov_i n)] [ov_i v14] z h (P_Pace_costBy_49_k49_4_70_k49_5_82 F z h l n s t)
        have f15 : 0 ≤ v14 ∧ v14 ≤ 60 := f13
        clear f13
        refine ov_blk (ls2 := [(0, ov_r 49), (1, ov_i l), (2, ov_i n), (3, ov_i s), (4, ov_i t), (5, ov_i n), (6, ov_i v14)]) (st2 := [ov_i (l + 1), ov_r 49]) (pc2 := 94) b_170_88_5 rfl rfl ?_
        refine ov_havw (fun w16 gw16 qw16 => ?_)
        refine ov_blk (ls2 := [(0, ov_r 49), (1, ov_i l), (2, ov_i n), (3, ov_i s), (4, ov_i t), (5, ov_i n), (6, ov_i v14)]) (st2 := [ov_i (s + v14), ov_i n, ov_i w16, ov_r 49]) (pc2 := 100) b_170_94_4 rfl rfl ?_
        refine ov_havw (fun w17 gw17 qw17 => ?_)
        refine ov_blk (ls2 := [(0, ov_r 49), (1, ov_i l), (2, ov_i n), (3, ov_i s), (4, ov_i t), (5, ov_i n), (6, ov_i v14)]) (st2 := [ov_i (w17 + t), ov_i n, ov_i w16, ov_r 49]) (pc2 := 103) b_170_100_2 rfl rfl ?_
        refine ov_havw (fun w18 gw18 qw18 => ?_)
        refine ov_blk (ls2 := [(0, ov_r 49), (1, ov_i l), (2, ov_i n), (3, ov_i s), (4, ov_i t), (5, ov_i n), (6, ov_i v14)]) (st2 := [ov_r 49, ov_i w18, ov_i n, ov_i w16, ov_r 49]) (pc2 := 104) b_170_103_1 rfl rfl ?_
        refine ov_getf (v := ov_r 70) d_170_104 fl_Pace_30 (zb_49 I) (zs_49 I) (congrArg ov_r k0) ?_
        refine ov_getf (v := ov_i (h 70 10)) d_170_107 fl_Pace_54 (zb_70 I) (zs_70 I) rfl ?_
        have g19 := rg_70_10 I
        refine ov_cSN (as := [ov_i w18, ov_i (h 70 10)]) (st := [ov_i n, ov_i w16, ov_r 49]) (d2 := d - 1) d_170_110 lk_Pace_61 rfl (Nat.le_of_ble_eq_true rfl) (by omega) (c_OF_modulo (d - 1) (by omega) U I w18 (h 70 10) (by omega) (by omega)) ?_
        rintro _ _ _ ⟨v21, rfl, rfl, rfl, f20⟩
        show ov_R u d ov_m170 113 [(0, ov_r 49), (1, ov_i l), (2, ov_i n), (3, ov_i s), (4, ov_i t), (5, ov_i n), (6, ov_i v14)] [ov_i v21, ov_i n, ov_i w16, ov_r 49] z h (P_Pace_costBy_49_k49_4_70_k49_5_82 F z h l n s t)
        have f22 : (0 < (h 70 10) → 0 ≤ v21 ∧ v21 < (h 70 10)) ∧ ((h 70 10) ≤ 0 → v21 = 0) := f20
        clear f20
        refine ov_cV (as := [ov_i w16, ov_i n, ov_i v21]) (st := []) (d2 := d - 1) d_170_113 lk_Pace_65 rfl (Nat.le_of_ble_eq_true rfl) (c := 5) (zb_49 I) (zs_49 I) ⟨by decide, rfl⟩ (by omega) (HC (k - 1) (by omega) (d - 1) (by omega) U I w16 n v21 k0 k1 (by omega) (by omega) (by omega) (by omega)) ?_
        rintro _ z25 h26 ⟨v24, rfl, I27, f23⟩
        show ov_R u d ov_m170 116 [(0, ov_r 49), (1, ov_i l), (2, ov_i n), (3, ov_i s), (4, ov_i t), (5, ov_i n), (6, ov_i v14)] [ov_i v24] z25 h26 (P_Pace_costBy_49_k49_4_70_k49_5_82 F z h l n s t)
        have f28 : -2147483648 ≤ v24 ∧ v24 ≤ 2147483647 ∧ (h26 36 7) = (h 36 7) ∧ (h26 1 1) = (h 1 1) ∧ (h26 90 2) = (h 90 2) ∧ (h26 0 10) = (h 0 10) ∧ (h26 0 11) = (h 0 11) ∧ (h26 0 12) = (h 0 12) ∧ (h26 0 13) = (h 0 13) ∧ (h26 3 1) = (h 3 1) ∧ (h26 36 8) = (h 36 8) ∧ (h26 46 3) = (h 46 3) ∧ (h26 46 4) = (h 46 4) ∧ (h26 49 4) = (h 49 4) ∧ (h26 49 5) = (h 49 5) ∧ (h26 64 0) = (h 64 0) ∧ (h26 76 0) = (h 76 0) := f23
        clear f23
        have e29 : h26 49 4 = 70 := by omega
        have e30 : h26 49 5 = 82 := by omega
        refine ov_blk (ls2 := [(0, ov_r 49), (1, ov_i l), (2, ov_i n), (3, ov_i s), (4, ov_i t), (5, ov_i n), (6, ov_i v14), (7, ov_i v24)]) (st2 := [ov_i (-1), ov_i v24]) (pc2 := 121) b_170_116_3 rfl rfl ?_
        refine ov_icne (tgt := 128) d_170_121 (by decide) (by omega) (by omega) (fun c31 => ?_) (fun c31 => ?_)
        · skip
          refine ov_blk (ls2 := [(0, ov_r 49), (1, ov_i l), (2, ov_i n), (3, ov_i s), (4, ov_i t), (5, ov_i n), (6, ov_i v14), (7, ov_i v24)]) (st2 := [ov_i (v24 + v14)]) (pc2 := 133) b_170_128_3 rfl rfl ?_
          refine ov_havw (fun w32 gw32 qw32 => ?_)
          refine ov_blk (ls2 := [(0, ov_r 49), (1, ov_i l), (2, ov_i n), (3, ov_i s), (4, ov_i t), (5, ov_i n), (6, ov_i v14), (7, ov_i v24)]) (st2 := [ov_i (w32 + t)]) (pc2 := 136) b_170_133_2 rfl rfl ?_
          refine ov_havw (fun w33 gw33 qw33 => ?_)
          refine ov_blk (ls2 := [(0, ov_r 49), (1, ov_i l), (2, ov_i n), (3, ov_i s), (4, ov_i t), (5, ov_i n), (6, ov_i v14), (7, ov_i v24)]) (st2 := [ov_i v14, ov_i w33]) (pc2 := 138) b_170_136_1 rfl rfl ?_
          refine ov_ifle (tgt := 147) d_170_138 (by decide) (by omega) (fun c34 => ?_) (fun c34 => ?_)
          · skip
            refine ov_blk (ls2 := [(0, ov_r 49), (1, ov_i l), (2, ov_i n), (3, ov_i s), (4, ov_i t), (5, ov_i n), (6, ov_i v14), (7, ov_i v24)]) (st2 := [ov_i (w33 + 0)]) (pc2 := 149) b_170_147_2 rfl rfl ?_
            refine ov_havw (fun w35 gw35 qw35 => ?_)
            exact ov_reti (st := []) d_170_149 rfl ⟨_, rfl, I27, (by show -2147483648 ≤ w35 ∧ w35 ≤ 2147483647 ∧ (h26 36 7) = (h 36 7) ∧ (h26 1 1) = (h 1 1) ∧ (h26 90 2) = (h 90 2) ∧ (h26 0 10) = (h 0 10) ∧ (h26 0 11) = (h 0 11) ∧ (h26 0 12) = (h 0 12) ∧ (h26 0 13) = (h 0 13) ∧ (h26 3 1) = (h 3 1) ∧ (h26 36 8) = (h 36 8) ∧ (h26 46 3) = (h 46 3) ∧ (h26 46 4) = (h 46 4) ∧ (h26 49 4) = (h 49 4) ∧ (h26 49 5) = (h 49 5) ∧ (h26 64 0) = (h 64 0) ∧ (h26 76 0) = (h 76 0); omega)⟩
          · skip
            refine ov_blk (ls2 := [(0, ov_r 49), (1, ov_i l), (2, ov_i n), (3, ov_i s), (4, ov_i t), (5, ov_i n), (6, ov_i v14), (7, ov_i v24)]) (st2 := [ov_i 10000, ov_i w33]) (pc2 := 144) b_170_141_1 rfl rfl ?_
            refine ov_goto (tgt := 148) d_170_144 (by decide) ?_
            refine ov_blk (ls2 := [(0, ov_r 49), (1, ov_i l), (2, ov_i n), (3, ov_i s), (4, ov_i t), (5, ov_i n), (6, ov_i v14), (7, ov_i v24)]) (st2 := [ov_i (w33 + 10000)]) (pc2 := 149) b_170_148_1 rfl rfl ?_
            refine ov_havw (fun w36 gw36 qw36 => ?_)
            exact ov_reti (st := []) d_170_149 rfl ⟨_, rfl, I27, (by show -2147483648 ≤ w36 ∧ w36 ≤ 2147483647 ∧ (h26 36 7) = (h 36 7) ∧ (h26 1 1) = (h 1 1) ∧ (h26 90 2) = (h 90 2) ∧ (h26 0 10) = (h 0 10) ∧ (h26 0 11) = (h 0 11) ∧ (h26 0 12) = (h 0 12) ∧ (h26 0 13) = (h 0 13) ∧ (h26 3 1) = (h 3 1) ∧ (h26 36 8) = (h 36 8) ∧ (h26 46 3) = (h 46 3) ∧ (h26 46 4) = (h 46 4) ∧ (h26 49 4) = (h 49 4) ∧ (h26 49 5) = (h 49 5) ∧ (h26 64 0) = (h 64 0) ∧ (h26 76 0) = (h 76 0); omega)⟩
        · skip
          refine ov_blk (ls2 := [(0, ov_r 49), (1, ov_i l), (2, ov_i n), (3, ov_i s), (4, ov_i t), (5, ov_i n), (6, ov_i v14), (7, ov_i v24)]) (st2 := [ov_i (-1)]) (pc2 := 125) b_170_124_1 rfl rfl ?_
          refine ov_goto (tgt := 149) d_170_125 (by decide) ?_
          exact ov_reti (st := []) d_170_149 rfl ⟨_, rfl, I27, (by show -2147483648 ≤ (-1) ∧ (-1) ≤ 2147483647 ∧ (h26 36 7) = (h 36 7) ∧ (h26 1 1) = (h 1 1) ∧ (h26 90 2) = (h 90 2) ∧ (h26 0 10) = (h 0 10) ∧ (h26 0 11) = (h 0 11) ∧ (h26 0 12) = (h 0 12) ∧ (h26 0 13) = (h 0 13) ∧ (h26 3 1) = (h 3 1) ∧ (h26 36 8) = (h 36 8) ∧ (h26 46 3) = (h 46 3) ∧ (h26 46 4) = (h 46 4) ∧ (h26 49 4) = (h 49 4) ∧ (h26 49 5) = (h 49 5) ∧ (h26 64 0) = (h 64 0) ∧ (h26 76 0) = (h 76 0); omega)⟩
      · skip
        refine ov_blk (ls2 := [(0, ov_r 49), (1, ov_i l), (2, ov_i n), (3, ov_i s), (4, ov_i t), (5, ov_i n)]) (st2 := [ov_i (-1)]) (pc2 := 61) b_170_60_1 rfl rfl ?_
        exact ov_reti (st := []) d_170_61 rfl ⟨_, rfl, I, (by show -2147483648 ≤ (-1) ∧ (-1) ≤ 2147483647 ∧ (h 36 7) = (h 36 7) ∧ (h 1 1) = (h 1 1) ∧ (h 90 2) = (h 90 2) ∧ (h 0 10) = (h 0 10) ∧ (h 0 11) = (h 0 11) ∧ (h 0 12) = (h 0 12) ∧ (h 0 13) = (h 0 13) ∧ (h 3 1) = (h 3 1) ∧ (h 36 8) = (h 36 8) ∧ (h 46 3) = (h 46 3) ∧ (h 46 4) = (h 46 4) ∧ (h 49 4) = (h 49 4) ∧ (h 49 5) = (h 49 5) ∧ (h 64 0) = (h 64 0) ∧ (h 76 0) = (h 76 0); omega)⟩
  · skip
    refine ov_blk (ls2 := [(0, ov_r 49), (1, ov_i l), (2, ov_i n), (3, ov_i s), (4, ov_i t)]) (st2 := [ov_i (n + 1)]) (pc2 := 17) b_170_14_3 rfl rfl ?_
    refine ov_havw (fun w37 gw37 qw37 => ?_)
    refine ov_goto (tgt := 21) d_170_17 (by decide) ?_
    refine ov_blk (ls2 := [(0, ov_r 49), (1, ov_i l), (2, ov_i n), (3, ov_i s), (4, ov_i t), (5, ov_i w37)]) (st2 := [ov_r 49, ov_i w37]) (pc2 := 26) b_170_21_3 rfl rfl ?_
    refine ov_getf (v := ov_i (h 49 6)) d_170_26 fl_Pace_46 (zb_49 I) (zs_49 I) rfl ?_
    have g38 := rg_49_6 I
    refine ov_icgt (tgt := 60) d_170_29 (by decide) (by omega) (by omega) (fun c39 => ?_) (fun c39 => ?_)
    · skip
      refine ov_blk (ls2 := [(0, ov_r 49), (1, ov_i l), (2, ov_i n), (3, ov_i s), (4, ov_i t), (5, ov_i w37)]) (st2 := [ov_i (-1)]) (pc2 := 61) b_170_60_1 rfl rfl ?_
      exact ov_reti (st := []) d_170_61 rfl ⟨_, rfl, I, (by show -2147483648 ≤ (-1) ∧ (-1) ≤ 2147483647 ∧ (h 36 7) = (h 36 7) ∧ (h 1 1) = (h 1 1) ∧ (h 90 2) = (h 90 2) ∧ (h 0 10) = (h 0 10) ∧ (h 0 11) = (h 0 11) ∧ (h 0 12) = (h 0 12) ∧ (h 0 13) = (h 0 13) ∧ (h 3 1) = (h 3 1) ∧ (h 36 8) = (h 36 8) ∧ (h 46 3) = (h 46 3) ∧ (h 46 4) = (h 46 4) ∧ (h 49 4) = (h 49 4) ∧ (h 49 5) = (h 49 5) ∧ (h 64 0) = (h 64 0) ∧ (h 76 0) = (h 76 0); omega)⟩
    · skip
      refine ov_blk (ls2 := [(0, ov_r 49), (1, ov_i l), (2, ov_i n), (3, ov_i s), (4, ov_i t), (5, ov_i w37)]) (st2 := [ov_r 49]) (pc2 := 33) b_170_32_1 rfl rfl ?_
      refine ov_getf (v := ov_r 70) d_170_33 fl_Pace_30 (zb_49 I) (zs_49 I) (congrArg ov_r k0) ?_
      refine ov_blk (ls2 := [(0, ov_r 49), (1, ov_i l), (2, ov_i n), (3, ov_i s), (4, ov_i t), (5, ov_i w37)]) (st2 := [ov_r 49, ov_r 70]) (pc2 := 37) b_170_36_1 rfl rfl ?_
      refine ov_getf (v := ov_r 82) d_170_37 fl_Pace_34 (zb_49 I) (zs_49 I) (congrArg ov_r k1) ?_
      refine ov_getf (v := ov_r 83) d_170_40 fl_Pace_101 (zb_82 I) (zs_82 I) (congrArg ov_r (rg_82_2 I)) ?_
      refine ov_blk (ls2 := [(0, ov_r 49), (1, ov_i l), (2, ov_i n), (3, ov_i s), (4, ov_i t), (5, ov_i w37)]) (st2 := [ov_i l, ov_r 83, ov_r 70]) (pc2 := 44) b_170_43_1 rfl rfl ?_
      refine ov_iald d_170_44 (zb_83 I) (zs_83 I) (by omega) ?_
      have g40 := ra_83 I l
      refine ov_blk (ls2 := [(0, ov_r 49), (1, ov_i l), (2, ov_i n), (3, ov_i s), (4, ov_i t), (5, ov_i w37)]) (st2 := [ov_r 49, ov_i (h 83 l), ov_r 70]) (pc2 := 46) b_170_45_1 rfl rfl ?_
      refine ov_getf (v := ov_r 82) d_170_46 fl_Pace_34 (zb_49 I) (zs_49 I) (congrArg ov_r k1) ?_
      refine ov_getf (v := ov_r 84) d_170_49 fl_Pace_104 (zb_82 I) (zs_82 I) (congrArg ov_r (rg_82_3 I)) ?_
      refine ov_blk (ls2 := [(0, ov_r 49), (1, ov_i l), (2, ov_i n), (3, ov_i s), (4, ov_i t), (5, ov_i w37)]) (st2 := [ov_i l, ov_r 84, ov_i (h 83 l), ov_r 70]) (pc2 := 53) b_170_52_1 rfl rfl ?_
      refine ov_iald d_170_53 (zb_84 I) (zs_84 I) (by omega) ?_
      have g41 := ra_84 I l
      refine ov_cV (as := [ov_i (h 83 l), ov_i (h 84 l)]) (st := []) (d2 := d - 1) d_170_54 lk_Pace_107 rfl (Nat.le_of_ble_eq_true rfl) (c := 9) (zb_70 I) (zs_70 I) ⟨by decide, rfl⟩ (by omega) (c_Town_isOpen_70 (d - 1) (by omega) U I (h 83 l) (h 84 l) (by omega) (by omega) (by omega)) ?_
      rintro _ _ _ ⟨v43, rfl, rfl, rfl, f42⟩
      show ov_R u d ov_m170 57 [(0, ov_r 49), (1, ov_i l), (2, ov_i n), (3, ov_i s), (4, ov_i t), (5, ov_i w37)] [ov_i v43] z h (P_Pace_costBy_49_k49_4_70_k49_5_82 F z h l n s t)
      have f44 : (v43 = 0 ∨ v43 = 1) ∧ (v43 = 1 → ((h 84 l) = 0 ∧ (h 83 l) ≤ 52) ∨ ((h 84 l) = 1 ∧ (h 83 l) ≤ 47)) := f42
      clear f42
      refine ov_ifne (tgt := 62) d_170_57 (by decide) (by omega) (fun c45 => ?_) (fun c45 => ?_)
      · skip
        refine ov_blk (ls2 := [(0, ov_r 49), (1, ov_i l), (2, ov_i n), (3, ov_i s), (4, ov_i t), (5, ov_i w37)]) (st2 := [ov_r 49]) (pc2 := 63) b_170_62_1 rfl rfl ?_
        refine ov_getf (v := ov_r 70) d_170_63 fl_Pace_30 (zb_49 I) (zs_49 I) (congrArg ov_r k0) ?_
        refine ov_blk (ls2 := [(0, ov_r 49), (1, ov_i l), (2, ov_i n), (3, ov_i s), (4, ov_i t), (5, ov_i w37)]) (st2 := [ov_r 49, ov_r 70]) (pc2 := 67) b_170_66_1 rfl rfl ?_
        refine ov_getf (v := ov_r 82) d_170_67 fl_Pace_34 (zb_49 I) (zs_49 I) (congrArg ov_r k1) ?_
        refine ov_getf (v := ov_r 83) d_170_70 fl_Pace_101 (zb_82 I) (zs_82 I) (congrArg ov_r (rg_82_2 I)) ?_
        refine ov_blk (ls2 := [(0, ov_r 49), (1, ov_i l), (2, ov_i n), (3, ov_i s), (4, ov_i t), (5, ov_i w37)]) (st2 := [ov_i l, ov_r 83, ov_r 70]) (pc2 := 74) b_170_73_1 rfl rfl ?_
        refine ov_iald d_170_74 (zb_83 I) (zs_83 I) (by omega) ?_
        refine ov_blk (ls2 := [(0, ov_r 49), (1, ov_i l), (2, ov_i n), (3, ov_i s), (4, ov_i t), (5, ov_i w37)]) (st2 := [ov_r 49, ov_i (h 83 l), ov_r 70]) (pc2 := 76) b_170_75_1 rfl rfl ?_
        refine ov_getf (v := ov_r 82) d_170_76 fl_Pace_34 (zb_49 I) (zs_49 I) (congrArg ov_r k1) ?_
        refine ov_getf (v := ov_r 84) d_170_79 fl_Pace_104 (zb_82 I) (zs_82 I) (congrArg ov_r (rg_82_3 I)) ?_
        refine ov_blk (ls2 := [(0, ov_r 49), (1, ov_i l), (2, ov_i n), (3, ov_i s), (4, ov_i t), (5, ov_i w37)]) (st2 := [ov_i l, ov_r 84, ov_i (h 83 l), ov_r 70]) (pc2 := 83) b_170_82_1 rfl rfl ?_
        refine ov_iald d_170_83 (zb_84 I) (zs_84 I) (by omega) ?_
        refine ov_blk (ls2 := [(0, ov_r 49), (1, ov_i l), (2, ov_i n), (3, ov_i s), (4, ov_i t), (5, ov_i w37)]) (st2 := [ov_i s, ov_i (h 84 l), ov_i (h 83 l), ov_r 70]) (pc2 := 85) b_170_84_1 rfl rfl ?_
        refine ov_cV (as := [ov_i (h 83 l), ov_i (h 84 l), ov_i s]) (st := []) (d2 := d - 1) d_170_85 lk_Pace_110 rfl (Nat.le_of_ble_eq_true rfl) (c := 9) (zb_70 I) (zs_70 I) ⟨by decide, rfl⟩ (by omega) (c_Town_waitFor_70 (d - 1) (by omega) U I (h 83 l) (h 84 l) s (by omega) (by omega) (by omega) (by omega)) ?_
        rintro _ _ _ ⟨v49, rfl, rfl, rfl, f48⟩
        show ov_R u d ov_m170 88 [(0, ov_r 49), (1, ov_i l), (2, ov_i n), (3, ov_i s), (4, ov_i t), (5, ov_i w37)] [ov_i v49] z h (P_Pace_costBy_49_k49_4_70_k49_5_82 F z h l n s t)
        have f50 : 0 ≤ v49 ∧ v49 ≤ 60 := f48
        clear f48
        refine ov_blk (ls2 := [(0, ov_r 49), (1, ov_i l), (2, ov_i n), (3, ov_i s), (4, ov_i t), (5, ov_i w37), (6, ov_i v49)]) (st2 := [ov_i (l + 1), ov_r 49]) (pc2 := 94) b_170_88_5 rfl rfl ?_
        refine ov_havw (fun w51 gw51 qw51 => ?_)
        refine ov_blk (ls2 := [(0, ov_r 49), (1, ov_i l), (2, ov_i n), (3, ov_i s), (4, ov_i t), (5, ov_i w37), (6, ov_i v49)]) (st2 := [ov_i (s + v49), ov_i w37, ov_i w51, ov_r 49]) (pc2 := 100) b_170_94_4 rfl rfl ?_
        refine ov_havw (fun w52 gw52 qw52 => ?_)
        refine ov_blk (ls2 := [(0, ov_r 49), (1, ov_i l), (2, ov_i n), (3, ov_i s), (4, ov_i t), (5, ov_i w37), (6, ov_i v49)]) (st2 := [ov_i (w52 + t), ov_i w37, ov_i w51, ov_r 49]) (pc2 := 103) b_170_100_2 rfl rfl ?_
        refine ov_havw (fun w53 gw53 qw53 => ?_)
        refine ov_blk (ls2 := [(0, ov_r 49), (1, ov_i l), (2, ov_i n), (3, ov_i s), (4, ov_i t), (5, ov_i w37), (6, ov_i v49)]) (st2 := [ov_r 49, ov_i w53, ov_i w37, ov_i w51, ov_r 49]) (pc2 := 104) b_170_103_1 rfl rfl ?_
        refine ov_getf (v := ov_r 70) d_170_104 fl_Pace_30 (zb_49 I) (zs_49 I) (congrArg ov_r k0) ?_
        refine ov_getf (v := ov_i (h 70 10)) d_170_107 fl_Pace_54 (zb_70 I) (zs_70 I) rfl ?_
        have g54 := rg_70_10 I
        refine ov_cSN (as := [ov_i w53, ov_i (h 70 10)]) (st := [ov_i w37, ov_i w51, ov_r 49]) (d2 := d - 1) d_170_110 lk_Pace_61 rfl (Nat.le_of_ble_eq_true rfl) (by omega) (c_OF_modulo (d - 1) (by omega) U I w53 (h 70 10) (by omega) (by omega)) ?_
        rintro _ _ _ ⟨v56, rfl, rfl, rfl, f55⟩
        show ov_R u d ov_m170 113 [(0, ov_r 49), (1, ov_i l), (2, ov_i n), (3, ov_i s), (4, ov_i t), (5, ov_i w37), (6, ov_i v49)] [ov_i v56, ov_i w37, ov_i w51, ov_r 49] z h (P_Pace_costBy_49_k49_4_70_k49_5_82 F z h l n s t)
        have f57 : (0 < (h 70 10) → 0 ≤ v56 ∧ v56 < (h 70 10)) ∧ ((h 70 10) ≤ 0 → v56 = 0) := f55
        clear f55
        refine ov_cV (as := [ov_i w51, ov_i w37, ov_i v56]) (st := []) (d2 := d - 1) d_170_113 lk_Pace_65 rfl (Nat.le_of_ble_eq_true rfl) (c := 5) (zb_49 I) (zs_49 I) ⟨by decide, rfl⟩ (by omega) (HC (k - 1) (by omega) (d - 1) (by omega) U I w51 w37 v56 k0 k1 (by omega) (by omega) (by omega) (by omega)) ?_
        rintro _ z60 h61 ⟨v59, rfl, I62, f58⟩
        show ov_R u d ov_m170 116 [(0, ov_r 49), (1, ov_i l), (2, ov_i n), (3, ov_i s), (4, ov_i t), (5, ov_i w37), (6, ov_i v49)] [ov_i v59] z60 h61 (P_Pace_costBy_49_k49_4_70_k49_5_82 F z h l n s t)
        have f63 : -2147483648 ≤ v59 ∧ v59 ≤ 2147483647 ∧ (h61 36 7) = (h 36 7) ∧ (h61 1 1) = (h 1 1) ∧ (h61 90 2) = (h 90 2) ∧ (h61 0 10) = (h 0 10) ∧ (h61 0 11) = (h 0 11) ∧ (h61 0 12) = (h 0 12) ∧ (h61 0 13) = (h 0 13) ∧ (h61 3 1) = (h 3 1) ∧ (h61 36 8) = (h 36 8) ∧ (h61 46 3) = (h 46 3) ∧ (h61 46 4) = (h 46 4) ∧ (h61 49 4) = (h 49 4) ∧ (h61 49 5) = (h 49 5) ∧ (h61 64 0) = (h 64 0) ∧ (h61 76 0) = (h 76 0) := f58
        clear f58
        have e64 : h61 49 4 = 70 := by omega
        have e65 : h61 49 5 = 82 := by omega
        refine ov_blk (ls2 := [(0, ov_r 49), (1, ov_i l), (2, ov_i n), (3, ov_i s), (4, ov_i t), (5, ov_i w37), (6, ov_i v49), (7, ov_i v59)]) (st2 := [ov_i (-1), ov_i v59]) (pc2 := 121) b_170_116_3 rfl rfl ?_
        refine ov_icne (tgt := 128) d_170_121 (by decide) (by omega) (by omega) (fun c66 => ?_) (fun c66 => ?_)
        · skip
          refine ov_blk (ls2 := [(0, ov_r 49), (1, ov_i l), (2, ov_i n), (3, ov_i s), (4, ov_i t), (5, ov_i w37), (6, ov_i v49), (7, ov_i v59)]) (st2 := [ov_i (v59 + v49)]) (pc2 := 133) b_170_128_3 rfl rfl ?_
          refine ov_havw (fun w67 gw67 qw67 => ?_)
          refine ov_blk (ls2 := [(0, ov_r 49), (1, ov_i l), (2, ov_i n), (3, ov_i s), (4, ov_i t), (5, ov_i w37), (6, ov_i v49), (7, ov_i v59)]) (st2 := [ov_i (w67 + t)]) (pc2 := 136) b_170_133_2 rfl rfl ?_
          refine ov_havw (fun w68 gw68 qw68 => ?_)
          refine ov_blk (ls2 := [(0, ov_r 49), (1, ov_i l), (2, ov_i n), (3, ov_i s), (4, ov_i t), (5, ov_i w37), (6, ov_i v49), (7, ov_i v59)]) (st2 := [ov_i v49, ov_i w68]) (pc2 := 138) b_170_136_1 rfl rfl ?_
          refine ov_ifle (tgt := 147) d_170_138 (by decide) (by omega) (fun c69 => ?_) (fun c69 => ?_)
          · skip
            refine ov_blk (ls2 := [(0, ov_r 49), (1, ov_i l), (2, ov_i n), (3, ov_i s), (4, ov_i t), (5, ov_i w37), (6, ov_i v49), (7, ov_i v59)]) (st2 := [ov_i (w68 + 0)]) (pc2 := 149) b_170_147_2 rfl rfl ?_
            refine ov_havw (fun w70 gw70 qw70 => ?_)
            exact ov_reti (st := []) d_170_149 rfl ⟨_, rfl, I62, (by show -2147483648 ≤ w70 ∧ w70 ≤ 2147483647 ∧ (h61 36 7) = (h 36 7) ∧ (h61 1 1) = (h 1 1) ∧ (h61 90 2) = (h 90 2) ∧ (h61 0 10) = (h 0 10) ∧ (h61 0 11) = (h 0 11) ∧ (h61 0 12) = (h 0 12) ∧ (h61 0 13) = (h 0 13) ∧ (h61 3 1) = (h 3 1) ∧ (h61 36 8) = (h 36 8) ∧ (h61 46 3) = (h 46 3) ∧ (h61 46 4) = (h 46 4) ∧ (h61 49 4) = (h 49 4) ∧ (h61 49 5) = (h 49 5) ∧ (h61 64 0) = (h 64 0) ∧ (h61 76 0) = (h 76 0); omega)⟩
          · skip
            refine ov_blk (ls2 := [(0, ov_r 49), (1, ov_i l), (2, ov_i n), (3, ov_i s), (4, ov_i t), (5, ov_i w37), (6, ov_i v49), (7, ov_i v59)]) (st2 := [ov_i 10000, ov_i w68]) (pc2 := 144) b_170_141_1 rfl rfl ?_
            refine ov_goto (tgt := 148) d_170_144 (by decide) ?_
            refine ov_blk (ls2 := [(0, ov_r 49), (1, ov_i l), (2, ov_i n), (3, ov_i s), (4, ov_i t), (5, ov_i w37), (6, ov_i v49), (7, ov_i v59)]) (st2 := [ov_i (w68 + 10000)]) (pc2 := 149) b_170_148_1 rfl rfl ?_
            refine ov_havw (fun w71 gw71 qw71 => ?_)
            exact ov_reti (st := []) d_170_149 rfl ⟨_, rfl, I62, (by show -2147483648 ≤ w71 ∧ w71 ≤ 2147483647 ∧ (h61 36 7) = (h 36 7) ∧ (h61 1 1) = (h 1 1) ∧ (h61 90 2) = (h 90 2) ∧ (h61 0 10) = (h 0 10) ∧ (h61 0 11) = (h 0 11) ∧ (h61 0 12) = (h 0 12) ∧ (h61 0 13) = (h 0 13) ∧ (h61 3 1) = (h 3 1) ∧ (h61 36 8) = (h 36 8) ∧ (h61 46 3) = (h 46 3) ∧ (h61 46 4) = (h 46 4) ∧ (h61 49 4) = (h 49 4) ∧ (h61 49 5) = (h 49 5) ∧ (h61 64 0) = (h 64 0) ∧ (h61 76 0) = (h 76 0); omega)⟩
        · skip
          refine ov_blk (ls2 := [(0, ov_r 49), (1, ov_i l), (2, ov_i n), (3, ov_i s), (4, ov_i t), (5, ov_i w37), (6, ov_i v49), (7, ov_i v59)]) (st2 := [ov_i (-1)]) (pc2 := 125) b_170_124_1 rfl rfl ?_
          refine ov_goto (tgt := 149) d_170_125 (by decide) ?_
          exact ov_reti (st := []) d_170_149 rfl ⟨_, rfl, I62, (by show -2147483648 ≤ (-1) ∧ (-1) ≤ 2147483647 ∧ (h61 36 7) = (h 36 7) ∧ (h61 1 1) = (h 1 1) ∧ (h61 90 2) = (h 90 2) ∧ (h61 0 10) = (h 0 10) ∧ (h61 0 11) = (h 0 11) ∧ (h61 0 12) = (h 0 12) ∧ (h61 0 13) = (h 0 13) ∧ (h61 3 1) = (h 3 1) ∧ (h61 36 8) = (h 36 8) ∧ (h61 46 3) = (h 46 3) ∧ (h61 46 4) = (h 46 4) ∧ (h61 49 4) = (h 49 4) ∧ (h61 49 5) = (h 49 5) ∧ (h61 64 0) = (h 64 0) ∧ (h61 76 0) = (h 76 0); omega)⟩
      · skip
        refine ov_blk (ls2 := [(0, ov_r 49), (1, ov_i l), (2, ov_i n), (3, ov_i s), (4, ov_i t), (5, ov_i w37)]) (st2 := [ov_i (-1)]) (pc2 := 61) b_170_60_1 rfl rfl ?_
        exact ov_reti (st := []) d_170_61 rfl ⟨_, rfl, I, (by show -2147483648 ≤ (-1) ∧ (-1) ≤ 2147483647 ∧ (h 36 7) = (h 36 7) ∧ (h 1 1) = (h 1 1) ∧ (h 90 2) = (h 90 2) ∧ (h 0 10) = (h 0 10) ∧ (h 0 11) = (h 0 11) ∧ (h 0 12) = (h 0 12) ∧ (h 0 13) = (h 0 13) ∧ (h 3 1) = (h 3 1) ∧ (h 36 8) = (h 36 8) ∧ (h 46 3) = (h 46 3) ∧ (h 46 4) = (h 46 4) ∧ (h 49 4) = (h 49 4) ∧ (h 49 5) = (h 49 5) ∧ (h 64 0) = (h 64 0) ∧ (h 76 0) = (h 76 0); omega)⟩
set_option maxHeartbeats 4000000 in
theorem c_Pace_costFrom_49_k49_4_70_k49_5_82 {u : ov_U} {F : ov_H} (k : Nat) (HC : ∀ k' : Nat, k' < k → ∀ {z : ov_Z} {h : ov_H} (d : Nat) (hd : (20 + 2 * k' + 1) ≤ d) (U : ov_cap u) (I : ov_I F z h) (l : Int) (n : Int) (s : Int) (k0 : h 49 4 = 70) (k1 : h 49 5 = 82) (g_l : ov_g l) (g_n : ov_g n) (g_s : ov_g s) (p0 : 0 ≤ l ∧ l + (k' : Int) = 13), ov_T u d ov_m167 [ov_r 49, ov_i l, ov_i n, ov_i s] z h (P_Pace_costFrom_49_k49_4_70_k49_5_82 F z h l n s)) {z : ov_Z} {h : ov_H} (d : Nat) (hd : (20 + 2 * k + 1) ≤ d) (U : ov_cap u) (I : ov_I F z h) (l : Int) (n : Int) (s : Int) (k0 : h 49 4 = 70) (k1 : h 49 5 = 82) (g_l : ov_g l) (g_n : ov_g n) (g_s : ov_g s) (p0 : 0 ≤ l ∧ l + (k : Int) = 13) : ov_T u d ov_m167 [ov_r 49, ov_i l, ov_i n, ov_i s] z h (P_Pace_costFrom_49_k49_4_70_k49_5_82 F z h l n s) := by
  refine ov_en rfl (Nat.le_of_ble_eq_true rfl) ?_
  show ov_R u d ov_m167 0 [(0, ov_r 49), (1, ov_i l), (2, ov_i n), (3, ov_i s)] [] z h (P_Pace_costFrom_49_k49_4_70_k49_5_82 F z h l n s)
  refine ov_blk (ls2 := [(0, ov_r 49), (1, ov_i l), (2, ov_i n), (3, ov_i s)]) (st2 := [ov_r 49, ov_i l]) (pc2 := 2) b_167_0_2 rfl rfl ?_
  refine ov_getf (v := ov_r 82) d_167_2 fl_Pace_34 (zb_49 I) (zs_49 I) (congrArg ov_r k1) ?_
  refine ov_getf (v := ov_i (h 82 0)) d_167_5 fl_Pace_49 (zb_82 I) (zs_82 I) rfl ?_
  have g1 := rg_82_0 I
  refine ov_iclt (tgt := 13) d_167_8 (by decide) (by omega) (by omega) (fun c2 => ?_) (fun c2 => ?_)
  · skip
    refine ov_blk (ls2 := [(0, ov_r 49), (1, ov_i l), (2, ov_i n), (3, ov_i s)]) (st2 := [ov_r 49, ov_i l]) (pc2 := 15) b_167_13_2 rfl rfl ?_
    refine ov_getf (v := ov_i (h 49 6)) d_167_15 fl_Pace_46 (zb_49 I) (zs_49 I) rfl ?_
    have g3 := rg_49_6 I
    refine ov_blk (ls2 := [(0, ov_r 49), (1, ov_i l), (2, ov_i n), (3, ov_i s)]) (st2 := [ov_i ((h 49 6) + 1), ov_i l]) (pc2 := 20) b_167_18_2 rfl rfl ?_
    refine ov_havw (fun w4 gw4 qw4 => ?_)
    refine ov_blk (ls2 := [(0, ov_r 49), (1, ov_i l), (2, ov_i n), (3, ov_i s)]) (st2 := [ov_i (l * w4)]) (pc2 := 21) b_167_20_1 rfl rfl ?_
    refine ov_havw (fun w5 gw5 qw5 => ?_)
    refine ov_blk (ls2 := [(0, ov_r 49), (1, ov_i l), (2, ov_i n), (3, ov_i s)]) (st2 := [ov_i (w5 + n)]) (pc2 := 23) b_167_21_2 rfl rfl ?_
    refine ov_havw (fun w6 gw6 qw6 => ?_)
    refine ov_blk (ls2 := [(0, ov_r 49), (1, ov_i l), (2, ov_i n), (3, ov_i s)]) (st2 := [ov_r 49, ov_i w6]) (pc2 := 24) b_167_23_1 rfl rfl ?_
    refine ov_getf (v := ov_r 70) d_167_24 fl_Pace_30 (zb_49 I) (zs_49 I) (congrArg ov_r k0) ?_
    refine ov_getf (v := ov_i (h 70 10)) d_167_27 fl_Pace_54 (zb_70 I) (zs_70 I) rfl ?_
    have g7 := rg_70_10 I
    refine ov_blk (ls2 := [(0, ov_r 49), (1, ov_i l), (2, ov_i n), (3, ov_i s)]) (st2 := [ov_i (w6 * (h 70 10))]) (pc2 := 31) b_167_30_1 rfl rfl ?_
    refine ov_havw (fun w8 gw8 qw8 => ?_)
    refine ov_blk (ls2 := [(0, ov_r 49), (1, ov_i l), (2, ov_i n), (3, ov_i s)]) (st2 := [ov_i (w8 + s)]) (pc2 := 33) b_167_31_2 rfl rfl ?_
    refine ov_havw (fun w9 gw9 qw9 => ?_)
    refine ov_blk (ls2 := [(0, ov_r 49), (1, ov_i l), (2, ov_i n), (3, ov_i s), (4, ov_i w9)]) (st2 := [ov_r 49]) (pc2 := 36) b_167_33_2 rfl rfl ?_
    refine ov_getf (v := ov_r 51) d_167_36 fl_Pace_18 (zb_49 I) (zs_49 I) (congrArg ov_r (rg_49_3 I)) ?_
    refine ov_blk (ls2 := [(0, ov_r 49), (1, ov_i l), (2, ov_i n), (3, ov_i s), (4, ov_i w9)]) (st2 := [ov_i w9, ov_i 0, ov_r 51]) (pc2 := 42) b_167_39_2 rfl rfl ?_
    refine ov_cV (as := [ov_i 0, ov_i w9]) (st := []) (d2 := d - 1) d_167_42 lk_Pace_78 rfl (Nat.le_of_ble_eq_true rfl) (c := 4) (zb_51 I) (zs_51 I) ⟨by decide, rfl⟩ (by omega) (c_Memo_holds_51 (d - 1) (by omega) U I 0 w9 (by omega) (by omega) (by omega)) ?_
    rintro _ _ _ ⟨v11, rfl, rfl, rfl, f10⟩
    show ov_R u d ov_m167 45 [(0, ov_r 49), (1, ov_i l), (2, ov_i n), (3, ov_i s), (4, ov_i w9)] [ov_i v11] z h (P_Pace_costFrom_49_k49_4_70_k49_5_82 F z h l n s)
    have f12 : (v11 = 0 ∨ v11 = 1) ∧ (v11 = 1 → 0 ≤ w9 ∧ w9 < (((z.2.2 (h 51 0)).2 : Nat) : Int)) := f10
    clear f10
    refine ov_ifeq (tgt := 58) d_167_45 (by decide) (by omega) (fun c13 => ?_) (fun c13 => ?_)
    · skip
      refine ov_blk (ls2 := [(0, ov_r 49), (1, ov_i l), (2, ov_i n), (3, ov_i s), (4, ov_i w9), (5, ov_i (-1))]) (st2 := [ov_r 49]) (pc2 := 62) b_167_58_3 rfl rfl ?_
      refine ov_cV (as := []) (st := []) (d2 := d - 1) d_167_62 lk_Pace_86 rfl (Nat.le_of_ble_eq_true rfl) (c := 5) (zb_49 I) (zs_49 I) ⟨by decide, rfl⟩ (by omega) (c_Pace_longest_49_k49_4_70_k49_5_82 (d - 1) (by omega) U I k0 k1) ?_
      rintro _ _ _ ⟨v15, rfl, rfl, rfl, f14⟩
      show ov_R u d ov_m167 65 [(0, ov_r 49), (1, ov_i l), (2, ov_i n), (3, ov_i s), (4, ov_i w9), (5, ov_i (-1))] [ov_i v15] z h (P_Pace_costFrom_49_k49_4_70_k49_5_82 F z h l n s)
      have f16 : -1 ≤ v15 ∧ v15 ≤ 30 := f14
      clear f14
      refine ov_blk (ls2 := [(0, ov_r 49), (1, ov_i l), (2, ov_i n), (3, ov_i s), (4, ov_i w9), (5, ov_i (-1)), (6, ov_i v15)]) (st2 := [ov_r 49]) (pc2 := 68) b_167_65_2 rfl rfl ?_
      refine ov_cV (as := []) (st := []) (d2 := d - 1) d_167_68 lk_Pace_90 rfl (Nat.le_of_ble_eq_true rfl) (c := 5) (zb_49 I) (zs_49 I) ⟨by decide, rfl⟩ (by omega) (c_Pace_shortest_49_k49_4_70_k49_5_82 (d - 1) (by omega) U I k0 k1) ?_
      rintro _ _ _ ⟨v18, rfl, rfl, rfl, f17⟩
      show ov_R u d ov_m167 71 [(0, ov_r 49), (1, ov_i l), (2, ov_i n), (3, ov_i s), (4, ov_i w9), (5, ov_i (-1)), (6, ov_i v15)] [ov_i v18] z h (P_Pace_costFrom_49_k49_4_70_k49_5_82 F z h l n s)
      have f19 : -1 ≤ v18 ∧ v18 ≤ 30 := f17
      clear f17
      refine ov_blk (ls2 := [(0, ov_r 49), (1, ov_i l), (2, ov_i n), (3, ov_i s), (4, ov_i w9), (5, ov_i (-1)), (6, ov_i v15), (7, ov_i v18)]) (st2 := []) (pc2 := 73) b_167_71_1 rfl rfl ?_
      have L23 : ∀ (n20 : Nat) (x5 : Int) (x7 : Int) (z24 : ov_Z) (h25 : ov_H) (I26 : ov_I F z24 h25) (q22 : ov_g x5 ∧ -1 ≤ x7 ∧ x7 ≤ 31 ∧ (h25 36 7) = (h 36 7) ∧ (h25 1 1) = (h 1 1) ∧ (h25 90 2) = (h 90 2) ∧ (h25 0 10) = (h 0 10) ∧ (h25 0 11) = (h 0 11) ∧ (h25 0 12) = (h 0 12) ∧ (h25 0 13) = (h 0 13) ∧ (h25 3 1) = (h 3 1) ∧ (h25 36 8) = (h 36 8) ∧ (h25 46 3) = (h 46 3) ∧ (h25 46 4) = (h 46 4) ∧ (h25 49 4) = (h 49 4) ∧ (h25 49 5) = (h 49 5) ∧ (h25 64 0) = (h 64 0) ∧ (h25 76 0) = (h 76 0) ∧ h25 49 4 = 70 ∧ h25 49 5 = 82), 31 - x7 < (n20 : Int) → ov_R u d ov_m167 73 [(0, ov_r 49), (1, ov_i l), (2, ov_i n), (3, ov_i s), (4, ov_i w9), (5, ov_i x5), (6, ov_i v15), (7, ov_i x7)] [] z24 h25 (P_Pace_costFrom_49_k49_4_70_k49_5_82 F z h l n s) := by
        intro n20
        induction n20 with
        | zero =>
          intro x5 x7 z24 h25 I26 q22 hn27
          exact absurd hn27 (by omega)
        | succ n20 ih21 =>
          intro x5 x7 z24 h25 I26 q22 hn27
          have e28 : h25 49 4 = 70 := by omega
          have e29 : h25 49 5 = 82 := by omega
          refine ov_blk (ls2 := [(0, ov_r 49), (1, ov_i l), (2, ov_i n), (3, ov_i s), (4, ov_i w9), (5, ov_i x5), (6, ov_i v15), (7, ov_i x7)]) (st2 := [ov_i v15, ov_i x7]) (pc2 := 77) b_167_73_2 rfl rfl ?_
          refine ov_icgt (tgt := 120) d_167_77 (by decide) (by omega) (by omega) (fun c30 => ?_) (fun c30 => ?_)
          · skip
            refine ov_blk (ls2 := [(0, ov_r 49), (1, ov_i l), (2, ov_i n), (3, ov_i s), (4, ov_i w9), (5, ov_i x5), (6, ov_i v15), (7, ov_i x7)]) (st2 := [ov_r 49]) (pc2 := 121) b_167_120_1 rfl rfl ?_
            refine ov_getf (v := ov_r 51) d_167_121 fl_Pace_18 (zb_49 I26) (zs_49 I26) (congrArg ov_r (rg_49_3 I26)) ?_
            refine ov_blk (ls2 := [(0, ov_r 49), (1, ov_i l), (2, ov_i n), (3, ov_i s), (4, ov_i w9), (5, ov_i x5), (6, ov_i v15), (7, ov_i x7)]) (st2 := [ov_i x5, ov_i w9, ov_i 0, ov_r 51]) (pc2 := 129) b_167_124_3 rfl rfl ?_
            refine ov_cV (as := [ov_i 0, ov_i w9, ov_i x5]) (st := []) (d2 := d - 1) d_167_129 lk_Pace_97 rfl (Nat.le_of_ble_eq_true rfl) (c := 4) (zb_51 I26) (zs_51 I26) ⟨by decide, rfl⟩ (by omega) (c_Memo_put_51 (d - 1) (by omega) U I26 0 w9 x5 (by omega) (by omega) (by omega) (by omega)) ?_
            rintro _ z32 h33 ⟨rfl, I34, f31⟩
            show ov_R u d ov_m167 132 [(0, ov_r 49), (1, ov_i l), (2, ov_i n), (3, ov_i s), (4, ov_i w9), (5, ov_i x5), (6, ov_i v15), (7, ov_i x7)] [] z32 h33 (P_Pace_costFrom_49_k49_4_70_k49_5_82 F z h l n s)
            have f35 : (h33 36 7) = (h25 36 7) ∧ (h33 1 1) = (h25 1 1) ∧ (h33 90 2) = (h25 90 2) ∧ (h33 0 10) = (h25 0 10) ∧ (h33 0 11) = (h25 0 11) ∧ (h33 0 12) = (h25 0 12) ∧ (h33 0 13) = (h25 0 13) ∧ (h33 3 1) = (h25 3 1) ∧ (h33 36 8) = (h25 36 8) ∧ (h33 46 3) = (h25 46 3) ∧ (h33 46 4) = (h25 46 4) ∧ (h33 49 4) = (h25 49 4) ∧ (h33 49 5) = (h25 49 5) ∧ (h33 64 0) = (h25 64 0) ∧ (h33 76 0) = (h25 76 0) := f31
            clear f31
            have e36 : h33 49 4 = 70 := by omega
            have e37 : h33 49 5 = 82 := by omega
            refine ov_blk (ls2 := [(0, ov_r 49), (1, ov_i l), (2, ov_i n), (3, ov_i s), (4, ov_i w9), (5, ov_i x5), (6, ov_i v15), (7, ov_i x7)]) (st2 := [ov_i x5]) (pc2 := 134) b_167_132_1 rfl rfl ?_
            exact ov_reti (st := []) d_167_134 rfl ⟨_, rfl, I34, (by show -2147483648 ≤ x5 ∧ x5 ≤ 2147483647 ∧ (h33 36 7) = (h 36 7) ∧ (h33 1 1) = (h 1 1) ∧ (h33 90 2) = (h 90 2) ∧ (h33 0 10) = (h 0 10) ∧ (h33 0 11) = (h 0 11) ∧ (h33 0 12) = (h 0 12) ∧ (h33 0 13) = (h 0 13) ∧ (h33 3 1) = (h 3 1) ∧ (h33 36 8) = (h 36 8) ∧ (h33 46 3) = (h 46 3) ∧ (h33 46 4) = (h 46 4) ∧ (h33 49 4) = (h 49 4) ∧ (h33 49 5) = (h 49 5) ∧ (h33 64 0) = (h 64 0) ∧ (h33 76 0) = (h 76 0); omega)⟩
          · skip
            refine ov_blk (ls2 := [(0, ov_r 49), (1, ov_i l), (2, ov_i n), (3, ov_i s), (4, ov_i w9), (5, ov_i x5), (6, ov_i v15), (7, ov_i x7)]) (st2 := [ov_i x7, ov_i s, ov_i n, ov_i l, ov_r 49]) (pc2 := 86) b_167_80_5 rfl rfl ?_
            refine ov_cV (as := [ov_i l, ov_i n, ov_i s, ov_i x7]) (st := []) (d2 := d - 1) d_167_86 lk_Pace_93 rfl (Nat.le_of_ble_eq_true rfl) (c := 5) (zb_49 I26) (zs_49 I26) ⟨by decide, rfl⟩ (by omega) (c_Pace_costBy_49_k49_4_70_k49_5_82 k HC (d - 1) (by omega) U I26 l n s x7 e28 e29 (by omega) (by omega) (by omega) (by omega) (by omega) (by omega)) ?_
            rintro _ z40 h41 ⟨v39, rfl, I42, f38⟩
            show ov_R u d ov_m167 89 [(0, ov_r 49), (1, ov_i l), (2, ov_i n), (3, ov_i s), (4, ov_i w9), (5, ov_i x5), (6, ov_i v15), (7, ov_i x7)] [ov_i v39] z40 h41 (P_Pace_costFrom_49_k49_4_70_k49_5_82 F z h l n s)
            have f43 : -2147483648 ≤ v39 ∧ v39 ≤ 2147483647 ∧ (h41 36 7) = (h25 36 7) ∧ (h41 1 1) = (h25 1 1) ∧ (h41 90 2) = (h25 90 2) ∧ (h41 0 10) = (h25 0 10) ∧ (h41 0 11) = (h25 0 11) ∧ (h41 0 12) = (h25 0 12) ∧ (h41 0 13) = (h25 0 13) ∧ (h41 3 1) = (h25 3 1) ∧ (h41 36 8) = (h25 36 8) ∧ (h41 46 3) = (h25 46 3) ∧ (h41 46 4) = (h25 46 4) ∧ (h41 49 4) = (h25 49 4) ∧ (h41 49 5) = (h25 49 5) ∧ (h41 64 0) = (h25 64 0) ∧ (h41 76 0) = (h25 76 0) := f38
            clear f38
            have e44 : h41 49 4 = 70 := by omega
            have e45 : h41 49 5 = 82 := by omega
            refine ov_blk (ls2 := [(0, ov_r 49), (1, ov_i l), (2, ov_i n), (3, ov_i s), (4, ov_i w9), (5, ov_i x5), (6, ov_i v15), (7, ov_i x7), (8, ov_i v39)]) (st2 := [ov_i (-1), ov_i v39]) (pc2 := 94) b_167_89_3 rfl rfl ?_
            refine ov_iceq (tgt := 114) d_167_94 (by decide) (by omega) (by omega) (fun c46 => ?_) (fun c46 => ?_)
            · skip
              refine ov_blk (ls2 := [(0, ov_r 49), (1, ov_i l), (2, ov_i n), (3, ov_i s), (4, ov_i w9), (5, ov_i x5), (6, ov_i v15), (7, ov_i (x7 + 1)), (8, ov_i v39)]) (st2 := []) (pc2 := 117) b_167_114_1 rfl rfl ?_
              refine ov_goto (tgt := 73) d_167_117 (by decide) ?_
              refine ov_sub (ls2 := [(0, ov_r 49), (1, ov_i l), (2, ov_i n), (3, ov_i s), (4, ov_i w9), (5, ov_i x5), (6, ov_i v15), (7, ov_i (x7 + 1))]) (List.Sublist.subset (by repeat (first | exact List.Sublist.refl _ | apply List.Sublist.cons_cons | apply List.Sublist.cons))) ?_
              exact ih21 x5 (x7 + 1) _ _ I42 (by show ov_g x5 ∧ -1 ≤ (x7 + 1) ∧ (x7 + 1) ≤ 31 ∧ (h41 36 7) = (h 36 7) ∧ (h41 1 1) = (h 1 1) ∧ (h41 90 2) = (h 90 2) ∧ (h41 0 10) = (h 0 10) ∧ (h41 0 11) = (h 0 11) ∧ (h41 0 12) = (h 0 12) ∧ (h41 0 13) = (h 0 13) ∧ (h41 3 1) = (h 3 1) ∧ (h41 36 8) = (h 36 8) ∧ (h41 46 3) = (h 46 3) ∧ (h41 46 4) = (h 46 4) ∧ (h41 49 4) = (h 49 4) ∧ (h41 49 5) = (h 49 5) ∧ (h41 64 0) = (h 64 0) ∧ (h41 76 0) = (h 76 0) ∧ (h41 49 4) = 70 ∧ (h41 49 5) = 82; omega) (by omega)
            · skip
              refine ov_blk (ls2 := [(0, ov_r 49), (1, ov_i l), (2, ov_i n), (3, ov_i s), (4, ov_i w9), (5, ov_i x5), (6, ov_i v15), (7, ov_i x7), (8, ov_i v39)]) (st2 := [ov_i (-1), ov_i x5]) (pc2 := 100) b_167_97_2 rfl rfl ?_
              refine ov_iceq (tgt := 110) d_167_100 (by decide) (by omega) (by omega) (fun c47 => ?_) (fun c47 => ?_)
              · skip
                refine ov_blk (ls2 := [(0, ov_r 49), (1, ov_i l), (2, ov_i n), (3, ov_i s), (4, ov_i w9), (5, ov_i v39), (6, ov_i v15), (7, ov_i (x7 + 1)), (8, ov_i v39)]) (st2 := []) (pc2 := 117) b_167_110_3 rfl rfl ?_
                refine ov_goto (tgt := 73) d_167_117 (by decide) ?_
                refine ov_sub (ls2 := [(0, ov_r 49), (1, ov_i l), (2, ov_i n), (3, ov_i s), (4, ov_i w9), (5, ov_i v39), (6, ov_i v15), (7, ov_i (x7 + 1))]) (List.Sublist.subset (by repeat (first | exact List.Sublist.refl _ | apply List.Sublist.cons_cons | apply List.Sublist.cons))) ?_
                exact ih21 v39 (x7 + 1) _ _ I42 (by show ov_g v39 ∧ -1 ≤ (x7 + 1) ∧ (x7 + 1) ≤ 31 ∧ (h41 36 7) = (h 36 7) ∧ (h41 1 1) = (h 1 1) ∧ (h41 90 2) = (h 90 2) ∧ (h41 0 10) = (h 0 10) ∧ (h41 0 11) = (h 0 11) ∧ (h41 0 12) = (h 0 12) ∧ (h41 0 13) = (h 0 13) ∧ (h41 3 1) = (h 3 1) ∧ (h41 36 8) = (h 36 8) ∧ (h41 46 3) = (h 46 3) ∧ (h41 46 4) = (h 46 4) ∧ (h41 49 4) = (h 49 4) ∧ (h41 49 5) = (h 49 5) ∧ (h41 64 0) = (h 64 0) ∧ (h41 76 0) = (h 76 0) ∧ (h41 49 4) = 70 ∧ (h41 49 5) = 82; omega) (by omega)
              · skip
                refine ov_blk (ls2 := [(0, ov_r 49), (1, ov_i l), (2, ov_i n), (3, ov_i s), (4, ov_i w9), (5, ov_i x5), (6, ov_i v15), (7, ov_i x7), (8, ov_i v39)]) (st2 := [ov_i x5, ov_i v39]) (pc2 := 107) b_167_103_2 rfl rfl ?_
                refine ov_icge (tgt := 114) d_167_107 (by decide) (by omega) (by omega) (fun c48 => ?_) (fun c48 => ?_)
                · skip
                  refine ov_blk (ls2 := [(0, ov_r 49), (1, ov_i l), (2, ov_i n), (3, ov_i s), (4, ov_i w9), (5, ov_i x5), (6, ov_i v15), (7, ov_i (x7 + 1)), (8, ov_i v39)]) (st2 := []) (pc2 := 117) b_167_114_1 rfl rfl ?_
                  refine ov_goto (tgt := 73) d_167_117 (by decide) ?_
                  refine ov_sub (ls2 := [(0, ov_r 49), (1, ov_i l), (2, ov_i n), (3, ov_i s), (4, ov_i w9), (5, ov_i x5), (6, ov_i v15), (7, ov_i (x7 + 1))]) (List.Sublist.subset (by repeat (first | exact List.Sublist.refl _ | apply List.Sublist.cons_cons | apply List.Sublist.cons))) ?_
                  exact ih21 x5 (x7 + 1) _ _ I42 (by show ov_g x5 ∧ -1 ≤ (x7 + 1) ∧ (x7 + 1) ≤ 31 ∧ (h41 36 7) = (h 36 7) ∧ (h41 1 1) = (h 1 1) ∧ (h41 90 2) = (h 90 2) ∧ (h41 0 10) = (h 0 10) ∧ (h41 0 11) = (h 0 11) ∧ (h41 0 12) = (h 0 12) ∧ (h41 0 13) = (h 0 13) ∧ (h41 3 1) = (h 3 1) ∧ (h41 36 8) = (h 36 8) ∧ (h41 46 3) = (h 46 3) ∧ (h41 46 4) = (h 46 4) ∧ (h41 49 4) = (h 49 4) ∧ (h41 49 5) = (h 49 5) ∧ (h41 64 0) = (h 64 0) ∧ (h41 76 0) = (h 76 0) ∧ (h41 49 4) = 70 ∧ (h41 49 5) = 82; omega) (by omega)
                · skip
                  refine ov_blk (ls2 := [(0, ov_r 49), (1, ov_i l), (2, ov_i n), (3, ov_i s), (4, ov_i w9), (5, ov_i v39), (6, ov_i v15), (7, ov_i (x7 + 1)), (8, ov_i v39)]) (st2 := []) (pc2 := 117) b_167_110_3 rfl rfl ?_
                  refine ov_goto (tgt := 73) d_167_117 (by decide) ?_
                  refine ov_sub (ls2 := [(0, ov_r 49), (1, ov_i l), (2, ov_i n), (3, ov_i s), (4, ov_i w9), (5, ov_i v39), (6, ov_i v15), (7, ov_i (x7 + 1))]) (List.Sublist.subset (by repeat (first | exact List.Sublist.refl _ | apply List.Sublist.cons_cons | apply List.Sublist.cons))) ?_
                  exact ih21 v39 (x7 + 1) _ _ I42 (by show ov_g v39 ∧ -1 ≤ (x7 + 1) ∧ (x7 + 1) ≤ 31 ∧ (h41 36 7) = (h 36 7) ∧ (h41 1 1) = (h 1 1) ∧ (h41 90 2) = (h 90 2) ∧ (h41 0 10) = (h 0 10) ∧ (h41 0 11) = (h 0 11) ∧ (h41 0 12) = (h 0 12) ∧ (h41 0 13) = (h 0 13) ∧ (h41 3 1) = (h 3 1) ∧ (h41 36 8) = (h 36 8) ∧ (h41 46 3) = (h 46 3) ∧ (h41 46 4) = (h 46 4) ∧ (h41 49 4) = (h 49 4) ∧ (h41 49 5) = (h 49 5) ∧ (h41 64 0) = (h 64 0) ∧ (h41 76 0) = (h 76 0) ∧ (h41 49 4) = 70 ∧ (h41 49 5) = 82; omega) (by omega)
      exact L23 40 (-1) v18 _ _ I (by show ov_g (-1) ∧ -1 ≤ v18 ∧ v18 ≤ 31 ∧ (h 36 7) = (h 36 7) ∧ (h 1 1) = (h 1 1) ∧ (h 90 2) = (h 90 2) ∧ (h 0 10) = (h 0 10) ∧ (h 0 11) = (h 0 11) ∧ (h 0 12) = (h 0 12) ∧ (h 0 13) = (h 0 13) ∧ (h 3 1) = (h 3 1) ∧ (h 36 8) = (h 36 8) ∧ (h 46 3) = (h 46 3) ∧ (h 46 4) = (h 46 4) ∧ (h 49 4) = (h 49 4) ∧ (h 49 5) = (h 49 5) ∧ (h 64 0) = (h 64 0) ∧ (h 76 0) = (h 76 0) ∧ (h 49 4) = 70 ∧ (h 49 5) = 82; omega) (by omega)
    · skip
      refine ov_blk (ls2 := [(0, ov_r 49), (1, ov_i l), (2, ov_i n), (3, ov_i s), (4, ov_i w9)]) (st2 := [ov_r 49]) (pc2 := 49) b_167_48_1 rfl rfl ?_
      refine ov_getf (v := ov_r 51) d_167_49 fl_Pace_18 (zb_49 I) (zs_49 I) (congrArg ov_r (rg_49_3 I)) ?_
      refine ov_blk (ls2 := [(0, ov_r 49), (1, ov_i l), (2, ov_i n), (3, ov_i s), (4, ov_i w9)]) (st2 := [ov_i w9, ov_r 51]) (pc2 := 54) b_167_52_1 rfl rfl ?_
      refine ov_cV (as := [ov_i w9]) (st := []) (d2 := d - 1) d_167_54 lk_Pace_82 rfl (Nat.le_of_ble_eq_true rfl) (c := 4) (zb_51 I) (zs_51 I) ⟨by decide, rfl⟩ (by omega) (c_Memo_number_51 (d - 1) (by omega) U I w9 (by omega) (by omega)) ?_
      rintro _ _ _ ⟨v50, rfl, rfl, rfl, f49⟩
      show ov_R u d ov_m167 57 [(0, ov_r 49), (1, ov_i l), (2, ov_i n), (3, ov_i s), (4, ov_i w9)] [ov_i v50] z h (P_Pace_costFrom_49_k49_4_70_k49_5_82 F z h l n s)
      have f51 : -2147483648 ≤ v50 ∧ v50 ≤ 2147483647 := f49
      clear f49
      exact ov_reti (st := []) d_167_57 rfl ⟨_, rfl, I, (by show -2147483648 ≤ v50 ∧ v50 ≤ 2147483647 ∧ (h 36 7) = (h 36 7) ∧ (h 1 1) = (h 1 1) ∧ (h 90 2) = (h 90 2) ∧ (h 0 10) = (h 0 10) ∧ (h 0 11) = (h 0 11) ∧ (h 0 12) = (h 0 12) ∧ (h 0 13) = (h 0 13) ∧ (h 3 1) = (h 3 1) ∧ (h 36 8) = (h 36 8) ∧ (h 46 3) = (h 46 3) ∧ (h 46 4) = (h 46 4) ∧ (h 49 4) = (h 49 4) ∧ (h 49 5) = (h 49 5) ∧ (h 64 0) = (h 64 0) ∧ (h 76 0) = (h 76 0); omega)⟩
  · skip
    refine ov_blk (ls2 := [(0, ov_r 49), (1, ov_i l), (2, ov_i n), (3, ov_i s)]) (st2 := [ov_i 0]) (pc2 := 12) b_167_11_1 rfl rfl ?_
    exact ov_reti (st := []) d_167_12 rfl ⟨_, rfl, I, (by show -2147483648 ≤ 0 ∧ 0 ≤ 2147483647 ∧ (h 36 7) = (h 36 7) ∧ (h 1 1) = (h 1 1) ∧ (h 90 2) = (h 90 2) ∧ (h 0 10) = (h 0 10) ∧ (h 0 11) = (h 0 11) ∧ (h 0 12) = (h 0 12) ∧ (h 0 13) = (h 0 13) ∧ (h 3 1) = (h 3 1) ∧ (h 36 8) = (h 36 8) ∧ (h 46 3) = (h 46 3) ∧ (h 46 4) = (h 46 4) ∧ (h 49 4) = (h 49 4) ∧ (h 49 5) = (h 49 5) ∧ (h 64 0) = (h 64 0) ∧ (h 76 0) = (h 76 0); omega)⟩
theorem c_Pace_costFrom_49_k49_4_70_k49_5_82_all {u : ov_U} {F : ov_H} (k : Nat) : ∀ {z : ov_Z} {h : ov_H} (d : Nat) (hd : (20 + 2 * k + 1) ≤ d) (U : ov_cap u) (I : ov_I F z h) (l : Int) (n : Int) (s : Int) (k0 : h 49 4 = 70) (k1 : h 49 5 = 82) (g_l : ov_g l) (g_n : ov_g n) (g_s : ov_g s) (p0 : 0 ≤ l ∧ l + (k : Int) = 13), ov_T u d ov_m167 [ov_r 49, ov_i l, ov_i n, ov_i s] z h (P_Pace_costFrom_49_k49_4_70_k49_5_82 F z h l n s) := by
  induction k using Nat.strongRecOn with
  | ind k ih => exact fun {z} {h} => @c_Pace_costFrom_49_k49_4_70_k49_5_82 u F k (fun k' hk => @ih k' hk) z h
theorem c_Pace_costBy_49_k49_4_70_k49_5_82_all {u : ov_U} {F : ov_H} (k : Nat) : ∀ {z : ov_Z} {h : ov_H} (d : Nat) (hd : (20 + 2 * k + 0) ≤ d) (U : ov_cap u) (I : ov_I F z h) (l : Int) (n : Int) (s : Int) (t : Int) (k0 : h 49 4 = 70) (k1 : h 49 5 = 82) (g_l : ov_g l) (g_n : ov_g n) (g_s : ov_g s) (g_t : ov_g t) (p0 : 0 ≤ l ∧ l + (k : Int) = 13) (p1 : l ≤ 12), ov_T u d ov_m170 [ov_r 49, ov_i l, ov_i n, ov_i s, ov_i t] z h (P_Pace_costBy_49_k49_4_70_k49_5_82 F z h l n s t) := fun {z} {h} => @c_Pace_costBy_49_k49_4_70_k49_5_82 u F k (fun k' _ => @c_Pace_costFrom_49_k49_4_70_k49_5_82_all u F k') z h

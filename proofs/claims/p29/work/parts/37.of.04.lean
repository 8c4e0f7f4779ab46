abbrev P_OF_pace_0 (F : ov_H) (z : ov_Z) (h : ov_H) (s : Int) (w : Int) : Option ov_V → ov_Z → ov_H → Prop := fun r0 z' h' => ∃ r : Int, r0 = some (ov_i r) ∧ ov_I F z' h' ∧ ((h' 36 7) = (h 36 7) ∧ (h' 1 1) = (h 1 1) ∧ (h' 90 2) = (h 90 2) ∧ (h' 0 10) = (h 0 10) ∧ (h' 0 11) = (h 0 11) ∧ (h' 0 12) = (h 0 12) ∧ (h' 0 13) = (h 0 13) ∧ (h' 3 1) = (h 3 1) ∧ (h' 36 8) = (h 36 8) ∧ (h' 46 3) = (h 46 3) ∧ (h' 46 4) = (h 46 4) ∧ (h' 64 0) = (h 64 0) ∧ (h' 76 0) = (h 76 0))
set_option maxHeartbeats 4000000 in
theorem c_OF_pace_0 {u : ov_U} {F : ov_H} {z : ov_Z} {h : ov_H} (d : Nat) (hd : 80 ≤ d) (U : ov_cap u) (I : ov_I F z h) (s : Int) (w : Int) (g_s : ov_g s) (g_w : ov_g w) : ov_T u d ov_m164 [ov_r 0, ov_i s, ov_i w] z h (P_OF_pace_0 F z h s w) := by
  refine ov_en rfl (Nat.le_of_ble_eq_true rfl) ?_
  show ov_R u d ov_m164 0 [(0, ov_r 0), (1, ov_i s), (2, ov_i w)] [] z h (P_OF_pace_0 F z h s w)
  refine ov_blk (ls2 := [(0, ov_r 0), (1, ov_i s), (2, ov_i w)]) (st2 := [ov_i s]) (pc2 := 1) b_164_0_1 rfl rfl ?_
  refine ov_cS (as := [ov_i s]) (st := []) (d2 := d - 1) d_164_1 lk_OF_155 rfl (Nat.le_of_ble_eq_true rfl) (by omega) (c_OF_isSecond (d - 1) (by omega) U I s (by omega)) ?_
  rintro _ _ _ ⟨v2, rfl, rfl, rfl, f1⟩
  show ov_R u d ov_m164 4 [(0, ov_r 0), (1, ov_i s), (2, ov_i w)] [ov_i v2] z h (P_OF_pace_0 F z h s w)
  have f3 : (v2 = 0 ∨ v2 = 1) ∧ (v2 = 1 → 0 ≤ s ∧ s ≤ 1000000) := f1
  clear f1
  refine ov_ifeq (tgt := 34) d_164_4 (by decide) (by omega) (fun c4 => ?_) (fun c4 => ?_)
  · skip
    refine ov_blk (ls2 := [(0, ov_r 0), (1, ov_i s), (2, ov_i w)]) (st2 := [ov_i (-1)]) (pc2 := 35) b_164_34_1 rfl rfl ?_
    exact ov_reti (st := []) d_164_35 rfl ⟨_, rfl, I, (by show (h 36 7) = (h 36 7) ∧ (h 1 1) = (h 1 1) ∧ (h 90 2) = (h 90 2) ∧ (h 0 10) = (h 0 10) ∧ (h 0 11) = (h 0 11) ∧ (h 0 12) = (h 0 12) ∧ (h 0 13) = (h 0 13) ∧ (h 3 1) = (h 3 1) ∧ (h 36 8) = (h 36 8) ∧ (h 46 3) = (h 46 3) ∧ (h 46 4) = (h 46 4) ∧ (h 64 0) = (h 64 0) ∧ (h 76 0) = (h 76 0); omega)⟩
  · skip
    refine ov_blk (ls2 := [(0, ov_r 0), (1, ov_i s), (2, ov_i w)]) (st2 := [ov_i w]) (pc2 := 8) b_164_7_1 rfl rfl ?_
    refine ov_iflt (tgt := 34) d_164_8 (by decide) (by omega) (fun c5 => ?_) (fun c5 => ?_)
    · skip
      refine ov_blk (ls2 := [(0, ov_r 0), (1, ov_i s), (2, ov_i w)]) (st2 := [ov_i (-1)]) (pc2 := 35) b_164_34_1 rfl rfl ?_
      exact ov_reti (st := []) d_164_35 rfl ⟨_, rfl, I, (by show (h 36 7) = (h 36 7) ∧ (h 1 1) = (h 1 1) ∧ (h 90 2) = (h 90 2) ∧ (h 0 10) = (h 0 10) ∧ (h 0 11) = (h 0 11) ∧ (h 0 12) = (h 0 12) ∧ (h 0 13) = (h 0 13) ∧ (h 3 1) = (h 3 1) ∧ (h 36 8) = (h 36 8) ∧ (h 46 3) = (h 46 3) ∧ (h 46 4) = (h 46 4) ∧ (h 64 0) = (h 64 0) ∧ (h 76 0) = (h 76 0); omega)⟩
    · skip
      refine ov_blk (ls2 := [(0, ov_r 0), (1, ov_i s), (2, ov_i w)]) (st2 := [ov_r 0, ov_i 2, ov_i w]) (pc2 := 14) b_164_11_3 rfl rfl ?_
      rcases rg_0_12 I with e6 | e6
      · skip
        refine ov_getf (v := ov_r 82) d_164_14 fl_OF_88 (zb_0 I) (zs_0 I) (congrArg ov_r e6) ?_
        refine ov_getf (v := ov_i (h 82 0)) d_164_17 fl_OF_254 (zb_82 I) (zs_82 I) rfl ?_
        have g7 := rg_82_0 I
        refine ov_blk (ls2 := [(0, ov_r 0), (1, ov_i s), (2, ov_i w)]) (st2 := [ov_i (2 + (h 82 0)), ov_i w]) (pc2 := 21) b_164_20_1 rfl rfl ?_
        refine ov_icge (tgt := 34) d_164_21 (by decide) (by omega) (by omega) (fun c8 => ?_) (fun c8 => ?_)
        · skip
          refine ov_blk (ls2 := [(0, ov_r 0), (1, ov_i s), (2, ov_i w)]) (st2 := [ov_i (-1)]) (pc2 := 35) b_164_34_1 rfl rfl ?_
          exact ov_reti (st := []) d_164_35 rfl ⟨_, rfl, I, (by show (h 36 7) = (h 36 7) ∧ (h 1 1) = (h 1 1) ∧ (h 90 2) = (h 90 2) ∧ (h 0 10) = (h 0 10) ∧ (h 0 11) = (h 0 11) ∧ (h 0 12) = (h 0 12) ∧ (h 0 13) = (h 0 13) ∧ (h 3 1) = (h 3 1) ∧ (h 36 8) = (h 36 8) ∧ (h 46 3) = (h 46 3) ∧ (h 46 4) = (h 46 4) ∧ (h 64 0) = (h 64 0) ∧ (h 76 0) = (h 76 0); omega)⟩
        · skip
          refine ov_blk (ls2 := [(0, ov_r 0), (1, ov_i s), (2, ov_i w)]) (st2 := [ov_r 0]) (pc2 := 25) b_164_24_1 rfl rfl ?_
          refine ov_getf (v := ov_r 82) d_164_25 fl_OF_88 (zb_0 I) (zs_0 I) (congrArg ov_r e6) ?_
          refine ov_getf (v := ov_i (h 82 0)) d_164_28 fl_OF_254 (zb_82 I) (zs_82 I) rfl ?_
          refine ov_ifne (tgt := 36) d_164_31 (by decide) (by omega) (fun c10 => ?_) (fun c10 => ?_)
          · skip
            refine ov_blk (ls2 := [(0, ov_r 0), (1, ov_i s), (2, ov_i w)]) (st2 := [ov_r 0]) (pc2 := 37) b_164_36_1 rfl rfl ?_
            refine ov_getf (v := ov_r 49) d_164_37 fl_OF_64 (zb_0 I) (zs_0 I) (congrArg ov_r (rg_0_8 I)) ?_
            refine ov_blk (ls2 := [(0, ov_r 0), (1, ov_i s), (2, ov_i w)]) (st2 := [ov_r 0, ov_r 49]) (pc2 := 41) b_164_40_1 rfl rfl ?_
            rcases rg_0_10 I with e11 | e11
            · skip
              refine ov_getf (v := ov_r 58) d_164_41 fl_OF_78 (zb_0 I) (zs_0 I) (congrArg ov_r e11) ?_
              refine ov_blk (ls2 := [(0, ov_r 0), (1, ov_i s), (2, ov_i w)]) (st2 := [ov_r 0, ov_r 58, ov_r 49]) (pc2 := 45) b_164_44_1 rfl rfl ?_
              refine ov_getf (v := ov_r 82) d_164_45 fl_OF_88 (zb_0 I) (zs_0 I) (congrArg ov_r e6) ?_
              refine ov_blk (ls2 := [(0, ov_r 0), (1, ov_i s), (2, ov_i w)]) (st2 := [ov_i s, ov_r 82, ov_r 58, ov_r 49]) (pc2 := 49) b_164_48_1 rfl rfl ?_
              refine ov_cV (as := [ov_r 58, ov_r 82, ov_i s]) (st := []) (d2 := d - 1) d_164_49 lk_OF_257 rfl (Nat.le_of_ble_eq_true rfl) (c := 5) (zb_49 I) (zs_49 I) ⟨by decide, rfl⟩ (by omega) (c_Pace_solve_49_58_82 (d - 1) (by omega) U I s (by omega)) ?_
              rintro _ z14 h15 ⟨v13, rfl, I16, f12⟩
              show ov_R u d ov_m164 52 [(0, ov_r 0), (1, ov_i s), (2, ov_i w)] [ov_i v13] z14 h15 (P_OF_pace_0 F z h s w)
              have f17 : (v13 = 0 ∨ v13 = 1) ∧ (h15 36 7) = (h 36 7) ∧ (h15 1 1) = (h 1 1) ∧ (h15 90 2) = (h 90 2) ∧ (h15 0 10) = (h 0 10) ∧ (h15 0 11) = (h 0 11) ∧ (h15 0 12) = (h 0 12) ∧ (h15 0 13) = (h 0 13) ∧ (h15 3 1) = (h 3 1) ∧ (h15 36 8) = (h 36 8) ∧ (h15 46 3) = (h 46 3) ∧ (h15 46 4) = (h 46 4) ∧ (h15 64 0) = (h 64 0) ∧ (h15 76 0) = (h 76 0) := f12
              clear f12
              have e18 : h15 0 10 = 58 := by omega
              have e19 : h15 0 12 = 82 := by omega
              refine ov_ifne (tgt := 57) d_164_52 (by decide) (by omega) (fun c20 => ?_) (fun c20 => ?_)
              · skip
                refine ov_blk (ls2 := [(0, ov_r 0), (1, ov_i s), (2, ov_i w)]) (st2 := [ov_i w]) (pc2 := 58) b_164_57_1 rfl rfl ?_
                refine ov_ifne (tgt := 69) d_164_58 (by decide) (by omega) (fun c21 => ?_) (fun c21 => ?_)
                · skip
                  refine ov_blk (ls2 := [(0, ov_r 0), (1, ov_i s), (2, ov_i w)]) (st2 := [ov_i 1, ov_i w]) (pc2 := 71) b_164_69_2 rfl rfl ?_
                  refine ov_icne (tgt := 84) d_164_71 (by decide) (by omega) (by omega) (fun c22 => ?_) (fun c22 => ?_)
                  · skip
                    refine ov_blk (ls2 := [(0, ov_r 0), (1, ov_i s), (2, ov_i w)]) (st2 := [ov_r 0]) (pc2 := 85) b_164_84_1 rfl rfl ?_
                    refine ov_getf (v := ov_r 49) d_164_85 fl_OF_64 (zb_0 I16) (zs_0 I16) (congrArg ov_r (rg_0_8 I16)) ?_
                    refine ov_getf (v := ov_r 50) d_164_88 fl_OF_267 (zb_49 I16) (zs_49 I16) (congrArg ov_r (rg_49_2 I16)) ?_
                    refine ov_blk (ls2 := [(0, ov_r 0), (1, ov_i s), (2, ov_i w)]) (st2 := [ov_i (w - 2), ov_r 50]) (pc2 := 94) b_164_91_3 rfl rfl ?_
                    refine ov_iald d_164_94 (zb_50 I16) (zs_50 I16) (by omega) ?_
                    have g23 := ra_50 I16 (w - 2)
                    exact ov_reti (st := []) d_164_95 rfl ⟨_, rfl, I16, (by show (h15 36 7) = (h 36 7) ∧ (h15 1 1) = (h 1 1) ∧ (h15 90 2) = (h 90 2) ∧ (h15 0 10) = (h 0 10) ∧ (h15 0 11) = (h 0 11) ∧ (h15 0 12) = (h 0 12) ∧ (h15 0 13) = (h 0 13) ∧ (h15 3 1) = (h 3 1) ∧ (h15 36 8) = (h 36 8) ∧ (h15 46 3) = (h 46 3) ∧ (h15 46 4) = (h 46 4) ∧ (h15 64 0) = (h 64 0) ∧ (h15 76 0) = (h 76 0); omega)⟩
                  · skip
                    refine ov_blk (ls2 := [(0, ov_r 0), (1, ov_i s), (2, ov_i w)]) (st2 := [ov_r 0]) (pc2 := 75) b_164_74_1 rfl rfl ?_
                    refine ov_getf (v := ov_r 49) d_164_75 fl_OF_64 (zb_0 I16) (zs_0 I16) (congrArg ov_r (rg_0_8 I16)) ?_
                    refine ov_getf (v := ov_i (h15 49 1)) d_164_78 fl_OF_264 (zb_49 I16) (zs_49 I16) rfl ?_
                    have g24 := rg_49_1 I16
                    refine ov_goto (tgt := 95) d_164_81 (by decide) ?_
                    exact ov_reti (st := []) d_164_95 rfl ⟨_, rfl, I16, (by show (h15 36 7) = (h 36 7) ∧ (h15 1 1) = (h 1 1) ∧ (h15 90 2) = (h 90 2) ∧ (h15 0 10) = (h 0 10) ∧ (h15 0 11) = (h 0 11) ∧ (h15 0 12) = (h 0 12) ∧ (h15 0 13) = (h 0 13) ∧ (h15 3 1) = (h 3 1) ∧ (h15 36 8) = (h 36 8) ∧ (h15 46 3) = (h 46 3) ∧ (h15 46 4) = (h 46 4) ∧ (h15 64 0) = (h 64 0) ∧ (h15 76 0) = (h 76 0); omega)⟩
                · skip
                  refine ov_blk (ls2 := [(0, ov_r 0), (1, ov_i s), (2, ov_i w)]) (st2 := [ov_r 0]) (pc2 := 62) b_164_61_1 rfl rfl ?_
                  refine ov_getf (v := ov_r 49) d_164_62 fl_OF_64 (zb_0 I16) (zs_0 I16) (congrArg ov_r (rg_0_8 I16)) ?_
                  refine ov_getf (v := ov_i (h15 49 0)) d_164_65 fl_OF_261 (zb_49 I16) (zs_49 I16) rfl ?_
                  have g25 := rg_49_0 I16
                  exact ov_reti (st := []) d_164_68 rfl ⟨_, rfl, I16, (by show (h15 36 7) = (h 36 7) ∧ (h15 1 1) = (h 1 1) ∧ (h15 90 2) = (h 90 2) ∧ (h15 0 10) = (h 0 10) ∧ (h15 0 11) = (h 0 11) ∧ (h15 0 12) = (h 0 12) ∧ (h15 0 13) = (h 0 13) ∧ (h15 3 1) = (h 3 1) ∧ (h15 36 8) = (h 36 8) ∧ (h15 46 3) = (h 46 3) ∧ (h15 46 4) = (h 46 4) ∧ (h15 64 0) = (h 64 0) ∧ (h15 76 0) = (h 76 0); omega)⟩
              · skip
                refine ov_blk (ls2 := [(0, ov_r 0), (1, ov_i s), (2, ov_i w)]) (st2 := [ov_i (-1)]) (pc2 := 56) b_164_55_1 rfl rfl ?_
                exact ov_reti (st := []) d_164_56 rfl ⟨_, rfl, I16, (by show (h15 36 7) = (h 36 7) ∧ (h15 1 1) = (h 1 1) ∧ (h15 90 2) = (h 90 2) ∧ (h15 0 10) = (h 0 10) ∧ (h15 0 11) = (h 0 11) ∧ (h15 0 12) = (h 0 12) ∧ (h15 0 13) = (h 0 13) ∧ (h15 3 1) = (h 3 1) ∧ (h15 36 8) = (h 36 8) ∧ (h15 46 3) = (h 46 3) ∧ (h15 46 4) = (h 46 4) ∧ (h15 64 0) = (h 64 0) ∧ (h15 76 0) = (h 76 0); omega)⟩
            · skip
              refine ov_getf (v := ov_r 70) d_164_41 fl_OF_78 (zb_0 I) (zs_0 I) (congrArg ov_r e11) ?_
              refine ov_blk (ls2 := [(0, ov_r 0), (1, ov_i s), (2, ov_i w)]) (st2 := [ov_r 0, ov_r 70, ov_r 49]) (pc2 := 45) b_164_44_1 rfl rfl ?_
              refine ov_getf (v := ov_r 82) d_164_45 fl_OF_88 (zb_0 I) (zs_0 I) (congrArg ov_r e6) ?_
              refine ov_blk (ls2 := [(0, ov_r 0), (1, ov_i s), (2, ov_i w)]) (st2 := [ov_i s, ov_r 82, ov_r 70, ov_r 49]) (pc2 := 49) b_164_48_1 rfl rfl ?_
              refine ov_cV (as := [ov_r 70, ov_r 82, ov_i s]) (st := []) (d2 := d - 1) d_164_49 lk_OF_257 rfl (Nat.le_of_ble_eq_true rfl) (c := 5) (zb_49 I) (zs_49 I) ⟨by decide, rfl⟩ (by omega) (c_Pace_solve_49_70_82 (d - 1) (by omega) U I s (by omega)) ?_
              rintro _ z28 h29 ⟨v27, rfl, I30, f26⟩
              show ov_R u d ov_m164 52 [(0, ov_r 0), (1, ov_i s), (2, ov_i w)] [ov_i v27] z28 h29 (P_OF_pace_0 F z h s w)
              have f31 : (v27 = 0 ∨ v27 = 1) ∧ (h29 36 7) = (h 36 7) ∧ (h29 1 1) = (h 1 1) ∧ (h29 90 2) = (h 90 2) ∧ (h29 0 10) = (h 0 10) ∧ (h29 0 11) = (h 0 11) ∧ (h29 0 12) = (h 0 12) ∧ (h29 0 13) = (h 0 13) ∧ (h29 3 1) = (h 3 1) ∧ (h29 36 8) = (h 36 8) ∧ (h29 46 3) = (h 46 3) ∧ (h29 46 4) = (h 46 4) ∧ (h29 64 0) = (h 64 0) ∧ (h29 76 0) = (h 76 0) := f26
              clear f26
              have e32 : h29 0 10 = 70 := by omega
              have e33 : h29 0 12 = 82 := by omega
              refine ov_ifne (tgt := 57) d_164_52 (by decide) (by omega) (fun c34 => ?_) (fun c34 => ?_)
              · skip
                refine ov_blk (ls2 := [(0, ov_r 0), (1, ov_i s), (2, ov_i w)]) (st2 := [ov_i w]) (pc2 := 58) b_164_57_1 rfl rfl ?_
                refine ov_ifne (tgt := 69) d_164_58 (by decide) (by omega) (fun c35 => ?_) (fun c35 => ?_)
                · skip
                  refine ov_blk (ls2 := [(0, ov_r 0), (1, ov_i s), (2, ov_i w)]) (st2 := [ov_i 1, ov_i w]) (pc2 := 71) b_164_69_2 rfl rfl ?_
                  refine ov_icne (tgt := 84) d_164_71 (by decide) (by omega) (by omega) (fun c36 => ?_) (fun c36 => ?_)
                  · skip
                    refine ov_blk (ls2 := [(0, ov_r 0), (1, ov_i s), (2, ov_i w)]) (st2 := [ov_r 0]) (pc2 := 85) b_164_84_1 rfl rfl ?_
                    refine ov_getf (v := ov_r 49) d_164_85 fl_OF_64 (zb_0 I30) (zs_0 I30) (congrArg ov_r (rg_0_8 I30)) ?_
                    refine ov_getf (v := ov_r 50) d_164_88 fl_OF_267 (zb_49 I30) (zs_49 I30) (congrArg ov_r (rg_49_2 I30)) ?_
                    refine ov_blk (ls2 := [(0, ov_r 0), (1, ov_i s), (2, ov_i w)]) (st2 := [ov_i (w - 2), ov_r 50]) (pc2 := 94) b_164_91_3 rfl rfl ?_
                    refine ov_iald d_164_94 (zb_50 I30) (zs_50 I30) (by omega) ?_
                    have g37 := ra_50 I30 (w - 2)
                    exact ov_reti (st := []) d_164_95 rfl ⟨_, rfl, I30, (by show (h29 36 7) = (h 36 7) ∧ (h29 1 1) = (h 1 1) ∧ (h29 90 2) = (h 90 2) ∧ (h29 0 10) = (h 0 10) ∧ (h29 0 11) = (h 0 11) ∧ (h29 0 12) = (h 0 12) ∧ (h29 0 13) = (h 0 13) ∧ (h29 3 1) = (h 3 1) ∧ (h29 36 8) = (h 36 8) ∧ (h29 46 3) = (h 46 3) ∧ (h29 46 4) = (h 46 4) ∧ (h29 64 0) = (h 64 0) ∧ (h29 76 0) = (h 76 0); omega)⟩
                  · skip
                    refine ov_blk (ls2 := [(0, ov_r 0), (1, ov_i s), (2, ov_i w)]) (st2 := [ov_r 0]) (pc2 := 75) b_164_74_1 rfl rfl ?_
                    refine ov_getf (v := ov_r 49) d_164_75 fl_OF_64 (zb_0 I30) (zs_0 I30) (congrArg ov_r (rg_0_8 I30)) ?_
                    refine ov_getf (v := ov_i (h29 49 1)) d_164_78 fl_OF_264 (zb_49 I30) (zs_49 I30) rfl ?_
                    have g38 := rg_49_1 I30
                    refine ov_goto (tgt := 95) d_164_81 (by decide) ?_
                    exact ov_reti (st := []) d_164_95 rfl ⟨_, rfl, I30, (by show (h29 36 7) = (h 36 7) ∧ (h29 1 1) = (h 1 1) ∧ (h29 90 2) = (h 90 2) ∧ (h29 0 10) = (h 0 10) ∧ (h29 0 11) = (h 0 11) ∧ (h29 0 12) = (h 0 12) ∧ (h29 0 13) = (h 0 13) ∧ (h29 3 1) = (h 3 1) ∧ (h29 36 8) = (h 36 8) ∧ (h29 46 3) = (h 46 3) ∧ (h29 46 4) = (h 46 4) ∧ (h29 64 0) = (h 64 0) ∧ (h29 76 0) = (h 76 0); omega)⟩
                · skip
                  refine ov_blk (ls2 := [(0, ov_r 0), (1, ov_i s), (2, ov_i w)]) (st2 := [ov_r 0]) (pc2 := 62) b_164_61_1 rfl rfl ?_
                  refine ov_getf (v := ov_r 49) d_164_62 fl_OF_64 (zb_0 I30) (zs_0 I30) (congrArg ov_r (rg_0_8 I30)) ?_
                  refine ov_getf (v := ov_i (h29 49 0)) d_164_65 fl_OF_261 (zb_49 I30) (zs_49 I30) rfl ?_
                  have g39 := rg_49_0 I30
                  exact ov_reti (st := []) d_164_68 rfl ⟨_, rfl, I30, (by show (h29 36 7) = (h 36 7) ∧ (h29 1 1) = (h 1 1) ∧ (h29 90 2) = (h 90 2) ∧ (h29 0 10) = (h 0 10) ∧ (h29 0 11) = (h 0 11) ∧ (h29 0 12) = (h 0 12) ∧ (h29 0 13) = (h 0 13) ∧ (h29 3 1) = (h 3 1) ∧ (h29 36 8) = (h 36 8) ∧ (h29 46 3) = (h 46 3) ∧ (h29 46 4) = (h 46 4) ∧ (h29 64 0) = (h 64 0) ∧ (h29 76 0) = (h 76 0); omega)⟩
              · skip
                refine ov_blk (ls2 := [(0, ov_r 0), (1, ov_i s), (2, ov_i w)]) (st2 := [ov_i (-1)]) (pc2 := 56) b_164_55_1 rfl rfl ?_
                exact ov_reti (st := []) d_164_56 rfl ⟨_, rfl, I30, (by show (h29 36 7) = (h 36 7) ∧ (h29 1 1) = (h 1 1) ∧ (h29 90 2) = (h 90 2) ∧ (h29 0 10) = (h 0 10) ∧ (h29 0 11) = (h 0 11) ∧ (h29 0 12) = (h 0 12) ∧ (h29 0 13) = (h 0 13) ∧ (h29 3 1) = (h 3 1) ∧ (h29 36 8) = (h 36 8) ∧ (h29 46 3) = (h 46 3) ∧ (h29 46 4) = (h 46 4) ∧ (h29 64 0) = (h 64 0) ∧ (h29 76 0) = (h 76 0); omega)⟩
          · skip
            refine ov_blk (ls2 := [(0, ov_r 0), (1, ov_i s), (2, ov_i w)]) (st2 := [ov_i (-1)]) (pc2 := 35) b_164_34_1 rfl rfl ?_
            exact ov_reti (st := []) d_164_35 rfl ⟨_, rfl, I, (by show (h 36 7) = (h 36 7) ∧ (h 1 1) = (h 1 1) ∧ (h 90 2) = (h 90 2) ∧ (h 0 10) = (h 0 10) ∧ (h 0 11) = (h 0 11) ∧ (h 0 12) = (h 0 12) ∧ (h 0 13) = (h 0 13) ∧ (h 3 1) = (h 3 1) ∧ (h 36 8) = (h 36 8) ∧ (h 46 3) = (h 46 3) ∧ (h 46 4) = (h 46 4) ∧ (h 64 0) = (h 64 0) ∧ (h 76 0) = (h 76 0); omega)⟩
      · skip
        refine ov_getf (v := ov_r 86) d_164_14 fl_OF_88 (zb_0 I) (zs_0 I) (congrArg ov_r e6) ?_
        refine ov_getf (v := ov_i (h 86 0)) d_164_17 fl_OF_254 (zb_86 I) (zs_86 I) rfl ?_
        have g40 := rg_86_0 I
        refine ov_blk (ls2 := [(0, ov_r 0), (1, ov_i s), (2, ov_i w)]) (st2 := [ov_i (2 + (h 86 0)), ov_i w]) (pc2 := 21) b_164_20_1 rfl rfl ?_
        refine ov_icge (tgt := 34) d_164_21 (by decide) (by omega) (by omega) (fun c41 => ?_) (fun c41 => ?_)
        · skip
          refine ov_blk (ls2 := [(0, ov_r 0), (1, ov_i s), (2, ov_i w)]) (st2 := [ov_i (-1)]) (pc2 := 35) b_164_34_1 rfl rfl ?_
          exact ov_reti (st := []) d_164_35 rfl ⟨_, rfl, I, (by show (h 36 7) = (h 36 7) ∧ (h 1 1) = (h 1 1) ∧ (h 90 2) = (h 90 2) ∧ (h 0 10) = (h 0 10) ∧ (h 0 11) = (h 0 11) ∧ (h 0 12) = (h 0 12) ∧ (h 0 13) = (h 0 13) ∧ (h 3 1) = (h 3 1) ∧ (h 36 8) = (h 36 8) ∧ (h 46 3) = (h 46 3) ∧ (h 46 4) = (h 46 4) ∧ (h 64 0) = (h 64 0) ∧ (h 76 0) = (h 76 0); omega)⟩
        · skip
          refine ov_blk (ls2 := [(0, ov_r 0), (1, ov_i s), (2, ov_i w)]) (st2 := [ov_r 0]) (pc2 := 25) b_164_24_1 rfl rfl ?_
          refine ov_getf (v := ov_r 86) d_164_25 fl_OF_88 (zb_0 I) (zs_0 I) (congrArg ov_r e6) ?_
          refine ov_getf (v := ov_i (h 86 0)) d_164_28 fl_OF_254 (zb_86 I) (zs_86 I) rfl ?_
          refine ov_ifne (tgt := 36) d_164_31 (by decide) (by omega) (fun c43 => ?_) (fun c43 => ?_)
          · skip
            refine ov_blk (ls2 := [(0, ov_r 0), (1, ov_i s), (2, ov_i w)]) (st2 := [ov_r 0]) (pc2 := 37) b_164_36_1 rfl rfl ?_
            refine ov_getf (v := ov_r 49) d_164_37 fl_OF_64 (zb_0 I) (zs_0 I) (congrArg ov_r (rg_0_8 I)) ?_
            refine ov_blk (ls2 := [(0, ov_r 0), (1, ov_i s), (2, ov_i w)]) (st2 := [ov_r 0, ov_r 49]) (pc2 := 41) b_164_40_1 rfl rfl ?_
            rcases rg_0_10 I with e44 | e44
            · skip
              refine ov_getf (v := ov_r 58) d_164_41 fl_OF_78 (zb_0 I) (zs_0 I) (congrArg ov_r e44) ?_
              refine ov_blk (ls2 := [(0, ov_r 0), (1, ov_i s), (2, ov_i w)]) (st2 := [ov_r 0, ov_r 58, ov_r 49]) (pc2 := 45) b_164_44_1 rfl rfl ?_
              refine ov_getf (v := ov_r 86) d_164_45 fl_OF_88 (zb_0 I) (zs_0 I) (congrArg ov_r e6) ?_
              refine ov_blk (ls2 := [(0, ov_r 0), (1, ov_i s), (2, ov_i w)]) (st2 := [ov_i s, ov_r 86, ov_r 58, ov_r 49]) (pc2 := 49) b_164_48_1 rfl rfl ?_
              refine ov_cV (as := [ov_r 58, ov_r 86, ov_i s]) (st := []) (d2 := d - 1) d_164_49 lk_OF_257 rfl (Nat.le_of_ble_eq_true rfl) (c := 5) (zb_49 I) (zs_49 I) ⟨by decide, rfl⟩ (by omega) (c_Pace_solve_49_58_86 (d - 1) (by omega) U I s (by omega)) ?_
              rintro _ z47 h48 ⟨v46, rfl, I49, f45⟩
              show ov_R u d ov_m164 52 [(0, ov_r 0), (1, ov_i s), (2, ov_i w)] [ov_i v46] z47 h48 (P_OF_pace_0 F z h s w)
              have f50 : (v46 = 0 ∨ v46 = 1) ∧ (h48 36 7) = (h 36 7) ∧ (h48 1 1) = (h 1 1) ∧ (h48 90 2) = (h 90 2) ∧ (h48 0 10) = (h 0 10) ∧ (h48 0 11) = (h 0 11) ∧ (h48 0 12) = (h 0 12) ∧ (h48 0 13) = (h 0 13) ∧ (h48 3 1) = (h 3 1) ∧ (h48 36 8) = (h 36 8) ∧ (h48 46 3) = (h 46 3) ∧ (h48 46 4) = (h 46 4) ∧ (h48 64 0) = (h 64 0) ∧ (h48 76 0) = (h 76 0) := f45
              clear f45
              have e51 : h48 0 10 = 58 := by omega
              have e52 : h48 0 12 = 86 := by omega
              refine ov_ifne (tgt := 57) d_164_52 (by decide) (by omega) (fun c53 => ?_) (fun c53 => ?_)
              · skip
                refine ov_blk (ls2 := [(0, ov_r 0), (1, ov_i s), (2, ov_i w)]) (st2 := [ov_i w]) (pc2 := 58) b_164_57_1 rfl rfl ?_
                refine ov_ifne (tgt := 69) d_164_58 (by decide) (by omega) (fun c54 => ?_) (fun c54 => ?_)
                · skip
                  refine ov_blk (ls2 := [(0, ov_r 0), (1, ov_i s), (2, ov_i w)]) (st2 := [ov_i 1, ov_i w]) (pc2 := 71) b_164_69_2 rfl rfl ?_
                  refine ov_icne (tgt := 84) d_164_71 (by decide) (by omega) (by omega) (fun c55 => ?_) (fun c55 => ?_)
                  · skip
                    refine ov_blk (ls2 := [(0, ov_r 0), (1, ov_i s), (2, ov_i w)]) (st2 := [ov_r 0]) (pc2 := 85) b_164_84_1 rfl rfl ?_
                    refine ov_getf (v := ov_r 49) d_164_85 fl_OF_64 (zb_0 I49) (zs_0 I49) (congrArg ov_r (rg_0_8 I49)) ?_
                    refine ov_getf (v := ov_r 50) d_164_88 fl_OF_267 (zb_49 I49) (zs_49 I49) (congrArg ov_r (rg_49_2 I49)) ?_
                    refine ov_blk (ls2 := [(0, ov_r 0), (1, ov_i s), (2, ov_i w)]) (st2 := [ov_i (w - 2), ov_r 50]) (pc2 := 94) b_164_91_3 rfl rfl ?_
                    refine ov_iald d_164_94 (zb_50 I49) (zs_50 I49) (by omega) ?_
                    have g56 := ra_50 I49 (w - 2)
                    exact ov_reti (st := []) d_164_95 rfl ⟨_, rfl, I49, (by show (h48 36 7) = (h 36 7) ∧ (h48 1 1) = (h 1 1) ∧ (h48 90 2) = (h 90 2) ∧ (h48 0 10) = (h 0 10) ∧ (h48 0 11) = (h 0 11) ∧ (h48 0 12) = (h 0 12) ∧ (h48 0 13) = (h 0 13) ∧ (h48 3 1) = (h 3 1) ∧ (h48 36 8) = (h 36 8) ∧ (h48 46 3) = (h 46 3) ∧ (h48 46 4) = (h 46 4) ∧ (h48 64 0) = (h 64 0) ∧ (h48 76 0) = (h 76 0); omega)⟩
                  · skip
                    refine ov_blk (ls2 := [(0, ov_r 0), (1, ov_i s), (2, ov_i w)]) (st2 := [ov_r 0]) (pc2 := 75) b_164_74_1 rfl rfl ?_
                    refine ov_getf (v := ov_r 49) d_164_75 fl_OF_64 (zb_0 I49) (zs_0 I49) (congrArg ov_r (rg_0_8 I49)) ?_
                    refine ov_getf (v := ov_i (h48 49 1)) d_164_78 fl_OF_264 (zb_49 I49) (zs_49 I49) rfl ?_
                    have g57 := rg_49_1 I49
                    refine ov_goto (tgt := 95) d_164_81 (by decide) ?_
                    exact ov_reti (st := []) d_164_95 rfl ⟨_, rfl, I49, (by show (h48 36 7) = (h 36 7) ∧ (h48 1 1) = (h 1 1) ∧ (h48 90 2) = (h 90 2) ∧ (h48 0 10) = (h 0 10) ∧ (h48 0 11) = (h 0 11) ∧ (h48 0 12) = (h 0 12) ∧ (h48 0 13) = (h 0 13) ∧ (h48 3 1) = (h 3 1) ∧ (h48 36 8) = (h 36 8) ∧ (h48 46 3) = (h 46 3) ∧ (h48 46 4) = (h 46 4) ∧ (h48 64 0) = (h 64 0) ∧ (h48 76 0) = (h 76 0); omega)⟩
                · skip
                  refine ov_blk (ls2 := [(0, ov_r 0), (1, ov_i s), (2, ov_i w)]) (st2 := [ov_r 0]) (pc2 := 62) b_164_61_1 rfl rfl ?_
                  refine ov_getf (v := ov_r 49) d_164_62 fl_OF_64 (zb_0 I49) (zs_0 I49) (congrArg ov_r (rg_0_8 I49)) ?_
                  refine ov_getf (v := ov_i (h48 49 0)) d_164_65 fl_OF_261 (zb_49 I49) (zs_49 I49) rfl ?_
                  have g58 := rg_49_0 I49
                  exact ov_reti (st := []) d_164_68 rfl ⟨_, rfl, I49, (by show (h48 36 7) = (h 36 7) ∧ (h48 1 1) = (h 1 1) ∧ (h48 90 2) = (h 90 2) ∧ (h48 0 10) = (h 0 10) ∧ (h48 0 11) = (h 0 11) ∧ (h48 0 12) = (h 0 12) ∧ (h48 0 13) = (h 0 13) ∧ (h48 3 1) = (h 3 1) ∧ (h48 36 8) = (h 36 8) ∧ (h48 46 3) = (h 46 3) ∧ (h48 46 4) = (h 46 4) ∧ (h48 64 0) = (h 64 0) ∧ (h48 76 0) = (h 76 0); omega)⟩
              · skip
                refine ov_blk (ls2 := [(0, ov_r 0), (1, ov_i s), (2, ov_i w)]) (st2 := [ov_i (-1)]) (pc2 := 56) b_164_55_1 rfl rfl ?_
                exact ov_reti (st := []) d_164_56 rfl ⟨_, rfl, I49, (by show (h48 36 7) = (h 36 7) ∧ (h48 1 1) = (h 1 1) ∧ (h48 90 2) = (h 90 2) ∧ (h48 0 10) = (h 0 10) ∧ (h48 0 11) = (h 0 11) ∧ (h48 0 12) = (h 0 12) ∧ (h48 0 13) = (h 0 13) ∧ (h48 3 1) = (h 3 1) ∧ (h48 36 8) = (h 36 8) ∧ (h48 46 3) = (h 46 3) ∧ (h48 46 4) = (h 46 4) ∧ (h48 64 0) = (h 64 0) ∧ (h48 76 0) = (h 76 0); omega)⟩
            · skip
              refine ov_getf (v := ov_r 70) d_164_41 fl_OF_78 (zb_0 I) (zs_0 I) (congrArg ov_r e44) ?_
              refine ov_blk (ls2 := [(0, ov_r 0), (1, ov_i s), (2, ov_i w)]) (st2 := [ov_r 0, ov_r 70, ov_r 49]) (pc2 := 45) b_164_44_1 rfl rfl ?_
              refine ov_getf (v := ov_r 86) d_164_45 fl_OF_88 (zb_0 I) (zs_0 I) (congrArg ov_r e6) ?_
              refine ov_blk (ls2 := [(0, ov_r 0), (1, ov_i s), (2, ov_i w)]) (st2 := [ov_i s, ov_r 86, ov_r 70, ov_r 49]) (pc2 := 49) b_164_48_1 rfl rfl ?_
              refine ov_cV (as := [ov_r 70, ov_r 86, ov_i s]) (st := []) (d2 := d - 1) d_164_49 lk_OF_257 rfl (Nat.le_of_ble_eq_true rfl) (c := 5) (zb_49 I) (zs_49 I) ⟨by decide, rfl⟩ (by omega) (c_Pace_solve_49_70_86 (d - 1) (by omega) U I s (by omega)) ?_
              rintro _ z61 h62 ⟨v60, rfl, I63, f59⟩
              show ov_R u d ov_m164 52 [(0, ov_r 0), (1, ov_i s), (2, ov_i w)] [ov_i v60] z61 h62 (P_OF_pace_0 F z h s w)
              have f64 : (v60 = 0 ∨ v60 = 1) ∧ (h62 36 7) = (h 36 7) ∧ (h62 1 1) = (h 1 1) ∧ (h62 90 2) = (h 90 2) ∧ (h62 0 10) = (h 0 10) ∧ (h62 0 11) = (h 0 11) ∧ (h62 0 12) = (h 0 12) ∧ (h62 0 13) = (h 0 13) ∧ (h62 3 1) = (h 3 1) ∧ (h62 36 8) = (h 36 8) ∧ (h62 46 3) = (h 46 3) ∧ (h62 46 4) = (h 46 4) ∧ (h62 64 0) = (h 64 0) ∧ (h62 76 0) = (h 76 0) := f59
              clear f59
              have e65 : h62 0 10 = 70 := by omega
              have e66 : h62 0 12 = 86 := by omega
              refine ov_ifne (tgt := 57) d_164_52 (by decide) (by omega) (fun c67 => ?_) (fun c67 => ?_)
              · skip
                refine ov_blk (ls2 := [(0, ov_r 0), (1, ov_i s), (2, ov_i w)]) (st2 := [ov_i w]) (pc2 := 58) b_164_57_1 rfl rfl ?_
                refine ov_ifne (tgt := 69) d_164_58 (by decide) (by omega) (fun c68 => ?_) (fun c68 => ?_)
                · skip
                  refine ov_blk (ls2 := [(0, ov_r 0), (1, ov_i s), (2, ov_i w)]) (st2 := [ov_i 1, ov_i w]) (pc2 := 71) b_164_69_2 rfl rfl ?_
                  refine ov_icne (tgt := 84) d_164_71 (by decide) (by omega) (by omega) (fun c69 => ?_) (fun c69 => ?_)
                  · skip
                    refine ov_blk (ls2 := [(0, ov_r 0), (1, ov_i s), (2, ov_i w)]) (st2 := [ov_r 0]) (pc2 := 85) b_164_84_1 rfl rfl ?_
                    refine ov_getf (v := ov_r 49) d_164_85 fl_OF_64 (zb_0 I63) (zs_0 I63) (congrArg ov_r (rg_0_8 I63)) ?_
                    refine ov_getf (v := ov_r 50) d_164_88 fl_OF_267 (zb_49 I63) (zs_49 I63) (congrArg ov_r (rg_49_2 I63)) ?_
                    refine ov_blk (ls2 := [(0, ov_r 0), (1, ov_i s), (2, ov_i w)]) (st2 := [ov_i (w - 2), ov_r 50]) (pc2 := 94) b_164_91_3 rfl rfl ?_
                    refine ov_iald d_164_94 (zb_50 I63) (zs_50 I63) (by omega) ?_
                    have g70 := ra_50 I63 (w - 2)
                    exact ov_reti (st := []) d_164_95 rfl ⟨_, rfl, I63, (by show (h62 36 7) = (h 36 7) ∧ (h62 1 1) = (h 1 1) ∧ (h62 90 2) = (h 90 2) ∧ (h62 0 10) = (h 0 10) ∧ (h62 0 11) = (h 0 11) ∧ (h62 0 12) = (h 0 12) ∧ (h62 0 13) = (h 0 13) ∧ (h62 3 1) = (h 3 1) ∧ (h62 36 8) = (h 36 8) ∧ (h62 46 3) = (h 46 3) ∧ (h62 46 4) = (h 46 4) ∧ (h62 64 0) = (h 64 0) ∧ (h62 76 0) = (h 76 0); omega)⟩
                  · skip
                    refine ov_blk (ls2 := [(0, ov_r 0), (1, ov_i s), (2, ov_i w)]) (st2 := [ov_r 0]) (pc2 := 75) b_164_74_1 rfl rfl ?_
                    refine ov_getf (v := ov_r 49) d_164_75 fl_OF_64 (zb_0 I63) (zs_0 I63) (congrArg ov_r (rg_0_8 I63)) ?_
                    refine ov_getf (v := ov_i (h62 49 1)) d_164_78 fl_OF_264 (zb_49 I63) (zs_49 I63) rfl ?_
                    have g71 := rg_49_1 I63
                    refine ov_goto (tgt := 95) d_164_81 (by decide) ?_
                    exact ov_reti (st := []) d_164_95 rfl ⟨_, rfl, I63, (by show (h62 36 7) = (h 36 7) ∧ (h62 1 1) = (h 1 1) ∧ (h62 90 2) = (h 90 2) ∧ (h62 0 10) = (h 0 10) ∧ (h62 0 11) = (h 0 11) ∧ (h62 0 12) = (h 0 12) ∧ (h62 0 13) = (h 0 13) ∧ (h62 3 1) = (h 3 1) ∧ (h62 36 8) = (h 36 8) ∧ (h62 46 3) = (h 46 3) ∧ (h62 46 4) = (h 46 4) ∧ (h62 64 0) = (h 64 0) ∧ (h62 76 0) = (h 76 0); omega)⟩
                · skip
                  refine ov_blk (ls2 := [(0, ov_r 0), (1, ov_i s), (2, ov_i w)]) (st2 := [ov_r 0]) (pc2 := 62) b_164_61_1 rfl rfl ?_
                  refine ov_getf (v := ov_r 49) d_164_62 fl_OF_64 (zb_0 I63) (zs_0 I63) (congrArg ov_r (rg_0_8 I63)) ?_
                  refine ov_getf (v := ov_i (h62 49 0)) d_164_65 fl_OF_261 (zb_49 I63) (zs_49 I63) rfl ?_
                  have g72 := rg_49_0 I63
                  exact ov_reti (st := []) d_164_68 rfl ⟨_, rfl, I63, (by show (h62 36 7) = (h 36 7) ∧ (h62 1 1) = (h 1 1) ∧ (h62 90 2) = (h 90 2) ∧ (h62 0 10) = (h 0 10) ∧ (h62 0 11) = (h 0 11) ∧ (h62 0 12) = (h 0 12) ∧ (h62 0 13) = (h 0 13) ∧ (h62 3 1) = (h 3 1) ∧ (h62 36 8) = (h 36 8) ∧ (h62 46 3) = (h 46 3) ∧ (h62 46 4) = (h 46 4) ∧ (h62 64 0) = (h 64 0) ∧ (h62 76 0) = (h 76 0); omega)⟩
              · skip
                refine ov_blk (ls2 := [(0, ov_r 0), (1, ov_i s), (2, ov_i w)]) (st2 := [ov_i (-1)]) (pc2 := 56) b_164_55_1 rfl rfl ?_
                exact ov_reti (st := []) d_164_56 rfl ⟨_, rfl, I63, (by show (h62 36 7) = (h 36 7) ∧ (h62 1 1) = (h 1 1) ∧ (h62 90 2) = (h 90 2) ∧ (h62 0 10) = (h 0 10) ∧ (h62 0 11) = (h 0 11) ∧ (h62 0 12) = (h 0 12) ∧ (h62 0 13) = (h 0 13) ∧ (h62 3 1) = (h 3 1) ∧ (h62 36 8) = (h 36 8) ∧ (h62 46 3) = (h 46 3) ∧ (h62 46 4) = (h 46 4) ∧ (h62 64 0) = (h 64 0) ∧ (h62 76 0) = (h 76 0); omega)⟩
          · skip
            refine ov_blk (ls2 := [(0, ov_r 0), (1, ov_i s), (2, ov_i w)]) (st2 := [ov_i (-1)]) (pc2 := 35) b_164_34_1 rfl rfl ?_
            exact ov_reti (st := []) d_164_35 rfl ⟨_, rfl, I, (by show (h 36 7) = (h 36 7) ∧ (h 1 1) = (h 1 1) ∧ (h 90 2) = (h 90 2) ∧ (h 0 10) = (h 0 10) ∧ (h 0 11) = (h 0 11) ∧ (h 0 12) = (h 0 12) ∧ (h 0 13) = (h 0 13) ∧ (h 3 1) = (h 3 1) ∧ (h 36 8) = (h 36 8) ∧ (h 46 3) = (h 46 3) ∧ (h 46 4) = (h 46 4) ∧ (h 64 0) = (h 64 0) ∧ (h 76 0) = (h 76 0); omega)⟩
abbrev P_OF_tried_0 (F : ov_H) (z : ov_Z) (h : ov_H) (x : Int) (y : Int) (p : Int) (w : Int) : Option ov_V → ov_Z → ov_H → Prop := fun r0 z' h' => ∃ r : Int, r0 = some (ov_i r) ∧ ov_I F z' h' ∧ ((r = 0 ∨ r = 1) ∧ (h' 36 7) = (h 36 7) ∧ (h' 1 1) = (h 1 1) ∧ (h' 90 2) = (h 90 2) ∧ (h' 0 10) = (h 0 10) ∧ (h' 0 11) = (h 0 11) ∧ (h' 0 12) = (h 0 12) ∧ (h' 0 13) = (h 0 13) ∧ (h' 3 1) = (h 3 1) ∧ (h' 36 8) = (h 36 8) ∧ (h' 46 3) = (h 46 3) ∧ (h' 46 4) = (h 46 4) ∧ (h' 49 4) = (h 49 4) ∧ (h' 49 5) = (h 49 5) ∧ (h' 64 0) = (h 64 0) ∧ (h' 76 0) = (h 76 0))
set_option maxHeartbeats 4000000 in
theorem c_OF_tried_0 {u : ov_U} {F : ov_H} {z : ov_Z} {h : ov_H} (d : Nat) (hd : 1 ≤ d) (U : ov_cap u) (I : ov_I F z h) (hw : ov_kw 112 F) (x : Int) (y : Int) (p : Int) (w : Int) (g_x : ov_g x) (g_y : ov_g y) (g_p : p = 0 ∨ p = 1) (g_w : ov_g w) : ov_T u d ov_m172 [ov_r 0, ov_i x, ov_i y, ov_i p, ov_i w] z h (P_OF_tried_0 F z h x y p w) := by
  refine ov_en rfl (Nat.le_of_ble_eq_true rfl) ?_
  show ov_R u d ov_m172 0 [(0, ov_r 0), (1, ov_i x), (2, ov_i y), (3, ov_i p), (4, ov_i w)] [] z h (P_OF_tried_0 F z h x y p w)
  refine ov_blk (ls2 := [(0, ov_r 0), (1, ov_i x), (2, ov_i y), (3, ov_i p), (4, ov_i w)]) (st2 := [ov_r 0]) (pc2 := 1) b_172_0_1 rfl rfl ?_
  rcases rg_0_10 I with e1 | e1
  · skip
    refine ov_getf (v := ov_r 58) d_172_1 fl_OF_78 (zb_0 I) (zs_0 I) (congrArg ov_r e1) ?_
    refine ov_blk (ls2 := [(0, ov_r 0), (1, ov_i x), (2, ov_i y), (3, ov_i p), (4, ov_i w)]) (st2 := [ov_i y, ov_i x, ov_r 58]) (pc2 := 6) b_172_4_2 rfl rfl ?_
    refine ov_cV (as := [ov_i x, ov_i y]) (st := []) (d2 := d - 1) d_172_6 lk_OF_131 rfl (Nat.le_of_ble_eq_true rfl) (c := 9) (zb_58 I) (zs_58 I) ⟨by decide, rfl⟩ (by omega) (c_Town_corner_58 (d - 1) (by omega) U I x y (by omega) (by omega)) ?_
    rintro _ _ _ ⟨v3, rfl, rfl, rfl, f2⟩
    show ov_R u d ov_m172 9 [(0, ov_r 0), (1, ov_i x), (2, ov_i y), (3, ov_i p), (4, ov_i w)] [ov_i v3] z h (P_OF_tried_0 F z h x y p w)
    have f4 : v3 = -1 ∨ (0 ≤ x ∧ x < (h 58 0) ∧ 0 ≤ y ∧ y < (h 58 1) ∧ v3 = y * 6 + x ∧ (h 58 0) ≤ 6 ∧ (h 58 1) ≤ 9) := f2
    clear f2
    refine ov_blk (ls2 := [(0, ov_r 0), (1, ov_i x), (2, ov_i y), (3, ov_i p), (4, ov_i w), (5, ov_i v3)]) (st2 := [ov_i (-1), ov_i v3]) (pc2 := 14) b_172_9_3 rfl rfl ?_
    refine ov_iceq (tgt := 43) d_172_14 (by decide) (by omega) (by omega) (fun c5 => ?_) (fun c5 => ?_)
    · skip
      refine ov_blk (ls2 := [(0, ov_r 0), (1, ov_i x), (2, ov_i y), (3, ov_i p), (4, ov_i w), (5, ov_i v3)]) (st2 := [ov_i 0]) (pc2 := 44) b_172_43_1 rfl rfl ?_
      exact ov_retz (st := []) d_172_44 rfl (by omega) ⟨_, rfl, I, (by show (0 = 0 ∨ 0 = 1) ∧ (h 36 7) = (h 36 7) ∧ (h 1 1) = (h 1 1) ∧ (h 90 2) = (h 90 2) ∧ (h 0 10) = (h 0 10) ∧ (h 0 11) = (h 0 11) ∧ (h 0 12) = (h 0 12) ∧ (h 0 13) = (h 0 13) ∧ (h 3 1) = (h 3 1) ∧ (h 36 8) = (h 36 8) ∧ (h 46 3) = (h 46 3) ∧ (h 46 4) = (h 46 4) ∧ (h 49 4) = (h 49 4) ∧ (h 49 5) = (h 49 5) ∧ (h 64 0) = (h 64 0) ∧ (h 76 0) = (h 76 0); omega)⟩
    · skip
      refine ov_blk (ls2 := [(0, ov_r 0), (1, ov_i x), (2, ov_i y), (3, ov_i p), (4, ov_i w), (5, ov_i v3)]) (st2 := [ov_r 0]) (pc2 := 18) b_172_17_1 rfl rfl ?_
      refine ov_getf (v := ov_r 58) d_172_18 fl_OF_78 (zb_0 I) (zs_0 I) (congrArg ov_r e1) ?_
      refine ov_getf (v := ov_r 59) d_172_21 fl_OF_139 (zb_58 I) (zs_58 I) (congrArg ov_r (rg_58_2 I)) ?_
      refine ov_blk (ls2 := [(0, ov_r 0), (1, ov_i x), (2, ov_i y), (3, ov_i p), (4, ov_i w), (5, ov_i v3)]) (st2 := [ov_i v3, ov_r 59]) (pc2 := 26) b_172_24_1 rfl rfl ?_
      refine ov_iald d_172_26 (zb_59 I) (zs_59 I) (by omega) ?_
      have g6 := ra_59 I v3
      refine ov_blk (ls2 := [(0, ov_r 0), (1, ov_i x), (2, ov_i y), (3, ov_i p), (4, ov_i w), (5, ov_i v3)]) (st2 := [ov_i 2, ov_i (h 59 v3)]) (pc2 := 28) b_172_27_1 rfl rfl ?_
      refine ov_icne (tgt := 43) d_172_28 (by decide) (by omega) (by omega) (fun c7 => ?_) (fun c7 => ?_)
      · skip
        refine ov_blk (ls2 := [(0, ov_r 0), (1, ov_i x), (2, ov_i y), (3, ov_i p), (4, ov_i w), (5, ov_i v3)]) (st2 := [ov_i 0]) (pc2 := 44) b_172_43_1 rfl rfl ?_
        exact ov_retz (st := []) d_172_44 rfl (by omega) ⟨_, rfl, I, (by show (0 = 0 ∨ 0 = 1) ∧ (h 36 7) = (h 36 7) ∧ (h 1 1) = (h 1 1) ∧ (h 90 2) = (h 90 2) ∧ (h 0 10) = (h 0 10) ∧ (h 0 11) = (h 0 11) ∧ (h 0 12) = (h 0 12) ∧ (h 0 13) = (h 0 13) ∧ (h 3 1) = (h 3 1) ∧ (h 36 8) = (h 36 8) ∧ (h 46 3) = (h 46 3) ∧ (h 46 4) = (h 46 4) ∧ (h 49 4) = (h 49 4) ∧ (h 49 5) = (h 49 5) ∧ (h 64 0) = (h 64 0) ∧ (h 76 0) = (h 76 0); omega)⟩
      · skip
        refine ov_blk (ls2 := [(0, ov_r 0), (1, ov_i x), (2, ov_i y), (3, ov_i p), (4, ov_i w), (5, ov_i v3)]) (st2 := [ov_i w]) (pc2 := 33) b_172_31_1 rfl rfl ?_
        refine ov_iflt (tgt := 43) d_172_33 (by decide) (by omega) (fun c8 => ?_) (fun c8 => ?_)
        · skip
          refine ov_blk (ls2 := [(0, ov_r 0), (1, ov_i x), (2, ov_i y), (3, ov_i p), (4, ov_i w), (5, ov_i v3)]) (st2 := [ov_i 0]) (pc2 := 44) b_172_43_1 rfl rfl ?_
          exact ov_retz (st := []) d_172_44 rfl (by omega) ⟨_, rfl, I, (by show (0 = 0 ∨ 0 = 1) ∧ (h 36 7) = (h 36 7) ∧ (h 1 1) = (h 1 1) ∧ (h 90 2) = (h 90 2) ∧ (h 0 10) = (h 0 10) ∧ (h 0 11) = (h 0 11) ∧ (h 0 12) = (h 0 12) ∧ (h 0 13) = (h 0 13) ∧ (h 3 1) = (h 3 1) ∧ (h 36 8) = (h 36 8) ∧ (h 46 3) = (h 46 3) ∧ (h 46 4) = (h 46 4) ∧ (h 49 4) = (h 49 4) ∧ (h 49 5) = (h 49 5) ∧ (h 64 0) = (h 64 0) ∧ (h 76 0) = (h 76 0); omega)⟩
        · skip
          refine ov_blk (ls2 := [(0, ov_r 0), (1, ov_i x), (2, ov_i y), (3, ov_i p), (4, ov_i w), (5, ov_i v3)]) (st2 := [ov_i 59, ov_i w]) (pc2 := 40) b_172_36_2 rfl rfl ?_
          refine ov_icle (tgt := 45) d_172_40 (by decide) (by omega) (by omega) (fun c9 => ?_) (fun c9 => ?_)
          · skip
            refine ov_blk (ls2 := [(0, ov_r 0), (1, ov_i x), (2, ov_i y), (3, ov_i p), (4, ov_i w), (5, ov_i v3)]) (st2 := [ov_r 0]) (pc2 := 46) b_172_45_1 rfl rfl ?_
            refine ov_getf (v := ov_r 4) d_172_46 fl_OF_28 (zb_0 I) (zs_0 I) (congrArg ov_r (rg_0_2 I)) ?_
            refine ov_blk (ls2 := [(0, ov_r 0), (1, ov_i x), (2, ov_i y), (3, ov_i p), (4, ov_i w), (5, ov_i v3)]) (st2 := [ov_i w, ov_i p, ov_i v3, ov_r 4]) (pc2 := 54) b_172_49_3 rfl rfl ?_
            refine ov_cV (as := [ov_i v3, ov_i p, ov_i w]) (st := []) (d2 := d - 1) d_172_54 lk_OF_270 rfl (Nat.le_of_ble_eq_true rfl) (c := 7) (zb_4 I) (zs_4 I) ⟨by decide, rfl⟩ (by omega) (c_State_addTry_4 (d - 1) (by omega) U I (ov_kws hw (by decide +kernel)) v3 p w (by omega) (by omega) (by omega)) ?_
            rintro _ z12 h13 ⟨v11, rfl, I14, f10⟩
            show ov_R u d ov_m172 57 [(0, ov_r 0), (1, ov_i x), (2, ov_i y), (3, ov_i p), (4, ov_i w), (5, ov_i v3)] [ov_i v11] z12 h13 (P_OF_tried_0 F z h x y p w)
            have f15 : (v11 = 0 ∨ v11 = 1) ∧ (h13 36 7) = (h 36 7) ∧ (h13 1 1) = (h 1 1) ∧ (h13 90 2) = (h 90 2) ∧ (h13 0 10) = (h 0 10) ∧ (h13 0 11) = (h 0 11) ∧ (h13 0 12) = (h 0 12) ∧ (h13 0 13) = (h 0 13) ∧ (h13 3 1) = (h 3 1) ∧ (h13 36 8) = (h 36 8) ∧ (h13 46 3) = (h 46 3) ∧ (h13 46 4) = (h 46 4) ∧ (h13 49 4) = (h 49 4) ∧ (h13 49 5) = (h 49 5) ∧ (h13 64 0) = (h 64 0) ∧ (h13 76 0) = (h 76 0) := f10
            clear f10
            have e16 : h13 0 10 = 58 := by omega
            exact ov_retz (st := []) d_172_57 rfl (by omega) ⟨_, rfl, I14, (by show (v11 = 0 ∨ v11 = 1) ∧ (h13 36 7) = (h 36 7) ∧ (h13 1 1) = (h 1 1) ∧ (h13 90 2) = (h 90 2) ∧ (h13 0 10) = (h 0 10) ∧ (h13 0 11) = (h 0 11) ∧ (h13 0 12) = (h 0 12) ∧ (h13 0 13) = (h 0 13) ∧ (h13 3 1) = (h 3 1) ∧ (h13 36 8) = (h 36 8) ∧ (h13 46 3) = (h 46 3) ∧ (h13 46 4) = (h 46 4) ∧ (h13 49 4) = (h 49 4) ∧ (h13 49 5) = (h 49 5) ∧ (h13 64 0) = (h 64 0) ∧ (h13 76 0) = (h 76 0); omega)⟩
          · skip
            refine ov_blk (ls2 := [(0, ov_r 0), (1, ov_i x), (2, ov_i y), (3, ov_i p), (4, ov_i w), (5, ov_i v3)]) (st2 := [ov_i 0]) (pc2 := 44) b_172_43_1 rfl rfl ?_
            exact ov_retz (st := []) d_172_44 rfl (by omega) ⟨_, rfl, I, (by show (0 = 0 ∨ 0 = 1) ∧ (h 36 7) = (h 36 7) ∧ (h 1 1) = (h 1 1) ∧ (h 90 2) = (h 90 2) ∧ (h 0 10) = (h 0 10) ∧ (h 0 11) = (h 0 11) ∧ (h 0 12) = (h 0 12) ∧ (h 0 13) = (h 0 13) ∧ (h 3 1) = (h 3 1) ∧ (h 36 8) = (h 36 8) ∧ (h 46 3) = (h 46 3) ∧ (h 46 4) = (h 46 4) ∧ (h 49 4) = (h 49 4) ∧ (h 49 5) = (h 49 5) ∧ (h 64 0) = (h 64 0) ∧ (h 76 0) = (h 76 0); omega)⟩
  · skip
    refine ov_getf (v := ov_r 70) d_172_1 fl_OF_78 (zb_0 I) (zs_0 I) (congrArg ov_r e1) ?_
    refine ov_blk (ls2 := [(0, ov_r 0), (1, ov_i x), (2, ov_i y), (3, ov_i p), (4, ov_i w)]) (st2 := [ov_i y, ov_i x, ov_r 70]) (pc2 := 6) b_172_4_2 rfl rfl ?_
    refine ov_cV (as := [ov_i x, ov_i y]) (st := []) (d2 := d - 1) d_172_6 lk_OF_131 rfl (Nat.le_of_ble_eq_true rfl) (c := 9) (zb_70 I) (zs_70 I) ⟨by decide, rfl⟩ (by omega) (c_Town_corner_70 (d - 1) (by omega) U I x y (by omega) (by omega)) ?_
    rintro _ _ _ ⟨v18, rfl, rfl, rfl, f17⟩
    show ov_R u d ov_m172 9 [(0, ov_r 0), (1, ov_i x), (2, ov_i y), (3, ov_i p), (4, ov_i w)] [ov_i v18] z h (P_OF_tried_0 F z h x y p w)
    have f19 : v18 = -1 ∨ (0 ≤ x ∧ x < (h 70 0) ∧ 0 ≤ y ∧ y < (h 70 1) ∧ v18 = y * 6 + x ∧ (h 70 0) ≤ 6 ∧ (h 70 1) ≤ 9) := f17
    clear f17
    refine ov_blk (ls2 := [(0, ov_r 0), (1, ov_i x), (2, ov_i y), (3, ov_i p), (4, ov_i w), (5, ov_i v18)]) (st2 := [ov_i (-1), ov_i v18]) (pc2 := 14) b_172_9_3 rfl rfl ?_
    refine ov_iceq (tgt := 43) d_172_14 (by decide) (by omega) (by omega) (fun c20 => ?_) (fun c20 => ?_)
    · skip
      refine ov_blk (ls2 := [(0, ov_r 0), (1, ov_i x), (2, ov_i y), (3, ov_i p), (4, ov_i w), (5, ov_i v18)]) (st2 := [ov_i 0]) (pc2 := 44) b_172_43_1 rfl rfl ?_
      exact ov_retz (st := []) d_172_44 rfl (by omega) ⟨_, rfl, I, (by show (0 = 0 ∨ 0 = 1) ∧ (h 36 7) = (h 36 7) ∧ (h 1 1) = (h 1 1) ∧ (h 90 2) = (h 90 2) ∧ (h 0 10) = (h 0 10) ∧ (h 0 11) = (h 0 11) ∧ (h 0 12) = (h 0 12) ∧ (h 0 13) = (h 0 13) ∧ (h 3 1) = (h 3 1) ∧ (h 36 8) = (h 36 8) ∧ (h 46 3) = (h 46 3) ∧ (h 46 4) = (h 46 4) ∧ (h 49 4) = (h 49 4) ∧ (h 49 5) = (h 49 5) ∧ (h 64 0) = (h 64 0) ∧ (h 76 0) = (h 76 0); omega)⟩
    · skip
      refine ov_blk (ls2 := [(0, ov_r 0), (1, ov_i x), (2, ov_i y), (3, ov_i p), (4, ov_i w), (5, ov_i v18)]) (st2 := [ov_r 0]) (pc2 := 18) b_172_17_1 rfl rfl ?_
      refine ov_getf (v := ov_r 70) d_172_18 fl_OF_78 (zb_0 I) (zs_0 I) (congrArg ov_r e1) ?_
      refine ov_getf (v := ov_r 71) d_172_21 fl_OF_139 (zb_70 I) (zs_70 I) (congrArg ov_r (rg_70_2 I)) ?_
      refine ov_blk (ls2 := [(0, ov_r 0), (1, ov_i x), (2, ov_i y), (3, ov_i p), (4, ov_i w), (5, ov_i v18)]) (st2 := [ov_i v18, ov_r 71]) (pc2 := 26) b_172_24_1 rfl rfl ?_
      refine ov_iald d_172_26 (zb_71 I) (zs_71 I) (by omega) ?_
      have g21 := ra_71 I v18
      refine ov_blk (ls2 := [(0, ov_r 0), (1, ov_i x), (2, ov_i y), (3, ov_i p), (4, ov_i w), (5, ov_i v18)]) (st2 := [ov_i 2, ov_i (h 71 v18)]) (pc2 := 28) b_172_27_1 rfl rfl ?_
      refine ov_icne (tgt := 43) d_172_28 (by decide) (by omega) (by omega) (fun c22 => ?_) (fun c22 => ?_)
      · skip
        refine ov_blk (ls2 := [(0, ov_r 0), (1, ov_i x), (2, ov_i y), (3, ov_i p), (4, ov_i w), (5, ov_i v18)]) (st2 := [ov_i 0]) (pc2 := 44) b_172_43_1 rfl rfl ?_
        exact ov_retz (st := []) d_172_44 rfl (by omega) ⟨_, rfl, I, (by show (0 = 0 ∨ 0 = 1) ∧ (h 36 7) = (h 36 7) ∧ (h 1 1) = (h 1 1) ∧ (h 90 2) = (h 90 2) ∧ (h 0 10) = (h 0 10) ∧ (h 0 11) = (h 0 11) ∧ (h 0 12) = (h 0 12) ∧ (h 0 13) = (h 0 13) ∧ (h 3 1) = (h 3 1) ∧ (h 36 8) = (h 36 8) ∧ (h 46 3) = (h 46 3) ∧ (h 46 4) = (h 46 4) ∧ (h 49 4) = (h 49 4) ∧ (h 49 5) = (h 49 5) ∧ (h 64 0) = (h 64 0) ∧ (h 76 0) = (h 76 0); omega)⟩
      · skip
        refine ov_blk (ls2 := [(0, ov_r 0), (1, ov_i x), (2, ov_i y), (3, ov_i p), (4, ov_i w), (5, ov_i v18)]) (st2 := [ov_i w]) (pc2 := 33) b_172_31_1 rfl rfl ?_
        refine ov_iflt (tgt := 43) d_172_33 (by decide) (by omega) (fun c23 => ?_) (fun c23 => ?_)
        · skip
          refine ov_blk (ls2 := [(0, ov_r 0), (1, ov_i x), (2, ov_i y), (3, ov_i p), (4, ov_i w), (5, ov_i v18)]) (st2 := [ov_i 0]) (pc2 := 44) b_172_43_1 rfl rfl ?_
          exact ov_retz (st := []) d_172_44 rfl (by omega) ⟨_, rfl, I, (by show (0 = 0 ∨ 0 = 1) ∧ (h 36 7) = (h 36 7) ∧ (h 1 1) = (h 1 1) ∧ (h 90 2) = (h 90 2) ∧ (h 0 10) = (h 0 10) ∧ (h 0 11) = (h 0 11) ∧ (h 0 12) = (h 0 12) ∧ (h 0 13) = (h 0 13) ∧ (h 3 1) = (h 3 1) ∧ (h 36 8) = (h 36 8) ∧ (h 46 3) = (h 46 3) ∧ (h 46 4) = (h 46 4) ∧ (h 49 4) = (h 49 4) ∧ (h 49 5) = (h 49 5) ∧ (h 64 0) = (h 64 0) ∧ (h 76 0) = (h 76 0); omega)⟩
        · skip
          refine ov_blk (ls2 := [(0, ov_r 0), (1, ov_i x), (2, ov_i y), (3, ov_i p), (4, ov_i w), (5, ov_i v18)]) (st2 := [ov_i 59, ov_i w]) (pc2 := 40) b_172_36_2 rfl rfl ?_
          refine ov_icle (tgt := 45) d_172_40 (by decide) (by omega) (by omega) (fun c24 => ?_) (fun c24 => ?_)
          · skip
            refine ov_blk (ls2 := [(0, ov_r 0), (1, ov_i x), (2, ov_i y), (3, ov_i p), (4, ov_i w), (5, ov_i v18)]) (st2 := [ov_r 0]) (pc2 := 46) b_172_45_1 rfl rfl ?_
            refine ov_getf (v := ov_r 4) d_172_46 fl_OF_28 (zb_0 I) (zs_0 I) (congrArg ov_r (rg_0_2 I)) ?_
            refine ov_blk (ls2 := [(0, ov_r 0), (1, ov_i x), (2, ov_i y), (3, ov_i p), (4, ov_i w), (5, ov_i v18)]) (st2 := [ov_i w, ov_i p, ov_i v18, ov_r 4]) (pc2 := 54) b_172_49_3 rfl rfl ?_
            refine ov_cV (as := [ov_i v18, ov_i p, ov_i w]) (st := []) (d2 := d - 1) d_172_54 lk_OF_270 rfl (Nat.le_of_ble_eq_true rfl) (c := 7) (zb_4 I) (zs_4 I) ⟨by decide, rfl⟩ (by omega) (c_State_addTry_4 (d - 1) (by omega) U I (ov_kws hw (by decide +kernel)) v18 p w (by omega) (by omega) (by omega)) ?_
            rintro _ z27 h28 ⟨v26, rfl, I29, f25⟩
            show ov_R u d ov_m172 57 [(0, ov_r 0), (1, ov_i x), (2, ov_i y), (3, ov_i p), (4, ov_i w), (5, ov_i v18)] [ov_i v26] z27 h28 (P_OF_tried_0 F z h x y p w)
            have f30 : (v26 = 0 ∨ v26 = 1) ∧ (h28 36 7) = (h 36 7) ∧ (h28 1 1) = (h 1 1) ∧ (h28 90 2) = (h 90 2) ∧ (h28 0 10) = (h 0 10) ∧ (h28 0 11) = (h 0 11) ∧ (h28 0 12) = (h 0 12) ∧ (h28 0 13) = (h 0 13) ∧ (h28 3 1) = (h 3 1) ∧ (h28 36 8) = (h 36 8) ∧ (h28 46 3) = (h 46 3) ∧ (h28 46 4) = (h 46 4) ∧ (h28 49 4) = (h 49 4) ∧ (h28 49 5) = (h 49 5) ∧ (h28 64 0) = (h 64 0) ∧ (h28 76 0) = (h 76 0) := f25
            clear f25
            have e31 : h28 0 10 = 70 := by omega
            exact ov_retz (st := []) d_172_57 rfl (by omega) ⟨_, rfl, I29, (by show (v26 = 0 ∨ v26 = 1) ∧ (h28 36 7) = (h 36 7) ∧ (h28 1 1) = (h 1 1) ∧ (h28 90 2) = (h 90 2) ∧ (h28 0 10) = (h 0 10) ∧ (h28 0 11) = (h 0 11) ∧ (h28 0 12) = (h 0 12) ∧ (h28 0 13) = (h 0 13) ∧ (h28 3 1) = (h 3 1) ∧ (h28 36 8) = (h 36 8) ∧ (h28 46 3) = (h 46 3) ∧ (h28 46 4) = (h 46 4) ∧ (h28 49 4) = (h 49 4) ∧ (h28 49 5) = (h 49 5) ∧ (h28 64 0) = (h 64 0) ∧ (h28 76 0) = (h 76 0); omega)⟩
          · skip
            refine ov_blk (ls2 := [(0, ov_r 0), (1, ov_i x), (2, ov_i y), (3, ov_i p), (4, ov_i w), (5, ov_i v18)]) (st2 := [ov_i 0]) (pc2 := 44) b_172_43_1 rfl rfl ?_
            exact ov_retz (st := []) d_172_44 rfl (by omega) ⟨_, rfl, I, (by show (0 = 0 ∨ 0 = 1) ∧ (h 36 7) = (h 36 7) ∧ (h 1 1) = (h 1 1) ∧ (h 90 2) = (h 90 2) ∧ (h 0 10) = (h 0 10) ∧ (h 0 11) = (h 0 11) ∧ (h 0 12) = (h 0 12) ∧ (h 0 13) = (h 0 13) ∧ (h 3 1) = (h 3 1) ∧ (h 36 8) = (h 36 8) ∧ (h 46 3) = (h 46 3) ∧ (h 46 4) = (h 46 4) ∧ (h 49 4) = (h 49 4) ∧ (h 49 5) = (h 49 5) ∧ (h 64 0) = (h 64 0) ∧ (h 76 0) = (h 76 0); omega)⟩
abbrev P_OF_does_0 (F : ov_H) (z : ov_Z) (h : ov_H) (x : Int) (y : Int) (w : Int) : Option ov_V → ov_Z → ov_H → Prop := fun r0 z' h' => ∃ r : Int, r0 = some (ov_l r) ∧ z = z' ∧ h = h' ∧ (True)
set_option maxHeartbeats 4000000 in
theorem c_OF_does_0 {u : ov_U} {F : ov_H} {z : ov_Z} {h : ov_H} (d : Nat) (hd : 2 ≤ d) (U : ov_cap u) (I : ov_I F z h) (x : Int) (y : Int) (w : Int) (g_x : ov_g x) (g_y : ov_g y) (g_w : ov_g w) : ov_T u d ov_m174 [ov_r 0, ov_i x, ov_i y, ov_i w] z h (P_OF_does_0 F z h x y w) := by
  refine ov_en rfl (Nat.le_of_ble_eq_true rfl) ?_
  show ov_R u d ov_m174 0 [(0, ov_r 0), (1, ov_i x), (2, ov_i y), (3, ov_i w)] [] z h (P_OF_does_0 F z h x y w)
  refine ov_blk (ls2 := [(0, ov_r 0), (1, ov_i x), (2, ov_i y), (3, ov_i w)]) (st2 := [ov_r 0]) (pc2 := 1) b_174_0_1 rfl rfl ?_
  rcases rg_0_10 I with e1 | e1
  · skip
    refine ov_getf (v := ov_r 58) d_174_1 fl_OF_78 (zb_0 I) (zs_0 I) (congrArg ov_r e1) ?_
    refine ov_blk (ls2 := [(0, ov_r 0), (1, ov_i x), (2, ov_i y), (3, ov_i w)]) (st2 := [ov_i y, ov_i x, ov_r 58]) (pc2 := 6) b_174_4_2 rfl rfl ?_
    refine ov_cV (as := [ov_i x, ov_i y]) (st := []) (d2 := d - 1) d_174_6 lk_OF_131 rfl (Nat.le_of_ble_eq_true rfl) (c := 9) (zb_58 I) (zs_58 I) ⟨by decide, rfl⟩ (by omega) (c_Town_corner_58 (d - 1) (by omega) U I x y (by omega) (by omega)) ?_
    rintro _ _ _ ⟨v3, rfl, rfl, rfl, f2⟩
    show ov_R u d ov_m174 9 [(0, ov_r 0), (1, ov_i x), (2, ov_i y), (3, ov_i w)] [ov_i v3] z h (P_OF_does_0 F z h x y w)
    have f4 : v3 = -1 ∨ (0 ≤ x ∧ x < (h 58 0) ∧ 0 ≤ y ∧ y < (h 58 1) ∧ v3 = y * 6 + x ∧ (h 58 0) ≤ 6 ∧ (h 58 1) ≤ 9) := f2
    clear f2
    refine ov_blk (ls2 := [(0, ov_r 0), (1, ov_i x), (2, ov_i y), (3, ov_i w), (4, ov_i v3)]) (st2 := [ov_i (-1), ov_i v3]) (pc2 := 14) b_174_9_3 rfl rfl ?_
    refine ov_iceq (tgt := 40) d_174_14 (by decide) (by omega) (by omega) (fun c5 => ?_) (fun c5 => ?_)
    · skip
      refine ov_ldc2 (n := (-1)) d_174_40 kc_OF_274 ?_
      exact ov_retl (st := []) d_174_43 rfl ⟨_, rfl, rfl, rfl, trivial⟩
    · skip
      refine ov_blk (ls2 := [(0, ov_r 0), (1, ov_i x), (2, ov_i y), (3, ov_i w), (4, ov_i v3)]) (st2 := [ov_r 0]) (pc2 := 18) b_174_17_1 rfl rfl ?_
      refine ov_getf (v := ov_r 58) d_174_18 fl_OF_78 (zb_0 I) (zs_0 I) (congrArg ov_r e1) ?_
      refine ov_getf (v := ov_r 59) d_174_21 fl_OF_139 (zb_58 I) (zs_58 I) (congrArg ov_r (rg_58_2 I)) ?_
      refine ov_blk (ls2 := [(0, ov_r 0), (1, ov_i x), (2, ov_i y), (3, ov_i w), (4, ov_i v3)]) (st2 := [ov_i v3, ov_r 59]) (pc2 := 26) b_174_24_1 rfl rfl ?_
      refine ov_iald d_174_26 (zb_59 I) (zs_59 I) (by omega) ?_
      have g6 := ra_59 I v3
      refine ov_blk (ls2 := [(0, ov_r 0), (1, ov_i x), (2, ov_i y), (3, ov_i w), (4, ov_i v3)]) (st2 := [ov_i 2, ov_i (h 59 v3)]) (pc2 := 28) b_174_27_1 rfl rfl ?_
      refine ov_icne (tgt := 40) d_174_28 (by decide) (by omega) (by omega) (fun c7 => ?_) (fun c7 => ?_)
      · skip
        refine ov_ldc2 (n := (-1)) d_174_40 kc_OF_274 ?_
        exact ov_retl (st := []) d_174_43 rfl ⟨_, rfl, rfl, rfl, trivial⟩
      · skip
        refine ov_blk (ls2 := [(0, ov_r 0), (1, ov_i x), (2, ov_i y), (3, ov_i w), (4, ov_i v3)]) (st2 := [ov_i w]) (pc2 := 32) b_174_31_1 rfl rfl ?_
        refine ov_iflt (tgt := 40) d_174_32 (by decide) (by omega) (fun c8 => ?_) (fun c8 => ?_)
        · skip
          refine ov_ldc2 (n := (-1)) d_174_40 kc_OF_274 ?_
          exact ov_retl (st := []) d_174_43 rfl ⟨_, rfl, rfl, rfl, trivial⟩
        · skip
          refine ov_blk (ls2 := [(0, ov_r 0), (1, ov_i x), (2, ov_i y), (3, ov_i w), (4, ov_i v3)]) (st2 := [ov_i 1, ov_i w]) (pc2 := 37) b_174_35_2 rfl rfl ?_
          refine ov_icle (tgt := 44) d_174_37 (by decide) (by omega) (by omega) (fun c9 => ?_) (fun c9 => ?_)
          · skip
            refine ov_blk (ls2 := [(0, ov_r 0), (1, ov_i x), (2, ov_i y), (3, ov_i w), (4, ov_i v3)]) (st2 := [ov_r 0]) (pc2 := 45) b_174_44_1 rfl rfl ?_
            refine ov_getf (v := ov_r 4) d_174_45 fl_OF_28 (zb_0 I) (zs_0 I) (congrArg ov_r (rg_0_2 I)) ?_
            refine ov_blk (ls2 := [(0, ov_r 0), (1, ov_i x), (2, ov_i y), (3, ov_i w), (4, ov_i v3)]) (st2 := [ov_r 0, ov_i v3, ov_r 4]) (pc2 := 51) b_174_48_2 rfl rfl ?_
            refine ov_getf (v := ov_r 58) d_174_51 fl_OF_78 (zb_0 I) (zs_0 I) (congrArg ov_r e1) ?_
            refine ov_getf (v := ov_r 60) d_174_54 fl_OF_142 (zb_58 I) (zs_58 I) (congrArg ov_r (rg_58_3 I)) ?_
            refine ov_blk (ls2 := [(0, ov_r 0), (1, ov_i x), (2, ov_i y), (3, ov_i w), (4, ov_i v3)]) (st2 := [ov_i v3, ov_r 60, ov_i v3, ov_r 4]) (pc2 := 59) b_174_57_1 rfl rfl ?_
            refine ov_iald d_174_59 (zb_60 I) (zs_60 I) (by omega) ?_
            have g10 := ra_60 I v3
            refine ov_blk (ls2 := [(0, ov_r 0), (1, ov_i x), (2, ov_i y), (3, ov_i w), (4, ov_i v3)]) (st2 := [ov_r 0, ov_i (h 60 v3), ov_i v3, ov_r 4]) (pc2 := 61) b_174_60_1 rfl rfl ?_
            refine ov_getf (v := ov_r 58) d_174_61 fl_OF_78 (zb_0 I) (zs_0 I) (congrArg ov_r e1) ?_
            refine ov_getf (v := ov_r 61) d_174_64 fl_OF_145 (zb_58 I) (zs_58 I) (congrArg ov_r (rg_58_4 I)) ?_
            refine ov_blk (ls2 := [(0, ov_r 0), (1, ov_i x), (2, ov_i y), (3, ov_i w), (4, ov_i v3)]) (st2 := [ov_i v3, ov_r 61, ov_i (h 60 v3), ov_i v3, ov_r 4]) (pc2 := 69) b_174_67_1 rfl rfl ?_
            refine ov_iald d_174_69 (zb_61 I) (zs_61 I) (by omega) ?_
            have g11 := ra_61 I v3
            refine ov_blk (ls2 := [(0, ov_r 0), (1, ov_i x), (2, ov_i y), (3, ov_i w), (4, ov_i v3)]) (st2 := [ov_i w, ov_i ((h 61 v3) + 1), ov_i (h 60 v3), ov_i v3, ov_r 4]) (pc2 := 73) b_174_70_3 rfl rfl ?_
            refine ov_cV (as := [ov_i v3, ov_i (h 60 v3), ov_i ((h 61 v3) + 1), ov_i w]) (st := []) (d2 := d - 1) d_174_73 lk_OF_276 rfl (Nat.le_of_ble_eq_true rfl) (c := 7) (zb_4 I) (zs_4 I) ⟨by decide, rfl⟩ (by omega) (c_State_likelihood_4 (d - 1) (by omega) U I v3 (h 60 v3) ((h 61 v3) + 1) w (by omega) (by omega) (by omega) (by omega)) ?_
            rintro _ _ _ ⟨v13, rfl, rfl, rfl, f12⟩
            show ov_R u d ov_m174 76 [(0, ov_r 0), (1, ov_i x), (2, ov_i y), (3, ov_i w), (4, ov_i v3)] [ov_l v13] z h (P_OF_does_0 F z h x y w)
            clear f12
            exact ov_retl (st := []) d_174_76 rfl ⟨_, rfl, rfl, rfl, trivial⟩
          · skip
            refine ov_ldc2 (n := (-1)) d_174_40 kc_OF_274 ?_
            exact ov_retl (st := []) d_174_43 rfl ⟨_, rfl, rfl, rfl, trivial⟩
  · skip
    refine ov_getf (v := ov_r 70) d_174_1 fl_OF_78 (zb_0 I) (zs_0 I) (congrArg ov_r e1) ?_
    refine ov_blk (ls2 := [(0, ov_r 0), (1, ov_i x), (2, ov_i y), (3, ov_i w)]) (st2 := [ov_i y, ov_i x, ov_r 70]) (pc2 := 6) b_174_4_2 rfl rfl ?_
    refine ov_cV (as := [ov_i x, ov_i y]) (st := []) (d2 := d - 1) d_174_6 lk_OF_131 rfl (Nat.le_of_ble_eq_true rfl) (c := 9) (zb_70 I) (zs_70 I) ⟨by decide, rfl⟩ (by omega) (c_Town_corner_70 (d - 1) (by omega) U I x y (by omega) (by omega)) ?_
    rintro _ _ _ ⟨v15, rfl, rfl, rfl, f14⟩
    show ov_R u d ov_m174 9 [(0, ov_r 0), (1, ov_i x), (2, ov_i y), (3, ov_i w)] [ov_i v15] z h (P_OF_does_0 F z h x y w)
    have f16 : v15 = -1 ∨ (0 ≤ x ∧ x < (h 70 0) ∧ 0 ≤ y ∧ y < (h 70 1) ∧ v15 = y * 6 + x ∧ (h 70 0) ≤ 6 ∧ (h 70 1) ≤ 9) := f14
    clear f14
    refine ov_blk (ls2 := [(0, ov_r 0), (1, ov_i x), (2, ov_i y), (3, ov_i w), (4, ov_i v15)]) (st2 := [ov_i (-1), ov_i v15]) (pc2 := 14) b_174_9_3 rfl rfl ?_
    refine ov_iceq (tgt := 40) d_174_14 (by decide) (by omega) (by omega) (fun c17 => ?_) (fun c17 => ?_)
    · skip
      refine ov_ldc2 (n := (-1)) d_174_40 kc_OF_274 ?_
      exact ov_retl (st := []) d_174_43 rfl ⟨_, rfl, rfl, rfl, trivial⟩
    · skip
      refine ov_blk (ls2 := [(0, ov_r 0), (1, ov_i x), (2, ov_i y), (3, ov_i w), (4, ov_i v15)]) (st2 := [ov_r 0]) (pc2 := 18) b_174_17_1 rfl rfl ?_
      refine ov_getf (v := ov_r 70) d_174_18 fl_OF_78 (zb_0 I) (zs_0 I) (congrArg ov_r e1) ?_
      refine ov_getf (v := ov_r 71) d_174_21 fl_OF_139 (zb_70 I) (zs_70 I) (congrArg ov_r (rg_70_2 I)) ?_
      refine ov_blk (ls2 := [(0, ov_r 0), (1, ov_i x), (2, ov_i y), (3, ov_i w), (4, ov_i v15)]) (st2 := [ov_i v15, ov_r 71]) (pc2 := 26) b_174_24_1 rfl rfl ?_
      refine ov_iald d_174_26 (zb_71 I) (zs_71 I) (by omega) ?_
      have g18 := ra_71 I v15
      refine ov_blk (ls2 := [(0, ov_r 0), (1, ov_i x), (2, ov_i y), (3, ov_i w), (4, ov_i v15)]) (st2 := [ov_i 2, ov_i (h 71 v15)]) (pc2 := 28) b_174_27_1 rfl rfl ?_
      refine ov_icne (tgt := 40) d_174_28 (by decide) (by omega) (by omega) (fun c19 => ?_) (fun c19 => ?_)
      · skip
        refine ov_ldc2 (n := (-1)) d_174_40 kc_OF_274 ?_
        exact ov_retl (st := []) d_174_43 rfl ⟨_, rfl, rfl, rfl, trivial⟩
      · skip
        refine ov_blk (ls2 := [(0, ov_r 0), (1, ov_i x), (2, ov_i y), (3, ov_i w), (4, ov_i v15)]) (st2 := [ov_i w]) (pc2 := 32) b_174_31_1 rfl rfl ?_
        refine ov_iflt (tgt := 40) d_174_32 (by decide) (by omega) (fun c20 => ?_) (fun c20 => ?_)
        · skip
          refine ov_ldc2 (n := (-1)) d_174_40 kc_OF_274 ?_
          exact ov_retl (st := []) d_174_43 rfl ⟨_, rfl, rfl, rfl, trivial⟩
        · skip
          refine ov_blk (ls2 := [(0, ov_r 0), (1, ov_i x), (2, ov_i y), (3, ov_i w), (4, ov_i v15)]) (st2 := [ov_i 1, ov_i w]) (pc2 := 37) b_174_35_2 rfl rfl ?_
          refine ov_icle (tgt := 44) d_174_37 (by decide) (by omega) (by omega) (fun c21 => ?_) (fun c21 => ?_)
          · skip
            refine ov_blk (ls2 := [(0, ov_r 0), (1, ov_i x), (2, ov_i y), (3, ov_i w), (4, ov_i v15)]) (st2 := [ov_r 0]) (pc2 := 45) b_174_44_1 rfl rfl ?_
            refine ov_getf (v := ov_r 4) d_174_45 fl_OF_28 (zb_0 I) (zs_0 I) (congrArg ov_r (rg_0_2 I)) ?_
            refine ov_blk (ls2 := [(0, ov_r 0), (1, ov_i x), (2, ov_i y), (3, ov_i w), (4, ov_i v15)]) (st2 := [ov_r 0, ov_i v15, ov_r 4]) (pc2 := 51) b_174_48_2 rfl rfl ?_
            refine ov_getf (v := ov_r 70) d_174_51 fl_OF_78 (zb_0 I) (zs_0 I) (congrArg ov_r e1) ?_
            refine ov_getf (v := ov_r 72) d_174_54 fl_OF_142 (zb_70 I) (zs_70 I) (congrArg ov_r (rg_70_3 I)) ?_
            refine ov_blk (ls2 := [(0, ov_r 0), (1, ov_i x), (2, ov_i y), (3, ov_i w), (4, ov_i v15)]) (st2 := [ov_i v15, ov_r 72, ov_i v15, ov_r 4]) (pc2 := 59) b_174_57_1 rfl rfl ?_
            refine ov_iald d_174_59 (zb_72 I) (zs_72 I) (by omega) ?_
            have g22 := ra_72 I v15
            refine ov_blk (ls2 := [(0, ov_r 0), (1, ov_i x), (2, ov_i y), (3, ov_i w), (4, ov_i v15)]) (st2 := [ov_r 0, ov_i (h 72 v15), ov_i v15, ov_r 4]) (pc2 := 61) b_174_60_1 rfl rfl ?_
            refine ov_getf (v := ov_r 70) d_174_61 fl_OF_78 (zb_0 I) (zs_0 I) (congrArg ov_r e1) ?_
            refine ov_getf (v := ov_r 73) d_174_64 fl_OF_145 (zb_70 I) (zs_70 I) (congrArg ov_r (rg_70_4 I)) ?_
            refine ov_blk (ls2 := [(0, ov_r 0), (1, ov_i x), (2, ov_i y), (3, ov_i w), (4, ov_i v15)]) (st2 := [ov_i v15, ov_r 73, ov_i (h 72 v15), ov_i v15, ov_r 4]) (pc2 := 69) b_174_67_1 rfl rfl ?_
            refine ov_iald d_174_69 (zb_73 I) (zs_73 I) (by omega) ?_
            have g23 := ra_73 I v15
            refine ov_blk (ls2 := [(0, ov_r 0), (1, ov_i x), (2, ov_i y), (3, ov_i w), (4, ov_i v15)]) (st2 := [ov_i w, ov_i ((h 73 v15) + 1), ov_i (h 72 v15), ov_i v15, ov_r 4]) (pc2 := 73) b_174_70_3 rfl rfl ?_
            refine ov_cV (as := [ov_i v15, ov_i (h 72 v15), ov_i ((h 73 v15) + 1), ov_i w]) (st := []) (d2 := d - 1) d_174_73 lk_OF_276 rfl (Nat.le_of_ble_eq_true rfl) (c := 7) (zb_4 I) (zs_4 I) ⟨by decide, rfl⟩ (by omega) (c_State_likelihood_4 (d - 1) (by omega) U I v15 (h 72 v15) ((h 73 v15) + 1) w (by omega) (by omega) (by omega) (by omega)) ?_
            rintro _ _ _ ⟨v25, rfl, rfl, rfl, f24⟩
            show ov_R u d ov_m174 76 [(0, ov_r 0), (1, ov_i x), (2, ov_i y), (3, ov_i w), (4, ov_i v15)] [ov_l v25] z h (P_OF_does_0 F z h x y w)
            clear f24
            exact ov_retl (st := []) d_174_76 rfl ⟨_, rfl, rfl, rfl, trivial⟩
          · skip
            refine ov_ldc2 (n := (-1)) d_174_40 kc_OF_274 ?_
            exact ov_retl (st := []) d_174_43 rfl ⟨_, rfl, rfl, rfl, trivial⟩
abbrev P_OF_wave_0 (F : ov_H) (z : ov_Z) (h : ov_H) (x : Int) (y : Int) (n : Int) (b : Int) (w : Int) : Option ov_V → ov_Z → ov_H → Prop := fun r0 z' h' => ∃ r : Int, r0 = some (ov_i r) ∧ ov_I F z' h' ∧ ((h' 36 7) = (h 36 7) ∧ (h' 1 1) = (h 1 1) ∧ (h' 90 2) = (h 90 2) ∧ (h' 0 10) = (h 0 10) ∧ (h' 0 11) = (h 0 11) ∧ (h' 0 12) = (h 0 12) ∧ (h' 0 13) = (h 0 13) ∧ (h' 3 1) = (h 3 1) ∧ (h' 36 8) = (h 36 8) ∧ (h' 46 3) = (h 46 3) ∧ (h' 46 4) = (h 46 4) ∧ (h' 49 4) = (h 49 4) ∧ (h' 49 5) = (h 49 5) ∧ (h' 64 0) = (h 64 0) ∧ (h' 76 0) = (h 76 0))
set_option maxHeartbeats 4000000 in
theorem c_OF_wave_0 {u : ov_U} {F : ov_H} {z : ov_Z} {h : ov_H} (d : Nat) (hd : 30 ≤ d) (U : ov_cap u) (I : ov_I F z h) (x : Int) (y : Int) (n : Int) (b : Int) (w : Int) (g_x : ov_g x) (g_y : ov_g y) (g_n : ov_g n) (g_b : b = 0 ∨ b = 1) (g_w : ov_g w) : ov_T u d ov_m176 [ov_r 0, ov_i x, ov_i y, ov_i n, ov_i b, ov_i w] z h (P_OF_wave_0 F z h x y n b w) := by
  refine ov_en rfl (Nat.le_of_ble_eq_true rfl) ?_
  show ov_R u d ov_m176 0 [(0, ov_r 0), (1, ov_i x), (2, ov_i y), (3, ov_i n), (4, ov_i b), (5, ov_i w)] [] z h (P_OF_wave_0 F z h x y n b w)
  refine ov_blk (ls2 := [(0, ov_r 0), (1, ov_i x), (2, ov_i y), (3, ov_i n), (4, ov_i b), (5, ov_i w)]) (st2 := [ov_r 0]) (pc2 := 1) b_176_0_1 rfl rfl ?_
  rcases rg_0_10 I with e1 | e1
  · skip
    refine ov_getf (v := ov_r 58) d_176_1 fl_OF_78 (zb_0 I) (zs_0 I) (congrArg ov_r e1) ?_
    refine ov_blk (ls2 := [(0, ov_r 0), (1, ov_i x), (2, ov_i y), (3, ov_i n), (4, ov_i b), (5, ov_i w)]) (st2 := [ov_i y, ov_i x, ov_r 58]) (pc2 := 6) b_176_4_2 rfl rfl ?_
    refine ov_cV (as := [ov_i x, ov_i y]) (st := []) (d2 := d - 1) d_176_6 lk_OF_131 rfl (Nat.le_of_ble_eq_true rfl) (c := 9) (zb_58 I) (zs_58 I) ⟨by decide, rfl⟩ (by omega) (c_Town_corner_58 (d - 1) (by omega) U I x y (by omega) (by omega)) ?_
    rintro _ _ _ ⟨v3, rfl, rfl, rfl, f2⟩
    show ov_R u d ov_m176 9 [(0, ov_r 0), (1, ov_i x), (2, ov_i y), (3, ov_i n), (4, ov_i b), (5, ov_i w)] [ov_i v3] z h (P_OF_wave_0 F z h x y n b w)
    have f4 : v3 = -1 ∨ (0 ≤ x ∧ x < (h 58 0) ∧ 0 ≤ y ∧ y < (h 58 1) ∧ v3 = y * 6 + x ∧ (h 58 0) ≤ 6 ∧ (h 58 1) ≤ 9) := f2
    clear f2
    refine ov_blk (ls2 := [(0, ov_r 0), (1, ov_i x), (2, ov_i y), (3, ov_i n), (4, ov_i b), (5, ov_i w), (6, ov_i v3)]) (st2 := [ov_i (-1), ov_i v3]) (pc2 := 14) b_176_9_3 rfl rfl ?_
    refine ov_iceq (tgt := 38) d_176_14 (by decide) (by omega) (by omega) (fun c5 => ?_) (fun c5 => ?_)
    · skip
      refine ov_blk (ls2 := [(0, ov_r 0), (1, ov_i x), (2, ov_i y), (3, ov_i n), (4, ov_i b), (5, ov_i w), (6, ov_i v3)]) (st2 := [ov_i (-1)]) (pc2 := 39) b_176_38_1 rfl rfl ?_
      exact ov_reti (st := []) d_176_39 rfl ⟨_, rfl, I, (by show (h 36 7) = (h 36 7) ∧ (h 1 1) = (h 1 1) ∧ (h 90 2) = (h 90 2) ∧ (h 0 10) = (h 0 10) ∧ (h 0 11) = (h 0 11) ∧ (h 0 12) = (h 0 12) ∧ (h 0 13) = (h 0 13) ∧ (h 3 1) = (h 3 1) ∧ (h 36 8) = (h 36 8) ∧ (h 46 3) = (h 46 3) ∧ (h 46 4) = (h 46 4) ∧ (h 49 4) = (h 49 4) ∧ (h 49 5) = (h 49 5) ∧ (h 64 0) = (h 64 0) ∧ (h 76 0) = (h 76 0); omega)⟩
    · skip
      refine ov_blk (ls2 := [(0, ov_r 0), (1, ov_i x), (2, ov_i y), (3, ov_i n), (4, ov_i b), (5, ov_i w), (6, ov_i v3)]) (st2 := [ov_i 2, ov_i n]) (pc2 := 19) b_176_17_2 rfl rfl ?_
      refine ov_iclt (tgt := 38) d_176_19 (by decide) (by omega) (by omega) (fun c6 => ?_) (fun c6 => ?_)
      · skip
        refine ov_blk (ls2 := [(0, ov_r 0), (1, ov_i x), (2, ov_i y), (3, ov_i n), (4, ov_i b), (5, ov_i w), (6, ov_i v3)]) (st2 := [ov_i (-1)]) (pc2 := 39) b_176_38_1 rfl rfl ?_
        exact ov_reti (st := []) d_176_39 rfl ⟨_, rfl, I, (by show (h 36 7) = (h 36 7) ∧ (h 1 1) = (h 1 1) ∧ (h 90 2) = (h 90 2) ∧ (h 0 10) = (h 0 10) ∧ (h 0 11) = (h 0 11) ∧ (h 0 12) = (h 0 12) ∧ (h 0 13) = (h 0 13) ∧ (h 3 1) = (h 3 1) ∧ (h 36 8) = (h 36 8) ∧ (h 46 3) = (h 46 3) ∧ (h 46 4) = (h 46 4) ∧ (h 49 4) = (h 49 4) ∧ (h 49 5) = (h 49 5) ∧ (h 64 0) = (h 64 0) ∧ (h 76 0) = (h 76 0); omega)⟩
      · skip
        refine ov_blk (ls2 := [(0, ov_r 0), (1, ov_i x), (2, ov_i y), (3, ov_i n), (4, ov_i b), (5, ov_i w), (6, ov_i v3)]) (st2 := [ov_i 4, ov_i n]) (pc2 := 24) b_176_22_2 rfl rfl ?_
        refine ov_icgt (tgt := 38) d_176_24 (by decide) (by omega) (by omega) (fun c7 => ?_) (fun c7 => ?_)
        · skip
          refine ov_blk (ls2 := [(0, ov_r 0), (1, ov_i x), (2, ov_i y), (3, ov_i n), (4, ov_i b), (5, ov_i w), (6, ov_i v3)]) (st2 := [ov_i (-1)]) (pc2 := 39) b_176_38_1 rfl rfl ?_
          exact ov_reti (st := []) d_176_39 rfl ⟨_, rfl, I, (by show (h 36 7) = (h 36 7) ∧ (h 1 1) = (h 1 1) ∧ (h 90 2) = (h 90 2) ∧ (h 0 10) = (h 0 10) ∧ (h 0 11) = (h 0 11) ∧ (h 0 12) = (h 0 12) ∧ (h 0 13) = (h 0 13) ∧ (h 3 1) = (h 3 1) ∧ (h 36 8) = (h 36 8) ∧ (h 46 3) = (h 46 3) ∧ (h 46 4) = (h 46 4) ∧ (h 49 4) = (h 49 4) ∧ (h 49 5) = (h 49 5) ∧ (h 64 0) = (h 64 0) ∧ (h 76 0) = (h 76 0); omega)⟩
        · skip
          refine ov_blk (ls2 := [(0, ov_r 0), (1, ov_i x), (2, ov_i y), (3, ov_i n), (4, ov_i b), (5, ov_i w), (6, ov_i v3)]) (st2 := [ov_i w]) (pc2 := 29) b_176_27_1 rfl rfl ?_
          refine ov_iflt (tgt := 38) d_176_29 (by decide) (by omega) (fun c8 => ?_) (fun c8 => ?_)
          · skip
            refine ov_blk (ls2 := [(0, ov_r 0), (1, ov_i x), (2, ov_i y), (3, ov_i n), (4, ov_i b), (5, ov_i w), (6, ov_i v3)]) (st2 := [ov_i (-1)]) (pc2 := 39) b_176_38_1 rfl rfl ?_
            exact ov_reti (st := []) d_176_39 rfl ⟨_, rfl, I, (by show (h 36 7) = (h 36 7) ∧ (h 1 1) = (h 1 1) ∧ (h 90 2) = (h 90 2) ∧ (h 0 10) = (h 0 10) ∧ (h 0 11) = (h 0 11) ∧ (h 0 12) = (h 0 12) ∧ (h 0 13) = (h 0 13) ∧ (h 3 1) = (h 3 1) ∧ (h 36 8) = (h 36 8) ∧ (h 46 3) = (h 46 3) ∧ (h 46 4) = (h 46 4) ∧ (h 49 4) = (h 49 4) ∧ (h 49 5) = (h 49 5) ∧ (h 64 0) = (h 64 0) ∧ (h 76 0) = (h 76 0); omega)⟩
          · skip
            refine ov_blk (ls2 := [(0, ov_r 0), (1, ov_i x), (2, ov_i y), (3, ov_i n), (4, ov_i b), (5, ov_i w), (6, ov_i v3)]) (st2 := [ov_i n, ov_i w]) (pc2 := 35) b_176_32_2 rfl rfl ?_
            refine ov_iclt (tgt := 40) d_176_35 (by decide) (by omega) (by omega) (fun c9 => ?_) (fun c9 => ?_)
            · skip
              refine ov_blk (ls2 := [(0, ov_r 0), (1, ov_i x), (2, ov_i y), (3, ov_i n), (4, ov_i b), (5, ov_i w), (6, ov_i v3)]) (st2 := [ov_r 0]) (pc2 := 41) b_176_40_1 rfl rfl ?_
              refine ov_getf (v := ov_r 58) d_176_41 fl_OF_78 (zb_0 I) (zs_0 I) (congrArg ov_r e1) ?_
              refine ov_blk (ls2 := [(0, ov_r 0), (1, ov_i x), (2, ov_i y), (3, ov_i n), (4, ov_i b), (5, ov_i w), (6, ov_i v3)]) (st2 := [ov_i ((y + n) - 1), ov_i x, ov_r 58]) (pc2 := 50) b_176_44_6 rfl rfl ?_
              refine ov_cV (as := [ov_i x, ov_i ((y + n) - 1)]) (st := []) (d2 := d - 1) d_176_50 lk_OF_131 rfl (Nat.le_of_ble_eq_true rfl) (c := 9) (zb_58 I) (zs_58 I) ⟨by decide, rfl⟩ (by omega) (c_Town_corner_58 (d - 1) (by omega) U I x ((y + n) - 1) (by omega) (by omega)) ?_
              rintro _ _ _ ⟨v11, rfl, rfl, rfl, f10⟩
              show ov_R u d ov_m176 53 [(0, ov_r 0), (1, ov_i x), (2, ov_i y), (3, ov_i n), (4, ov_i b), (5, ov_i w), (6, ov_i v3)] [ov_i v11] z h (P_OF_wave_0 F z h x y n b w)
              have f12 : v11 = -1 ∨ (0 ≤ x ∧ x < (h 58 0) ∧ 0 ≤ ((y + n) - 1) ∧ ((y + n) - 1) < (h 58 1) ∧ v11 = ((y + n) - 1) * 6 + x ∧ (h 58 0) ≤ 6 ∧ (h 58 1) ≤ 9) := f10
              clear f10
              refine ov_blk (ls2 := [(0, ov_r 0), (1, ov_i x), (2, ov_i y), (3, ov_i n), (4, ov_i b), (5, ov_i w), (6, ov_i v3)]) (st2 := [ov_i (-1), ov_i v11]) (pc2 := 54) b_176_53_1 rfl rfl ?_
              refine ov_iceq (tgt := 70) d_176_54 (by decide) (by omega) (by omega) (fun c13 => ?_) (fun c13 => ?_)
              · skip
                refine ov_blk (ls2 := [(0, ov_r 0), (1, ov_i x), (2, ov_i y), (3, ov_i n), (4, ov_i b), (5, ov_i w), (6, ov_i v3)]) (st2 := [ov_i (-1)]) (pc2 := 71) b_176_70_1 rfl rfl ?_
                exact ov_reti (st := []) d_176_71 rfl ⟨_, rfl, I, (by show (h 36 7) = (h 36 7) ∧ (h 1 1) = (h 1 1) ∧ (h 90 2) = (h 90 2) ∧ (h 0 10) = (h 0 10) ∧ (h 0 11) = (h 0 11) ∧ (h 0 12) = (h 0 12) ∧ (h 0 13) = (h 0 13) ∧ (h 3 1) = (h 3 1) ∧ (h 36 8) = (h 36 8) ∧ (h 46 3) = (h 46 3) ∧ (h 46 4) = (h 46 4) ∧ (h 49 4) = (h 49 4) ∧ (h 49 5) = (h 49 5) ∧ (h 64 0) = (h 64 0) ∧ (h 76 0) = (h 76 0); omega)⟩
              · skip
                refine ov_blk (ls2 := [(0, ov_r 0), (1, ov_i x), (2, ov_i y), (3, ov_i n), (4, ov_i b), (5, ov_i w), (6, ov_i v3)]) (st2 := [ov_r 0]) (pc2 := 58) b_176_57_1 rfl rfl ?_
                refine ov_getf (v := ov_r 58) d_176_58 fl_OF_78 (zb_0 I) (zs_0 I) (congrArg ov_r e1) ?_
                refine ov_blk (ls2 := [(0, ov_r 0), (1, ov_i x), (2, ov_i y), (3, ov_i n), (4, ov_i b), (5, ov_i w), (6, ov_i v3)]) (st2 := [ov_i n, ov_i v3, ov_r 58]) (pc2 := 64) b_176_61_2 rfl rfl ?_
                refine ov_cV (as := [ov_i v3, ov_i n]) (st := []) (d2 := d - 1) d_176_64 lk_OF_280 rfl (Nat.le_of_ble_eq_true rfl) (c := 9) (zb_58 I) (zs_58 I) ⟨by decide, rfl⟩ (by omega) (c_Town_shareRound_58 (d - 1) (by omega) U I v3 n (by omega) (by omega) (by omega) (by omega)) ?_
                rintro _ _ _ ⟨v15, rfl, rfl, rfl, f14⟩
                show ov_R u d ov_m176 67 [(0, ov_r 0), (1, ov_i x), (2, ov_i y), (3, ov_i n), (4, ov_i b), (5, ov_i w), (6, ov_i v3)] [ov_i v15] z h (P_OF_wave_0 F z h x y n b w)
                have f16 : (v15 = 0 ∨ v15 = 1) := f14
                clear f14
                refine ov_ifne (tgt := 72) d_176_67 (by decide) (by omega) (fun c17 => ?_) (fun c17 => ?_)
                · skip
                  refine ov_blk (ls2 := [(0, ov_r 0), (1, ov_i x), (2, ov_i y), (3, ov_i n), (4, ov_i b), (5, ov_i w), (6, ov_i v3)]) (st2 := [ov_r 0]) (pc2 := 73) b_176_72_1 rfl rfl ?_
                  refine ov_getf (v := ov_r 54) d_176_73 fl_OF_71 (zb_0 I) (zs_0 I) (congrArg ov_r (rg_0_9 I)) ?_
                  refine ov_blk (ls2 := [(0, ov_r 0), (1, ov_i x), (2, ov_i y), (3, ov_i n), (4, ov_i b), (5, ov_i w), (6, ov_i v3)]) (st2 := [ov_r 0, ov_r 54]) (pc2 := 77) b_176_76_1 rfl rfl ?_
                  refine ov_getf (v := ov_r 58) d_176_77 fl_OF_78 (zb_0 I) (zs_0 I) (congrArg ov_r e1) ?_
                  refine ov_blk (ls2 := [(0, ov_r 0), (1, ov_i x), (2, ov_i y), (3, ov_i n), (4, ov_i b), (5, ov_i w), (6, ov_i v3)]) (st2 := [ov_i b, ov_i n, ov_i v3, ov_r 58, ov_r 54]) (pc2 := 85) b_176_80_3 rfl rfl ?_
                  refine ov_cV (as := [ov_r 58, ov_i v3, ov_i n, ov_i b]) (st := []) (d2 := d - 1) d_176_85 lk_OF_283 rfl (Nat.le_of_ble_eq_true rfl) (c := 11) (zb_54 I) (zs_54 I) ⟨by decide, rfl⟩ (by omega) (c_Wave_solve_54_58 (d - 1) (by omega) U I v3 n b (by omega) (by omega) (by omega) (by omega) (by omega)) ?_
                  rintro _ z19 h20 ⟨rfl, I21, f18⟩
                  show ov_R u d ov_m176 88 [(0, ov_r 0), (1, ov_i x), (2, ov_i y), (3, ov_i n), (4, ov_i b), (5, ov_i w), (6, ov_i v3)] [] z19 h20 (P_OF_wave_0 F z h x y n b w)
                  have f22 : (h20 36 7) = (h 36 7) ∧ (h20 1 1) = (h 1 1) ∧ (h20 90 2) = (h 90 2) ∧ (h20 0 10) = (h 0 10) ∧ (h20 0 11) = (h 0 11) ∧ (h20 0 12) = (h 0 12) ∧ (h20 0 13) = (h 0 13) ∧ (h20 3 1) = (h 3 1) ∧ (h20 36 8) = (h 36 8) ∧ (h20 46 3) = (h 46 3) ∧ (h20 46 4) = (h 46 4) ∧ (h20 49 4) = (h 49 4) ∧ (h20 49 5) = (h 49 5) ∧ (h20 64 0) = (h 64 0) ∧ (h20 76 0) = (h 76 0) := f18
                  clear f18
                  have e23 : h20 0 10 = 58 := by omega
                  refine ov_blk (ls2 := [(0, ov_r 0), (1, ov_i x), (2, ov_i y), (3, ov_i n), (4, ov_i b), (5, ov_i w), (6, ov_i v3)]) (st2 := [ov_i w]) (pc2 := 90) b_176_88_1 rfl rfl ?_
                  refine ov_ifne (tgt := 103) d_176_90 (by decide) (by omega) (fun c24 => ?_) (fun c24 => ?_)
                  · skip
                    refine ov_blk (ls2 := [(0, ov_r 0), (1, ov_i x), (2, ov_i y), (3, ov_i n), (4, ov_i b), (5, ov_i w), (6, ov_i v3)]) (st2 := [ov_r 0]) (pc2 := 104) b_176_103_1 rfl rfl ?_
                    refine ov_getf (v := ov_r 54) d_176_104 fl_OF_71 (zb_0 I21) (zs_0 I21) (congrArg ov_r (rg_0_9 I21)) ?_
                    refine ov_getf (v := ov_r 55) d_176_107 fl_OF_289 (zb_54 I21) (zs_54 I21) (congrArg ov_r (rg_54_1 I21)) ?_
                    refine ov_blk (ls2 := [(0, ov_r 0), (1, ov_i x), (2, ov_i y), (3, ov_i n), (4, ov_i b), (5, ov_i w), (6, ov_i v3)]) (st2 := [ov_i w, ov_r 55]) (pc2 := 112) b_176_110_1 rfl rfl ?_
                    refine ov_iald d_176_112 (zb_55 I21) (zs_55 I21) (by omega) ?_
                    have g25 := ra_55 I21 w
                    exact ov_reti (st := []) d_176_113 rfl ⟨_, rfl, I21, (by show (h20 36 7) = (h 36 7) ∧ (h20 1 1) = (h 1 1) ∧ (h20 90 2) = (h 90 2) ∧ (h20 0 10) = (h 0 10) ∧ (h20 0 11) = (h 0 11) ∧ (h20 0 12) = (h 0 12) ∧ (h20 0 13) = (h 0 13) ∧ (h20 3 1) = (h 3 1) ∧ (h20 36 8) = (h 36 8) ∧ (h20 46 3) = (h 46 3) ∧ (h20 46 4) = (h 46 4) ∧ (h20 49 4) = (h 49 4) ∧ (h20 49 5) = (h 49 5) ∧ (h20 64 0) = (h 64 0) ∧ (h20 76 0) = (h 76 0); omega)⟩
                  · skip
                    refine ov_blk (ls2 := [(0, ov_r 0), (1, ov_i x), (2, ov_i y), (3, ov_i n), (4, ov_i b), (5, ov_i w), (6, ov_i v3)]) (st2 := [ov_r 0]) (pc2 := 94) b_176_93_1 rfl rfl ?_
                    refine ov_getf (v := ov_r 54) d_176_94 fl_OF_71 (zb_0 I21) (zs_0 I21) (congrArg ov_r (rg_0_9 I21)) ?_
                    refine ov_getf (v := ov_i (h20 54 0)) d_176_97 fl_OF_286 (zb_54 I21) (zs_54 I21) rfl ?_
                    have g26 := rg_54_0 I21
                    refine ov_goto (tgt := 113) d_176_100 (by decide) ?_
                    exact ov_reti (st := []) d_176_113 rfl ⟨_, rfl, I21, (by show (h20 36 7) = (h 36 7) ∧ (h20 1 1) = (h 1 1) ∧ (h20 90 2) = (h 90 2) ∧ (h20 0 10) = (h 0 10) ∧ (h20 0 11) = (h 0 11) ∧ (h20 0 12) = (h 0 12) ∧ (h20 0 13) = (h 0 13) ∧ (h20 3 1) = (h 3 1) ∧ (h20 36 8) = (h 36 8) ∧ (h20 46 3) = (h 46 3) ∧ (h20 46 4) = (h 46 4) ∧ (h20 49 4) = (h 49 4) ∧ (h20 49 5) = (h 49 5) ∧ (h20 64 0) = (h 64 0) ∧ (h20 76 0) = (h 76 0); omega)⟩
                · skip
                  refine ov_blk (ls2 := [(0, ov_r 0), (1, ov_i x), (2, ov_i y), (3, ov_i n), (4, ov_i b), (5, ov_i w), (6, ov_i v3)]) (st2 := [ov_i (-1)]) (pc2 := 71) b_176_70_1 rfl rfl ?_
                  exact ov_reti (st := []) d_176_71 rfl ⟨_, rfl, I, (by show (h 36 7) = (h 36 7) ∧ (h 1 1) = (h 1 1) ∧ (h 90 2) = (h 90 2) ∧ (h 0 10) = (h 0 10) ∧ (h 0 11) = (h 0 11) ∧ (h 0 12) = (h 0 12) ∧ (h 0 13) = (h 0 13) ∧ (h 3 1) = (h 3 1) ∧ (h 36 8) = (h 36 8) ∧ (h 46 3) = (h 46 3) ∧ (h 46 4) = (h 46 4) ∧ (h 49 4) = (h 49 4) ∧ (h 49 5) = (h 49 5) ∧ (h 64 0) = (h 64 0) ∧ (h 76 0) = (h 76 0); omega)⟩
            · skip
              refine ov_blk (ls2 := [(0, ov_r 0), (1, ov_i x), (2, ov_i y), (3, ov_i n), (4, ov_i b), (5, ov_i w), (6, ov_i v3)]) (st2 := [ov_i (-1)]) (pc2 := 39) b_176_38_1 rfl rfl ?_
              exact ov_reti (st := []) d_176_39 rfl ⟨_, rfl, I, (by show (h 36 7) = (h 36 7) ∧ (h 1 1) = (h 1 1) ∧ (h 90 2) = (h 90 2) ∧ (h 0 10) = (h 0 10) ∧ (h 0 11) = (h 0 11) ∧ (h 0 12) = (h 0 12) ∧ (h 0 13) = (h 0 13) ∧ (h 3 1) = (h 3 1) ∧ (h 36 8) = (h 36 8) ∧ (h 46 3) = (h 46 3) ∧ (h 46 4) = (h 46 4) ∧ (h 49 4) = (h 49 4) ∧ (h 49 5) = (h 49 5) ∧ (h 64 0) = (h 64 0) ∧ (h 76 0) = (h 76 0); omega)⟩
  · skip
    refine ov_getf (v := ov_r 70) d_176_1 fl_OF_78 (zb_0 I) (zs_0 I) (congrArg ov_r e1) ?_
    refine ov_blk (ls2 := [(0, ov_r 0), (1, ov_i x), (2, ov_i y), (3, ov_i n), (4, ov_i b), (5, ov_i w)]) (st2 := [ov_i y, ov_i x, ov_r 70]) (pc2 := 6) b_176_4_2 rfl rfl ?_
    refine ov_cV (as := [ov_i x, ov_i y]) (st := []) (d2 := d - 1) d_176_6 lk_OF_131 rfl (Nat.le_of_ble_eq_true rfl) (c := 9) (zb_70 I) (zs_70 I) ⟨by decide, rfl⟩ (by omega) (c_Town_corner_70 (d - 1) (by omega) U I x y (by omega) (by omega)) ?_
    rintro _ _ _ ⟨v28, rfl, rfl, rfl, f27⟩
    show ov_R u d ov_m176 9 [(0, ov_r 0), (1, ov_i x), (2, ov_i y), (3, ov_i n), (4, ov_i b), (5, ov_i w)] [ov_i v28] z h (P_OF_wave_0 F z h x y n b w)
    have f29 : v28 = -1 ∨ (0 ≤ x ∧ x < (h 70 0) ∧ 0 ≤ y ∧ y < (h 70 1) ∧ v28 = y * 6 + x ∧ (h 70 0) ≤ 6 ∧ (h 70 1) ≤ 9) := f27
    clear f27
    refine ov_blk (ls2 := [(0, ov_r 0), (1, ov_i x), (2, ov_i y), (3, ov_i n), (4, ov_i b), (5, ov_i w), (6, ov_i v28)]) (st2 := [ov_i (-1), ov_i v28]) (pc2 := 14) b_176_9_3 rfl rfl ?_
    refine ov_iceq (tgt := 38) d_176_14 (by decide) (by omega) (by omega) (fun c30 => ?_) (fun c30 => ?_)
    · skip
      refine ov_blk (ls2 := [(0, ov_r 0), (1, ov_i x), (2, ov_i y), (3, ov_i n), (4, ov_i b), (5, ov_i w), (6, ov_i v28)]) (st2 := [ov_i (-1)]) (pc2 := 39) b_176_38_1 rfl rfl ?_
      exact ov_reti (st := []) d_176_39 rfl ⟨_, rfl, I, (by show (h 36 7) = (h 36 7) ∧ (h 1 1) = (h 1 1) ∧ (h 90 2) = (h 90 2) ∧ (h 0 10) = (h 0 10) ∧ (h 0 11) = (h 0 11) ∧ (h 0 12) = (h 0 12) ∧ (h 0 13) = (h 0 13) ∧ (h 3 1) = (h 3 1) ∧ (h 36 8) = (h 36 8) ∧ (h 46 3) = (h 46 3) ∧ (h 46 4) = (h 46 4) ∧ (h 49 4) = (h 49 4) ∧ (h 49 5) = (h 49 5) ∧ (h 64 0) = (h 64 0) ∧ (h 76 0) = (h 76 0); omega)⟩
    · skip
      refine ov_blk (ls2 := [(0, ov_r 0), (1, ov_i x), (2, ov_i y), (3, ov_i n), (4, ov_i b), (5, ov_i w), (6, ov_i v28)]) (st2 := [ov_i 2, ov_i n]) (pc2 := 19) b_176_17_2 rfl rfl ?_
      refine ov_iclt (tgt := 38) d_176_19 (by decide) (by omega) (by omega) (fun c31 => ?_) (fun c31 => ?_)
      · skip
        refine ov_blk (ls2 := [(0, ov_r 0), (1, ov_i x), (2, ov_i y), (3, ov_i n), (4, ov_i b), (5, ov_i w), (6, ov_i v28)]) (st2 := [ov_i (-1)]) (pc2 := 39) b_176_38_1 rfl rfl ?_
        exact ov_reti (st := []) d_176_39 rfl ⟨_, rfl, I, (by show (h 36 7) = (h 36 7) ∧ (h 1 1) = (h 1 1) ∧ (h 90 2) = (h 90 2) ∧ (h 0 10) = (h 0 10) ∧ (h 0 11) = (h 0 11) ∧ (h 0 12) = (h 0 12) ∧ (h 0 13) = (h 0 13) ∧ (h 3 1) = (h 3 1) ∧ (h 36 8) = (h 36 8) ∧ (h 46 3) = (h 46 3) ∧ (h 46 4) = (h 46 4) ∧ (h 49 4) = (h 49 4) ∧ (h 49 5) = (h 49 5) ∧ (h 64 0) = (h 64 0) ∧ (h 76 0) = (h 76 0); omega)⟩
      · skip
        refine ov_blk (ls2 := [(0, ov_r 0), (1, ov_i x), (2, ov_i y), (3, ov_i n), (4, ov_i b), (5, ov_i w), (6, ov_i v28)]) (st2 := [ov_i 4, ov_i n]) (pc2 := 24) b_176_22_2 rfl rfl ?_
        refine ov_icgt (tgt := 38) d_176_24 (by decide) (by omega) (by omega) (fun c32 => ?_) (fun c32 => ?_)
        · skip
          refine ov_blk (ls2 := [(0, ov_r 0), (1, ov_i x), (2, ov_i y), (3, ov_i n), (4, ov_i b), (5, ov_i w), (6, ov_i v28)]) (st2 := [ov_i (-1)]) (pc2 := 39) b_176_38_1 rfl rfl ?_
          exact ov_reti (st := []) d_176_39 rfl ⟨_, rfl, I, (by show (h 36 7) = (h 36 7) ∧ (h 1 1) = (h 1 1) ∧ (h 90 2) = (h 90 2) ∧ (h 0 10) = (h 0 10) ∧ (h 0 11) = (h 0 11) ∧ (h 0 12) = (h 0 12) ∧ (h 0 13) = (h 0 13) ∧ (h 3 1) = (h 3 1) ∧ (h 36 8) = (h 36 8) ∧ (h 46 3) = (h 46 3) ∧ (h 46 4) = (h 46 4) ∧ (h 49 4) = (h 49 4) ∧ (h 49 5) = (h 49 5) ∧ (h 64 0) = (h 64 0) ∧ (h 76 0) = (h 76 0); omega)⟩
        · skip
          refine ov_blk (ls2 := [(0, ov_r 0), (1, ov_i x), (2, ov_i y), (3, ov_i n), (4, ov_i b), (5, ov_i w), (6, ov_i v28)]) (st2 := [ov_i w]) (pc2 := 29) b_176_27_1 rfl rfl ?_
          refine ov_iflt (tgt := 38) d_176_29 (by decide) (by omega) (fun c33 => ?_) (fun c33 => ?_)
          · skip
            refine ov_blk (ls2 := [(0, ov_r 0), (1, ov_i x), (2, ov_i y), (3, ov_i n), (4, ov_i b), (5, ov_i w), (6, ov_i v28)]) (st2 := [ov_i (-1)]) (pc2 := 39) b_176_38_1 rfl rfl ?_
            exact ov_reti (st := []) d_176_39 rfl ⟨_, rfl, I, (by show (h 36 7) = (h 36 7) ∧ (h 1 1) = (h 1 1) ∧ (h 90 2) = (h 90 2) ∧ (h 0 10) = (h 0 10) ∧ (h 0 11) = (h 0 11) ∧ (h 0 12) = (h 0 12) ∧ (h 0 13) = (h 0 13) ∧ (h 3 1) = (h 3 1) ∧ (h 36 8) = (h 36 8) ∧ (h 46 3) = (h 46 3) ∧ (h 46 4) = (h 46 4) ∧ (h 49 4) = (h 49 4) ∧ (h 49 5) = (h 49 5) ∧ (h 64 0) = (h 64 0) ∧ (h 76 0) = (h 76 0); omega)⟩
          · skip
            refine ov_blk (ls2 := [(0, ov_r 0), (1, ov_i x), (2, ov_i y), (3, ov_i n), (4, ov_i b), (5, ov_i w), (6, ov_i v28)]) (st2 := [ov_i n, ov_i w]) (pc2 := 35) b_176_32_2 rfl rfl ?_
            refine ov_iclt (tgt := 40) d_176_35 (by decide) (by omega) (by omega) (fun c34 => ?_) (fun c34 => ?_)
            · skip
              refine ov_blk (ls2 := [(0, ov_r 0), (1, ov_i x), (2, ov_i y), (3, ov_i n), (4, ov_i b), (5, ov_i w), (6, ov_i v28)]) (st2 := [ov_r 0]) (pc2 := 41) b_176_40_1 rfl rfl ?_
              refine ov_getf (v := ov_r 70) d_176_41 fl_OF_78 (zb_0 I) (zs_0 I) (congrArg ov_r e1) ?_
              refine ov_blk (ls2 := [(0, ov_r 0), (1, ov_i x), (2, ov_i y), (3, ov_i n), (4, ov_i b), (5, ov_i w), (6, ov_i v28)]) (st2 := [ov_i ((y + n) - 1), ov_i x, ov_r 70]) (pc2 := 50) b_176_44_6 rfl rfl ?_
              refine ov_cV (as := [ov_i x, ov_i ((y + n) - 1)]) (st := []) (d2 := d - 1) d_176_50 lk_OF_131 rfl (Nat.le_of_ble_eq_true rfl) (c := 9) (zb_70 I) (zs_70 I) ⟨by decide, rfl⟩ (by omega) (c_Town_corner_70 (d - 1) (by omega) U I x ((y + n) - 1) (by omega) (by omega)) ?_
              rintro _ _ _ ⟨v36, rfl, rfl, rfl, f35⟩
              show ov_R u d ov_m176 53 [(0, ov_r 0), (1, ov_i x), (2, ov_i y), (3, ov_i n), (4, ov_i b), (5, ov_i w), (6, ov_i v28)] [ov_i v36] z h (P_OF_wave_0 F z h x y n b w)
              have f37 : v36 = -1 ∨ (0 ≤ x ∧ x < (h 70 0) ∧ 0 ≤ ((y + n) - 1) ∧ ((y + n) - 1) < (h 70 1) ∧ v36 = ((y + n) - 1) * 6 + x ∧ (h 70 0) ≤ 6 ∧ (h 70 1) ≤ 9) := f35
              clear f35
              refine ov_blk (ls2 := [(0, ov_r 0), (1, ov_i x), (2, ov_i y), (3, ov_i n), (4, ov_i b), (5, ov_i w), (6, ov_i v28)]) (st2 := [ov_i (-1), ov_i v36]) (pc2 := 54) b_176_53_1 rfl rfl ?_
              refine ov_iceq (tgt := 70) d_176_54 (by decide) (by omega) (by omega) (fun c38 => ?_) (fun c38 => ?_)
              · skip
                refine ov_blk (ls2 := [(0, ov_r 0), (1, ov_i x), (2, ov_i y), (3, ov_i n), (4, ov_i b), (5, ov_i w), (6, ov_i v28)]) (st2 := [ov_i (-1)]) (pc2 := 71) b_176_70_1 rfl rfl ?_
                exact ov_reti (st := []) d_176_71 rfl ⟨_, rfl, I, (by show (h 36 7) = (h 36 7) ∧ (h 1 1) = (h 1 1) ∧ (h 90 2) = (h 90 2) ∧ (h 0 10) = (h 0 10) ∧ (h 0 11) = (h 0 11) ∧ (h 0 12) = (h 0 12) ∧ (h 0 13) = (h 0 13) ∧ (h 3 1) = (h 3 1) ∧ (h 36 8) = (h 36 8) ∧ (h 46 3) = (h 46 3) ∧ (h 46 4) = (h 46 4) ∧ (h 49 4) = (h 49 4) ∧ (h 49 5) = (h 49 5) ∧ (h 64 0) = (h 64 0) ∧ (h 76 0) = (h 76 0); omega)⟩
              · skip
                refine ov_blk (ls2 := [(0, ov_r 0), (1, ov_i x), (2, ov_i y), (3, ov_i n), (4, ov_i b), (5, ov_i w), (6, ov_i v28)]) (st2 := [ov_r 0]) (pc2 := 58) b_176_57_1 rfl rfl ?_
                refine ov_getf (v := ov_r 70) d_176_58 fl_OF_78 (zb_0 I) (zs_0 I) (congrArg ov_r e1) ?_
                refine ov_blk (ls2 := [(0, ov_r 0), (1, ov_i x), (2, ov_i y), (3, ov_i n), (4, ov_i b), (5, ov_i w), (6, ov_i v28)]) (st2 := [ov_i n, ov_i v28, ov_r 70]) (pc2 := 64) b_176_61_2 rfl rfl ?_
                refine ov_cV (as := [ov_i v28, ov_i n]) (st := []) (d2 := d - 1) d_176_64 lk_OF_280 rfl (Nat.le_of_ble_eq_true rfl) (c := 9) (zb_70 I) (zs_70 I) ⟨by decide, rfl⟩ (by omega) (c_Town_shareRound_70 (d - 1) (by omega) U I v28 n (by omega) (by omega) (by omega) (by omega)) ?_
                rintro _ _ _ ⟨v40, rfl, rfl, rfl, f39⟩
                show ov_R u d ov_m176 67 [(0, ov_r 0), (1, ov_i x), (2, ov_i y), (3, ov_i n), (4, ov_i b), (5, ov_i w), (6, ov_i v28)] [ov_i v40] z h (P_OF_wave_0 F z h x y n b w)
                have f41 : (v40 = 0 ∨ v40 = 1) := f39
                clear f39
                refine ov_ifne (tgt := 72) d_176_67 (by decide) (by omega) (fun c42 => ?_) (fun c42 => ?_)
                · skip
                  refine ov_blk (ls2 := [(0, ov_r 0), (1, ov_i x), (2, ov_i y), (3, ov_i n), (4, ov_i b), (5, ov_i w), (6, ov_i v28)]) (st2 := [ov_r 0]) (pc2 := 73) b_176_72_1 rfl rfl ?_
                  refine ov_getf (v := ov_r 54) d_176_73 fl_OF_71 (zb_0 I) (zs_0 I) (congrArg ov_r (rg_0_9 I)) ?_
                  refine ov_blk (ls2 := [(0, ov_r 0), (1, ov_i x), (2, ov_i y), (3, ov_i n), (4, ov_i b), (5, ov_i w), (6, ov_i v28)]) (st2 := [ov_r 0, ov_r 54]) (pc2 := 77) b_176_76_1 rfl rfl ?_
                  refine ov_getf (v := ov_r 70) d_176_77 fl_OF_78 (zb_0 I) (zs_0 I) (congrArg ov_r e1) ?_
                  refine ov_blk (ls2 := [(0, ov_r 0), (1, ov_i x), (2, ov_i y), (3, ov_i n), (4, ov_i b), (5, ov_i w), (6, ov_i v28)]) (st2 := [ov_i b, ov_i n, ov_i v28, ov_r 70, ov_r 54]) (pc2 := 85) b_176_80_3 rfl rfl ?_
                  refine ov_cV (as := [ov_r 70, ov_i v28, ov_i n, ov_i b]) (st := []) (d2 := d - 1) d_176_85 lk_OF_283 rfl (Nat.le_of_ble_eq_true rfl) (c := 11) (zb_54 I) (zs_54 I) ⟨by decide, rfl⟩ (by omega) (c_Wave_solve_54_70 (d - 1) (by omega) U I v28 n b (by omega) (by omega) (by omega) (by omega) (by omega)) ?_
                  rintro _ z44 h45 ⟨rfl, I46, f43⟩
                  show ov_R u d ov_m176 88 [(0, ov_r 0), (1, ov_i x), (2, ov_i y), (3, ov_i n), (4, ov_i b), (5, ov_i w), (6, ov_i v28)] [] z44 h45 (P_OF_wave_0 F z h x y n b w)
                  have f47 : (h45 36 7) = (h 36 7) ∧ (h45 1 1) = (h 1 1) ∧ (h45 90 2) = (h 90 2) ∧ (h45 0 10) = (h 0 10) ∧ (h45 0 11) = (h 0 11) ∧ (h45 0 12) = (h 0 12) ∧ (h45 0 13) = (h 0 13) ∧ (h45 3 1) = (h 3 1) ∧ (h45 36 8) = (h 36 8) ∧ (h45 46 3) = (h 46 3) ∧ (h45 46 4) = (h 46 4) ∧ (h45 49 4) = (h 49 4) ∧ (h45 49 5) = (h 49 5) ∧ (h45 64 0) = (h 64 0) ∧ (h45 76 0) = (h 76 0) := f43
                  clear f43
                  have e48 : h45 0 10 = 70 := by omega
                  refine ov_blk (ls2 := [(0, ov_r 0), (1, ov_i x), (2, ov_i y), (3, ov_i n), (4, ov_i b), (5, ov_i w), (6, ov_i v28)]) (st2 := [ov_i w]) (pc2 := 90) b_176_88_1 rfl rfl ?_
                  refine ov_ifne (tgt := 103) d_176_90 (by decide) (by omega) (fun c49 => ?_) (fun c49 => ?_)
                  · skip
                    refine ov_blk (ls2 := [(0, ov_r 0), (1, ov_i x), (2, ov_i y), (3, ov_i n), (4, ov_i b), (5, ov_i w), (6, ov_i v28)]) (st2 := [ov_r 0]) (pc2 := 104) b_176_103_1 rfl rfl ?_
                    refine ov_getf (v := ov_r 54) d_176_104 fl_OF_71 (zb_0 I46) (zs_0 I46) (congrArg ov_r (rg_0_9 I46)) ?_
                    refine ov_getf (v := ov_r 55) d_176_107 fl_OF_289 (zb_54 I46) (zs_54 I46) (congrArg ov_r (rg_54_1 I46)) ?_
                    refine ov_blk (ls2 := [(0, ov_r 0), (1, ov_i x), (2, ov_i y), (3, ov_i n), (4, ov_i b), (5, ov_i w), (6, ov_i v28)]) (st2 := [ov_i w, ov_r 55]) (pc2 := 112) b_176_110_1 rfl rfl ?_
                    refine ov_iald d_176_112 (zb_55 I46) (zs_55 I46) (by omega) ?_
                    have g50 := ra_55 I46 w
                    exact ov_reti (st := []) d_176_113 rfl ⟨_, rfl, I46, (by show (h45 36 7) = (h 36 7) ∧ (h45 1 1) = (h 1 1) ∧ (h45 90 2) = (h 90 2) ∧ (h45 0 10) = (h 0 10) ∧ (h45 0 11) = (h 0 11) ∧ (h45 0 12) = (h 0 12) ∧ (h45 0 13) = (h 0 13) ∧ (h45 3 1) = (h 3 1) ∧ (h45 36 8) = (h 36 8) ∧ (h45 46 3) = (h 46 3) ∧ (h45 46 4) = (h 46 4) ∧ (h45 49 4) = (h 49 4) ∧ (h45 49 5) = (h 49 5) ∧ (h45 64 0) = (h 64 0) ∧ (h45 76 0) = (h 76 0); omega)⟩
                  · skip
                    refine ov_blk (ls2 := [(0, ov_r 0), (1, ov_i x), (2, ov_i y), (3, ov_i n), (4, ov_i b), (5, ov_i w), (6, ov_i v28)]) (st2 := [ov_r 0]) (pc2 := 94) b_176_93_1 rfl rfl ?_
                    refine ov_getf (v := ov_r 54) d_176_94 fl_OF_71 (zb_0 I46) (zs_0 I46) (congrArg ov_r (rg_0_9 I46)) ?_
                    refine ov_getf (v := ov_i (h45 54 0)) d_176_97 fl_OF_286 (zb_54 I46) (zs_54 I46) rfl ?_
                    have g51 := rg_54_0 I46
                    refine ov_goto (tgt := 113) d_176_100 (by decide) ?_
                    exact ov_reti (st := []) d_176_113 rfl ⟨_, rfl, I46, (by show (h45 36 7) = (h 36 7) ∧ (h45 1 1) = (h 1 1) ∧ (h45 90 2) = (h 90 2) ∧ (h45 0 10) = (h 0 10) ∧ (h45 0 11) = (h 0 11) ∧ (h45 0 12) = (h 0 12) ∧ (h45 0 13) = (h 0 13) ∧ (h45 3 1) = (h 3 1) ∧ (h45 36 8) = (h 36 8) ∧ (h45 46 3) = (h 46 3) ∧ (h45 46 4) = (h 46 4) ∧ (h45 49 4) = (h 49 4) ∧ (h45 49 5) = (h 49 5) ∧ (h45 64 0) = (h 64 0) ∧ (h45 76 0) = (h 76 0); omega)⟩
                · skip
                  refine ov_blk (ls2 := [(0, ov_r 0), (1, ov_i x), (2, ov_i y), (3, ov_i n), (4, ov_i b), (5, ov_i w), (6, ov_i v28)]) (st2 := [ov_i (-1)]) (pc2 := 71) b_176_70_1 rfl rfl ?_
                  exact ov_reti (st := []) d_176_71 rfl ⟨_, rfl, I, (by show (h 36 7) = (h 36 7) ∧ (h 1 1) = (h 1 1) ∧ (h 90 2) = (h 90 2) ∧ (h 0 10) = (h 0 10) ∧ (h 0 11) = (h 0 11) ∧ (h 0 12) = (h 0 12) ∧ (h 0 13) = (h 0 13) ∧ (h 3 1) = (h 3 1) ∧ (h 36 8) = (h 36 8) ∧ (h 46 3) = (h 46 3) ∧ (h 46 4) = (h 46 4) ∧ (h 49 4) = (h 49 4) ∧ (h 49 5) = (h 49 5) ∧ (h 64 0) = (h 64 0) ∧ (h 76 0) = (h 76 0); omega)⟩
            · skip
              refine ov_blk (ls2 := [(0, ov_r 0), (1, ov_i x), (2, ov_i y), (3, ov_i n), (4, ov_i b), (5, ov_i w), (6, ov_i v28)]) (st2 := [ov_i (-1)]) (pc2 := 39) b_176_38_1 rfl rfl ?_
              exact ov_reti (st := []) d_176_39 rfl ⟨_, rfl, I, (by show (h 36 7) = (h 36 7) ∧ (h 1 1) = (h 1 1) ∧ (h 90 2) = (h 90 2) ∧ (h 0 10) = (h 0 10) ∧ (h 0 11) = (h 0 11) ∧ (h 0 12) = (h 0 12) ∧ (h 0 13) = (h 0 13) ∧ (h 3 1) = (h 3 1) ∧ (h 36 8) = (h 36 8) ∧ (h 46 3) = (h 46 3) ∧ (h 46 4) = (h 46 4) ∧ (h 49 4) = (h 49 4) ∧ (h 49 5) = (h 49 5) ∧ (h 64 0) = (h 64 0) ∧ (h 76 0) = (h 76 0); omega)⟩
abbrev P_OF_rules_0 (F : ov_H) (z : ov_Z) (h : ov_H)  : Option ov_V → ov_Z → ov_H → Prop := fun r0 z' h' => ∃ r : Int, r0 = some (ov_i r) ∧ ov_I F z' h' ∧ (((h' 36 7) = 1 → (h' 36 8) = (h' 0 10)) ∧ (h' 1 1) = (h 1 1) ∧ (h' 90 2) = (h 90 2) ∧ (h' 0 10) = (h 0 10) ∧ (h' 0 11) = (h 0 11) ∧ (h' 0 12) = (h 0 12) ∧ (h' 0 13) = (h 0 13) ∧ (h' 3 1) = (h 3 1) ∧ (h' 46 3) = (h 46 3) ∧ (h' 46 4) = (h 46 4) ∧ (h' 49 4) = (h 49 4) ∧ (h' 49 5) = (h 49 5) ∧ (h' 64 0) = (h 64 0) ∧ (h' 76 0) = (h 76 0))
set_option maxHeartbeats 4000000 in
theorem c_OF_rules_0 {u : ov_U} {F : ov_H} {z : ov_Z} {h : ov_H} (d : Nat) (hd : 302 ≤ d) (U : ov_cap u) (I : ov_I F z h) (hw : ov_kw 2418441935039617055064064 F) (p0 : h 36 7 = 1 → h 36 8 = h 0 10) (p1 : (h 0 10 = 58 ∧ F (-5) 58 = 1 ∨ h 0 10 = 70 ∧ F (-5) 70 = 1)) : ov_T u d ov_m184 [ov_r 0] z h (P_OF_rules_0 F z h) := by
  refine ov_en rfl (Nat.le_of_ble_eq_true rfl) ?_
  show ov_R u d ov_m184 0 [(0, ov_r 0)] [] z h (P_OF_rules_0 F z h)
  refine ov_blk (ls2 := [(0, ov_r 0), (1, ov_i (-1)), (2, ov_i (-1)), (3, ov_i 0)]) (st2 := []) (pc2 := 6) b_184_0_6 rfl rfl ?_
  have L4 : ∀ (n1 : Nat) (x1 : Int) (x2 : Int) (x3 : Int) (z5 : ov_Z) (h6 : ov_H) (I7 : ov_I F z5 h6) (q3 : ov_g x1 ∧ -1 ≤ x2 ∧ x2 ≤ 4 ∧ 0 ≤ x3 ∧ x3 ≤ 4 ∧ ((h6 36 7) = 1 → (h6 36 8) = (h6 0 10)) ∧ (h6 1 1) = (h 1 1) ∧ (h6 90 2) = (h 90 2) ∧ (h6 0 10) = (h 0 10) ∧ (h6 0 11) = (h 0 11) ∧ (h6 0 12) = (h 0 12) ∧ (h6 0 13) = (h 0 13) ∧ (h6 3 1) = (h 3 1) ∧ (h6 46 3) = (h 46 3) ∧ (h6 46 4) = (h 46 4) ∧ (h6 49 4) = (h 49 4) ∧ (h6 49 5) = (h 49 5) ∧ (h6 64 0) = (h 64 0) ∧ (h6 76 0) = (h 76 0)), 4 - x3 < (n1 : Int) → ov_R u d ov_m184 6 [(0, ov_r 0), (1, ov_i x1), (2, ov_i x2), (3, ov_i x3)] [] z5 h6 (P_OF_rules_0 F z h) := by
    intro n1
    induction n1 with
    | zero =>
      intro x1 x2 x3 z5 h6 I7 q3 hn8
      exact absurd hn8 (by omega)
    | succ n1 ih2 =>
      intro x1 x2 x3 z5 h6 I7 q3 hn8
      refine ov_blk (ls2 := [(0, ov_r 0), (1, ov_i x1), (2, ov_i x2), (3, ov_i x3)]) (st2 := [ov_r 0, ov_i x3]) (pc2 := 8) b_184_6_2 rfl rfl ?_
      rcases rg_0_10 I7 with e9 | e9
      · skip
        refine ov_getf (v := ov_r 58) d_184_8 fl_OF_78 (zb_0 I7) (zs_0 I7) (congrArg ov_r e9) ?_
        refine ov_getf (v := ov_i (h6 58 11)) d_184_11 fl_OF_292 (zb_58 I7) (zs_58 I7) rfl ?_
        have g10 := rg_58_11 I7
        refine ov_icge (tgt := 57) d_184_14 (by decide) (by omega) (by omega) (fun c11 => ?_) (fun c11 => ?_)
        · skip
          refine ov_blk (ls2 := [(0, ov_r 0), (1, ov_i x1), (2, ov_i x2), (3, ov_i x3)]) (st2 := [ov_i x2]) (pc2 := 58) b_184_57_1 rfl rfl ?_
          exact ov_reti (st := []) d_184_58 rfl ⟨_, rfl, I7, (by show ((h6 36 7) = 1 → (h6 36 8) = (h6 0 10)) ∧ (h6 1 1) = (h 1 1) ∧ (h6 90 2) = (h 90 2) ∧ (h6 0 10) = (h 0 10) ∧ (h6 0 11) = (h 0 11) ∧ (h6 0 12) = (h 0 12) ∧ (h6 0 13) = (h 0 13) ∧ (h6 3 1) = (h 3 1) ∧ (h6 46 3) = (h 46 3) ∧ (h6 46 4) = (h 46 4) ∧ (h6 49 4) = (h 49 4) ∧ (h6 49 5) = (h 49 5) ∧ (h6 64 0) = (h 64 0) ∧ (h6 76 0) = (h 76 0); omega)⟩
        · skip
          refine ov_blk (ls2 := [(0, ov_r 0), (1, ov_i x1), (2, ov_i x2), (3, ov_i x3)]) (st2 := [ov_i 0, ov_i 0, ov_i 0, ov_i (4 + x3), ov_r 0]) (pc2 := 24) b_184_17_7 rfl rfl ?_
          refine ov_cV (as := [ov_i (4 + x3), ov_i 0, ov_i 0, ov_i 0]) (st := []) (d2 := d - 1) d_184_24 lk_OF_211 rfl (Nat.le_of_ble_eq_true rfl) (c := 0) (zb_0 I7) (zs_0 I7) ⟨by decide, rfl⟩ (by omega) (c_OF_reckoned_0 (d - 1) (by omega) U I7 (ov_kws hw (by decide +kernel)) (4 + x3) 0 0 0 (by omega) (by omega) (by omega) (by omega) (by omega) (by omega) (by omega)) ?_
          rintro _ z14 h15 ⟨v13, rfl, I16, f12⟩
          show ov_R u d ov_m184 27 [(0, ov_r 0), (1, ov_i x1), (2, ov_i x2), (3, ov_i x3)] [ov_i v13] z14 h15 (P_OF_rules_0 F z h)
          have f17 : -2147483648 ≤ v13 ∧ v13 ≤ 2147483647 ∧ ((h15 36 7) = 1 → (h15 36 8) = (h15 0 10)) ∧ (¬ v13 = -1 → (h15 36 8) = (h15 0 10)) ∧ (h15 1 1) = (h6 1 1) ∧ (h15 90 2) = (h6 90 2) ∧ (h15 0 10) = (h6 0 10) ∧ (h15 0 11) = (h6 0 11) ∧ (h15 0 12) = (h6 0 12) ∧ (h15 0 13) = (h6 0 13) ∧ (h15 3 1) = (h6 3 1) ∧ (h15 46 3) = (h6 46 3) ∧ (h15 46 4) = (h6 46 4) ∧ (h15 49 4) = (h6 49 4) ∧ (h15 49 5) = (h6 49 5) ∧ (h15 64 0) = (h6 64 0) ∧ (h15 76 0) = (h6 76 0) := f12
          clear f12
          have e18 : h15 0 10 = 58 := by omega
          refine ov_blk (ls2 := [(0, ov_r 0), (1, ov_i x1), (2, ov_i x2), (3, ov_i x3), (4, ov_i v13)]) (st2 := [ov_i (-1), ov_i v13]) (pc2 := 32) b_184_27_3 rfl rfl ?_
          refine ov_iceq (tgt := 51) d_184_32 (by decide) (by omega) (by omega) (fun c19 => ?_) (fun c19 => ?_)
          · skip
            refine ov_blk (ls2 := [(0, ov_r 0), (1, ov_i x1), (2, ov_i x2), (3, ov_i (x3 + 1)), (4, ov_i v13)]) (st2 := []) (pc2 := 54) b_184_51_1 rfl rfl ?_
            refine ov_goto (tgt := 6) d_184_54 (by decide) ?_
            refine ov_sub (ls2 := [(0, ov_r 0), (1, ov_i x1), (2, ov_i x2), (3, ov_i (x3 + 1))]) (List.Sublist.subset (by repeat (first | exact List.Sublist.refl _ | apply List.Sublist.cons_cons | apply List.Sublist.cons))) ?_
            exact ih2 x1 x2 (x3 + 1) _ _ I16 (by show ov_g x1 ∧ -1 ≤ x2 ∧ x2 ≤ 4 ∧ 0 ≤ (x3 + 1) ∧ (x3 + 1) ≤ 4 ∧ ((h15 36 7) = 1 → (h15 36 8) = (h15 0 10)) ∧ (h15 1 1) = (h 1 1) ∧ (h15 90 2) = (h 90 2) ∧ (h15 0 10) = (h 0 10) ∧ (h15 0 11) = (h 0 11) ∧ (h15 0 12) = (h 0 12) ∧ (h15 0 13) = (h 0 13) ∧ (h15 3 1) = (h 3 1) ∧ (h15 46 3) = (h 46 3) ∧ (h15 46 4) = (h 46 4) ∧ (h15 49 4) = (h 49 4) ∧ (h15 49 5) = (h 49 5) ∧ (h15 64 0) = (h 64 0) ∧ (h15 76 0) = (h 76 0); omega) (by omega)
          · skip
            refine ov_blk (ls2 := [(0, ov_r 0), (1, ov_i x1), (2, ov_i x2), (3, ov_i x3), (4, ov_i v13)]) (st2 := [ov_i (-1), ov_i x1]) (pc2 := 37) b_184_35_2 rfl rfl ?_
            refine ov_iceq (tgt := 46) d_184_37 (by decide) (by omega) (by omega) (fun c20 => ?_) (fun c20 => ?_)
            · skip
              refine ov_blk (ls2 := [(0, ov_r 0), (1, ov_i v13), (2, ov_i x3), (3, ov_i (x3 + 1)), (4, ov_i v13)]) (st2 := []) (pc2 := 54) b_184_46_5 rfl rfl ?_
              refine ov_goto (tgt := 6) d_184_54 (by decide) ?_
              refine ov_sub (ls2 := [(0, ov_r 0), (1, ov_i v13), (2, ov_i x3), (3, ov_i (x3 + 1))]) (List.Sublist.subset (by repeat (first | exact List.Sublist.refl _ | apply List.Sublist.cons_cons | apply List.Sublist.cons))) ?_
              exact ih2 v13 x3 (x3 + 1) _ _ I16 (by show ov_g v13 ∧ -1 ≤ x3 ∧ x3 ≤ 4 ∧ 0 ≤ (x3 + 1) ∧ (x3 + 1) ≤ 4 ∧ ((h15 36 7) = 1 → (h15 36 8) = (h15 0 10)) ∧ (h15 1 1) = (h 1 1) ∧ (h15 90 2) = (h 90 2) ∧ (h15 0 10) = (h 0 10) ∧ (h15 0 11) = (h 0 11) ∧ (h15 0 12) = (h 0 12) ∧ (h15 0 13) = (h 0 13) ∧ (h15 3 1) = (h 3 1) ∧ (h15 46 3) = (h 46 3) ∧ (h15 46 4) = (h 46 4) ∧ (h15 49 4) = (h 49 4) ∧ (h15 49 5) = (h 49 5) ∧ (h15 64 0) = (h 64 0) ∧ (h15 76 0) = (h 76 0); omega) (by omega)
            · skip
              refine ov_blk (ls2 := [(0, ov_r 0), (1, ov_i x1), (2, ov_i x2), (3, ov_i x3), (4, ov_i v13)]) (st2 := [ov_i x1, ov_i v13]) (pc2 := 43) b_184_40_2 rfl rfl ?_
              refine ov_icge (tgt := 51) d_184_43 (by decide) (by omega) (by omega) (fun c21 => ?_) (fun c21 => ?_)
              · skip
                refine ov_blk (ls2 := [(0, ov_r 0), (1, ov_i x1), (2, ov_i x2), (3, ov_i (x3 + 1)), (4, ov_i v13)]) (st2 := []) (pc2 := 54) b_184_51_1 rfl rfl ?_
                refine ov_goto (tgt := 6) d_184_54 (by decide) ?_
                refine ov_sub (ls2 := [(0, ov_r 0), (1, ov_i x1), (2, ov_i x2), (3, ov_i (x3 + 1))]) (List.Sublist.subset (by repeat (first | exact List.Sublist.refl _ | apply List.Sublist.cons_cons | apply List.Sublist.cons))) ?_
                exact ih2 x1 x2 (x3 + 1) _ _ I16 (by show ov_g x1 ∧ -1 ≤ x2 ∧ x2 ≤ 4 ∧ 0 ≤ (x3 + 1) ∧ (x3 + 1) ≤ 4 ∧ ((h15 36 7) = 1 → (h15 36 8) = (h15 0 10)) ∧ (h15 1 1) = (h 1 1) ∧ (h15 90 2) = (h 90 2) ∧ (h15 0 10) = (h 0 10) ∧ (h15 0 11) = (h 0 11) ∧ (h15 0 12) = (h 0 12) ∧ (h15 0 13) = (h 0 13) ∧ (h15 3 1) = (h 3 1) ∧ (h15 46 3) = (h 46 3) ∧ (h15 46 4) = (h 46 4) ∧ (h15 49 4) = (h 49 4) ∧ (h15 49 5) = (h 49 5) ∧ (h15 64 0) = (h 64 0) ∧ (h15 76 0) = (h 76 0); omega) (by omega)
              · skip
                refine ov_blk (ls2 := [(0, ov_r 0), (1, ov_i v13), (2, ov_i x3), (3, ov_i (x3 + 1)), (4, ov_i v13)]) (st2 := []) (pc2 := 54) b_184_46_5 rfl rfl ?_
                refine ov_goto (tgt := 6) d_184_54 (by decide) ?_
                refine ov_sub (ls2 := [(0, ov_r 0), (1, ov_i v13), (2, ov_i x3), (3, ov_i (x3 + 1))]) (List.Sublist.subset (by repeat (first | exact List.Sublist.refl _ | apply List.Sublist.cons_cons | apply List.Sublist.cons))) ?_
                exact ih2 v13 x3 (x3 + 1) _ _ I16 (by show ov_g v13 ∧ -1 ≤ x3 ∧ x3 ≤ 4 ∧ 0 ≤ (x3 + 1) ∧ (x3 + 1) ≤ 4 ∧ ((h15 36 7) = 1 → (h15 36 8) = (h15 0 10)) ∧ (h15 1 1) = (h 1 1) ∧ (h15 90 2) = (h 90 2) ∧ (h15 0 10) = (h 0 10) ∧ (h15 0 11) = (h 0 11) ∧ (h15 0 12) = (h 0 12) ∧ (h15 0 13) = (h 0 13) ∧ (h15 3 1) = (h 3 1) ∧ (h15 46 3) = (h 46 3) ∧ (h15 46 4) = (h 46 4) ∧ (h15 49 4) = (h 49 4) ∧ (h15 49 5) = (h 49 5) ∧ (h15 64 0) = (h 64 0) ∧ (h15 76 0) = (h 76 0); omega) (by omega)
      · skip
        refine ov_getf (v := ov_r 70) d_184_8 fl_OF_78 (zb_0 I7) (zs_0 I7) (congrArg ov_r e9) ?_
        refine ov_getf (v := ov_i (h6 70 11)) d_184_11 fl_OF_292 (zb_70 I7) (zs_70 I7) rfl ?_
        have g22 := rg_70_11 I7
        refine ov_icge (tgt := 57) d_184_14 (by decide) (by omega) (by omega) (fun c23 => ?_) (fun c23 => ?_)
        · skip
          refine ov_blk (ls2 := [(0, ov_r 0), (1, ov_i x1), (2, ov_i x2), (3, ov_i x3)]) (st2 := [ov_i x2]) (pc2 := 58) b_184_57_1 rfl rfl ?_
          exact ov_reti (st := []) d_184_58 rfl ⟨_, rfl, I7, (by show ((h6 36 7) = 1 → (h6 36 8) = (h6 0 10)) ∧ (h6 1 1) = (h 1 1) ∧ (h6 90 2) = (h 90 2) ∧ (h6 0 10) = (h 0 10) ∧ (h6 0 11) = (h 0 11) ∧ (h6 0 12) = (h 0 12) ∧ (h6 0 13) = (h 0 13) ∧ (h6 3 1) = (h 3 1) ∧ (h6 46 3) = (h 46 3) ∧ (h6 46 4) = (h 46 4) ∧ (h6 49 4) = (h 49 4) ∧ (h6 49 5) = (h 49 5) ∧ (h6 64 0) = (h 64 0) ∧ (h6 76 0) = (h 76 0); omega)⟩
        · skip
          refine ov_blk (ls2 := [(0, ov_r 0), (1, ov_i x1), (2, ov_i x2), (3, ov_i x3)]) (st2 := [ov_i 0, ov_i 0, ov_i 0, ov_i (4 + x3), ov_r 0]) (pc2 := 24) b_184_17_7 rfl rfl ?_
          refine ov_cV (as := [ov_i (4 + x3), ov_i 0, ov_i 0, ov_i 0]) (st := []) (d2 := d - 1) d_184_24 lk_OF_211 rfl (Nat.le_of_ble_eq_true rfl) (c := 0) (zb_0 I7) (zs_0 I7) ⟨by decide, rfl⟩ (by omega) (c_OF_reckoned_0 (d - 1) (by omega) U I7 (ov_kws hw (by decide +kernel)) (4 + x3) 0 0 0 (by omega) (by omega) (by omega) (by omega) (by omega) (by omega) (by omega)) ?_
          rintro _ z26 h27 ⟨v25, rfl, I28, f24⟩
          show ov_R u d ov_m184 27 [(0, ov_r 0), (1, ov_i x1), (2, ov_i x2), (3, ov_i x3)] [ov_i v25] z26 h27 (P_OF_rules_0 F z h)
          have f29 : -2147483648 ≤ v25 ∧ v25 ≤ 2147483647 ∧ ((h27 36 7) = 1 → (h27 36 8) = (h27 0 10)) ∧ (¬ v25 = -1 → (h27 36 8) = (h27 0 10)) ∧ (h27 1 1) = (h6 1 1) ∧ (h27 90 2) = (h6 90 2) ∧ (h27 0 10) = (h6 0 10) ∧ (h27 0 11) = (h6 0 11) ∧ (h27 0 12) = (h6 0 12) ∧ (h27 0 13) = (h6 0 13) ∧ (h27 3 1) = (h6 3 1) ∧ (h27 46 3) = (h6 46 3) ∧ (h27 46 4) = (h6 46 4) ∧ (h27 49 4) = (h6 49 4) ∧ (h27 49 5) = (h6 49 5) ∧ (h27 64 0) = (h6 64 0) ∧ (h27 76 0) = (h6 76 0) := f24
          clear f24
          have e30 : h27 0 10 = 70 := by omega
          refine ov_blk (ls2 := [(0, ov_r 0), (1, ov_i x1), (2, ov_i x2), (3, ov_i x3), (4, ov_i v25)]) (st2 := [ov_i (-1), ov_i v25]) (pc2 := 32) b_184_27_3 rfl rfl ?_
          refine ov_iceq (tgt := 51) d_184_32 (by decide) (by omega) (by omega) (fun c31 => ?_) (fun c31 => ?_)
          · skip
            refine ov_blk (ls2 := [(0, ov_r 0), (1, ov_i x1), (2, ov_i x2), (3, ov_i (x3 + 1)), (4, ov_i v25)]) (st2 := []) (pc2 := 54) b_184_51_1 rfl rfl ?_
            refine ov_goto (tgt := 6) d_184_54 (by decide) ?_
            refine ov_sub (ls2 := [(0, ov_r 0), (1, ov_i x1), (2, ov_i x2), (3, ov_i (x3 + 1))]) (List.Sublist.subset (by repeat (first | exact List.Sublist.refl _ | apply List.Sublist.cons_cons | apply List.Sublist.cons))) ?_
            exact ih2 x1 x2 (x3 + 1) _ _ I28 (by show ov_g x1 ∧ -1 ≤ x2 ∧ x2 ≤ 4 ∧ 0 ≤ (x3 + 1) ∧ (x3 + 1) ≤ 4 ∧ ((h27 36 7) = 1 → (h27 36 8) = (h27 0 10)) ∧ (h27 1 1) = (h 1 1) ∧ (h27 90 2) = (h 90 2) ∧ (h27 0 10) = (h 0 10) ∧ (h27 0 11) = (h 0 11) ∧ (h27 0 12) = (h 0 12) ∧ (h27 0 13) = (h 0 13) ∧ (h27 3 1) = (h 3 1) ∧ (h27 46 3) = (h 46 3) ∧ (h27 46 4) = (h 46 4) ∧ (h27 49 4) = (h 49 4) ∧ (h27 49 5) = (h 49 5) ∧ (h27 64 0) = (h 64 0) ∧ (h27 76 0) = (h 76 0); omega) (by omega)
          · skip
            refine ov_blk (ls2 := [(0, ov_r 0), (1, ov_i x1), (2, ov_i x2), (3, ov_i x3), (4, ov_i v25)]) (st2 := [ov_i (-1), ov_i x1]) (pc2 := 37) b_184_35_2 rfl rfl ?_
            refine ov_iceq (tgt := 46) d_184_37 (by decide) (by omega) (by omega) (fun c32 => ?_) (fun c32 => ?_)
            · skip
              refine ov_blk (ls2 := [(0, ov_r 0), (1, ov_i v25), (2, ov_i x3), (3, ov_i (x3 + 1)), (4, ov_i v25)]) (st2 := []) (pc2 := 54) b_184_46_5 rfl rfl ?_
              refine ov_goto (tgt := 6) d_184_54 (by decide) ?_
              refine ov_sub (ls2 := [(0, ov_r 0), (1, ov_i v25), (2, ov_i x3), (3, ov_i (x3 + 1))]) (List.Sublist.subset (by repeat (first | exact List.Sublist.refl _ | apply List.Sublist.cons_cons | apply List.Sublist.cons))) ?_
              exact ih2 v25 x3 (x3 + 1) _ _ I28 (by show ov_g v25 ∧ -1 ≤ x3 ∧ x3 ≤ 4 ∧ 0 ≤ (x3 + 1) ∧ (x3 + 1) ≤ 4 ∧ ((h27 36 7) = 1 → (h27 36 8) = (h27 0 10)) ∧ (h27 1 1) = (h 1 1) ∧ (h27 90 2) = (h 90 2) ∧ (h27 0 10) = (h 0 10) ∧ (h27 0 11) = (h 0 11) ∧ (h27 0 12) = (h 0 12) ∧ (h27 0 13) = (h 0 13) ∧ (h27 3 1) = (h 3 1) ∧ (h27 46 3) = (h 46 3) ∧ (h27 46 4) = (h 46 4) ∧ (h27 49 4) = (h 49 4) ∧ (h27 49 5) = (h 49 5) ∧ (h27 64 0) = (h 64 0) ∧ (h27 76 0) = (h 76 0); omega) (by omega)
            · skip
              refine ov_blk (ls2 := [(0, ov_r 0), (1, ov_i x1), (2, ov_i x2), (3, ov_i x3), (4, ov_i v25)]) (st2 := [ov_i x1, ov_i v25]) (pc2 := 43) b_184_40_2 rfl rfl ?_
              refine ov_icge (tgt := 51) d_184_43 (by decide) (by omega) (by omega) (fun c33 => ?_) (fun c33 => ?_)
              · skip
                refine ov_blk (ls2 := [(0, ov_r 0), (1, ov_i x1), (2, ov_i x2), (3, ov_i (x3 + 1)), (4, ov_i v25)]) (st2 := []) (pc2 := 54) b_184_51_1 rfl rfl ?_
                refine ov_goto (tgt := 6) d_184_54 (by decide) ?_
                refine ov_sub (ls2 := [(0, ov_r 0), (1, ov_i x1), (2, ov_i x2), (3, ov_i (x3 + 1))]) (List.Sublist.subset (by repeat (first | exact List.Sublist.refl _ | apply List.Sublist.cons_cons | apply List.Sublist.cons))) ?_
                exact ih2 x1 x2 (x3 + 1) _ _ I28 (by show ov_g x1 ∧ -1 ≤ x2 ∧ x2 ≤ 4 ∧ 0 ≤ (x3 + 1) ∧ (x3 + 1) ≤ 4 ∧ ((h27 36 7) = 1 → (h27 36 8) = (h27 0 10)) ∧ (h27 1 1) = (h 1 1) ∧ (h27 90 2) = (h 90 2) ∧ (h27 0 10) = (h 0 10) ∧ (h27 0 11) = (h 0 11) ∧ (h27 0 12) = (h 0 12) ∧ (h27 0 13) = (h 0 13) ∧ (h27 3 1) = (h 3 1) ∧ (h27 46 3) = (h 46 3) ∧ (h27 46 4) = (h 46 4) ∧ (h27 49 4) = (h 49 4) ∧ (h27 49 5) = (h 49 5) ∧ (h27 64 0) = (h 64 0) ∧ (h27 76 0) = (h 76 0); omega) (by omega)
              · skip
                refine ov_blk (ls2 := [(0, ov_r 0), (1, ov_i v25), (2, ov_i x3), (3, ov_i (x3 + 1)), (4, ov_i v25)]) (st2 := []) (pc2 := 54) b_184_46_5 rfl rfl ?_
                refine ov_goto (tgt := 6) d_184_54 (by decide) ?_
                refine ov_sub (ls2 := [(0, ov_r 0), (1, ov_i v25), (2, ov_i x3), (3, ov_i (x3 + 1))]) (List.Sublist.subset (by repeat (first | exact List.Sublist.refl _ | apply List.Sublist.cons_cons | apply List.Sublist.cons))) ?_
                exact ih2 v25 x3 (x3 + 1) _ _ I28 (by show ov_g v25 ∧ -1 ≤ x3 ∧ x3 ≤ 4 ∧ 0 ≤ (x3 + 1) ∧ (x3 + 1) ≤ 4 ∧ ((h27 36 7) = 1 → (h27 36 8) = (h27 0 10)) ∧ (h27 1 1) = (h 1 1) ∧ (h27 90 2) = (h 90 2) ∧ (h27 0 10) = (h 0 10) ∧ (h27 0 11) = (h 0 11) ∧ (h27 0 12) = (h 0 12) ∧ (h27 0 13) = (h 0 13) ∧ (h27 3 1) = (h 3 1) ∧ (h27 46 3) = (h 46 3) ∧ (h27 46 4) = (h 46 4) ∧ (h27 49 4) = (h 49 4) ∧ (h27 49 5) = (h 49 5) ∧ (h27 64 0) = (h 64 0) ∧ (h27 76 0) = (h 76 0); omega) (by omega)
  exact L4 5 (-1) (-1) 0 _ _ I (by show ov_g (-1) ∧ -1 ≤ (-1) ∧ (-1) ≤ 4 ∧ 0 ≤ 0 ∧ 0 ≤ 4 ∧ ((h 36 7) = 1 → (h 36 8) = (h 0 10)) ∧ (h 1 1) = (h 1 1) ∧ (h 90 2) = (h 90 2) ∧ (h 0 10) = (h 0 10) ∧ (h 0 11) = (h 0 11) ∧ (h 0 12) = (h 0 12) ∧ (h 0 13) = (h 0 13) ∧ (h 3 1) = (h 3 1) ∧ (h 46 3) = (h 46 3) ∧ (h 46 4) = (h 46 4) ∧ (h 49 4) = (h 49 4) ∧ (h 49 5) = (h 49 5) ∧ (h 64 0) = (h 64 0) ∧ (h 76 0) = (h 76 0); omega) (by omega)
abbrev P_OF_was_0 (F : ov_H) (z : ov_Z) (h : ov_H) (x : Int) (y : Int) (s : Int) : Option ov_V → ov_Z → ov_H → Prop := fun r0 z' h' => ∃ r : Int, r0 = some (ov_i r) ∧ ov_I F z' h' ∧ ((r = 0 ∨ r = 1) ∧ (h' 36 7) = (h 36 7) ∧ (h' 1 1) = (h 1 1) ∧ (h' 90 2) = (h 90 2) ∧ (h' 0 10) = (h 0 10) ∧ (h' 0 11) = (h 0 11) ∧ (h' 0 12) = (h 0 12) ∧ (h' 0 13) = (h 0 13) ∧ (h' 3 1) = (h 3 1) ∧ (h' 36 8) = (h 36 8) ∧ (h' 46 3) = (h 46 3) ∧ (h' 46 4) = (h 46 4) ∧ (h' 49 4) = (h 49 4) ∧ (h' 49 5) = (h 49 5) ∧ (h' 64 0) = (h 64 0) ∧ (h' 76 0) = (h 76 0))
set_option maxHeartbeats 4000000 in
theorem c_OF_was_0 {u : ov_U} {F : ov_H} {z : ov_Z} {h : ov_H} (d : Nat) (hd : 1 ≤ d) (U : ov_cap u) (I : ov_I F z h) (hw : ov_kw 400 F) (x : Int) (y : Int) (s : Int) (g_x : ov_g x) (g_y : ov_g y) (g_s : ov_g s) : ov_T u d ov_m185 [ov_r 0, ov_i x, ov_i y, ov_i s] z h (P_OF_was_0 F z h x y s) := by
  refine ov_en rfl (Nat.le_of_ble_eq_true rfl) ?_
  show ov_R u d ov_m185 0 [(0, ov_r 0), (1, ov_i x), (2, ov_i y), (3, ov_i s)] [] z h (P_OF_was_0 F z h x y s)
  refine ov_blk (ls2 := [(0, ov_r 0), (1, ov_i x), (2, ov_i y), (3, ov_i s)]) (st2 := [ov_r 0]) (pc2 := 1) b_185_0_1 rfl rfl ?_
  rcases rg_0_10 I with e1 | e1
  · skip
    refine ov_getf (v := ov_r 58) d_185_1 fl_OF_78 (zb_0 I) (zs_0 I) (congrArg ov_r e1) ?_
    refine ov_blk (ls2 := [(0, ov_r 0), (1, ov_i x), (2, ov_i y), (3, ov_i s)]) (st2 := [ov_i y, ov_i x, ov_r 58]) (pc2 := 6) b_185_4_2 rfl rfl ?_
    refine ov_cV (as := [ov_i x, ov_i y]) (st := []) (d2 := d - 1) d_185_6 lk_OF_131 rfl (Nat.le_of_ble_eq_true rfl) (c := 9) (zb_58 I) (zs_58 I) ⟨by decide, rfl⟩ (by omega) (c_Town_corner_58 (d - 1) (by omega) U I x y (by omega) (by omega)) ?_
    rintro _ _ _ ⟨v3, rfl, rfl, rfl, f2⟩
    show ov_R u d ov_m185 9 [(0, ov_r 0), (1, ov_i x), (2, ov_i y), (3, ov_i s)] [ov_i v3] z h (P_OF_was_0 F z h x y s)
    have f4 : v3 = -1 ∨ (0 ≤ x ∧ x < (h 58 0) ∧ 0 ≤ y ∧ y < (h 58 1) ∧ v3 = y * 6 + x ∧ (h 58 0) ≤ 6 ∧ (h 58 1) ≤ 9) := f2
    clear f2
    refine ov_blk (ls2 := [(0, ov_r 0), (1, ov_i x), (2, ov_i y), (3, ov_i s), (4, ov_i v3)]) (st2 := [ov_i (-1), ov_i v3]) (pc2 := 14) b_185_9_3 rfl rfl ?_
    refine ov_iceq (tgt := 28) d_185_14 (by decide) (by omega) (by omega) (fun c5 => ?_) (fun c5 => ?_)
    · skip
      refine ov_blk (ls2 := [(0, ov_r 0), (1, ov_i x), (2, ov_i y), (3, ov_i s), (4, ov_i v3)]) (st2 := [ov_i 0]) (pc2 := 29) b_185_28_1 rfl rfl ?_
      exact ov_retz (st := []) d_185_29 rfl (by omega) ⟨_, rfl, I, (by show (0 = 0 ∨ 0 = 1) ∧ (h 36 7) = (h 36 7) ∧ (h 1 1) = (h 1 1) ∧ (h 90 2) = (h 90 2) ∧ (h 0 10) = (h 0 10) ∧ (h 0 11) = (h 0 11) ∧ (h 0 12) = (h 0 12) ∧ (h 0 13) = (h 0 13) ∧ (h 3 1) = (h 3 1) ∧ (h 36 8) = (h 36 8) ∧ (h 46 3) = (h 46 3) ∧ (h 46 4) = (h 46 4) ∧ (h 49 4) = (h 49 4) ∧ (h 49 5) = (h 49 5) ∧ (h 64 0) = (h 64 0) ∧ (h 76 0) = (h 76 0); omega)⟩
    · skip
      refine ov_blk (ls2 := [(0, ov_r 0), (1, ov_i x), (2, ov_i y), (3, ov_i s), (4, ov_i v3)]) (st2 := [ov_i s]) (pc2 := 18) b_185_17_1 rfl rfl ?_
      refine ov_iflt (tgt := 28) d_185_18 (by decide) (by omega) (fun c6 => ?_) (fun c6 => ?_)
      · skip
        refine ov_blk (ls2 := [(0, ov_r 0), (1, ov_i x), (2, ov_i y), (3, ov_i s), (4, ov_i v3)]) (st2 := [ov_i 0]) (pc2 := 29) b_185_28_1 rfl rfl ?_
        exact ov_retz (st := []) d_185_29 rfl (by omega) ⟨_, rfl, I, (by show (0 = 0 ∨ 0 = 1) ∧ (h 36 7) = (h 36 7) ∧ (h 1 1) = (h 1 1) ∧ (h 90 2) = (h 90 2) ∧ (h 0 10) = (h 0 10) ∧ (h 0 11) = (h 0 11) ∧ (h 0 12) = (h 0 12) ∧ (h 0 13) = (h 0 13) ∧ (h 3 1) = (h 3 1) ∧ (h 36 8) = (h 36 8) ∧ (h 46 3) = (h 46 3) ∧ (h 46 4) = (h 46 4) ∧ (h 49 4) = (h 49 4) ∧ (h 49 5) = (h 49 5) ∧ (h 64 0) = (h 64 0) ∧ (h 76 0) = (h 76 0); omega)⟩
      · skip
        refine ov_blk (ls2 := [(0, ov_r 0), (1, ov_i x), (2, ov_i y), (3, ov_i s), (4, ov_i v3)]) (st2 := [ov_i 9999, ov_i s]) (pc2 := 25) b_185_21_2 rfl rfl ?_
        refine ov_icle (tgt := 30) d_185_25 (by decide) (by omega) (by omega) (fun c7 => ?_) (fun c7 => ?_)
        · skip
          refine ov_blk (ls2 := [(0, ov_r 0), (1, ov_i x), (2, ov_i y), (3, ov_i s), (4, ov_i v3)]) (st2 := [ov_r 0]) (pc2 := 31) b_185_30_1 rfl rfl ?_
          refine ov_getf (v := ov_r 4) d_185_31 fl_OF_28 (zb_0 I) (zs_0 I) (congrArg ov_r (rg_0_2 I)) ?_
          refine ov_blk (ls2 := [(0, ov_r 0), (1, ov_i x), (2, ov_i y), (3, ov_i s), (4, ov_i v3)]) (st2 := [ov_i s, ov_i v3, ov_r 4]) (pc2 := 37) b_185_34_2 rfl rfl ?_
          refine ov_cV (as := [ov_i v3, ov_i s]) (st := []) (d2 := d - 1) d_185_37 lk_OF_295 rfl (Nat.le_of_ble_eq_true rfl) (c := 7) (zb_4 I) (zs_4 I) ⟨by decide, rfl⟩ (by omega) (c_State_addSighting_4 (d - 1) (by omega) U I (ov_kws hw (by decide +kernel)) v3 s (by omega) (by omega)) ?_
          rintro _ z10 h11 ⟨v9, rfl, I12, f8⟩
          show ov_R u d ov_m185 40 [(0, ov_r 0), (1, ov_i x), (2, ov_i y), (3, ov_i s), (4, ov_i v3)] [ov_i v9] z10 h11 (P_OF_was_0 F z h x y s)
          have f13 : (v9 = 0 ∨ v9 = 1) ∧ (h11 36 7) = (h 36 7) ∧ (h11 1 1) = (h 1 1) ∧ (h11 90 2) = (h 90 2) ∧ (h11 0 10) = (h 0 10) ∧ (h11 0 11) = (h 0 11) ∧ (h11 0 12) = (h 0 12) ∧ (h11 0 13) = (h 0 13) ∧ (h11 3 1) = (h 3 1) ∧ (h11 36 8) = (h 36 8) ∧ (h11 46 3) = (h 46 3) ∧ (h11 46 4) = (h 46 4) ∧ (h11 49 4) = (h 49 4) ∧ (h11 49 5) = (h 49 5) ∧ (h11 64 0) = (h 64 0) ∧ (h11 76 0) = (h 76 0) := f8
          clear f8
          have e14 : h11 0 10 = 58 := by omega
          exact ov_retz (st := []) d_185_40 rfl (by omega) ⟨_, rfl, I12, (by show (v9 = 0 ∨ v9 = 1) ∧ (h11 36 7) = (h 36 7) ∧ (h11 1 1) = (h 1 1) ∧ (h11 90 2) = (h 90 2) ∧ (h11 0 10) = (h 0 10) ∧ (h11 0 11) = (h 0 11) ∧ (h11 0 12) = (h 0 12) ∧ (h11 0 13) = (h 0 13) ∧ (h11 3 1) = (h 3 1) ∧ (h11 36 8) = (h 36 8) ∧ (h11 46 3) = (h 46 3) ∧ (h11 46 4) = (h 46 4) ∧ (h11 49 4) = (h 49 4) ∧ (h11 49 5) = (h 49 5) ∧ (h11 64 0) = (h 64 0) ∧ (h11 76 0) = (h 76 0); omega)⟩
        · skip
          refine ov_blk (ls2 := [(0, ov_r 0), (1, ov_i x), (2, ov_i y), (3, ov_i s), (4, ov_i v3)]) (st2 := [ov_i 0]) (pc2 := 29) b_185_28_1 rfl rfl ?_
          exact ov_retz (st := []) d_185_29 rfl (by omega) ⟨_, rfl, I, (by show (0 = 0 ∨ 0 = 1) ∧ (h 36 7) = (h 36 7) ∧ (h 1 1) = (h 1 1) ∧ (h 90 2) = (h 90 2) ∧ (h 0 10) = (h 0 10) ∧ (h 0 11) = (h 0 11) ∧ (h 0 12) = (h 0 12) ∧ (h 0 13) = (h 0 13) ∧ (h 3 1) = (h 3 1) ∧ (h 36 8) = (h 36 8) ∧ (h 46 3) = (h 46 3) ∧ (h 46 4) = (h 46 4) ∧ (h 49 4) = (h 49 4) ∧ (h 49 5) = (h 49 5) ∧ (h 64 0) = (h 64 0) ∧ (h 76 0) = (h 76 0); omega)⟩
  · skip
    refine ov_getf (v := ov_r 70) d_185_1 fl_OF_78 (zb_0 I) (zs_0 I) (congrArg ov_r e1) ?_
    refine ov_blk (ls2 := [(0, ov_r 0), (1, ov_i x), (2, ov_i y), (3, ov_i s)]) (st2 := [ov_i y, ov_i x, ov_r 70]) (pc2 := 6) b_185_4_2 rfl rfl ?_
    refine ov_cV (as := [ov_i x, ov_i y]) (st := []) (d2 := d - 1) d_185_6 lk_OF_131 rfl (Nat.le_of_ble_eq_true rfl) (c := 9) (zb_70 I) (zs_70 I) ⟨by decide, rfl⟩ (by omega) (c_Town_corner_70 (d - 1) (by omega) U I x y (by omega) (by omega)) ?_
    rintro _ _ _ ⟨v16, rfl, rfl, rfl, f15⟩
    show ov_R u d ov_m185 9 [(0, ov_r 0), (1, ov_i x), (2, ov_i y), (3, ov_i s)] [ov_i v16] z h (P_OF_was_0 F z h x y s)
    have f17 : v16 = -1 ∨ (0 ≤ x ∧ x < (h 70 0) ∧ 0 ≤ y ∧ y < (h 70 1) ∧ v16 = y * 6 + x ∧ (h 70 0) ≤ 6 ∧ (h 70 1) ≤ 9) := f15
    clear f15
    refine ov_blk (ls2 := [(0, ov_r 0), (1, ov_i x), (2, ov_i y), (3, ov_i s), (4, ov_i v16)]) (st2 := [ov_i (-1), ov_i v16]) (pc2 := 14) b_185_9_3 rfl rfl ?_
    refine ov_iceq (tgt := 28) d_185_14 (by decide) (by omega) (by omega) (fun c18 => ?_) (fun c18 => ?_)
    · skip
      refine ov_blk (ls2 := [(0, ov_r 0), (1, ov_i x), (2, ov_i y), (3, ov_i s), (4, ov_i v16)]) (st2 := [ov_i 0]) (pc2 := 29) b_185_28_1 rfl rfl ?_
      exact ov_retz (st := []) d_185_29 rfl (by omega) ⟨_, rfl, I, (by show (0 = 0 ∨ 0 = 1) ∧ (h 36 7) = (h 36 7) ∧ (h 1 1) = (h 1 1) ∧ (h 90 2) = (h 90 2) ∧ (h 0 10) = (h 0 10) ∧ (h 0 11) = (h 0 11) ∧ (h 0 12) = (h 0 12) ∧ (h 0 13) = (h 0 13) ∧ (h 3 1) = (h 3 1) ∧ (h 36 8) = (h 36 8) ∧ (h 46 3) = (h 46 3) ∧ (h 46 4) = (h 46 4) ∧ (h 49 4) = (h 49 4) ∧ (h 49 5) = (h 49 5) ∧ (h 64 0) = (h 64 0) ∧ (h 76 0) = (h 76 0); omega)⟩
    · skip
      refine ov_blk (ls2 := [(0, ov_r 0), (1, ov_i x), (2, ov_i y), (3, ov_i s), (4, ov_i v16)]) (st2 := [ov_i s]) (pc2 := 18) b_185_17_1 rfl rfl ?_
      refine ov_iflt (tgt := 28) d_185_18 (by decide) (by omega) (fun c19 => ?_) (fun c19 => ?_)
      · skip
        refine ov_blk (ls2 := [(0, ov_r 0), (1, ov_i x), (2, ov_i y), (3, ov_i s), (4, ov_i v16)]) (st2 := [ov_i 0]) (pc2 := 29) b_185_28_1 rfl rfl ?_
        exact ov_retz (st := []) d_185_29 rfl (by omega) ⟨_, rfl, I, (by show (0 = 0 ∨ 0 = 1) ∧ (h 36 7) = (h 36 7) ∧ (h 1 1) = (h 1 1) ∧ (h 90 2) = (h 90 2) ∧ (h 0 10) = (h 0 10) ∧ (h 0 11) = (h 0 11) ∧ (h 0 12) = (h 0 12) ∧ (h 0 13) = (h 0 13) ∧ (h 3 1) = (h 3 1) ∧ (h 36 8) = (h 36 8) ∧ (h 46 3) = (h 46 3) ∧ (h 46 4) = (h 46 4) ∧ (h 49 4) = (h 49 4) ∧ (h 49 5) = (h 49 5) ∧ (h 64 0) = (h 64 0) ∧ (h 76 0) = (h 76 0); omega)⟩
      · skip
        refine ov_blk (ls2 := [(0, ov_r 0), (1, ov_i x), (2, ov_i y), (3, ov_i s), (4, ov_i v16)]) (st2 := [ov_i 9999, ov_i s]) (pc2 := 25) b_185_21_2 rfl rfl ?_
        refine ov_icle (tgt := 30) d_185_25 (by decide) (by omega) (by omega) (fun c20 => ?_) (fun c20 => ?_)
        · skip
          refine ov_blk (ls2 := [(0, ov_r 0), (1, ov_i x), (2, ov_i y), (3, ov_i s), (4, ov_i v16)]) (st2 := [ov_r 0]) (pc2 := 31) b_185_30_1 rfl rfl ?_
          refine ov_getf (v := ov_r 4) d_185_31 fl_OF_28 (zb_0 I) (zs_0 I) (congrArg ov_r (rg_0_2 I)) ?_
          refine ov_blk (ls2 := [(0, ov_r 0), (1, ov_i x), (2, ov_i y), (3, ov_i s), (4, ov_i v16)]) (st2 := [ov_i s, ov_i v16, ov_r 4]) (pc2 := 37) b_185_34_2 rfl rfl ?_
          refine ov_cV (as := [ov_i v16, ov_i s]) (st := []) (d2 := d - 1) d_185_37 lk_OF_295 rfl (Nat.le_of_ble_eq_true rfl) (c := 7) (zb_4 I) (zs_4 I) ⟨by decide, rfl⟩ (by omega) (c_State_addSighting_4 (d - 1) (by omega) U I (ov_kws hw (by decide +kernel)) v16 s (by omega) (by omega)) ?_
          rintro _ z23 h24 ⟨v22, rfl, I25, f21⟩
          show ov_R u d ov_m185 40 [(0, ov_r 0), (1, ov_i x), (2, ov_i y), (3, ov_i s), (4, ov_i v16)] [ov_i v22] z23 h24 (P_OF_was_0 F z h x y s)
          have f26 : (v22 = 0 ∨ v22 = 1) ∧ (h24 36 7) = (h 36 7) ∧ (h24 1 1) = (h 1 1) ∧ (h24 90 2) = (h 90 2) ∧ (h24 0 10) = (h 0 10) ∧ (h24 0 11) = (h 0 11) ∧ (h24 0 12) = (h 0 12) ∧ (h24 0 13) = (h 0 13) ∧ (h24 3 1) = (h 3 1) ∧ (h24 36 8) = (h 36 8) ∧ (h24 46 3) = (h 46 3) ∧ (h24 46 4) = (h 46 4) ∧ (h24 49 4) = (h 49 4) ∧ (h24 49 5) = (h 49 5) ∧ (h24 64 0) = (h 64 0) ∧ (h24 76 0) = (h 76 0) := f21
          clear f21
          have e27 : h24 0 10 = 70 := by omega
          exact ov_retz (st := []) d_185_40 rfl (by omega) ⟨_, rfl, I25, (by show (v22 = 0 ∨ v22 = 1) ∧ (h24 36 7) = (h 36 7) ∧ (h24 1 1) = (h 1 1) ∧ (h24 90 2) = (h 90 2) ∧ (h24 0 10) = (h 0 10) ∧ (h24 0 11) = (h 0 11) ∧ (h24 0 12) = (h 0 12) ∧ (h24 0 13) = (h 0 13) ∧ (h24 3 1) = (h 3 1) ∧ (h24 36 8) = (h 36 8) ∧ (h24 46 3) = (h 46 3) ∧ (h24 46 4) = (h 46 4) ∧ (h24 49 4) = (h 49 4) ∧ (h24 49 5) = (h 49 5) ∧ (h24 64 0) = (h 64 0) ∧ (h24 76 0) = (h 76 0); omega)⟩
        · skip
          refine ov_blk (ls2 := [(0, ov_r 0), (1, ov_i x), (2, ov_i y), (3, ov_i s), (4, ov_i v16)]) (st2 := [ov_i 0]) (pc2 := 29) b_185_28_1 rfl rfl ?_
          exact ov_retz (st := []) d_185_29 rfl (by omega) ⟨_, rfl, I, (by show (0 = 0 ∨ 0 = 1) ∧ (h 36 7) = (h 36 7) ∧ (h 1 1) = (h 1 1) ∧ (h 90 2) = (h 90 2) ∧ (h 0 10) = (h 0 10) ∧ (h 0 11) = (h 0 11) ∧ (h 0 12) = (h 0 12) ∧ (h 0 13) = (h 0 13) ∧ (h 3 1) = (h 3 1) ∧ (h 36 8) = (h 36 8) ∧ (h 46 3) = (h 46 3) ∧ (h 46 4) = (h 46 4) ∧ (h 49 4) = (h 49 4) ∧ (h 49 5) = (h 49 5) ∧ (h 64 0) = (h 64 0) ∧ (h 76 0) = (h 76 0); omega)⟩
abbrev P_OF_fits_0 (F : ov_H) (z : ov_Z) (h : ov_H) (w : Int) : Option ov_V → ov_Z → ov_H → Prop := fun r0 z' h' => ∃ r : Int, r0 = some (ov_l r) ∧ ov_I F z' h' ∧ ((h' 36 7) = (h 36 7) ∧ (h' 1 1) = (h 1 1) ∧ (h' 90 2) = (h 90 2) ∧ (h' 0 10) = (h 0 10) ∧ (h' 0 11) = (h 0 11) ∧ (h' 0 12) = (h 0 12) ∧ (h' 0 13) = (h 0 13) ∧ (h' 3 1) = (h 3 1) ∧ (h' 36 8) = (h 36 8) ∧ (h' 49 4) = (h 49 4) ∧ (h' 49 5) = (h 49 5) ∧ (h' 64 0) = (h 64 0) ∧ (h' 76 0) = (h 76 0))
set_option maxHeartbeats 4000000 in
theorem c_OF_fits_0 {u : ov_U} {F : ov_H} {z : ov_Z} {h : ov_H} (d : Nat) (hd : 40 ≤ d) (U : ov_cap u) (I : ov_I F z h) (w : Int) (g_w : ov_g w) (p0 : (h 0 10 = 58 ∧ F (-5) 58 = 1 ∨ h 0 10 = 70 ∧ F (-5) 70 = 1)) : ov_T u d ov_m187 [ov_r 0, ov_i w] z h (P_OF_fits_0 F z h w) := by
  refine ov_en rfl (Nat.le_of_ble_eq_true rfl) ?_
  show ov_R u d ov_m187 0 [(0, ov_r 0), (1, ov_i w)] [] z h (P_OF_fits_0 F z h w)
  refine ov_blk (ls2 := [(0, ov_r 0), (1, ov_i w)]) (st2 := [ov_i w]) (pc2 := 1) b_187_0_1 rfl rfl ?_
  refine ov_iflt (tgt := 9) d_187_1 (by decide) (by omega) (fun c1 => ?_) (fun c1 => ?_)
  · skip
    refine ov_ldc2 (n := (-1)) d_187_9 kc_OF_274 ?_
    exact ov_retl (st := []) d_187_12 rfl ⟨_, rfl, I, (by show (h 36 7) = (h 36 7) ∧ (h 1 1) = (h 1 1) ∧ (h 90 2) = (h 90 2) ∧ (h 0 10) = (h 0 10) ∧ (h 0 11) = (h 0 11) ∧ (h 0 12) = (h 0 12) ∧ (h 0 13) = (h 0 13) ∧ (h 3 1) = (h 3 1) ∧ (h 36 8) = (h 36 8) ∧ (h 49 4) = (h 49 4) ∧ (h 49 5) = (h 49 5) ∧ (h 64 0) = (h 64 0) ∧ (h 76 0) = (h 76 0); omega)⟩
  · skip
    refine ov_blk (ls2 := [(0, ov_r 0), (1, ov_i w)]) (st2 := [ov_i 3, ov_i w]) (pc2 := 6) b_187_4_2 rfl rfl ?_
    refine ov_icle (tgt := 13) d_187_6 (by decide) (by omega) (by omega) (fun c2 => ?_) (fun c2 => ?_)
    · skip
      refine ov_blk (ls2 := [(0, ov_r 0), (1, ov_i w)]) (st2 := [ov_r 0]) (pc2 := 14) b_187_13_1 rfl rfl ?_
      refine ov_getf (v := ov_r 46) d_187_14 fl_OF_57 (zb_0 I) (zs_0 I) (congrArg ov_r (rg_0_7 I)) ?_
      refine ov_blk (ls2 := [(0, ov_r 0), (1, ov_i w)]) (st2 := [ov_r 0, ov_r 46]) (pc2 := 18) b_187_17_1 rfl rfl ?_
      rcases rg_0_10 I with e3 | e3
      · skip
        refine ov_getf (v := ov_r 58) d_187_18 fl_OF_78 (zb_0 I) (zs_0 I) (congrArg ov_r e3) ?_
        refine ov_blk (ls2 := [(0, ov_r 0), (1, ov_i w)]) (st2 := [ov_r 0, ov_r 58, ov_r 46]) (pc2 := 22) b_187_21_1 rfl rfl ?_
        refine ov_getf (v := ov_r 4) d_187_22 fl_OF_28 (zb_0 I) (zs_0 I) (congrArg ov_r (rg_0_2 I)) ?_
        refine ov_cV (as := [ov_r 58, ov_r 4]) (st := []) (d2 := d - 1) d_187_25 lk_OF_298 rfl (Nat.le_of_ble_eq_true rfl) (c := 12) (zb_46 I) (zs_46 I) ⟨by decide, rfl⟩ (by omega) (c_Ways_fitSightings_46_58_4 (d - 1) (by omega) U I (by omega)) ?_
        rintro _ z5 h6 ⟨rfl, I7, f4⟩
        show ov_R u d ov_m187 28 [(0, ov_r 0), (1, ov_i w)] [] z5 h6 (P_OF_fits_0 F z h w)
        have f8 : (h6 36 7) = (h 36 7) ∧ (h6 1 1) = (h 1 1) ∧ (h6 90 2) = (h 90 2) ∧ (h6 0 10) = (h 0 10) ∧ (h6 0 11) = (h 0 11) ∧ (h6 0 12) = (h 0 12) ∧ (h6 0 13) = (h 0 13) ∧ (h6 3 1) = (h 3 1) ∧ (h6 36 8) = (h 36 8) ∧ (h6 49 4) = (h 49 4) ∧ (h6 49 5) = (h 49 5) ∧ (h6 64 0) = (h 64 0) ∧ (h6 76 0) = (h 76 0) := f4
        clear f4
        have e9 : h6 0 10 = 58 := by omega
        refine ov_blk (ls2 := [(0, ov_r 0), (1, ov_i w)]) (st2 := [ov_i w]) (pc2 := 29) b_187_28_1 rfl rfl ?_
        refine ov_ifne (tgt := 41) d_187_29 (by decide) (by omega) (fun c10 => ?_) (fun c10 => ?_)
        · skip
          refine ov_blk (ls2 := [(0, ov_r 0), (1, ov_i w)]) (st2 := [ov_r 0]) (pc2 := 42) b_187_41_1 rfl rfl ?_
          refine ov_getf (v := ov_r 46) d_187_42 fl_OF_57 (zb_0 I7) (zs_0 I7) (congrArg ov_r (rg_0_7 I7)) ?_
          refine ov_getf (v := ov_i (h6 46 0)) d_187_45 fl_OF_302 (zb_46 I7) (zs_46 I7) rfl ?_
          have g11 := rg_46_0 I7
          refine ov_ifne (tgt := 55) d_187_48 (by decide) (by omega) (fun c12 => ?_) (fun c12 => ?_)
          · skip
            refine ov_blk (ls2 := [(0, ov_r 0), (1, ov_i w)]) (st2 := [ov_i 1, ov_i w]) (pc2 := 57) b_187_55_2 rfl rfl ?_
            refine ov_icne (tgt := 68) d_187_57 (by decide) (by omega) (by omega) (fun c13 => ?_) (fun c13 => ?_)
            · skip
              refine ov_blk (ls2 := [(0, ov_r 0), (1, ov_i w)]) (st2 := [ov_i 2, ov_i w]) (pc2 := 70) b_187_68_2 rfl rfl ?_
              refine ov_icne (tgt := 86) d_187_70 (by decide) (by omega) (by omega) (fun c14 => ?_) (fun c14 => ?_)
              · skip
                refine ov_blk (ls2 := [(0, ov_r 0), (1, ov_i w)]) (st2 := [ov_r 0]) (pc2 := 87) b_187_86_1 rfl rfl ?_
                refine ov_getf (v := ov_r 46) d_187_87 fl_OF_57 (zb_0 I7) (zs_0 I7) (congrArg ov_r (rg_0_7 I7)) ?_
                refine ov_blk (ls2 := [(0, ov_r 0), (1, ov_i w)]) (st2 := [ov_i 9, ov_i 8, ov_r 46]) (pc2 := 94) b_187_90_2 rfl rfl ?_
                refine ov_cV (as := [ov_i 8, ov_i 9]) (st := []) (d2 := d - 1) d_187_94 lk_OF_308 rfl (Nat.le_of_ble_eq_true rfl) (c := 12) (zb_46 I7) (zs_46 I7) ⟨by decide, rfl⟩ (by omega) (c_Ways_commonRows_46 (d - 1) (by omega) U I7 8 9 (by omega) (by omega) (by omega)) ?_
                rintro _ _ _ ⟨v16, rfl, rfl, rfl, f15⟩
                show ov_R u d ov_m187 97 [(0, ov_r 0), (1, ov_i w)] [ov_l v16] z5 h6 (P_OF_fits_0 F z h w)
                clear f15
                exact ov_retl (st := []) d_187_97 rfl ⟨_, rfl, I7, (by show (h6 36 7) = (h 36 7) ∧ (h6 1 1) = (h 1 1) ∧ (h6 90 2) = (h 90 2) ∧ (h6 0 10) = (h 0 10) ∧ (h6 0 11) = (h 0 11) ∧ (h6 0 12) = (h 0 12) ∧ (h6 0 13) = (h 0 13) ∧ (h6 3 1) = (h 3 1) ∧ (h6 36 8) = (h 36 8) ∧ (h6 49 4) = (h 49 4) ∧ (h6 49 5) = (h 49 5) ∧ (h6 64 0) = (h 64 0) ∧ (h6 76 0) = (h 76 0); omega)⟩
              · skip
                refine ov_blk (ls2 := [(0, ov_r 0), (1, ov_i w)]) (st2 := [ov_r 0]) (pc2 := 74) b_187_73_1 rfl rfl ?_
                refine ov_getf (v := ov_r 46) d_187_74 fl_OF_57 (zb_0 I7) (zs_0 I7) (congrArg ov_r (rg_0_7 I7)) ?_
                refine ov_blk (ls2 := [(0, ov_r 0), (1, ov_i w)]) (st2 := [ov_i 8, ov_i 0, ov_r 46]) (pc2 := 80) b_187_77_2 rfl rfl ?_
                refine ov_cV (as := [ov_i 0, ov_i 8]) (st := []) (d2 := d - 1) d_187_80 lk_OF_308 rfl (Nat.le_of_ble_eq_true rfl) (c := 12) (zb_46 I7) (zs_46 I7) ⟨by decide, rfl⟩ (by omega) (c_Ways_commonRows_46 (d - 1) (by omega) U I7 0 8 (by omega) (by omega) (by omega)) ?_
                rintro _ _ _ ⟨v18, rfl, rfl, rfl, f17⟩
                show ov_R u d ov_m187 83 [(0, ov_r 0), (1, ov_i w)] [ov_l v18] z5 h6 (P_OF_fits_0 F z h w)
                clear f17
                refine ov_goto (tgt := 97) d_187_83 (by decide) ?_
                exact ov_retl (st := []) d_187_97 rfl ⟨_, rfl, I7, (by show (h6 36 7) = (h 36 7) ∧ (h6 1 1) = (h 1 1) ∧ (h6 90 2) = (h 90 2) ∧ (h6 0 10) = (h 0 10) ∧ (h6 0 11) = (h 0 11) ∧ (h6 0 12) = (h 0 12) ∧ (h6 0 13) = (h 0 13) ∧ (h6 3 1) = (h 3 1) ∧ (h6 36 8) = (h 36 8) ∧ (h6 49 4) = (h 49 4) ∧ (h6 49 5) = (h 49 5) ∧ (h6 64 0) = (h 64 0) ∧ (h6 76 0) = (h 76 0); omega)⟩
            · skip
              refine ov_blk (ls2 := [(0, ov_r 0), (1, ov_i w)]) (st2 := [ov_r 0]) (pc2 := 61) b_187_60_1 rfl rfl ?_
              refine ov_getf (v := ov_r 46) d_187_61 fl_OF_57 (zb_0 I7) (zs_0 I7) (congrArg ov_r (rg_0_7 I7)) ?_
              refine ov_getf (v := ov_l (h6 46 1)) d_187_64 fl_OF_305 (zb_46 I7) (zs_46 I7) rfl ?_
              exact ov_retl (st := []) d_187_67 rfl ⟨_, rfl, I7, (by show (h6 36 7) = (h 36 7) ∧ (h6 1 1) = (h 1 1) ∧ (h6 90 2) = (h 90 2) ∧ (h6 0 10) = (h 0 10) ∧ (h6 0 11) = (h 0 11) ∧ (h6 0 12) = (h 0 12) ∧ (h6 0 13) = (h 0 13) ∧ (h6 3 1) = (h 3 1) ∧ (h6 36 8) = (h 36 8) ∧ (h6 49 4) = (h 49 4) ∧ (h6 49 5) = (h 49 5) ∧ (h6 64 0) = (h 64 0) ∧ (h6 76 0) = (h 76 0); omega)⟩
          · skip
            refine ov_ldc2 (n := (-1)) d_187_51 kc_OF_274 ?_
            exact ov_retl (st := []) d_187_54 rfl ⟨_, rfl, I7, (by show (h6 36 7) = (h 36 7) ∧ (h6 1 1) = (h 1 1) ∧ (h6 90 2) = (h 90 2) ∧ (h6 0 10) = (h 0 10) ∧ (h6 0 11) = (h 0 11) ∧ (h6 0 12) = (h 0 12) ∧ (h6 0 13) = (h 0 13) ∧ (h6 3 1) = (h 3 1) ∧ (h6 36 8) = (h 36 8) ∧ (h6 49 4) = (h 49 4) ∧ (h6 49 5) = (h 49 5) ∧ (h6 64 0) = (h 64 0) ∧ (h6 76 0) = (h 76 0); omega)⟩
        · skip
          refine ov_blk (ls2 := [(0, ov_r 0), (1, ov_i w)]) (st2 := [ov_r 0]) (pc2 := 33) b_187_32_1 rfl rfl ?_
          refine ov_getf (v := ov_r 46) d_187_33 fl_OF_57 (zb_0 I7) (zs_0 I7) (congrArg ov_r (rg_0_7 I7)) ?_
          refine ov_getf (v := ov_i (h6 46 0)) d_187_36 fl_OF_302 (zb_46 I7) (zs_46 I7) rfl ?_
          have g19 := rg_46_0 I7
          refine ov_blk (ls2 := [(0, ov_r 0), (1, ov_i w)]) (st2 := [ov_l (ov_w (h6 46 0))]) (pc2 := 40) b_187_39_1 rfl rfl ?_
          have g20 := ov_wg (h6 46 0)
          have g21 := ov_wq (h6 46 0)
          exact ov_retl (st := []) d_187_40 rfl ⟨_, rfl, I7, (by show (h6 36 7) = (h 36 7) ∧ (h6 1 1) = (h 1 1) ∧ (h6 90 2) = (h 90 2) ∧ (h6 0 10) = (h 0 10) ∧ (h6 0 11) = (h 0 11) ∧ (h6 0 12) = (h 0 12) ∧ (h6 0 13) = (h 0 13) ∧ (h6 3 1) = (h 3 1) ∧ (h6 36 8) = (h 36 8) ∧ (h6 49 4) = (h 49 4) ∧ (h6 49 5) = (h 49 5) ∧ (h6 64 0) = (h 64 0) ∧ (h6 76 0) = (h 76 0); omega)⟩
      · skip
        refine ov_getf (v := ov_r 70) d_187_18 fl_OF_78 (zb_0 I) (zs_0 I) (congrArg ov_r e3) ?_
        refine ov_blk (ls2 := [(0, ov_r 0), (1, ov_i w)]) (st2 := [ov_r 0, ov_r 70, ov_r 46]) (pc2 := 22) b_187_21_1 rfl rfl ?_
        refine ov_getf (v := ov_r 4) d_187_22 fl_OF_28 (zb_0 I) (zs_0 I) (congrArg ov_r (rg_0_2 I)) ?_
        refine ov_cV (as := [ov_r 70, ov_r 4]) (st := []) (d2 := d - 1) d_187_25 lk_OF_298 rfl (Nat.le_of_ble_eq_true rfl) (c := 12) (zb_46 I) (zs_46 I) ⟨by decide, rfl⟩ (by omega) (c_Ways_fitSightings_46_70_4 (d - 1) (by omega) U I (by omega)) ?_
        rintro _ z23 h24 ⟨rfl, I25, f22⟩
        show ov_R u d ov_m187 28 [(0, ov_r 0), (1, ov_i w)] [] z23 h24 (P_OF_fits_0 F z h w)
        have f26 : (h24 36 7) = (h 36 7) ∧ (h24 1 1) = (h 1 1) ∧ (h24 90 2) = (h 90 2) ∧ (h24 0 10) = (h 0 10) ∧ (h24 0 11) = (h 0 11) ∧ (h24 0 12) = (h 0 12) ∧ (h24 0 13) = (h 0 13) ∧ (h24 3 1) = (h 3 1) ∧ (h24 36 8) = (h 36 8) ∧ (h24 49 4) = (h 49 4) ∧ (h24 49 5) = (h 49 5) ∧ (h24 64 0) = (h 64 0) ∧ (h24 76 0) = (h 76 0) := f22
        clear f22
        have e27 : h24 0 10 = 70 := by omega
        refine ov_blk (ls2 := [(0, ov_r 0), (1, ov_i w)]) (st2 := [ov_i w]) (pc2 := 29) b_187_28_1 rfl rfl ?_
        refine ov_ifne (tgt := 41) d_187_29 (by decide) (by omega) (fun c28 => ?_) (fun c28 => ?_)
        · skip
          refine ov_blk (ls2 := [(0, ov_r 0), (1, ov_i w)]) (st2 := [ov_r 0]) (pc2 := 42) b_187_41_1 rfl rfl ?_
          refine ov_getf (v := ov_r 46) d_187_42 fl_OF_57 (zb_0 I25) (zs_0 I25) (congrArg ov_r (rg_0_7 I25)) ?_
          refine ov_getf (v := ov_i (h24 46 0)) d_187_45 fl_OF_302 (zb_46 I25) (zs_46 I25) rfl ?_
          have g29 := rg_46_0 I25
          refine ov_ifne (tgt := 55) d_187_48 (by decide) (by omega) (fun c30 => ?_) (fun c30 => ?_)
          · skip
            refine ov_blk (ls2 := [(0, ov_r 0), (1, ov_i w)]) (st2 := [ov_i 1, ov_i w]) (pc2 := 57) b_187_55_2 rfl rfl ?_
            refine ov_icne (tgt := 68) d_187_57 (by decide) (by omega) (by omega) (fun c31 => ?_) (fun c31 => ?_)
            · skip
              refine ov_blk (ls2 := [(0, ov_r 0), (1, ov_i w)]) (st2 := [ov_i 2, ov_i w]) (pc2 := 70) b_187_68_2 rfl rfl ?_
              refine ov_icne (tgt := 86) d_187_70 (by decide) (by omega) (by omega) (fun c32 => ?_) (fun c32 => ?_)
              · skip
                refine ov_blk (ls2 := [(0, ov_r 0), (1, ov_i w)]) (st2 := [ov_r 0]) (pc2 := 87) b_187_86_1 rfl rfl ?_
                refine ov_getf (v := ov_r 46) d_187_87 fl_OF_57 (zb_0 I25) (zs_0 I25) (congrArg ov_r (rg_0_7 I25)) ?_
                refine ov_blk (ls2 := [(0, ov_r 0), (1, ov_i w)]) (st2 := [ov_i 9, ov_i 8, ov_r 46]) (pc2 := 94) b_187_90_2 rfl rfl ?_
                refine ov_cV (as := [ov_i 8, ov_i 9]) (st := []) (d2 := d - 1) d_187_94 lk_OF_308 rfl (Nat.le_of_ble_eq_true rfl) (c := 12) (zb_46 I25) (zs_46 I25) ⟨by decide, rfl⟩ (by omega) (c_Ways_commonRows_46 (d - 1) (by omega) U I25 8 9 (by omega) (by omega) (by omega)) ?_
                rintro _ _ _ ⟨v34, rfl, rfl, rfl, f33⟩
                show ov_R u d ov_m187 97 [(0, ov_r 0), (1, ov_i w)] [ov_l v34] z23 h24 (P_OF_fits_0 F z h w)
                clear f33
                exact ov_retl (st := []) d_187_97 rfl ⟨_, rfl, I25, (by show (h24 36 7) = (h 36 7) ∧ (h24 1 1) = (h 1 1) ∧ (h24 90 2) = (h 90 2) ∧ (h24 0 10) = (h 0 10) ∧ (h24 0 11) = (h 0 11) ∧ (h24 0 12) = (h 0 12) ∧ (h24 0 13) = (h 0 13) ∧ (h24 3 1) = (h 3 1) ∧ (h24 36 8) = (h 36 8) ∧ (h24 49 4) = (h 49 4) ∧ (h24 49 5) = (h 49 5) ∧ (h24 64 0) = (h 64 0) ∧ (h24 76 0) = (h 76 0); omega)⟩
              · skip
                refine ov_blk (ls2 := [(0, ov_r 0), (1, ov_i w)]) (st2 := [ov_r 0]) (pc2 := 74) b_187_73_1 rfl rfl ?_
                refine ov_getf (v := ov_r 46) d_187_74 fl_OF_57 (zb_0 I25) (zs_0 I25) (congrArg ov_r (rg_0_7 I25)) ?_
                refine ov_blk (ls2 := [(0, ov_r 0), (1, ov_i w)]) (st2 := [ov_i 8, ov_i 0, ov_r 46]) (pc2 := 80) b_187_77_2 rfl rfl ?_
                refine ov_cV (as := [ov_i 0, ov_i 8]) (st := []) (d2 := d - 1) d_187_80 lk_OF_308 rfl (Nat.le_of_ble_eq_true rfl) (c := 12) (zb_46 I25) (zs_46 I25) ⟨by decide, rfl⟩ (by omega) (c_Ways_commonRows_46 (d - 1) (by omega) U I25 0 8 (by omega) (by omega) (by omega)) ?_
                rintro _ _ _ ⟨v36, rfl, rfl, rfl, f35⟩
                show ov_R u d ov_m187 83 [(0, ov_r 0), (1, ov_i w)] [ov_l v36] z23 h24 (P_OF_fits_0 F z h w)
                clear f35
                refine ov_goto (tgt := 97) d_187_83 (by decide) ?_
                exact ov_retl (st := []) d_187_97 rfl ⟨_, rfl, I25, (by show (h24 36 7) = (h 36 7) ∧ (h24 1 1) = (h 1 1) ∧ (h24 90 2) = (h 90 2) ∧ (h24 0 10) = (h 0 10) ∧ (h24 0 11) = (h 0 11) ∧ (h24 0 12) = (h 0 12) ∧ (h24 0 13) = (h 0 13) ∧ (h24 3 1) = (h 3 1) ∧ (h24 36 8) = (h 36 8) ∧ (h24 49 4) = (h 49 4) ∧ (h24 49 5) = (h 49 5) ∧ (h24 64 0) = (h 64 0) ∧ (h24 76 0) = (h 76 0); omega)⟩
            · skip
              refine ov_blk (ls2 := [(0, ov_r 0), (1, ov_i w)]) (st2 := [ov_r 0]) (pc2 := 61) b_187_60_1 rfl rfl ?_
              refine ov_getf (v := ov_r 46) d_187_61 fl_OF_57 (zb_0 I25) (zs_0 I25) (congrArg ov_r (rg_0_7 I25)) ?_
              refine ov_getf (v := ov_l (h24 46 1)) d_187_64 fl_OF_305 (zb_46 I25) (zs_46 I25) rfl ?_
              exact ov_retl (st := []) d_187_67 rfl ⟨_, rfl, I25, (by show (h24 36 7) = (h 36 7) ∧ (h24 1 1) = (h 1 1) ∧ (h24 90 2) = (h 90 2) ∧ (h24 0 10) = (h 0 10) ∧ (h24 0 11) = (h 0 11) ∧ (h24 0 12) = (h 0 12) ∧ (h24 0 13) = (h 0 13) ∧ (h24 3 1) = (h 3 1) ∧ (h24 36 8) = (h 36 8) ∧ (h24 49 4) = (h 49 4) ∧ (h24 49 5) = (h 49 5) ∧ (h24 64 0) = (h 64 0) ∧ (h24 76 0) = (h 76 0); omega)⟩
          · skip
            refine ov_ldc2 (n := (-1)) d_187_51 kc_OF_274 ?_
            exact ov_retl (st := []) d_187_54 rfl ⟨_, rfl, I25, (by show (h24 36 7) = (h 36 7) ∧ (h24 1 1) = (h 1 1) ∧ (h24 90 2) = (h 90 2) ∧ (h24 0 10) = (h 0 10) ∧ (h24 0 11) = (h 0 11) ∧ (h24 0 12) = (h 0 12) ∧ (h24 0 13) = (h 0 13) ∧ (h24 3 1) = (h 3 1) ∧ (h24 36 8) = (h 36 8) ∧ (h24 49 4) = (h 49 4) ∧ (h24 49 5) = (h 49 5) ∧ (h24 64 0) = (h 64 0) ∧ (h24 76 0) = (h 76 0); omega)⟩
        · skip
          refine ov_blk (ls2 := [(0, ov_r 0), (1, ov_i w)]) (st2 := [ov_r 0]) (pc2 := 33) b_187_32_1 rfl rfl ?_
          refine ov_getf (v := ov_r 46) d_187_33 fl_OF_57 (zb_0 I25) (zs_0 I25) (congrArg ov_r (rg_0_7 I25)) ?_
          refine ov_getf (v := ov_i (h24 46 0)) d_187_36 fl_OF_302 (zb_46 I25) (zs_46 I25) rfl ?_
          have g37 := rg_46_0 I25
          refine ov_blk (ls2 := [(0, ov_r 0), (1, ov_i w)]) (st2 := [ov_l (ov_w (h24 46 0))]) (pc2 := 40) b_187_39_1 rfl rfl ?_
          have g38 := ov_wg (h24 46 0)
          have g39 := ov_wq (h24 46 0)
          exact ov_retl (st := []) d_187_40 rfl ⟨_, rfl, I25, (by show (h24 36 7) = (h 36 7) ∧ (h24 1 1) = (h 1 1) ∧ (h24 90 2) = (h 90 2) ∧ (h24 0 10) = (h 0 10) ∧ (h24 0 11) = (h 0 11) ∧ (h24 0 12) = (h 0 12) ∧ (h24 0 13) = (h 0 13) ∧ (h24 3 1) = (h 3 1) ∧ (h24 36 8) = (h 36 8) ∧ (h24 49 4) = (h 49 4) ∧ (h24 49 5) = (h 49 5) ∧ (h24 64 0) = (h 64 0) ∧ (h24 76 0) = (h 76 0); omega)⟩
    · skip
      refine ov_ldc2 (n := (-1)) d_187_9 kc_OF_274 ?_
      exact ov_retl (st := []) d_187_12 rfl ⟨_, rfl, I, (by show (h 36 7) = (h 36 7) ∧ (h 1 1) = (h 1 1) ∧ (h 90 2) = (h 90 2) ∧ (h 0 10) = (h 0 10) ∧ (h 0 11) = (h 0 11) ∧ (h 0 12) = (h 0 12) ∧ (h 0 13) = (h 0 13) ∧ (h 3 1) = (h 3 1) ∧ (h 36 8) = (h 36 8) ∧ (h 49 4) = (h 49 4) ∧ (h 49 5) = (h 49 5) ∧ (h 64 0) = (h 64 0) ∧ (h 76 0) = (h 76 0); omega)⟩
abbrev P_OF_nights_0 (F : ov_H) (z : ov_Z) (h : ov_H) (sd : Int) (n : Int) (g : Int) (w : Int) : Option ov_V → ov_Z → ov_H → Prop := fun r0 z' h' => ∃ r : Int, r0 = some (ov_i r) ∧ ov_I F z' h' ∧ (((h' 36 7) = 1 → (h' 36 8) = (h' 0 10)) ∧ (h' 1 1) = (h 1 1) ∧ (h' 90 2) = (h 90 2) ∧ (h' 0 10) = (h 0 10) ∧ (h' 0 11) = (h 0 11) ∧ (h' 0 12) = (h 0 12) ∧ (h' 0 13) = (h 0 13) ∧ (h' 3 1) = (h 3 1) ∧ (h' 46 3) = (h 46 3) ∧ (h' 46 4) = (h 46 4) ∧ (h' 49 4) = (h 49 4) ∧ (h' 49 5) = (h 49 5) ∧ (h' 64 0) = (h 64 0) ∧ (h' 76 0) = (h 76 0))
set_option maxHeartbeats 4000000 in
theorem c_OF_nights_0 {u : ov_U} {F : ov_H} {z : ov_Z} {h : ov_H} (d : Nat) (hd : 320 ≤ d) (U : ov_cap u) (I : ov_I F z h) (hw : ov_kw 2418441935039617055064064 F) (sd : Int) (n : Int) (g : Int) (w : Int) (g_sd : ov_g sd) (g_n : ov_g n) (g_g : ov_g g) (g_w : ov_g w) (p0 : h 36 7 = 1 → h 36 8 = h 0 10) (p1 : (h 0 10 = 58 ∧ F (-5) 58 = 1 ∨ h 0 10 = 70 ∧ F (-5) 70 = 1)) : ov_T u d ov_m192 [ov_r 0, ov_i sd, ov_i n, ov_i g, ov_i w] z h (P_OF_nights_0 F z h sd n g w) := by
  refine ov_en rfl (Nat.le_of_ble_eq_true rfl) ?_
  show ov_R u d ov_m192 0 [(0, ov_r 0), (1, ov_i sd), (2, ov_i n), (3, ov_i g), (4, ov_i w)] [] z h (P_OF_nights_0 F z h sd n g w)
  refine ov_blk (ls2 := [(0, ov_r 0), (1, ov_i sd), (2, ov_i n), (3, ov_i g), (4, ov_i w)]) (st2 := [ov_i 1, ov_i n]) (pc2 := 2) b_192_0_2 rfl rfl ?_
  refine ov_iclt (tgt := 22) d_192_2 (by decide) (by omega) (by omega) (fun c1 => ?_) (fun c1 => ?_)
  · skip
    refine ov_blk (ls2 := [(0, ov_r 0), (1, ov_i sd), (2, ov_i n), (3, ov_i g), (4, ov_i w)]) (st2 := [ov_i (-1)]) (pc2 := 23) b_192_22_1 rfl rfl ?_
    exact ov_reti (st := []) d_192_23 rfl ⟨_, rfl, I, (by show ((h 36 7) = 1 → (h 36 8) = (h 0 10)) ∧ (h 1 1) = (h 1 1) ∧ (h 90 2) = (h 90 2) ∧ (h 0 10) = (h 0 10) ∧ (h 0 11) = (h 0 11) ∧ (h 0 12) = (h 0 12) ∧ (h 0 13) = (h 0 13) ∧ (h 3 1) = (h 3 1) ∧ (h 46 3) = (h 46 3) ∧ (h 46 4) = (h 46 4) ∧ (h 49 4) = (h 49 4) ∧ (h 49 5) = (h 49 5) ∧ (h 64 0) = (h 64 0) ∧ (h 76 0) = (h 76 0); omega)⟩
  · skip
    refine ov_blk (ls2 := [(0, ov_r 0), (1, ov_i sd), (2, ov_i n), (3, ov_i g), (4, ov_i w)]) (st2 := [ov_i 30, ov_i n]) (pc2 := 8) b_192_5_2 rfl rfl ?_
    refine ov_icgt (tgt := 22) d_192_8 (by decide) (by omega) (by omega) (fun c2 => ?_) (fun c2 => ?_)
    · skip
      refine ov_blk (ls2 := [(0, ov_r 0), (1, ov_i sd), (2, ov_i n), (3, ov_i g), (4, ov_i w)]) (st2 := [ov_i (-1)]) (pc2 := 23) b_192_22_1 rfl rfl ?_
      exact ov_reti (st := []) d_192_23 rfl ⟨_, rfl, I, (by show ((h 36 7) = 1 → (h 36 8) = (h 0 10)) ∧ (h 1 1) = (h 1 1) ∧ (h 90 2) = (h 90 2) ∧ (h 0 10) = (h 0 10) ∧ (h 0 11) = (h 0 11) ∧ (h 0 12) = (h 0 12) ∧ (h 0 13) = (h 0 13) ∧ (h 3 1) = (h 3 1) ∧ (h 46 3) = (h 46 3) ∧ (h 46 4) = (h 46 4) ∧ (h 49 4) = (h 49 4) ∧ (h 49 5) = (h 49 5) ∧ (h 64 0) = (h 64 0) ∧ (h 76 0) = (h 76 0); omega)⟩
    · skip
      refine ov_blk (ls2 := [(0, ov_r 0), (1, ov_i sd), (2, ov_i n), (3, ov_i g), (4, ov_i w)]) (st2 := [ov_i w]) (pc2 := 13) b_192_11_1 rfl rfl ?_
      refine ov_iflt (tgt := 22) d_192_13 (by decide) (by omega) (fun c3 => ?_) (fun c3 => ?_)
      · skip
        refine ov_blk (ls2 := [(0, ov_r 0), (1, ov_i sd), (2, ov_i n), (3, ov_i g), (4, ov_i w)]) (st2 := [ov_i (-1)]) (pc2 := 23) b_192_22_1 rfl rfl ?_
        exact ov_reti (st := []) d_192_23 rfl ⟨_, rfl, I, (by show ((h 36 7) = 1 → (h 36 8) = (h 0 10)) ∧ (h 1 1) = (h 1 1) ∧ (h 90 2) = (h 90 2) ∧ (h 0 10) = (h 0 10) ∧ (h 0 11) = (h 0 11) ∧ (h 0 12) = (h 0 12) ∧ (h 0 13) = (h 0 13) ∧ (h 3 1) = (h 3 1) ∧ (h 46 3) = (h 46 3) ∧ (h 46 4) = (h 46 4) ∧ (h 49 4) = (h 49 4) ∧ (h 49 5) = (h 49 5) ∧ (h 64 0) = (h 64 0) ∧ (h 76 0) = (h 76 0); omega)⟩
      · skip
        refine ov_blk (ls2 := [(0, ov_r 0), (1, ov_i sd), (2, ov_i n), (3, ov_i g), (4, ov_i w)]) (st2 := [ov_i 1, ov_i w]) (pc2 := 19) b_192_16_2 rfl rfl ?_
        refine ov_icle (tgt := 24) d_192_19 (by decide) (by omega) (by omega) (fun c4 => ?_) (fun c4 => ?_)
        · skip
          refine ov_blk (ls2 := [(0, ov_r 0), (1, ov_i sd), (2, ov_i n), (3, ov_i g), (4, ov_i w)]) (st2 := [ov_i 0, ov_i 0, ov_i 0, ov_i g, ov_r 0]) (pc2 := 29) b_192_24_5 rfl rfl ?_
          refine ov_cV (as := [ov_i g, ov_i 0, ov_i 0, ov_i 0]) (st := []) (d2 := d - 1) d_192_29 lk_OF_211 rfl (Nat.le_of_ble_eq_true rfl) (c := 0) (zb_0 I) (zs_0 I) ⟨by decide, rfl⟩ (by omega) (c_OF_reckoned_0 (d - 1) (by omega) U I (ov_kws hw (by decide +kernel)) g 0 0 0 (by omega) (by omega) (by omega) (by omega) (by omega) (by omega) (by omega)) ?_
          rintro _ z7 h8 ⟨v6, rfl, I9, f5⟩
          show ov_R u d ov_m192 32 [(0, ov_r 0), (1, ov_i sd), (2, ov_i n), (3, ov_i g), (4, ov_i w)] [ov_i v6] z7 h8 (P_OF_nights_0 F z h sd n g w)
          have f10 : -2147483648 ≤ v6 ∧ v6 ≤ 2147483647 ∧ ((h8 36 7) = 1 → (h8 36 8) = (h8 0 10)) ∧ (¬ v6 = -1 → (h8 36 8) = (h8 0 10)) ∧ (h8 1 1) = (h 1 1) ∧ (h8 90 2) = (h 90 2) ∧ (h8 0 10) = (h 0 10) ∧ (h8 0 11) = (h 0 11) ∧ (h8 0 12) = (h 0 12) ∧ (h8 0 13) = (h 0 13) ∧ (h8 3 1) = (h 3 1) ∧ (h8 46 3) = (h 46 3) ∧ (h8 46 4) = (h 46 4) ∧ (h8 49 4) = (h 49 4) ∧ (h8 49 5) = (h 49 5) ∧ (h8 64 0) = (h 64 0) ∧ (h8 76 0) = (h 76 0) := f5
          clear f5
          refine ov_blk (ls2 := [(0, ov_r 0), (1, ov_i sd), (2, ov_i n), (3, ov_i g), (4, ov_i w)]) (st2 := [ov_i (-1), ov_i v6]) (pc2 := 33) b_192_32_1 rfl rfl ?_
          refine ov_icne (tgt := 38) d_192_33 (by decide) (by omega) (by omega) (fun c11 => ?_) (fun c11 => ?_)
          · skip
            refine ov_blk (ls2 := [(0, ov_r 0), (1, ov_i sd), (2, ov_i n), (3, ov_i g), (4, ov_i w)]) (st2 := [ov_r 0]) (pc2 := 39) b_192_38_1 rfl rfl ?_
            refine ov_getf (v := ov_r 36) d_192_39 fl_OF_50 (zb_0 I9) (zs_0 I9) (congrArg ov_r (rg_0_6 I9)) ?_
            refine ov_blk (ls2 := [(0, ov_r 0), (1, ov_i sd), (2, ov_i n), (3, ov_i g), (4, ov_i w)]) (st2 := [ov_i n, ov_i sd, ov_r 36]) (pc2 := 44) b_192_42_2 rfl rfl ?_
            rcases rg_36_8 I9 with e12 | e12 | e12
            · omega
            · skip
              refine ov_cV (as := [ov_i sd, ov_i n]) (st := []) (d2 := d - 1) d_192_44 lk_OF_312 rfl (Nat.le_of_ble_eq_true rfl) (c := 2) (zb_36 I9) (zs_36 I9) ⟨by decide, rfl⟩ (by omega) (c_Goers_spendNights_36_k36_8_58 (d - 1) (by omega) U I9 (ov_kws hw (by decide +kernel)) sd n e12 (by omega) (by omega) (by omega) (by omega)) ?_
              rintro _ z14 h15 ⟨rfl, I16, f13⟩
              show ov_R u d ov_m192 47 [(0, ov_r 0), (1, ov_i sd), (2, ov_i n), (3, ov_i g), (4, ov_i w)] [] z14 h15 (P_OF_nights_0 F z h sd n g w)
              have f17 : (h15 36 7) = (h8 36 7) ∧ (h15 1 1) = (h8 1 1) ∧ (h15 90 2) = (h8 90 2) ∧ (h15 0 10) = (h8 0 10) ∧ (h15 0 11) = (h8 0 11) ∧ (h15 0 12) = (h8 0 12) ∧ (h15 0 13) = (h8 0 13) ∧ (h15 3 1) = (h8 3 1) ∧ (h15 36 8) = (h8 36 8) ∧ (h15 46 3) = (h8 46 3) ∧ (h15 46 4) = (h8 46 4) ∧ (h15 49 4) = (h8 49 4) ∧ (h15 49 5) = (h8 49 5) ∧ (h15 64 0) = (h8 64 0) ∧ (h15 76 0) = (h8 76 0) := f13
              clear f13
              have e18 : h15 36 8 = 58 := by omega
              refine ov_blk (ls2 := [(0, ov_r 0), (1, ov_i sd), (2, ov_i n), (3, ov_i g), (4, ov_i w)]) (st2 := [ov_i w]) (pc2 := 49) b_192_47_1 rfl rfl ?_
              refine ov_ifne (tgt := 62) d_192_49 (by decide) (by omega) (fun c19 => ?_) (fun c19 => ?_)
              · skip
                refine ov_blk (ls2 := [(0, ov_r 0), (1, ov_i sd), (2, ov_i n), (3, ov_i g), (4, ov_i w)]) (st2 := [ov_r 0]) (pc2 := 63) b_192_62_1 rfl rfl ?_
                refine ov_getf (v := ov_r 36) d_192_63 fl_OF_50 (zb_0 I16) (zs_0 I16) (congrArg ov_r (rg_0_6 I16)) ?_
                refine ov_getf (v := ov_i (h15 36 1)) d_192_66 fl_OF_319 (zb_36 I16) (zs_36 I16) rfl ?_
                have g20 := rg_36_1 I16
                exact ov_reti (st := []) d_192_69 rfl ⟨_, rfl, I16, (by show ((h15 36 7) = 1 → (h15 36 8) = (h15 0 10)) ∧ (h15 1 1) = (h 1 1) ∧ (h15 90 2) = (h 90 2) ∧ (h15 0 10) = (h 0 10) ∧ (h15 0 11) = (h 0 11) ∧ (h15 0 12) = (h 0 12) ∧ (h15 0 13) = (h 0 13) ∧ (h15 3 1) = (h 3 1) ∧ (h15 46 3) = (h 46 3) ∧ (h15 46 4) = (h 46 4) ∧ (h15 49 4) = (h 49 4) ∧ (h15 49 5) = (h 49 5) ∧ (h15 64 0) = (h 64 0) ∧ (h15 76 0) = (h 76 0); omega)⟩
              · skip
                refine ov_blk (ls2 := [(0, ov_r 0), (1, ov_i sd), (2, ov_i n), (3, ov_i g), (4, ov_i w)]) (st2 := [ov_r 0]) (pc2 := 53) b_192_52_1 rfl rfl ?_
                refine ov_getf (v := ov_r 36) d_192_53 fl_OF_50 (zb_0 I16) (zs_0 I16) (congrArg ov_r (rg_0_6 I16)) ?_
                refine ov_getf (v := ov_i (h15 36 0)) d_192_56 fl_OF_316 (zb_36 I16) (zs_36 I16) rfl ?_
                have g21 := rg_36_0 I16
                refine ov_goto (tgt := 69) d_192_59 (by decide) ?_
                exact ov_reti (st := []) d_192_69 rfl ⟨_, rfl, I16, (by show ((h15 36 7) = 1 → (h15 36 8) = (h15 0 10)) ∧ (h15 1 1) = (h 1 1) ∧ (h15 90 2) = (h 90 2) ∧ (h15 0 10) = (h 0 10) ∧ (h15 0 11) = (h 0 11) ∧ (h15 0 12) = (h 0 12) ∧ (h15 0 13) = (h 0 13) ∧ (h15 3 1) = (h 3 1) ∧ (h15 46 3) = (h 46 3) ∧ (h15 46 4) = (h 46 4) ∧ (h15 49 4) = (h 49 4) ∧ (h15 49 5) = (h 49 5) ∧ (h15 64 0) = (h 64 0) ∧ (h15 76 0) = (h 76 0); omega)⟩
            · skip
              refine ov_cV (as := [ov_i sd, ov_i n]) (st := []) (d2 := d - 1) d_192_44 lk_OF_312 rfl (Nat.le_of_ble_eq_true rfl) (c := 2) (zb_36 I9) (zs_36 I9) ⟨by decide, rfl⟩ (by omega) (c_Goers_spendNights_36_k36_8_70 (d - 1) (by omega) U I9 (ov_kws hw (by decide +kernel)) sd n e12 (by omega) (by omega) (by omega) (by omega)) ?_
              rintro _ z23 h24 ⟨rfl, I25, f22⟩
              show ov_R u d ov_m192 47 [(0, ov_r 0), (1, ov_i sd), (2, ov_i n), (3, ov_i g), (4, ov_i w)] [] z23 h24 (P_OF_nights_0 F z h sd n g w)
              have f26 : (h24 36 7) = (h8 36 7) ∧ (h24 1 1) = (h8 1 1) ∧ (h24 90 2) = (h8 90 2) ∧ (h24 0 10) = (h8 0 10) ∧ (h24 0 11) = (h8 0 11) ∧ (h24 0 12) = (h8 0 12) ∧ (h24 0 13) = (h8 0 13) ∧ (h24 3 1) = (h8 3 1) ∧ (h24 36 8) = (h8 36 8) ∧ (h24 46 3) = (h8 46 3) ∧ (h24 46 4) = (h8 46 4) ∧ (h24 49 4) = (h8 49 4) ∧ (h24 49 5) = (h8 49 5) ∧ (h24 64 0) = (h8 64 0) ∧ (h24 76 0) = (h8 76 0) := f22
              clear f22
              have e27 : h24 36 8 = 70 := by omega
              refine ov_blk (ls2 := [(0, ov_r 0), (1, ov_i sd), (2, ov_i n), (3, ov_i g), (4, ov_i w)]) (st2 := [ov_i w]) (pc2 := 49) b_192_47_1 rfl rfl ?_
              refine ov_ifne (tgt := 62) d_192_49 (by decide) (by omega) (fun c28 => ?_) (fun c28 => ?_)
              · skip
                refine ov_blk (ls2 := [(0, ov_r 0), (1, ov_i sd), (2, ov_i n), (3, ov_i g), (4, ov_i w)]) (st2 := [ov_r 0]) (pc2 := 63) b_192_62_1 rfl rfl ?_
                refine ov_getf (v := ov_r 36) d_192_63 fl_OF_50 (zb_0 I25) (zs_0 I25) (congrArg ov_r (rg_0_6 I25)) ?_
                refine ov_getf (v := ov_i (h24 36 1)) d_192_66 fl_OF_319 (zb_36 I25) (zs_36 I25) rfl ?_
                have g29 := rg_36_1 I25
                exact ov_reti (st := []) d_192_69 rfl ⟨_, rfl, I25, (by show ((h24 36 7) = 1 → (h24 36 8) = (h24 0 10)) ∧ (h24 1 1) = (h 1 1) ∧ (h24 90 2) = (h 90 2) ∧ (h24 0 10) = (h 0 10) ∧ (h24 0 11) = (h 0 11) ∧ (h24 0 12) = (h 0 12) ∧ (h24 0 13) = (h 0 13) ∧ (h24 3 1) = (h 3 1) ∧ (h24 46 3) = (h 46 3) ∧ (h24 46 4) = (h 46 4) ∧ (h24 49 4) = (h 49 4) ∧ (h24 49 5) = (h 49 5) ∧ (h24 64 0) = (h 64 0) ∧ (h24 76 0) = (h 76 0); omega)⟩
              · skip
                refine ov_blk (ls2 := [(0, ov_r 0), (1, ov_i sd), (2, ov_i n), (3, ov_i g), (4, ov_i w)]) (st2 := [ov_r 0]) (pc2 := 53) b_192_52_1 rfl rfl ?_
                refine ov_getf (v := ov_r 36) d_192_53 fl_OF_50 (zb_0 I25) (zs_0 I25) (congrArg ov_r (rg_0_6 I25)) ?_
                refine ov_getf (v := ov_i (h24 36 0)) d_192_56 fl_OF_316 (zb_36 I25) (zs_36 I25) rfl ?_
                have g30 := rg_36_0 I25
                refine ov_goto (tgt := 69) d_192_59 (by decide) ?_
                exact ov_reti (st := []) d_192_69 rfl ⟨_, rfl, I25, (by show ((h24 36 7) = 1 → (h24 36 8) = (h24 0 10)) ∧ (h24 1 1) = (h 1 1) ∧ (h24 90 2) = (h 90 2) ∧ (h24 0 10) = (h 0 10) ∧ (h24 0 11) = (h 0 11) ∧ (h24 0 12) = (h 0 12) ∧ (h24 0 13) = (h 0 13) ∧ (h24 3 1) = (h 3 1) ∧ (h24 46 3) = (h 46 3) ∧ (h24 46 4) = (h 46 4) ∧ (h24 49 4) = (h 49 4) ∧ (h24 49 5) = (h 49 5) ∧ (h24 64 0) = (h 64 0) ∧ (h24 76 0) = (h 76 0); omega)⟩
          · skip
            refine ov_blk (ls2 := [(0, ov_r 0), (1, ov_i sd), (2, ov_i n), (3, ov_i g), (4, ov_i w)]) (st2 := [ov_i (-1)]) (pc2 := 37) b_192_36_1 rfl rfl ?_
            exact ov_reti (st := []) d_192_37 rfl ⟨_, rfl, I9, (by show ((h8 36 7) = 1 → (h8 36 8) = (h8 0 10)) ∧ (h8 1 1) = (h 1 1) ∧ (h8 90 2) = (h 90 2) ∧ (h8 0 10) = (h 0 10) ∧ (h8 0 11) = (h 0 11) ∧ (h8 0 12) = (h 0 12) ∧ (h8 0 13) = (h 0 13) ∧ (h8 3 1) = (h 3 1) ∧ (h8 46 3) = (h 46 3) ∧ (h8 46 4) = (h 46 4) ∧ (h8 49 4) = (h 49 4) ∧ (h8 49 5) = (h 49 5) ∧ (h8 64 0) = (h 64 0) ∧ (h8 76 0) = (h 76 0); omega)⟩
        · skip
          refine ov_blk (ls2 := [(0, ov_r 0), (1, ov_i sd), (2, ov_i n), (3, ov_i g), (4, ov_i w)]) (st2 := [ov_i (-1)]) (pc2 := 23) b_192_22_1 rfl rfl ?_
          exact ov_reti (st := []) d_192_23 rfl ⟨_, rfl, I, (by show ((h 36 7) = 1 → (h 36 8) = (h 0 10)) ∧ (h 1 1) = (h 1 1) ∧ (h 90 2) = (h 90 2) ∧ (h 0 10) = (h 0 10) ∧ (h 0 11) = (h 0 11) ∧ (h 0 12) = (h 0 12) ∧ (h 0 13) = (h 0 13) ∧ (h 3 1) = (h 3 1) ∧ (h 46 3) = (h 46 3) ∧ (h 46 4) = (h 46 4) ∧ (h 49 4) = (h 49 4) ∧ (h 49 5) = (h 49 5) ∧ (h 64 0) = (h 64 0) ∧ (h 76 0) = (h 76 0); omega)⟩

abbrev P_OF_light_0 (F : ov_H) (z : ov_Z) (h : ov_H) (x : Int) (y : Int) (w : Int) : Option ov_V → ov_Z → ov_H → Prop := fun r0 z' h' => ∃ r : Int, r0 = some (ov_i r) ∧ z = z' ∧ h = h' ∧ (True)
set_option maxHeartbeats 4000000 in
theorem c_OF_light_0 {u : ov_U} {F : ov_H} {z : ov_Z} {h : ov_H} (d : Nat) (hd : 1 ≤ d) (U : ov_cap u) (I : ov_I F z h) (x : Int) (y : Int) (w : Int) (g_x : ov_g x) (g_y : ov_g y) (g_w : ov_g w) : ov_T u d ov_m93 [ov_r 0, ov_i x, ov_i y, ov_i w] z h (P_OF_light_0 F z h x y w) := by
  refine ov_en rfl (Nat.le_of_ble_eq_true rfl) ?_
  show ov_R u d ov_m93 0 [(0, ov_r 0), (1, ov_i x), (2, ov_i y), (3, ov_i w)] [] z h (P_OF_light_0 F z h x y w)
  refine ov_blk (ls2 := [(0, ov_r 0), (1, ov_i x), (2, ov_i y), (3, ov_i w)]) (st2 := [ov_r 0]) (pc2 := 1) b_93_0_1 rfl rfl ?_
  rcases rg_0_10 I with e1 | e1
  · skip
    refine ov_getf (v := ov_r 58) d_93_1 fl_OF_78 (zb_0 I) (zs_0 I) (congrArg ov_r e1) ?_
    refine ov_blk (ls2 := [(0, ov_r 0), (1, ov_i x), (2, ov_i y), (3, ov_i w)]) (st2 := [ov_i y, ov_i x, ov_r 58]) (pc2 := 6) b_93_4_2 rfl rfl ?_
    refine ov_cV (as := [ov_i x, ov_i y]) (st := []) (d2 := d - 1) d_93_6 lk_OF_131 rfl (Nat.le_of_ble_eq_true rfl) (c := 9) (zb_58 I) (zs_58 I) ⟨by decide, rfl⟩ (by omega) (c_Town_corner_58 (d - 1) (by omega) U I x y (by omega) (by omega)) ?_
    rintro _ _ _ ⟨v3, rfl, rfl, rfl, f2⟩
    show ov_R u d ov_m93 9 [(0, ov_r 0), (1, ov_i x), (2, ov_i y), (3, ov_i w)] [ov_i v3] z h (P_OF_light_0 F z h x y w)
    have f4 : v3 = -1 ∨ (0 ≤ x ∧ x < (h 58 0) ∧ 0 ≤ y ∧ y < (h 58 1) ∧ v3 = y * 6 + x ∧ (h 58 0) ≤ 6 ∧ (h 58 1) ≤ 9) := f2
    clear f2
    refine ov_blk (ls2 := [(0, ov_r 0), (1, ov_i x), (2, ov_i y), (3, ov_i w), (4, ov_i v3)]) (st2 := [ov_i (-1), ov_i v3]) (pc2 := 14) b_93_9_3 rfl rfl ?_
    refine ov_icne (tgt := 19) d_93_14 (by decide) (by omega) (by omega) (fun c5 => ?_) (fun c5 => ?_)
    · skip
      refine ov_blk (ls2 := [(0, ov_r 0), (1, ov_i x), (2, ov_i y), (3, ov_i w), (4, ov_i v3)]) (st2 := [ov_i 5, ov_i w]) (pc2 := 21) b_93_19_2 rfl rfl ?_
      refine ov_icne (tgt := 35) d_93_21 (by decide) (by omega) (by omega) (fun c6 => ?_) (fun c6 => ?_)
      · skip
        refine ov_blk (ls2 := [(0, ov_r 0), (1, ov_i x), (2, ov_i y), (3, ov_i w), (4, ov_i v3)]) (st2 := [ov_r 0]) (pc2 := 36) b_93_35_1 rfl rfl ?_
        refine ov_getf (v := ov_r 58) d_93_36 fl_OF_78 (zb_0 I) (zs_0 I) (congrArg ov_r e1) ?_
        refine ov_getf (v := ov_r 59) d_93_39 fl_OF_139 (zb_58 I) (zs_58 I) (congrArg ov_r (rg_58_2 I)) ?_
        refine ov_blk (ls2 := [(0, ov_r 0), (1, ov_i x), (2, ov_i y), (3, ov_i w), (4, ov_i v3)]) (st2 := [ov_i v3, ov_r 59]) (pc2 := 44) b_93_42_1 rfl rfl ?_
        refine ov_iald d_93_44 (zb_59 I) (zs_59 I) (by omega) ?_
        have g7 := ra_59 I v3
        refine ov_blk (ls2 := [(0, ov_r 0), (1, ov_i x), (2, ov_i y), (3, ov_i w), (4, ov_i v3)]) (st2 := [ov_i (-1), ov_i (h 59 v3)]) (pc2 := 46) b_93_45_1 rfl rfl ?_
        refine ov_icne (tgt := 51) d_93_46 (by decide) (by omega) (by omega) (fun c8 => ?_) (fun c8 => ?_)
        · skip
          refine ov_blk (ls2 := [(0, ov_r 0), (1, ov_i x), (2, ov_i y), (3, ov_i w), (4, ov_i v3)]) (st2 := [ov_i w]) (pc2 := 52) b_93_51_1 rfl rfl ?_
          by_cases q9 : w = 0
          · refine ov_tin (off := 36) (tgt := 88) d_93_52 (by omega) (by omega) (by rw [q9]; rfl) (by decide) ?_
            refine ov_blk (ls2 := [(0, ov_r 0), (1, ov_i x), (2, ov_i y), (3, ov_i w), (4, ov_i v3)]) (st2 := [ov_r 0]) (pc2 := 89) b_93_88_1 rfl rfl ?_
            refine ov_getf (v := ov_r 58) d_93_89 fl_OF_78 (zb_0 I) (zs_0 I) (congrArg ov_r e1) ?_
            refine ov_getf (v := ov_r 59) d_93_92 fl_OF_139 (zb_58 I) (zs_58 I) (congrArg ov_r (rg_58_2 I)) ?_
            refine ov_blk (ls2 := [(0, ov_r 0), (1, ov_i x), (2, ov_i y), (3, ov_i w), (4, ov_i v3)]) (st2 := [ov_i v3, ov_r 59]) (pc2 := 97) b_93_95_1 rfl rfl ?_
            refine ov_iald d_93_97 (zb_59 I) (zs_59 I) (by omega) ?_
            exact ov_reti (st := []) d_93_98 rfl ⟨_, rfl, rfl, rfl, trivial⟩
          by_cases q11 : w = 1
          · refine ov_tin (off := 47) (tgt := 99) d_93_52 (by omega) (by omega) (by rw [q11]; rfl) (by decide) ?_
            refine ov_blk (ls2 := [(0, ov_r 0), (1, ov_i x), (2, ov_i y), (3, ov_i w), (4, ov_i v3)]) (st2 := [ov_r 0]) (pc2 := 100) b_93_99_1 rfl rfl ?_
            refine ov_getf (v := ov_r 58) d_93_100 fl_OF_78 (zb_0 I) (zs_0 I) (congrArg ov_r e1) ?_
            refine ov_getf (v := ov_r 60) d_93_103 fl_OF_142 (zb_58 I) (zs_58 I) (congrArg ov_r (rg_58_3 I)) ?_
            refine ov_blk (ls2 := [(0, ov_r 0), (1, ov_i x), (2, ov_i y), (3, ov_i w), (4, ov_i v3)]) (st2 := [ov_i v3, ov_r 60]) (pc2 := 108) b_93_106_1 rfl rfl ?_
            refine ov_iald d_93_108 (zb_60 I) (zs_60 I) (by omega) ?_
            have g12 := ra_60 I v3
            exact ov_reti (st := []) d_93_109 rfl ⟨_, rfl, rfl, rfl, trivial⟩
          by_cases q13 : w = 2
          · refine ov_tin (off := 58) (tgt := 110) d_93_52 (by omega) (by omega) (by rw [q13]; rfl) (by decide) ?_
            refine ov_blk (ls2 := [(0, ov_r 0), (1, ov_i x), (2, ov_i y), (3, ov_i w), (4, ov_i v3)]) (st2 := [ov_r 0]) (pc2 := 111) b_93_110_1 rfl rfl ?_
            refine ov_getf (v := ov_r 58) d_93_111 fl_OF_78 (zb_0 I) (zs_0 I) (congrArg ov_r e1) ?_
            refine ov_getf (v := ov_r 61) d_93_114 fl_OF_145 (zb_58 I) (zs_58 I) (congrArg ov_r (rg_58_4 I)) ?_
            refine ov_blk (ls2 := [(0, ov_r 0), (1, ov_i x), (2, ov_i y), (3, ov_i w), (4, ov_i v3)]) (st2 := [ov_i v3, ov_r 61]) (pc2 := 119) b_93_117_1 rfl rfl ?_
            refine ov_iald d_93_119 (zb_61 I) (zs_61 I) (by omega) ?_
            have g14 := ra_61 I v3
            exact ov_reti (st := []) d_93_120 rfl ⟨_, rfl, rfl, rfl, trivial⟩
          by_cases q15 : w = 3
          · refine ov_tin (off := 69) (tgt := 121) d_93_52 (by omega) (by omega) (by rw [q15]; rfl) (by decide) ?_
            refine ov_blk (ls2 := [(0, ov_r 0), (1, ov_i x), (2, ov_i y), (3, ov_i w), (4, ov_i v3)]) (st2 := [ov_r 0]) (pc2 := 122) b_93_121_1 rfl rfl ?_
            refine ov_getf (v := ov_r 58) d_93_122 fl_OF_78 (zb_0 I) (zs_0 I) (congrArg ov_r e1) ?_
            refine ov_getf (v := ov_r 62) d_93_125 fl_OF_148 (zb_58 I) (zs_58 I) (congrArg ov_r (rg_58_5 I)) ?_
            refine ov_blk (ls2 := [(0, ov_r 0), (1, ov_i x), (2, ov_i y), (3, ov_i w), (4, ov_i v3)]) (st2 := [ov_i v3, ov_r 62]) (pc2 := 130) b_93_128_1 rfl rfl ?_
            refine ov_iald d_93_130 (zb_62 I) (zs_62 I) (by omega) ?_
            have g16 := ra_62 I v3
            exact ov_reti (st := []) d_93_131 rfl ⟨_, rfl, rfl, rfl, trivial⟩
          by_cases q17 : w = 4
          · refine ov_tin (off := 80) (tgt := 132) d_93_52 (by omega) (by omega) (by rw [q17]; rfl) (by decide) ?_
            refine ov_blk (ls2 := [(0, ov_r 0), (1, ov_i x), (2, ov_i y), (3, ov_i w), (4, ov_i v3)]) (st2 := [ov_r 0]) (pc2 := 133) b_93_132_1 rfl rfl ?_
            refine ov_getf (v := ov_r 58) d_93_133 fl_OF_78 (zb_0 I) (zs_0 I) (congrArg ov_r e1) ?_
            refine ov_getf (v := ov_r 59) d_93_136 fl_OF_139 (zb_58 I) (zs_58 I) (congrArg ov_r (rg_58_2 I)) ?_
            refine ov_blk (ls2 := [(0, ov_r 0), (1, ov_i x), (2, ov_i y), (3, ov_i w), (4, ov_i v3)]) (st2 := [ov_i v3, ov_r 59]) (pc2 := 141) b_93_139_1 rfl rfl ?_
            refine ov_iald d_93_141 (zb_59 I) (zs_59 I) (by omega) ?_
            refine ov_blk (ls2 := [(0, ov_r 0), (1, ov_i x), (2, ov_i y), (3, ov_i w), (4, ov_i v3)]) (st2 := [ov_i 1, ov_i (h 59 v3)]) (pc2 := 143) b_93_142_1 rfl rfl ?_
            refine ov_icne (tgt := 162) d_93_143 (by decide) (by omega) (by omega) (fun c19 => ?_) (fun c19 => ?_)
            · skip
              refine ov_blk (ls2 := [(0, ov_r 0), (1, ov_i x), (2, ov_i y), (3, ov_i w), (4, ov_i v3)]) (st2 := [ov_i 0]) (pc2 := 163) b_93_162_1 rfl rfl ?_
              exact ov_reti (st := []) d_93_163 rfl ⟨_, rfl, rfl, rfl, trivial⟩
            · skip
              refine ov_blk (ls2 := [(0, ov_r 0), (1, ov_i x), (2, ov_i y), (3, ov_i w), (4, ov_i v3)]) (st2 := [ov_r 0]) (pc2 := 147) b_93_146_1 rfl rfl ?_
              refine ov_getf (v := ov_r 4) d_93_147 fl_OF_28 (zb_0 I) (zs_0 I) (congrArg ov_r (rg_0_2 I)) ?_
              refine ov_blk (ls2 := [(0, ov_r 0), (1, ov_i x), (2, ov_i y), (3, ov_i w), (4, ov_i v3)]) (st2 := [ov_i v3, ov_r 4]) (pc2 := 152) b_93_150_1 rfl rfl ?_
              refine ov_cV (as := [ov_i v3]) (st := []) (d2 := d - 1) d_93_152 lk_OF_151 rfl (Nat.le_of_ble_eq_true rfl) (c := 7) (zb_4 I) (zs_4 I) ⟨by decide, rfl⟩ (by omega) (c_State_knows_4 (d - 1) (by omega) U I v3 (by omega)) ?_
              rintro _ _ _ ⟨v21, rfl, rfl, rfl, f20⟩
              show ov_R u d ov_m93 155 [(0, ov_r 0), (1, ov_i x), (2, ov_i y), (3, ov_i w), (4, ov_i v3)] [ov_i v21] z h (P_OF_light_0 F z h x y w)
              have f22 : (v21 = 0 ∨ v21 = 1) := f20
              clear f20
              refine ov_ifeq (tgt := 162) d_93_155 (by decide) (by omega) (fun c23 => ?_) (fun c23 => ?_)
              · skip
                refine ov_blk (ls2 := [(0, ov_r 0), (1, ov_i x), (2, ov_i y), (3, ov_i w), (4, ov_i v3)]) (st2 := [ov_i 0]) (pc2 := 163) b_93_162_1 rfl rfl ?_
                exact ov_reti (st := []) d_93_163 rfl ⟨_, rfl, rfl, rfl, trivial⟩
              · skip
                refine ov_blk (ls2 := [(0, ov_r 0), (1, ov_i x), (2, ov_i y), (3, ov_i w), (4, ov_i v3)]) (st2 := [ov_i 1]) (pc2 := 159) b_93_158_1 rfl rfl ?_
                refine ov_goto (tgt := 163) d_93_159 (by decide) ?_
                exact ov_reti (st := []) d_93_163 rfl ⟨_, rfl, rfl, rfl, trivial⟩
          refine ov_tout (tgt := 164) d_93_52 (by omega) (by omega) (by decide) ?_
          refine ov_blk (ls2 := [(0, ov_r 0), (1, ov_i x), (2, ov_i y), (3, ov_i w), (4, ov_i v3)]) (st2 := [ov_i (-1)]) (pc2 := 165) b_93_164_1 rfl rfl ?_
          exact ov_reti (st := []) d_93_165 rfl ⟨_, rfl, rfl, rfl, trivial⟩
        · skip
          refine ov_blk (ls2 := [(0, ov_r 0), (1, ov_i x), (2, ov_i y), (3, ov_i w), (4, ov_i v3)]) (st2 := [ov_i (-1)]) (pc2 := 50) b_93_49_1 rfl rfl ?_
          exact ov_reti (st := []) d_93_50 rfl ⟨_, rfl, rfl, rfl, trivial⟩
      · skip
        refine ov_blk (ls2 := [(0, ov_r 0), (1, ov_i x), (2, ov_i y), (3, ov_i w), (4, ov_i v3)]) (st2 := [ov_r 0]) (pc2 := 25) b_93_24_1 rfl rfl ?_
        refine ov_getf (v := ov_r 58) d_93_25 fl_OF_78 (zb_0 I) (zs_0 I) (congrArg ov_r e1) ?_
        refine ov_getf (v := ov_r 63) d_93_28 fl_OF_135 (zb_58 I) (zs_58 I) (congrArg ov_r (rg_58_6 I)) ?_
        refine ov_blk (ls2 := [(0, ov_r 0), (1, ov_i x), (2, ov_i y), (3, ov_i w), (4, ov_i v3)]) (st2 := [ov_i v3, ov_r 63]) (pc2 := 33) b_93_31_1 rfl rfl ?_
        refine ov_iald d_93_33 (zb_63 I) (zs_63 I) (by omega) ?_
        have g24 := ra_63 I v3
        exact ov_reti (st := []) d_93_34 rfl ⟨_, rfl, rfl, rfl, trivial⟩
    · skip
      refine ov_blk (ls2 := [(0, ov_r 0), (1, ov_i x), (2, ov_i y), (3, ov_i w), (4, ov_i v3)]) (st2 := [ov_i (-1)]) (pc2 := 18) b_93_17_1 rfl rfl ?_
      exact ov_reti (st := []) d_93_18 rfl ⟨_, rfl, rfl, rfl, trivial⟩
  · skip
    refine ov_getf (v := ov_r 70) d_93_1 fl_OF_78 (zb_0 I) (zs_0 I) (congrArg ov_r e1) ?_
    refine ov_blk (ls2 := [(0, ov_r 0), (1, ov_i x), (2, ov_i y), (3, ov_i w)]) (st2 := [ov_i y, ov_i x, ov_r 70]) (pc2 := 6) b_93_4_2 rfl rfl ?_
    refine ov_cV (as := [ov_i x, ov_i y]) (st := []) (d2 := d - 1) d_93_6 lk_OF_131 rfl (Nat.le_of_ble_eq_true rfl) (c := 9) (zb_70 I) (zs_70 I) ⟨by decide, rfl⟩ (by omega) (c_Town_corner_70 (d - 1) (by omega) U I x y (by omega) (by omega)) ?_
    rintro _ _ _ ⟨v26, rfl, rfl, rfl, f25⟩
    show ov_R u d ov_m93 9 [(0, ov_r 0), (1, ov_i x), (2, ov_i y), (3, ov_i w)] [ov_i v26] z h (P_OF_light_0 F z h x y w)
    have f27 : v26 = -1 ∨ (0 ≤ x ∧ x < (h 70 0) ∧ 0 ≤ y ∧ y < (h 70 1) ∧ v26 = y * 6 + x ∧ (h 70 0) ≤ 6 ∧ (h 70 1) ≤ 9) := f25
    clear f25
    refine ov_blk (ls2 := [(0, ov_r 0), (1, ov_i x), (2, ov_i y), (3, ov_i w), (4, ov_i v26)]) (st2 := [ov_i (-1), ov_i v26]) (pc2 := 14) b_93_9_3 rfl rfl ?_
    refine ov_icne (tgt := 19) d_93_14 (by decide) (by omega) (by omega) (fun c28 => ?_) (fun c28 => ?_)
    · skip
      refine ov_blk (ls2 := [(0, ov_r 0), (1, ov_i x), (2, ov_i y), (3, ov_i w), (4, ov_i v26)]) (st2 := [ov_i 5, ov_i w]) (pc2 := 21) b_93_19_2 rfl rfl ?_
      refine ov_icne (tgt := 35) d_93_21 (by decide) (by omega) (by omega) (fun c29 => ?_) (fun c29 => ?_)
      · skip
        refine ov_blk (ls2 := [(0, ov_r 0), (1, ov_i x), (2, ov_i y), (3, ov_i w), (4, ov_i v26)]) (st2 := [ov_r 0]) (pc2 := 36) b_93_35_1 rfl rfl ?_
        refine ov_getf (v := ov_r 70) d_93_36 fl_OF_78 (zb_0 I) (zs_0 I) (congrArg ov_r e1) ?_
        refine ov_getf (v := ov_r 71) d_93_39 fl_OF_139 (zb_70 I) (zs_70 I) (congrArg ov_r (rg_70_2 I)) ?_
        refine ov_blk (ls2 := [(0, ov_r 0), (1, ov_i x), (2, ov_i y), (3, ov_i w), (4, ov_i v26)]) (st2 := [ov_i v26, ov_r 71]) (pc2 := 44) b_93_42_1 rfl rfl ?_
        refine ov_iald d_93_44 (zb_71 I) (zs_71 I) (by omega) ?_
        have g30 := ra_71 I v26
        refine ov_blk (ls2 := [(0, ov_r 0), (1, ov_i x), (2, ov_i y), (3, ov_i w), (4, ov_i v26)]) (st2 := [ov_i (-1), ov_i (h 71 v26)]) (pc2 := 46) b_93_45_1 rfl rfl ?_
        refine ov_icne (tgt := 51) d_93_46 (by decide) (by omega) (by omega) (fun c31 => ?_) (fun c31 => ?_)
        · skip
          refine ov_blk (ls2 := [(0, ov_r 0), (1, ov_i x), (2, ov_i y), (3, ov_i w), (4, ov_i v26)]) (st2 := [ov_i w]) (pc2 := 52) b_93_51_1 rfl rfl ?_
          by_cases q32 : w = 0
          · refine ov_tin (off := 36) (tgt := 88) d_93_52 (by omega) (by omega) (by rw [q32]; rfl) (by decide) ?_
            refine ov_blk (ls2 := [(0, ov_r 0), (1, ov_i x), (2, ov_i y), (3, ov_i w), (4, ov_i v26)]) (st2 := [ov_r 0]) (pc2 := 89) b_93_88_1 rfl rfl ?_
            refine ov_getf (v := ov_r 70) d_93_89 fl_OF_78 (zb_0 I) (zs_0 I) (congrArg ov_r e1) ?_
            refine ov_getf (v := ov_r 71) d_93_92 fl_OF_139 (zb_70 I) (zs_70 I) (congrArg ov_r (rg_70_2 I)) ?_
            refine ov_blk (ls2 := [(0, ov_r 0), (1, ov_i x), (2, ov_i y), (3, ov_i w), (4, ov_i v26)]) (st2 := [ov_i v26, ov_r 71]) (pc2 := 97) b_93_95_1 rfl rfl ?_
            refine ov_iald d_93_97 (zb_71 I) (zs_71 I) (by omega) ?_
            exact ov_reti (st := []) d_93_98 rfl ⟨_, rfl, rfl, rfl, trivial⟩
          by_cases q34 : w = 1
          · refine ov_tin (off := 47) (tgt := 99) d_93_52 (by omega) (by omega) (by rw [q34]; rfl) (by decide) ?_
            refine ov_blk (ls2 := [(0, ov_r 0), (1, ov_i x), (2, ov_i y), (3, ov_i w), (4, ov_i v26)]) (st2 := [ov_r 0]) (pc2 := 100) b_93_99_1 rfl rfl ?_
            refine ov_getf (v := ov_r 70) d_93_100 fl_OF_78 (zb_0 I) (zs_0 I) (congrArg ov_r e1) ?_
            refine ov_getf (v := ov_r 72) d_93_103 fl_OF_142 (zb_70 I) (zs_70 I) (congrArg ov_r (rg_70_3 I)) ?_
            refine ov_blk (ls2 := [(0, ov_r 0), (1, ov_i x), (2, ov_i y), (3, ov_i w), (4, ov_i v26)]) (st2 := [ov_i v26, ov_r 72]) (pc2 := 108) b_93_106_1 rfl rfl ?_
            refine ov_iald d_93_108 (zb_72 I) (zs_72 I) (by omega) ?_
            have g35 := ra_72 I v26
            exact ov_reti (st := []) d_93_109 rfl ⟨_, rfl, rfl, rfl, trivial⟩
          by_cases q36 : w = 2
          · refine ov_tin (off := 58) (tgt := 110) d_93_52 (by omega) (by omega) (by rw [q36]; rfl) (by decide) ?_
            refine ov_blk (ls2 := [(0, ov_r 0), (1, ov_i x), (2, ov_i y), (3, ov_i w), (4, ov_i v26)]) (st2 := [ov_r 0]) (pc2 := 111) b_93_110_1 rfl rfl ?_
            refine ov_getf (v := ov_r 70) d_93_111 fl_OF_78 (zb_0 I) (zs_0 I) (congrArg ov_r e1) ?_
            refine ov_getf (v := ov_r 73) d_93_114 fl_OF_145 (zb_70 I) (zs_70 I) (congrArg ov_r (rg_70_4 I)) ?_
            refine ov_blk (ls2 := [(0, ov_r 0), (1, ov_i x), (2, ov_i y), (3, ov_i w), (4, ov_i v26)]) (st2 := [ov_i v26, ov_r 73]) (pc2 := 119) b_93_117_1 rfl rfl ?_
            refine ov_iald d_93_119 (zb_73 I) (zs_73 I) (by omega) ?_
            have g37 := ra_73 I v26
            exact ov_reti (st := []) d_93_120 rfl ⟨_, rfl, rfl, rfl, trivial⟩
          by_cases q38 : w = 3
          · refine ov_tin (off := 69) (tgt := 121) d_93_52 (by omega) (by omega) (by rw [q38]; rfl) (by decide) ?_
            refine ov_blk (ls2 := [(0, ov_r 0), (1, ov_i x), (2, ov_i y), (3, ov_i w), (4, ov_i v26)]) (st2 := [ov_r 0]) (pc2 := 122) b_93_121_1 rfl rfl ?_
            refine ov_getf (v := ov_r 70) d_93_122 fl_OF_78 (zb_0 I) (zs_0 I) (congrArg ov_r e1) ?_
            refine ov_getf (v := ov_r 74) d_93_125 fl_OF_148 (zb_70 I) (zs_70 I) (congrArg ov_r (rg_70_5 I)) ?_
            refine ov_blk (ls2 := [(0, ov_r 0), (1, ov_i x), (2, ov_i y), (3, ov_i w), (4, ov_i v26)]) (st2 := [ov_i v26, ov_r 74]) (pc2 := 130) b_93_128_1 rfl rfl ?_
            refine ov_iald d_93_130 (zb_74 I) (zs_74 I) (by omega) ?_
            have g39 := ra_74 I v26
            exact ov_reti (st := []) d_93_131 rfl ⟨_, rfl, rfl, rfl, trivial⟩
          by_cases q40 : w = 4
          · refine ov_tin (off := 80) (tgt := 132) d_93_52 (by omega) (by omega) (by rw [q40]; rfl) (by decide) ?_
            refine ov_blk (ls2 := [(0, ov_r 0), (1, ov_i x), (2, ov_i y), (3, ov_i w), (4, ov_i v26)]) (st2 := [ov_r 0]) (pc2 := 133) b_93_132_1 rfl rfl ?_
            refine ov_getf (v := ov_r 70) d_93_133 fl_OF_78 (zb_0 I) (zs_0 I) (congrArg ov_r e1) ?_
            refine ov_getf (v := ov_r 71) d_93_136 fl_OF_139 (zb_70 I) (zs_70 I) (congrArg ov_r (rg_70_2 I)) ?_
            refine ov_blk (ls2 := [(0, ov_r 0), (1, ov_i x), (2, ov_i y), (3, ov_i w), (4, ov_i v26)]) (st2 := [ov_i v26, ov_r 71]) (pc2 := 141) b_93_139_1 rfl rfl ?_
            refine ov_iald d_93_141 (zb_71 I) (zs_71 I) (by omega) ?_
            refine ov_blk (ls2 := [(0, ov_r 0), (1, ov_i x), (2, ov_i y), (3, ov_i w), (4, ov_i v26)]) (st2 := [ov_i 1, ov_i (h 71 v26)]) (pc2 := 143) b_93_142_1 rfl rfl ?_
            refine ov_icne (tgt := 162) d_93_143 (by decide) (by omega) (by omega) (fun c42 => ?_) (fun c42 => ?_)
            · skip
              refine ov_blk (ls2 := [(0, ov_r 0), (1, ov_i x), (2, ov_i y), (3, ov_i w), (4, ov_i v26)]) (st2 := [ov_i 0]) (pc2 := 163) b_93_162_1 rfl rfl ?_
              exact ov_reti (st := []) d_93_163 rfl ⟨_, rfl, rfl, rfl, trivial⟩
            · skip
              refine ov_blk (ls2 := [(0, ov_r 0), (1, ov_i x), (2, ov_i y), (3, ov_i w), (4, ov_i v26)]) (st2 := [ov_r 0]) (pc2 := 147) b_93_146_1 rfl rfl ?_
              refine ov_getf (v := ov_r 4) d_93_147 fl_OF_28 (zb_0 I) (zs_0 I) (congrArg ov_r (rg_0_2 I)) ?_
              refine ov_blk (ls2 := [(0, ov_r 0), (1, ov_i x), (2, ov_i y), (3, ov_i w), (4, ov_i v26)]) (st2 := [ov_i v26, ov_r 4]) (pc2 := 152) b_93_150_1 rfl rfl ?_
              refine ov_cV (as := [ov_i v26]) (st := []) (d2 := d - 1) d_93_152 lk_OF_151 rfl (Nat.le_of_ble_eq_true rfl) (c := 7) (zb_4 I) (zs_4 I) ⟨by decide, rfl⟩ (by omega) (c_State_knows_4 (d - 1) (by omega) U I v26 (by omega)) ?_
              rintro _ _ _ ⟨v44, rfl, rfl, rfl, f43⟩
              show ov_R u d ov_m93 155 [(0, ov_r 0), (1, ov_i x), (2, ov_i y), (3, ov_i w), (4, ov_i v26)] [ov_i v44] z h (P_OF_light_0 F z h x y w)
              have f45 : (v44 = 0 ∨ v44 = 1) := f43
              clear f43
              refine ov_ifeq (tgt := 162) d_93_155 (by decide) (by omega) (fun c46 => ?_) (fun c46 => ?_)
              · skip
                refine ov_blk (ls2 := [(0, ov_r 0), (1, ov_i x), (2, ov_i y), (3, ov_i w), (4, ov_i v26)]) (st2 := [ov_i 0]) (pc2 := 163) b_93_162_1 rfl rfl ?_
                exact ov_reti (st := []) d_93_163 rfl ⟨_, rfl, rfl, rfl, trivial⟩
              · skip
                refine ov_blk (ls2 := [(0, ov_r 0), (1, ov_i x), (2, ov_i y), (3, ov_i w), (4, ov_i v26)]) (st2 := [ov_i 1]) (pc2 := 159) b_93_158_1 rfl rfl ?_
                refine ov_goto (tgt := 163) d_93_159 (by decide) ?_
                exact ov_reti (st := []) d_93_163 rfl ⟨_, rfl, rfl, rfl, trivial⟩
          refine ov_tout (tgt := 164) d_93_52 (by omega) (by omega) (by decide) ?_
          refine ov_blk (ls2 := [(0, ov_r 0), (1, ov_i x), (2, ov_i y), (3, ov_i w), (4, ov_i v26)]) (st2 := [ov_i (-1)]) (pc2 := 165) b_93_164_1 rfl rfl ?_
          exact ov_reti (st := []) d_93_165 rfl ⟨_, rfl, rfl, rfl, trivial⟩
        · skip
          refine ov_blk (ls2 := [(0, ov_r 0), (1, ov_i x), (2, ov_i y), (3, ov_i w), (4, ov_i v26)]) (st2 := [ov_i (-1)]) (pc2 := 50) b_93_49_1 rfl rfl ?_
          exact ov_reti (st := []) d_93_50 rfl ⟨_, rfl, rfl, rfl, trivial⟩
      · skip
        refine ov_blk (ls2 := [(0, ov_r 0), (1, ov_i x), (2, ov_i y), (3, ov_i w), (4, ov_i v26)]) (st2 := [ov_r 0]) (pc2 := 25) b_93_24_1 rfl rfl ?_
        refine ov_getf (v := ov_r 70) d_93_25 fl_OF_78 (zb_0 I) (zs_0 I) (congrArg ov_r e1) ?_
        refine ov_getf (v := ov_r 75) d_93_28 fl_OF_135 (zb_70 I) (zs_70 I) (congrArg ov_r (rg_70_6 I)) ?_
        refine ov_blk (ls2 := [(0, ov_r 0), (1, ov_i x), (2, ov_i y), (3, ov_i w), (4, ov_i v26)]) (st2 := [ov_i v26, ov_r 75]) (pc2 := 33) b_93_31_1 rfl rfl ?_
        refine ov_iald d_93_33 (zb_75 I) (zs_75 I) (by omega) ?_
        have g47 := ra_75 I v26
        exact ov_reti (st := []) d_93_34 rfl ⟨_, rfl, rfl, rfl, trivial⟩
    · skip
      refine ov_blk (ls2 := [(0, ov_r 0), (1, ov_i x), (2, ov_i y), (3, ov_i w), (4, ov_i v26)]) (st2 := [ov_i (-1)]) (pc2 := 18) b_93_17_1 rfl rfl ?_
      exact ov_reti (st := []) d_93_18 rfl ⟨_, rfl, rfl, rfl, trivial⟩
abbrev P_OF_green_0 (F : ov_H) (z : ov_Z) (h : ov_H) (x : Int) (y : Int) (way : Int) (s : Int) : Option ov_V → ov_Z → ov_H → Prop := fun r0 z' h' => ∃ r : Int, r0 = some (ov_i r) ∧ z = z' ∧ h = h' ∧ (True)
set_option maxHeartbeats 4000000 in
theorem c_OF_green_0 {u : ov_U} {F : ov_H} {z : ov_Z} {h : ov_H} (d : Nat) (hd : 2 ≤ d) (U : ov_cap u) (I : ov_I F z h) (x : Int) (y : Int) (way : Int) (s : Int) (g_x : ov_g x) (g_y : ov_g y) (g_way : ov_g way) (g_s : ov_g s) : ov_T u d ov_m96 [ov_r 0, ov_i x, ov_i y, ov_i way, ov_i s] z h (P_OF_green_0 F z h x y way s) := by
  refine ov_en rfl (Nat.le_of_ble_eq_true rfl) ?_
  show ov_R u d ov_m96 0 [(0, ov_r 0), (1, ov_i x), (2, ov_i y), (3, ov_i way), (4, ov_i s)] [] z h (P_OF_green_0 F z h x y way s)
  refine ov_blk (ls2 := [(0, ov_r 0), (1, ov_i x), (2, ov_i y), (3, ov_i way), (4, ov_i s)]) (st2 := [ov_r 0]) (pc2 := 1) b_96_0_1 rfl rfl ?_
  rcases rg_0_10 I with e1 | e1
  · skip
    refine ov_getf (v := ov_r 58) d_96_1 fl_OF_78 (zb_0 I) (zs_0 I) (congrArg ov_r e1) ?_
    refine ov_blk (ls2 := [(0, ov_r 0), (1, ov_i x), (2, ov_i y), (3, ov_i way), (4, ov_i s)]) (st2 := [ov_i y, ov_i x, ov_r 58]) (pc2 := 6) b_96_4_2 rfl rfl ?_
    refine ov_cV (as := [ov_i x, ov_i y]) (st := []) (d2 := d - 1) d_96_6 lk_OF_131 rfl (Nat.le_of_ble_eq_true rfl) (c := 9) (zb_58 I) (zs_58 I) ⟨by decide, rfl⟩ (by omega) (c_Town_corner_58 (d - 1) (by omega) U I x y (by omega) (by omega)) ?_
    rintro _ _ _ ⟨v3, rfl, rfl, rfl, f2⟩
    show ov_R u d ov_m96 9 [(0, ov_r 0), (1, ov_i x), (2, ov_i y), (3, ov_i way), (4, ov_i s)] [ov_i v3] z h (P_OF_green_0 F z h x y way s)
    have f4 : v3 = -1 ∨ (0 ≤ x ∧ x < (h 58 0) ∧ 0 ≤ y ∧ y < (h 58 1) ∧ v3 = y * 6 + x ∧ (h 58 0) ≤ 6 ∧ (h 58 1) ≤ 9) := f2
    clear f2
    refine ov_blk (ls2 := [(0, ov_r 0), (1, ov_i x), (2, ov_i y), (3, ov_i way), (4, ov_i s), (5, ov_i v3)]) (st2 := [ov_i (-1), ov_i v3]) (pc2 := 14) b_96_9_3 rfl rfl ?_
    refine ov_iceq (tgt := 38) d_96_14 (by decide) (by omega) (by omega) (fun c5 => ?_) (fun c5 => ?_)
    · skip
      refine ov_blk (ls2 := [(0, ov_r 0), (1, ov_i x), (2, ov_i y), (3, ov_i way), (4, ov_i s), (5, ov_i v3)]) (st2 := [ov_i (-1)]) (pc2 := 39) b_96_38_1 rfl rfl ?_
      exact ov_reti (st := []) d_96_39 rfl ⟨_, rfl, rfl, rfl, trivial⟩
    · skip
      refine ov_blk (ls2 := [(0, ov_r 0), (1, ov_i x), (2, ov_i y), (3, ov_i way), (4, ov_i s), (5, ov_i v3)]) (st2 := [ov_i s]) (pc2 := 19) b_96_17_1 rfl rfl ?_
      refine ov_cS (as := [ov_i s]) (st := []) (d2 := d - 1) d_96_19 lk_OF_155 rfl (Nat.le_of_ble_eq_true rfl) (by omega) (c_OF_isSecond (d - 1) (by omega) U I s (by omega)) ?_
      rintro _ _ _ ⟨v7, rfl, rfl, rfl, f6⟩
      show ov_R u d ov_m96 22 [(0, ov_r 0), (1, ov_i x), (2, ov_i y), (3, ov_i way), (4, ov_i s), (5, ov_i v3)] [ov_i v7] z h (P_OF_green_0 F z h x y way s)
      have f8 : (v7 = 0 ∨ v7 = 1) ∧ (v7 = 1 → 0 ≤ s ∧ s ≤ 1000000) := f6
      clear f6
      refine ov_ifeq (tgt := 38) d_96_22 (by decide) (by omega) (fun c9 => ?_) (fun c9 => ?_)
      · skip
        refine ov_blk (ls2 := [(0, ov_r 0), (1, ov_i x), (2, ov_i y), (3, ov_i way), (4, ov_i s), (5, ov_i v3)]) (st2 := [ov_i (-1)]) (pc2 := 39) b_96_38_1 rfl rfl ?_
        exact ov_reti (st := []) d_96_39 rfl ⟨_, rfl, rfl, rfl, trivial⟩
      · skip
        refine ov_blk (ls2 := [(0, ov_r 0), (1, ov_i x), (2, ov_i y), (3, ov_i way), (4, ov_i s), (5, ov_i v3)]) (st2 := [ov_r 0]) (pc2 := 26) b_96_25_1 rfl rfl ?_
        refine ov_getf (v := ov_r 58) d_96_26 fl_OF_78 (zb_0 I) (zs_0 I) (congrArg ov_r e1) ?_
        refine ov_blk (ls2 := [(0, ov_r 0), (1, ov_i x), (2, ov_i y), (3, ov_i way), (4, ov_i s), (5, ov_i v3)]) (st2 := [ov_i way, ov_i v3, ov_r 58]) (pc2 := 32) b_96_29_2 rfl rfl ?_
        refine ov_cV (as := [ov_i v3, ov_i way]) (st := []) (d2 := d - 1) d_96_32 lk_OF_158 rfl (Nat.le_of_ble_eq_true rfl) (c := 9) (zb_58 I) (zs_58 I) ⟨by decide, rfl⟩ (by omega) (c_Town_isOpen_58 (d - 1) (by omega) U I v3 way (by omega) (by omega) (by omega)) ?_
        rintro _ _ _ ⟨v11, rfl, rfl, rfl, f10⟩
        show ov_R u d ov_m96 35 [(0, ov_r 0), (1, ov_i x), (2, ov_i y), (3, ov_i way), (4, ov_i s), (5, ov_i v3)] [ov_i v11] z h (P_OF_green_0 F z h x y way s)
        have f12 : (v11 = 0 ∨ v11 = 1) ∧ (v11 = 1 → (way = 0 ∧ v3 ≤ 52) ∨ (way = 1 ∧ v3 ≤ 47)) := f10
        clear f10
        refine ov_ifne (tgt := 40) d_96_35 (by decide) (by omega) (fun c13 => ?_) (fun c13 => ?_)
        · skip
          refine ov_blk (ls2 := [(0, ov_r 0), (1, ov_i x), (2, ov_i y), (3, ov_i way), (4, ov_i s), (5, ov_i v3)]) (st2 := [ov_r 0]) (pc2 := 41) b_96_40_1 rfl rfl ?_
          refine ov_getf (v := ov_r 58) d_96_41 fl_OF_78 (zb_0 I) (zs_0 I) (congrArg ov_r e1) ?_
          refine ov_getf (v := ov_r 59) d_96_44 fl_OF_139 (zb_58 I) (zs_58 I) (congrArg ov_r (rg_58_2 I)) ?_
          refine ov_blk (ls2 := [(0, ov_r 0), (1, ov_i x), (2, ov_i y), (3, ov_i way), (4, ov_i s), (5, ov_i v3)]) (st2 := [ov_i v3, ov_r 59]) (pc2 := 49) b_96_47_1 rfl rfl ?_
          refine ov_iald d_96_49 (zb_59 I) (zs_59 I) (by omega) ?_
          have g14 := ra_59 I v3
          refine ov_blk (ls2 := [(0, ov_r 0), (1, ov_i x), (2, ov_i y), (3, ov_i way), (4, ov_i s), (5, ov_i v3)]) (st2 := [ov_i 2, ov_i (h 59 v3)]) (pc2 := 51) b_96_50_1 rfl rfl ?_
          refine ov_icne (tgt := 65) d_96_51 (by decide) (by omega) (by omega) (fun c15 => ?_) (fun c15 => ?_)
          · skip
            refine ov_blk (ls2 := [(0, ov_r 0), (1, ov_i x), (2, ov_i y), (3, ov_i way), (4, ov_i s), (5, ov_i v3)]) (st2 := [ov_r 0]) (pc2 := 66) b_96_65_1 rfl rfl ?_
            refine ov_getf (v := ov_r 58) d_96_66 fl_OF_78 (zb_0 I) (zs_0 I) (congrArg ov_r e1) ?_
            refine ov_blk (ls2 := [(0, ov_r 0), (1, ov_i x), (2, ov_i y), (3, ov_i way), (4, ov_i s), (5, ov_i v3)]) (st2 := [ov_i s, ov_i way, ov_i v3, ov_r 58]) (pc2 := 74) b_96_69_3 rfl rfl ?_
            refine ov_cV (as := [ov_i v3, ov_i way, ov_i s]) (st := []) (d2 := d - 1) d_96_74 lk_OF_162 rfl (Nat.le_of_ble_eq_true rfl) (c := 9) (zb_58 I) (zs_58 I) ⟨by decide, rfl⟩ (by omega) (c_Town_waitFor_58 (d - 1) (by omega) U I v3 way s (by omega) (by omega) (by omega) (by omega)) ?_
            rintro _ _ _ ⟨v17, rfl, rfl, rfl, f16⟩
            show ov_R u d ov_m96 77 [(0, ov_r 0), (1, ov_i x), (2, ov_i y), (3, ov_i way), (4, ov_i s), (5, ov_i v3)] [ov_i v17] z h (P_OF_green_0 F z h x y way s)
            have f18 : 0 ≤ v17 ∧ v17 ≤ 60 := f16
            clear f16
            refine ov_ifne (tgt := 84) d_96_77 (by decide) (by omega) (fun c19 => ?_) (fun c19 => ?_)
            · skip
              refine ov_blk (ls2 := [(0, ov_r 0), (1, ov_i x), (2, ov_i y), (3, ov_i way), (4, ov_i s), (5, ov_i v3)]) (st2 := [ov_i 0]) (pc2 := 85) b_96_84_1 rfl rfl ?_
              exact ov_reti (st := []) d_96_85 rfl ⟨_, rfl, rfl, rfl, trivial⟩
            · skip
              refine ov_blk (ls2 := [(0, ov_r 0), (1, ov_i x), (2, ov_i y), (3, ov_i way), (4, ov_i s), (5, ov_i v3)]) (st2 := [ov_i 1]) (pc2 := 81) b_96_80_1 rfl rfl ?_
              refine ov_goto (tgt := 85) d_96_81 (by decide) ?_
              exact ov_reti (st := []) d_96_85 rfl ⟨_, rfl, rfl, rfl, trivial⟩
          · skip
            refine ov_blk (ls2 := [(0, ov_r 0), (1, ov_i x), (2, ov_i y), (3, ov_i way), (4, ov_i s), (5, ov_i v3)]) (st2 := [ov_i 1, ov_i way]) (pc2 := 56) b_96_54_2 rfl rfl ?_
            refine ov_icne (tgt := 63) d_96_56 (by decide) (by omega) (by omega) (fun c20 => ?_) (fun c20 => ?_)
            · skip
              refine ov_blk (ls2 := [(0, ov_r 0), (1, ov_i x), (2, ov_i y), (3, ov_i way), (4, ov_i s), (5, ov_i v3)]) (st2 := [ov_i 0]) (pc2 := 64) b_96_63_1 rfl rfl ?_
              exact ov_reti (st := []) d_96_64 rfl ⟨_, rfl, rfl, rfl, trivial⟩
            · skip
              refine ov_blk (ls2 := [(0, ov_r 0), (1, ov_i x), (2, ov_i y), (3, ov_i way), (4, ov_i s), (5, ov_i v3)]) (st2 := [ov_i 1]) (pc2 := 60) b_96_59_1 rfl rfl ?_
              refine ov_goto (tgt := 64) d_96_60 (by decide) ?_
              exact ov_reti (st := []) d_96_64 rfl ⟨_, rfl, rfl, rfl, trivial⟩
        · skip
          refine ov_blk (ls2 := [(0, ov_r 0), (1, ov_i x), (2, ov_i y), (3, ov_i way), (4, ov_i s), (5, ov_i v3)]) (st2 := [ov_i (-1)]) (pc2 := 39) b_96_38_1 rfl rfl ?_
          exact ov_reti (st := []) d_96_39 rfl ⟨_, rfl, rfl, rfl, trivial⟩
  · skip
    refine ov_getf (v := ov_r 70) d_96_1 fl_OF_78 (zb_0 I) (zs_0 I) (congrArg ov_r e1) ?_
    refine ov_blk (ls2 := [(0, ov_r 0), (1, ov_i x), (2, ov_i y), (3, ov_i way), (4, ov_i s)]) (st2 := [ov_i y, ov_i x, ov_r 70]) (pc2 := 6) b_96_4_2 rfl rfl ?_
    refine ov_cV (as := [ov_i x, ov_i y]) (st := []) (d2 := d - 1) d_96_6 lk_OF_131 rfl (Nat.le_of_ble_eq_true rfl) (c := 9) (zb_70 I) (zs_70 I) ⟨by decide, rfl⟩ (by omega) (c_Town_corner_70 (d - 1) (by omega) U I x y (by omega) (by omega)) ?_
    rintro _ _ _ ⟨v22, rfl, rfl, rfl, f21⟩
    show ov_R u d ov_m96 9 [(0, ov_r 0), (1, ov_i x), (2, ov_i y), (3, ov_i way), (4, ov_i s)] [ov_i v22] z h (P_OF_green_0 F z h x y way s)
    have f23 : v22 = -1 ∨ (0 ≤ x ∧ x < (h 70 0) ∧ 0 ≤ y ∧ y < (h 70 1) ∧ v22 = y * 6 + x ∧ (h 70 0) ≤ 6 ∧ (h 70 1) ≤ 9) := f21
    clear f21
    refine ov_blk (ls2 := [(0, ov_r 0), (1, ov_i x), (2, ov_i y), (3, ov_i way), (4, ov_i s), (5, ov_i v22)]) (st2 := [ov_i (-1), ov_i v22]) (pc2 := 14) b_96_9_3 rfl rfl ?_
    refine ov_iceq (tgt := 38) d_96_14 (by decide) (by omega) (by omega) (fun c24 => ?_) (fun c24 => ?_)
    · skip
      refine ov_blk (ls2 := [(0, ov_r 0), (1, ov_i x), (2, ov_i y), (3, ov_i way), (4, ov_i s), (5, ov_i v22)]) (st2 := [ov_i (-1)]) (pc2 := 39) b_96_38_1 rfl rfl ?_
      exact ov_reti (st := []) d_96_39 rfl ⟨_, rfl, rfl, rfl, trivial⟩
    · skip
      refine ov_blk (ls2 := [(0, ov_r 0), (1, ov_i x), (2, ov_i y), (3, ov_i way), (4, ov_i s), (5, ov_i v22)]) (st2 := [ov_i s]) (pc2 := 19) b_96_17_1 rfl rfl ?_
      refine ov_cS (as := [ov_i s]) (st := []) (d2 := d - 1) d_96_19 lk_OF_155 rfl (Nat.le_of_ble_eq_true rfl) (by omega) (c_OF_isSecond (d - 1) (by omega) U I s (by omega)) ?_
      rintro _ _ _ ⟨v26, rfl, rfl, rfl, f25⟩
      show ov_R u d ov_m96 22 [(0, ov_r 0), (1, ov_i x), (2, ov_i y), (3, ov_i way), (4, ov_i s), (5, ov_i v22)] [ov_i v26] z h (P_OF_green_0 F z h x y way s)
      have f27 : (v26 = 0 ∨ v26 = 1) ∧ (v26 = 1 → 0 ≤ s ∧ s ≤ 1000000) := f25
      clear f25
      refine ov_ifeq (tgt := 38) d_96_22 (by decide) (by omega) (fun c28 => ?_) (fun c28 => ?_)
      · skip
        refine ov_blk (ls2 := [(0, ov_r 0), (1, ov_i x), (2, ov_i y), (3, ov_i way), (4, ov_i s), (5, ov_i v22)]) (st2 := [ov_i (-1)]) (pc2 := 39) b_96_38_1 rfl rfl ?_
        exact ov_reti (st := []) d_96_39 rfl ⟨_, rfl, rfl, rfl, trivial⟩
      · skip
        refine ov_blk (ls2 := [(0, ov_r 0), (1, ov_i x), (2, ov_i y), (3, ov_i way), (4, ov_i s), (5, ov_i v22)]) (st2 := [ov_r 0]) (pc2 := 26) b_96_25_1 rfl rfl ?_
        refine ov_getf (v := ov_r 70) d_96_26 fl_OF_78 (zb_0 I) (zs_0 I) (congrArg ov_r e1) ?_
        refine ov_blk (ls2 := [(0, ov_r 0), (1, ov_i x), (2, ov_i y), (3, ov_i way), (4, ov_i s), (5, ov_i v22)]) (st2 := [ov_i way, ov_i v22, ov_r 70]) (pc2 := 32) b_96_29_2 rfl rfl ?_
        refine ov_cV (as := [ov_i v22, ov_i way]) (st := []) (d2 := d - 1) d_96_32 lk_OF_158 rfl (Nat.le_of_ble_eq_true rfl) (c := 9) (zb_70 I) (zs_70 I) ⟨by decide, rfl⟩ (by omega) (c_Town_isOpen_70 (d - 1) (by omega) U I v22 way (by omega) (by omega) (by omega)) ?_
        rintro _ _ _ ⟨v30, rfl, rfl, rfl, f29⟩
        show ov_R u d ov_m96 35 [(0, ov_r 0), (1, ov_i x), (2, ov_i y), (3, ov_i way), (4, ov_i s), (5, ov_i v22)] [ov_i v30] z h (P_OF_green_0 F z h x y way s)
        have f31 : (v30 = 0 ∨ v30 = 1) ∧ (v30 = 1 → (way = 0 ∧ v22 ≤ 52) ∨ (way = 1 ∧ v22 ≤ 47)) := f29
        clear f29
        refine ov_ifne (tgt := 40) d_96_35 (by decide) (by omega) (fun c32 => ?_) (fun c32 => ?_)
        · skip
          refine ov_blk (ls2 := [(0, ov_r 0), (1, ov_i x), (2, ov_i y), (3, ov_i way), (4, ov_i s), (5, ov_i v22)]) (st2 := [ov_r 0]) (pc2 := 41) b_96_40_1 rfl rfl ?_
          refine ov_getf (v := ov_r 70) d_96_41 fl_OF_78 (zb_0 I) (zs_0 I) (congrArg ov_r e1) ?_
          refine ov_getf (v := ov_r 71) d_96_44 fl_OF_139 (zb_70 I) (zs_70 I) (congrArg ov_r (rg_70_2 I)) ?_
          refine ov_blk (ls2 := [(0, ov_r 0), (1, ov_i x), (2, ov_i y), (3, ov_i way), (4, ov_i s), (5, ov_i v22)]) (st2 := [ov_i v22, ov_r 71]) (pc2 := 49) b_96_47_1 rfl rfl ?_
          refine ov_iald d_96_49 (zb_71 I) (zs_71 I) (by omega) ?_
          have g33 := ra_71 I v22
          refine ov_blk (ls2 := [(0, ov_r 0), (1, ov_i x), (2, ov_i y), (3, ov_i way), (4, ov_i s), (5, ov_i v22)]) (st2 := [ov_i 2, ov_i (h 71 v22)]) (pc2 := 51) b_96_50_1 rfl rfl ?_
          refine ov_icne (tgt := 65) d_96_51 (by decide) (by omega) (by omega) (fun c34 => ?_) (fun c34 => ?_)
          · skip
            refine ov_blk (ls2 := [(0, ov_r 0), (1, ov_i x), (2, ov_i y), (3, ov_i way), (4, ov_i s), (5, ov_i v22)]) (st2 := [ov_r 0]) (pc2 := 66) b_96_65_1 rfl rfl ?_
            refine ov_getf (v := ov_r 70) d_96_66 fl_OF_78 (zb_0 I) (zs_0 I) (congrArg ov_r e1) ?_
            refine ov_blk (ls2 := [(0, ov_r 0), (1, ov_i x), (2, ov_i y), (3, ov_i way), (4, ov_i s), (5, ov_i v22)]) (st2 := [ov_i s, ov_i way, ov_i v22, ov_r 70]) (pc2 := 74) b_96_69_3 rfl rfl ?_
            refine ov_cV (as := [ov_i v22, ov_i way, ov_i s]) (st := []) (d2 := d - 1) d_96_74 lk_OF_162 rfl (Nat.le_of_ble_eq_true rfl) (c := 9) (zb_70 I) (zs_70 I) ⟨by decide, rfl⟩ (by omega) (c_Town_waitFor_70 (d - 1) (by omega) U I v22 way s (by omega) (by omega) (by omega) (by omega)) ?_
            rintro _ _ _ ⟨v36, rfl, rfl, rfl, f35⟩
            show ov_R u d ov_m96 77 [(0, ov_r 0), (1, ov_i x), (2, ov_i y), (3, ov_i way), (4, ov_i s), (5, ov_i v22)] [ov_i v36] z h (P_OF_green_0 F z h x y way s)
            have f37 : 0 ≤ v36 ∧ v36 ≤ 60 := f35
            clear f35
            refine ov_ifne (tgt := 84) d_96_77 (by decide) (by omega) (fun c38 => ?_) (fun c38 => ?_)
            · skip
              refine ov_blk (ls2 := [(0, ov_r 0), (1, ov_i x), (2, ov_i y), (3, ov_i way), (4, ov_i s), (5, ov_i v22)]) (st2 := [ov_i 0]) (pc2 := 85) b_96_84_1 rfl rfl ?_
              exact ov_reti (st := []) d_96_85 rfl ⟨_, rfl, rfl, rfl, trivial⟩
            · skip
              refine ov_blk (ls2 := [(0, ov_r 0), (1, ov_i x), (2, ov_i y), (3, ov_i way), (4, ov_i s), (5, ov_i v22)]) (st2 := [ov_i 1]) (pc2 := 81) b_96_80_1 rfl rfl ?_
              refine ov_goto (tgt := 85) d_96_81 (by decide) ?_
              exact ov_reti (st := []) d_96_85 rfl ⟨_, rfl, rfl, rfl, trivial⟩
          · skip
            refine ov_blk (ls2 := [(0, ov_r 0), (1, ov_i x), (2, ov_i y), (3, ov_i way), (4, ov_i s), (5, ov_i v22)]) (st2 := [ov_i 1, ov_i way]) (pc2 := 56) b_96_54_2 rfl rfl ?_
            refine ov_icne (tgt := 63) d_96_56 (by decide) (by omega) (by omega) (fun c39 => ?_) (fun c39 => ?_)
            · skip
              refine ov_blk (ls2 := [(0, ov_r 0), (1, ov_i x), (2, ov_i y), (3, ov_i way), (4, ov_i s), (5, ov_i v22)]) (st2 := [ov_i 0]) (pc2 := 64) b_96_63_1 rfl rfl ?_
              exact ov_reti (st := []) d_96_64 rfl ⟨_, rfl, rfl, rfl, trivial⟩
            · skip
              refine ov_blk (ls2 := [(0, ov_r 0), (1, ov_i x), (2, ov_i y), (3, ov_i way), (4, ov_i s), (5, ov_i v22)]) (st2 := [ov_i 1]) (pc2 := 60) b_96_59_1 rfl rfl ?_
              refine ov_goto (tgt := 64) d_96_60 (by decide) ?_
              exact ov_reti (st := []) d_96_64 rfl ⟨_, rfl, rfl, rfl, trivial⟩
        · skip
          refine ov_blk (ls2 := [(0, ov_r 0), (1, ov_i x), (2, ov_i y), (3, ov_i way), (4, ov_i s), (5, ov_i v22)]) (st2 := [ov_i (-1)]) (pc2 := 39) b_96_38_1 rfl rfl ?_
          exact ov_reti (st := []) d_96_39 rfl ⟨_, rfl, rfl, rfl, trivial⟩
abbrev P_OF_until_0 (F : ov_H) (z : ov_Z) (h : ov_H) (x : Int) (y : Int) (way : Int) (s : Int) : Option ov_V → ov_Z → ov_H → Prop := fun r0 z' h' => ∃ r : Int, r0 = some (ov_i r) ∧ z = z' ∧ h = h' ∧ (True)
set_option maxHeartbeats 4000000 in
theorem c_OF_until_0 {u : ov_U} {F : ov_H} {z : ov_Z} {h : ov_H} (d : Nat) (hd : 2 ≤ d) (U : ov_cap u) (I : ov_I F z h) (x : Int) (y : Int) (way : Int) (s : Int) (g_x : ov_g x) (g_y : ov_g y) (g_way : ov_g way) (g_s : ov_g s) : ov_T u d ov_m101 [ov_r 0, ov_i x, ov_i y, ov_i way, ov_i s] z h (P_OF_until_0 F z h x y way s) := by
  refine ov_en rfl (Nat.le_of_ble_eq_true rfl) ?_
  show ov_R u d ov_m101 0 [(0, ov_r 0), (1, ov_i x), (2, ov_i y), (3, ov_i way), (4, ov_i s)] [] z h (P_OF_until_0 F z h x y way s)
  refine ov_blk (ls2 := [(0, ov_r 0), (1, ov_i x), (2, ov_i y), (3, ov_i way), (4, ov_i s)]) (st2 := [ov_r 0]) (pc2 := 1) b_101_0_1 rfl rfl ?_
  rcases rg_0_10 I with e1 | e1
  · skip
    refine ov_getf (v := ov_r 58) d_101_1 fl_OF_78 (zb_0 I) (zs_0 I) (congrArg ov_r e1) ?_
    refine ov_blk (ls2 := [(0, ov_r 0), (1, ov_i x), (2, ov_i y), (3, ov_i way), (4, ov_i s)]) (st2 := [ov_i y, ov_i x, ov_r 58]) (pc2 := 6) b_101_4_2 rfl rfl ?_
    refine ov_cV (as := [ov_i x, ov_i y]) (st := []) (d2 := d - 1) d_101_6 lk_OF_131 rfl (Nat.le_of_ble_eq_true rfl) (c := 9) (zb_58 I) (zs_58 I) ⟨by decide, rfl⟩ (by omega) (c_Town_corner_58 (d - 1) (by omega) U I x y (by omega) (by omega)) ?_
    rintro _ _ _ ⟨v3, rfl, rfl, rfl, f2⟩
    show ov_R u d ov_m101 9 [(0, ov_r 0), (1, ov_i x), (2, ov_i y), (3, ov_i way), (4, ov_i s)] [ov_i v3] z h (P_OF_until_0 F z h x y way s)
    have f4 : v3 = -1 ∨ (0 ≤ x ∧ x < (h 58 0) ∧ 0 ≤ y ∧ y < (h 58 1) ∧ v3 = y * 6 + x ∧ (h 58 0) ≤ 6 ∧ (h 58 1) ≤ 9) := f2
    clear f2
    refine ov_blk (ls2 := [(0, ov_r 0), (1, ov_i x), (2, ov_i y), (3, ov_i way), (4, ov_i s), (5, ov_i v3)]) (st2 := [ov_i (-1), ov_i v3]) (pc2 := 14) b_101_9_3 rfl rfl ?_
    refine ov_iceq (tgt := 38) d_101_14 (by decide) (by omega) (by omega) (fun c5 => ?_) (fun c5 => ?_)
    · skip
      refine ov_blk (ls2 := [(0, ov_r 0), (1, ov_i x), (2, ov_i y), (3, ov_i way), (4, ov_i s), (5, ov_i v3)]) (st2 := [ov_i (-1)]) (pc2 := 39) b_101_38_1 rfl rfl ?_
      exact ov_reti (st := []) d_101_39 rfl ⟨_, rfl, rfl, rfl, trivial⟩
    · skip
      refine ov_blk (ls2 := [(0, ov_r 0), (1, ov_i x), (2, ov_i y), (3, ov_i way), (4, ov_i s), (5, ov_i v3)]) (st2 := [ov_i s]) (pc2 := 19) b_101_17_1 rfl rfl ?_
      refine ov_cS (as := [ov_i s]) (st := []) (d2 := d - 1) d_101_19 lk_OF_155 rfl (Nat.le_of_ble_eq_true rfl) (by omega) (c_OF_isSecond (d - 1) (by omega) U I s (by omega)) ?_
      rintro _ _ _ ⟨v7, rfl, rfl, rfl, f6⟩
      show ov_R u d ov_m101 22 [(0, ov_r 0), (1, ov_i x), (2, ov_i y), (3, ov_i way), (4, ov_i s), (5, ov_i v3)] [ov_i v7] z h (P_OF_until_0 F z h x y way s)
      have f8 : (v7 = 0 ∨ v7 = 1) ∧ (v7 = 1 → 0 ≤ s ∧ s ≤ 1000000) := f6
      clear f6
      refine ov_ifeq (tgt := 38) d_101_22 (by decide) (by omega) (fun c9 => ?_) (fun c9 => ?_)
      · skip
        refine ov_blk (ls2 := [(0, ov_r 0), (1, ov_i x), (2, ov_i y), (3, ov_i way), (4, ov_i s), (5, ov_i v3)]) (st2 := [ov_i (-1)]) (pc2 := 39) b_101_38_1 rfl rfl ?_
        exact ov_reti (st := []) d_101_39 rfl ⟨_, rfl, rfl, rfl, trivial⟩
      · skip
        refine ov_blk (ls2 := [(0, ov_r 0), (1, ov_i x), (2, ov_i y), (3, ov_i way), (4, ov_i s), (5, ov_i v3)]) (st2 := [ov_r 0]) (pc2 := 26) b_101_25_1 rfl rfl ?_
        refine ov_getf (v := ov_r 58) d_101_26 fl_OF_78 (zb_0 I) (zs_0 I) (congrArg ov_r e1) ?_
        refine ov_blk (ls2 := [(0, ov_r 0), (1, ov_i x), (2, ov_i y), (3, ov_i way), (4, ov_i s), (5, ov_i v3)]) (st2 := [ov_i way, ov_i v3, ov_r 58]) (pc2 := 32) b_101_29_2 rfl rfl ?_
        refine ov_cV (as := [ov_i v3, ov_i way]) (st := []) (d2 := d - 1) d_101_32 lk_OF_158 rfl (Nat.le_of_ble_eq_true rfl) (c := 9) (zb_58 I) (zs_58 I) ⟨by decide, rfl⟩ (by omega) (c_Town_isOpen_58 (d - 1) (by omega) U I v3 way (by omega) (by omega) (by omega)) ?_
        rintro _ _ _ ⟨v11, rfl, rfl, rfl, f10⟩
        show ov_R u d ov_m101 35 [(0, ov_r 0), (1, ov_i x), (2, ov_i y), (3, ov_i way), (4, ov_i s), (5, ov_i v3)] [ov_i v11] z h (P_OF_until_0 F z h x y way s)
        have f12 : (v11 = 0 ∨ v11 = 1) ∧ (v11 = 1 → (way = 0 ∧ v3 ≤ 52) ∨ (way = 1 ∧ v3 ≤ 47)) := f10
        clear f10
        refine ov_ifne (tgt := 40) d_101_35 (by decide) (by omega) (fun c13 => ?_) (fun c13 => ?_)
        · skip
          refine ov_blk (ls2 := [(0, ov_r 0), (1, ov_i x), (2, ov_i y), (3, ov_i way), (4, ov_i s), (5, ov_i v3)]) (st2 := [ov_r 0]) (pc2 := 41) b_101_40_1 rfl rfl ?_
          refine ov_getf (v := ov_r 58) d_101_41 fl_OF_78 (zb_0 I) (zs_0 I) (congrArg ov_r e1) ?_
          refine ov_blk (ls2 := [(0, ov_r 0), (1, ov_i x), (2, ov_i y), (3, ov_i way), (4, ov_i s), (5, ov_i v3)]) (st2 := [ov_i s, ov_i way, ov_i v3, ov_r 58]) (pc2 := 49) b_101_44_3 rfl rfl ?_
          refine ov_cV (as := [ov_i v3, ov_i way, ov_i s]) (st := []) (d2 := d - 1) d_101_49 lk_OF_162 rfl (Nat.le_of_ble_eq_true rfl) (c := 9) (zb_58 I) (zs_58 I) ⟨by decide, rfl⟩ (by omega) (c_Town_waitFor_58 (d - 1) (by omega) U I v3 way s (by omega) (by omega) (by omega) (by omega)) ?_
          rintro _ _ _ ⟨v15, rfl, rfl, rfl, f14⟩
          show ov_R u d ov_m101 52 [(0, ov_r 0), (1, ov_i x), (2, ov_i y), (3, ov_i way), (4, ov_i s), (5, ov_i v3)] [ov_i v15] z h (P_OF_until_0 F z h x y way s)
          have f16 : 0 ≤ v15 ∧ v15 ≤ 60 := f14
          clear f14
          exact ov_reti (st := []) d_101_52 rfl ⟨_, rfl, rfl, rfl, trivial⟩
        · skip
          refine ov_blk (ls2 := [(0, ov_r 0), (1, ov_i x), (2, ov_i y), (3, ov_i way), (4, ov_i s), (5, ov_i v3)]) (st2 := [ov_i (-1)]) (pc2 := 39) b_101_38_1 rfl rfl ?_
          exact ov_reti (st := []) d_101_39 rfl ⟨_, rfl, rfl, rfl, trivial⟩
  · skip
    refine ov_getf (v := ov_r 70) d_101_1 fl_OF_78 (zb_0 I) (zs_0 I) (congrArg ov_r e1) ?_
    refine ov_blk (ls2 := [(0, ov_r 0), (1, ov_i x), (2, ov_i y), (3, ov_i way), (4, ov_i s)]) (st2 := [ov_i y, ov_i x, ov_r 70]) (pc2 := 6) b_101_4_2 rfl rfl ?_
    refine ov_cV (as := [ov_i x, ov_i y]) (st := []) (d2 := d - 1) d_101_6 lk_OF_131 rfl (Nat.le_of_ble_eq_true rfl) (c := 9) (zb_70 I) (zs_70 I) ⟨by decide, rfl⟩ (by omega) (c_Town_corner_70 (d - 1) (by omega) U I x y (by omega) (by omega)) ?_
    rintro _ _ _ ⟨v18, rfl, rfl, rfl, f17⟩
    show ov_R u d ov_m101 9 [(0, ov_r 0), (1, ov_i x), (2, ov_i y), (3, ov_i way), (4, ov_i s)] [ov_i v18] z h (P_OF_until_0 F z h x y way s)
    have f19 : v18 = -1 ∨ (0 ≤ x ∧ x < (h 70 0) ∧ 0 ≤ y ∧ y < (h 70 1) ∧ v18 = y * 6 + x ∧ (h 70 0) ≤ 6 ∧ (h 70 1) ≤ 9) := f17
    clear f17
    refine ov_blk (ls2 := [(0, ov_r 0), (1, ov_i x), (2, ov_i y), (3, ov_i way), (4, ov_i s), (5, ov_i v18)]) (st2 := [ov_i (-1), ov_i v18]) (pc2 := 14) b_101_9_3 rfl rfl ?_
    refine ov_iceq (tgt := 38) d_101_14 (by decide) (by omega) (by omega) (fun c20 => ?_) (fun c20 => ?_)
    · skip
      refine ov_blk (ls2 := [(0, ov_r 0), (1, ov_i x), (2, ov_i y), (3, ov_i way), (4, ov_i s), (5, ov_i v18)]) (st2 := [ov_i (-1)]) (pc2 := 39) b_101_38_1 rfl rfl ?_
      exact ov_reti (st := []) d_101_39 rfl ⟨_, rfl, rfl, rfl, trivial⟩
    · skip
      refine ov_blk (ls2 := [(0, ov_r 0), (1, ov_i x), (2, ov_i y), (3, ov_i way), (4, ov_i s), (5, ov_i v18)]) (st2 := [ov_i s]) (pc2 := 19) b_101_17_1 rfl rfl ?_
      refine ov_cS (as := [ov_i s]) (st := []) (d2 := d - 1) d_101_19 lk_OF_155 rfl (Nat.le_of_ble_eq_true rfl) (by omega) (c_OF_isSecond (d - 1) (by omega) U I s (by omega)) ?_
      rintro _ _ _ ⟨v22, rfl, rfl, rfl, f21⟩
      show ov_R u d ov_m101 22 [(0, ov_r 0), (1, ov_i x), (2, ov_i y), (3, ov_i way), (4, ov_i s), (5, ov_i v18)] [ov_i v22] z h (P_OF_until_0 F z h x y way s)
      have f23 : (v22 = 0 ∨ v22 = 1) ∧ (v22 = 1 → 0 ≤ s ∧ s ≤ 1000000) := f21
      clear f21
      refine ov_ifeq (tgt := 38) d_101_22 (by decide) (by omega) (fun c24 => ?_) (fun c24 => ?_)
      · skip
        refine ov_blk (ls2 := [(0, ov_r 0), (1, ov_i x), (2, ov_i y), (3, ov_i way), (4, ov_i s), (5, ov_i v18)]) (st2 := [ov_i (-1)]) (pc2 := 39) b_101_38_1 rfl rfl ?_
        exact ov_reti (st := []) d_101_39 rfl ⟨_, rfl, rfl, rfl, trivial⟩
      · skip
        refine ov_blk (ls2 := [(0, ov_r 0), (1, ov_i x), (2, ov_i y), (3, ov_i way), (4, ov_i s), (5, ov_i v18)]) (st2 := [ov_r 0]) (pc2 := 26) b_101_25_1 rfl rfl ?_
        refine ov_getf (v := ov_r 70) d_101_26 fl_OF_78 (zb_0 I) (zs_0 I) (congrArg ov_r e1) ?_
        refine ov_blk (ls2 := [(0, ov_r 0), (1, ov_i x), (2, ov_i y), (3, ov_i way), (4, ov_i s), (5, ov_i v18)]) (st2 := [ov_i way, ov_i v18, ov_r 70]) (pc2 := 32) b_101_29_2 rfl rfl ?_
        refine ov_cV (as := [ov_i v18, ov_i way]) (st := []) (d2 := d - 1) d_101_32 lk_OF_158 rfl (Nat.le_of_ble_eq_true rfl) (c := 9) (zb_70 I) (zs_70 I) ⟨by decide, rfl⟩ (by omega) (c_Town_isOpen_70 (d - 1) (by omega) U I v18 way (by omega) (by omega) (by omega)) ?_
        rintro _ _ _ ⟨v26, rfl, rfl, rfl, f25⟩
        show ov_R u d ov_m101 35 [(0, ov_r 0), (1, ov_i x), (2, ov_i y), (3, ov_i way), (4, ov_i s), (5, ov_i v18)] [ov_i v26] z h (P_OF_until_0 F z h x y way s)
        have f27 : (v26 = 0 ∨ v26 = 1) ∧ (v26 = 1 → (way = 0 ∧ v18 ≤ 52) ∨ (way = 1 ∧ v18 ≤ 47)) := f25
        clear f25
        refine ov_ifne (tgt := 40) d_101_35 (by decide) (by omega) (fun c28 => ?_) (fun c28 => ?_)
        · skip
          refine ov_blk (ls2 := [(0, ov_r 0), (1, ov_i x), (2, ov_i y), (3, ov_i way), (4, ov_i s), (5, ov_i v18)]) (st2 := [ov_r 0]) (pc2 := 41) b_101_40_1 rfl rfl ?_
          refine ov_getf (v := ov_r 70) d_101_41 fl_OF_78 (zb_0 I) (zs_0 I) (congrArg ov_r e1) ?_
          refine ov_blk (ls2 := [(0, ov_r 0), (1, ov_i x), (2, ov_i y), (3, ov_i way), (4, ov_i s), (5, ov_i v18)]) (st2 := [ov_i s, ov_i way, ov_i v18, ov_r 70]) (pc2 := 49) b_101_44_3 rfl rfl ?_
          refine ov_cV (as := [ov_i v18, ov_i way, ov_i s]) (st := []) (d2 := d - 1) d_101_49 lk_OF_162 rfl (Nat.le_of_ble_eq_true rfl) (c := 9) (zb_70 I) (zs_70 I) ⟨by decide, rfl⟩ (by omega) (c_Town_waitFor_70 (d - 1) (by omega) U I v18 way s (by omega) (by omega) (by omega) (by omega)) ?_
          rintro _ _ _ ⟨v30, rfl, rfl, rfl, f29⟩
          show ov_R u d ov_m101 52 [(0, ov_r 0), (1, ov_i x), (2, ov_i y), (3, ov_i way), (4, ov_i s), (5, ov_i v18)] [ov_i v30] z h (P_OF_until_0 F z h x y way s)
          have f31 : 0 ≤ v30 ∧ v30 ≤ 60 := f29
          clear f29
          exact ov_reti (st := []) d_101_52 rfl ⟨_, rfl, rfl, rfl, trivial⟩
        · skip
          refine ov_blk (ls2 := [(0, ov_r 0), (1, ov_i x), (2, ov_i y), (3, ov_i way), (4, ov_i s), (5, ov_i v18)]) (st2 := [ov_i (-1)]) (pc2 := 39) b_101_38_1 rfl rfl ?_
          exact ov_reti (st := []) d_101_39 rfl ⟨_, rfl, rfl, rfl, trivial⟩
abbrev P_OF_go_0 (F : ov_H) (z : ov_Z) (h : ov_H) (way : Int) (run : Int) : Option ov_V → ov_Z → ov_H → Prop := fun r0 z' h' => ∃ r : Int, r0 = some (ov_i r) ∧ ov_I F z' h' ∧ ((h' 36 7) = (h 36 7) ∧ (h' 1 1) = (h 1 1) ∧ (h' 90 2) = (h 90 2) ∧ (h' 0 10) = (h 0 10) ∧ (h' 0 11) = (h 0 11) ∧ (h' 0 12) = (h 0 12) ∧ (h' 0 13) = (h 0 13) ∧ (h' 3 1) = (h 3 1) ∧ (h' 36 8) = (h 36 8) ∧ (h' 46 3) = (h 46 3) ∧ (h' 46 4) = (h 46 4) ∧ (h' 49 4) = (h 49 4) ∧ (h' 49 5) = (h 49 5) ∧ (h' 64 0) = (h 64 0) ∧ (h' 76 0) = (h 76 0))
set_option maxHeartbeats 4000000 in
theorem c_OF_go_0 {u : ov_U} {F : ov_H} {z : ov_Z} {h : ov_H} (d : Nat) (hd : 2 ≤ d) (U : ov_cap u) (I : ov_I F z h) (hw : ov_kw 15888 F) (way : Int) (run : Int) (g_way : ov_g way) (g_run : run = 0 ∨ run = 1) : ov_T u d ov_m102 [ov_r 0, ov_i way, ov_i run] z h (P_OF_go_0 F z h way run) := by
  refine ov_en rfl (Nat.le_of_ble_eq_true rfl) ?_
  show ov_R u d ov_m102 0 [(0, ov_r 0), (1, ov_i way), (2, ov_i run)] [] z h (P_OF_go_0 F z h way run)
  refine ov_blk (ls2 := [(0, ov_r 0), (1, ov_i way), (2, ov_i run)]) (st2 := [ov_r 0]) (pc2 := 1) b_102_0_1 rfl rfl ?_
  rcases rg_0_10 I with e1 | e1
  · skip
    refine ov_getf (v := ov_r 58) d_102_1 fl_OF_78 (zb_0 I) (zs_0 I) (congrArg ov_r e1) ?_
    refine ov_blk (ls2 := [(0, ov_r 0), (1, ov_i way), (2, ov_i run)]) (st2 := [ov_r 0, ov_r 58]) (pc2 := 5) b_102_4_1 rfl rfl ?_
    refine ov_getf (v := ov_r 4) d_102_5 fl_OF_28 (zb_0 I) (zs_0 I) (congrArg ov_r (rg_0_2 I)) ?_
    refine ov_getf (v := ov_i (h 4 0)) d_102_8 fl_OF_166 (zb_4 I) (zs_4 I) rfl ?_
    have g2 := rg_4_0 I
    refine ov_blk (ls2 := [(0, ov_r 0), (1, ov_i way), (2, ov_i run)]) (st2 := [ov_i way, ov_i (h 4 0), ov_r 58]) (pc2 := 12) b_102_11_1 rfl rfl ?_
    refine ov_cV (as := [ov_i (h 4 0), ov_i way]) (st := []) (d2 := d - 1) d_102_12 lk_OF_158 rfl (Nat.le_of_ble_eq_true rfl) (c := 9) (zb_58 I) (zs_58 I) ⟨by decide, rfl⟩ (by omega) (c_Town_isOpen_58 (d - 1) (by omega) U I (h 4 0) way (by omega) (by omega) (by omega)) ?_
    rintro _ _ _ ⟨v4, rfl, rfl, rfl, f3⟩
    show ov_R u d ov_m102 15 [(0, ov_r 0), (1, ov_i way), (2, ov_i run)] [ov_i v4] z h (P_OF_go_0 F z h way run)
    have f5 : (v4 = 0 ∨ v4 = 1) ∧ (v4 = 1 → (way = 0 ∧ (h 4 0) ≤ 52) ∨ (way = 1 ∧ (h 4 0) ≤ 47)) := f3
    clear f3
    refine ov_ifeq (tgt := 29) d_102_15 (by decide) (by omega) (fun c6 => ?_) (fun c6 => ?_)
    · skip
      refine ov_blk (ls2 := [(0, ov_r 0), (1, ov_i way), (2, ov_i run)]) (st2 := [ov_i (-1)]) (pc2 := 30) b_102_29_1 rfl rfl ?_
      exact ov_reti (st := []) d_102_30 rfl ⟨_, rfl, I, (by show (h 36 7) = (h 36 7) ∧ (h 1 1) = (h 1 1) ∧ (h 90 2) = (h 90 2) ∧ (h 0 10) = (h 0 10) ∧ (h 0 11) = (h 0 11) ∧ (h 0 12) = (h 0 12) ∧ (h 0 13) = (h 0 13) ∧ (h 3 1) = (h 3 1) ∧ (h 36 8) = (h 36 8) ∧ (h 46 3) = (h 46 3) ∧ (h 46 4) = (h 46 4) ∧ (h 49 4) = (h 49 4) ∧ (h 49 5) = (h 49 5) ∧ (h 64 0) = (h 64 0) ∧ (h 76 0) = (h 76 0); omega)⟩
    · skip
      refine ov_blk (ls2 := [(0, ov_r 0), (1, ov_i way), (2, ov_i run)]) (st2 := [ov_i run]) (pc2 := 19) b_102_18_1 rfl rfl ?_
      refine ov_ifeq (tgt := 31) d_102_19 (by decide) (by omega) (fun c7 => ?_) (fun c7 => ?_)
      · skip
        refine ov_blk (ls2 := [(0, ov_r 0), (1, ov_i way), (2, ov_i run)]) (st2 := [ov_r 0]) (pc2 := 32) b_102_31_1 rfl rfl ?_
        refine ov_getf (v := ov_r 9) d_102_32 fl_OF_35 (zb_0 I) (zs_0 I) (congrArg ov_r (rg_0_3 I)) ?_
        refine ov_blk (ls2 := [(0, ov_r 0), (1, ov_i way), (2, ov_i run)]) (st2 := [ov_r 0, ov_r 9]) (pc2 := 36) b_102_35_1 rfl rfl ?_
        refine ov_getf (v := ov_r 4) d_102_36 fl_OF_28 (zb_0 I) (zs_0 I) (congrArg ov_r (rg_0_2 I)) ?_
        refine ov_cV (as := [ov_r 4]) (st := []) (d2 := d - 1) d_102_39 lk_OF_172 rfl (Nat.le_of_ble_eq_true rfl) (c := 3) (zb_9 I) (zs_9 I) ⟨by decide, rfl⟩ (by omega) (c_History_keep_9_4_b (d - 1) (by omega) U I (ov_kws hw (by decide +kernel))) ?_
        rintro _ z9 h10 ⟨rfl, I11, f8⟩
        show ov_R u d ov_m102 42 [(0, ov_r 0), (1, ov_i way), (2, ov_i run)] [] z9 h10 (P_OF_go_0 F z h way run)
        have f12 : (h10 4 0) = (h 4 0) ∧ (h10 36 7) = (h 36 7) ∧ (h10 1 1) = (h 1 1) ∧ (h10 90 2) = (h 90 2) ∧ (h10 0 10) = (h 0 10) ∧ (h10 0 11) = (h 0 11) ∧ (h10 0 12) = (h 0 12) ∧ (h10 0 13) = (h 0 13) ∧ (h10 3 1) = (h 3 1) ∧ (h10 36 8) = (h 36 8) ∧ (h10 46 3) = (h 46 3) ∧ (h10 46 4) = (h 46 4) ∧ (h10 49 4) = (h 49 4) ∧ (h10 49 5) = (h 49 5) ∧ (h10 64 0) = (h 64 0) ∧ (h10 76 0) = (h 76 0) := f8
        clear f8
        have e13 : h10 0 10 = 58 := by omega
        refine ov_blk (ls2 := [(0, ov_r 0), (1, ov_i way), (2, ov_i run)]) (st2 := [ov_r 0]) (pc2 := 43) b_102_42_1 rfl rfl ?_
        refine ov_getf (v := ov_r 58) d_102_43 fl_OF_78 (zb_0 I11) (zs_0 I11) (congrArg ov_r e13) ?_
        refine ov_getf (v := ov_r 64) d_102_46 fl_OF_176 (zb_58 I11) (zs_58 I11) (congrArg ov_r (rg_58_7 I11)) ?_
        refine ov_blk (ls2 := [(0, ov_r 0), (1, ov_i way), (2, ov_i run)]) (st2 := [ov_i run, ov_r 64]) (pc2 := 50) b_102_49_1 rfl rfl ?_
        refine ov_ifeq (tgt := 57) d_102_50 (by decide) (by omega) (fun c14 => ?_) (fun c14 => ?_)
        · skip
          refine ov_blk (ls2 := [(0, ov_r 0), (1, ov_i way), (2, ov_i run)]) (st2 := [ov_i 0, ov_r 64]) (pc2 := 58) b_102_57_1 rfl rfl ?_
          refine ov_iald d_102_58 (zb_64 I11) (zs_64 I11) (by omega) ?_
          have g15 := ra_64 I11 0
          refine ov_blk (ls2 := [(0, ov_r 0), (1, ov_i way), (2, ov_i run), (3, ov_i (h10 64 0))]) (st2 := [ov_r 0]) (pc2 := 61) b_102_59_2 rfl rfl ?_
          refine ov_getf (v := ov_r 4) d_102_61 fl_OF_28 (zb_0 I11) (zs_0 I11) (congrArg ov_r (rg_0_2 I11)) ?_
          refine ov_blk (ls2 := [(0, ov_r 0), (1, ov_i way), (2, ov_i run), (3, ov_i (h10 64 0))]) (st2 := [ov_r 4, ov_r 4]) (pc2 := 65) b_102_64_1 rfl rfl ?_
          refine ov_getf (v := ov_i (h10 4 1)) d_102_65 fl_OF_179 (zb_4 I11) (zs_4 I11) rfl ?_
          have g16 := rg_4_1 I11
          refine ov_blk (ls2 := [(0, ov_r 0), (1, ov_i way), (2, ov_i run), (3, ov_i (h10 64 0))]) (st2 := [ov_r 0, ov_i (h10 4 1), ov_r 4]) (pc2 := 69) b_102_68_1 rfl rfl ?_
          refine ov_getf (v := ov_r 58) d_102_69 fl_OF_78 (zb_0 I11) (zs_0 I11) (congrArg ov_r e13) ?_
          refine ov_blk (ls2 := [(0, ov_r 0), (1, ov_i way), (2, ov_i run), (3, ov_i (h10 64 0))]) (st2 := [ov_r 0, ov_r 58, ov_i (h10 4 1), ov_r 4]) (pc2 := 73) b_102_72_1 rfl rfl ?_
          refine ov_getf (v := ov_r 4) d_102_73 fl_OF_28 (zb_0 I11) (zs_0 I11) (congrArg ov_r (rg_0_2 I11)) ?_
          refine ov_getf (v := ov_i (h10 4 0)) d_102_76 fl_OF_166 (zb_4 I11) (zs_4 I11) rfl ?_
          have g17 := rg_4_0 I11
          refine ov_blk (ls2 := [(0, ov_r 0), (1, ov_i way), (2, ov_i run), (3, ov_i (h10 64 0))]) (st2 := [ov_r 0, ov_i way, ov_i (h10 4 0), ov_r 58, ov_i (h10 4 1), ov_r 4]) (pc2 := 81) b_102_79_2 rfl rfl ?_
          refine ov_getf (v := ov_r 4) d_102_81 fl_OF_28 (zb_0 I11) (zs_0 I11) (congrArg ov_r (rg_0_2 I11)) ?_
          refine ov_getf (v := ov_i (h10 4 1)) d_102_84 fl_OF_179 (zb_4 I11) (zs_4 I11) rfl ?_
          refine ov_cV (as := [ov_i (h10 4 0), ov_i way, ov_i (h10 4 1)]) (st := [ov_i (h10 4 1), ov_r 4]) (d2 := d - 1) d_102_87 lk_OF_162 rfl (Nat.le_of_ble_eq_true rfl) (c := 9) (zb_58 I11) (zs_58 I11) ⟨by decide, rfl⟩ (by omega) (c_Town_waitFor_58 (d - 1) (by omega) U I11 (h10 4 0) way (h10 4 1) (by omega) (by omega) (by omega) (by omega)) ?_
          rintro _ _ _ ⟨v20, rfl, rfl, rfl, f19⟩
          show ov_R u d ov_m102 90 [(0, ov_r 0), (1, ov_i way), (2, ov_i run), (3, ov_i (h10 64 0))] [ov_i v20, ov_i (h10 4 1), ov_r 4] z9 h10 (P_OF_go_0 F z h way run)
          have f21 : 0 ≤ v20 ∧ v20 ≤ 60 := f19
          clear f19
          refine ov_blk (ls2 := [(0, ov_r 0), (1, ov_i way), (2, ov_i run), (3, ov_i (h10 64 0))]) (st2 := [ov_i (v20 + (h10 64 0)), ov_i (h10 4 1), ov_r 4]) (pc2 := 92) b_102_90_2 rfl rfl ?_
          refine ov_havw (fun w22 gw22 qw22 => ?_)
          refine ov_blk (ls2 := [(0, ov_r 0), (1, ov_i way), (2, ov_i run), (3, ov_i (h10 64 0))]) (st2 := [ov_i ((h10 4 1) + w22), ov_r 4]) (pc2 := 93) b_102_92_1 rfl rfl ?_
          refine ov_havw (fun w23 gw23 qw23 => ?_)
          refine ov_putf (x := w23) d_102_93 fl_OF_179 (zb_4 I11) (zs_4 I11) rfl nk_0 rfl ?_
          have I24 := up_4_1 (x := w23) I11 (by omega) (hw 4 (by decide +kernel))
          refine ov_blk (ls2 := [(0, ov_r 0), (1, ov_i way), (2, ov_i run), (3, ov_i (h10 64 0))]) (st2 := [ov_r 0]) (pc2 := 97) b_102_96_1 rfl rfl ?_
          refine ov_getf (v := ov_r 4) d_102_97 fl_OF_28 (zb_0 I24) (zs_0 I24) (congrArg ov_r (rg_0_2 I24)) ?_
          refine ov_blk (ls2 := [(0, ov_r 0), (1, ov_i way), (2, ov_i run), (3, ov_i (h10 64 0))]) (st2 := [ov_r 0, ov_r 4]) (pc2 := 101) b_102_100_1 rfl rfl ?_
          refine ov_getf (v := ov_r 58) d_102_101 fl_OF_78 (zb_0 I24) (zs_0 I24) (congrArg ov_r e13) ?_
          refine ov_blk (ls2 := [(0, ov_r 0), (1, ov_i way), (2, ov_i run), (3, ov_i (h10 64 0))]) (st2 := [ov_r 0, ov_r 58, ov_r 4]) (pc2 := 105) b_102_104_1 rfl rfl ?_
          refine ov_getf (v := ov_r 4) d_102_105 fl_OF_28 (zb_0 I24) (zs_0 I24) (congrArg ov_r (rg_0_2 I24)) ?_
          refine ov_getf (v := ov_i (h10 4 0)) d_102_108 fl_OF_166 (zb_4 I24) (zs_4 I24) rfl ?_
          refine ov_blk (ls2 := [(0, ov_r 0), (1, ov_i way), (2, ov_i run), (3, ov_i (h10 64 0))]) (st2 := [ov_i way, ov_i (h10 4 0), ov_r 58, ov_r 4]) (pc2 := 112) b_102_111_1 rfl rfl ?_
          refine ov_cV (as := [ov_i (h10 4 0), ov_i way]) (st := [ov_r 4]) (d2 := d - 1) d_102_112 lk_OF_182 rfl (Nat.le_of_ble_eq_true rfl) (c := 9) (zb_58 I24) (zs_58 I24) ⟨by decide, rfl⟩ (by omega) (c_Town_after_58 (d - 1) (by omega) U I24 (h10 4 0) way (by omega) (by omega) (by omega)) ?_
          rintro _ _ _ ⟨v27, rfl, rfl, rfl, f26⟩
          show ov_R u d ov_m102 115 [(0, ov_r 0), (1, ov_i way), (2, ov_i run), (3, ov_i (h10 64 0))] [ov_i v27, ov_r 4] z9 (ov_up h10 4 1 w23) (P_OF_go_0 F z h way run)
          have f28 : (way = 0 → v27 = (h10 4 0) + 1) ∧ (¬ way = 0 → v27 = (h10 4 0) + 6) := f26
          clear f26
          refine ov_putf (x := v27) d_102_115 fl_OF_166 (zb_4 I24) (zs_4 I24) rfl nk_0 rfl ?_
          have I29 := up_4_0 (x := v27) I24 (by omega) (hw 4 (by decide +kernel))
          refine ov_blk (ls2 := [(0, ov_r 0), (1, ov_i way), (2, ov_i run), (3, ov_i (h10 64 0))]) (st2 := [ov_r 0]) (pc2 := 119) b_102_118_1 rfl rfl ?_
          refine ov_getf (v := ov_r 4) d_102_119 fl_OF_28 (zb_0 I29) (zs_0 I29) (congrArg ov_r (rg_0_2 I29)) ?_
          refine ov_blk (ls2 := [(0, ov_r 0), (1, ov_i way), (2, ov_i run), (3, ov_i (h10 64 0))]) (st2 := [ov_r 4, ov_r 4]) (pc2 := 123) b_102_122_1 rfl rfl ?_
          refine ov_getf (v := ov_i (h10 4 2)) d_102_123 fl_OF_185 (zb_4 I29) (zs_4 I29) rfl ?_
          have g30 := rg_4_2 I11
          refine ov_blk (ls2 := [(0, ov_r 0), (1, ov_i way), (2, ov_i run), (3, ov_i (h10 64 0))]) (st2 := [ov_i run, ov_i (h10 4 2), ov_r 4]) (pc2 := 127) b_102_126_1 rfl rfl ?_
          refine ov_ifeq (tgt := 134) d_102_127 (by decide) (by omega) (fun c31 => ?_) (fun c31 => ?_)
          · skip
            refine ov_blk (ls2 := [(0, ov_r 0), (1, ov_i way), (2, ov_i run), (3, ov_i (h10 64 0))]) (st2 := [ov_i ((h10 4 2) + 0), ov_r 4]) (pc2 := 136) b_102_134_2 rfl rfl ?_
            refine ov_havw (fun w32 gw32 qw32 => ?_)
            refine ov_putf (x := w32) d_102_136 fl_OF_185 (zb_4 I29) (zs_4 I29) rfl nk_0 rfl ?_
            have I33 := up_4_2 (x := w32) I29 (by omega) (hw 4 (by decide +kernel))
            refine ov_blk (ls2 := [(0, ov_r 0), (1, ov_i way), (2, ov_i run), (3, ov_i (h10 64 0))]) (st2 := [ov_r 0]) (pc2 := 140) b_102_139_1 rfl rfl ?_
            refine ov_getf (v := ov_r 4) d_102_140 fl_OF_28 (zb_0 I33) (zs_0 I33) (congrArg ov_r (rg_0_2 I33)) ?_
            refine ov_getf (v := ov_i w23) d_102_143 fl_OF_179 (zb_4 I33) (zs_4 I33) rfl ?_
            exact ov_reti (st := []) d_102_146 rfl ⟨_, rfl, I33, (by show (h10 36 7) = (h 36 7) ∧ (h10 1 1) = (h 1 1) ∧ (h10 90 2) = (h 90 2) ∧ (h10 0 10) = (h 0 10) ∧ (h10 0 11) = (h 0 11) ∧ (h10 0 12) = (h 0 12) ∧ (h10 0 13) = (h 0 13) ∧ (h10 3 1) = (h 3 1) ∧ (h10 36 8) = (h 36 8) ∧ (h10 46 3) = (h 46 3) ∧ (h10 46 4) = (h 46 4) ∧ (h10 49 4) = (h 49 4) ∧ (h10 49 5) = (h 49 5) ∧ (h10 64 0) = (h 64 0) ∧ (h10 76 0) = (h 76 0); omega)⟩
          · skip
            refine ov_blk (ls2 := [(0, ov_r 0), (1, ov_i way), (2, ov_i run), (3, ov_i (h10 64 0))]) (st2 := [ov_i 1, ov_i (h10 4 2), ov_r 4]) (pc2 := 131) b_102_130_1 rfl rfl ?_
            refine ov_goto (tgt := 135) d_102_131 (by decide) ?_
            refine ov_blk (ls2 := [(0, ov_r 0), (1, ov_i way), (2, ov_i run), (3, ov_i (h10 64 0))]) (st2 := [ov_i ((h10 4 2) + 1), ov_r 4]) (pc2 := 136) b_102_135_1 rfl rfl ?_
            refine ov_havw (fun w34 gw34 qw34 => ?_)
            refine ov_putf (x := w34) d_102_136 fl_OF_185 (zb_4 I29) (zs_4 I29) rfl nk_0 rfl ?_
            have I35 := up_4_2 (x := w34) I29 (by omega) (hw 4 (by decide +kernel))
            refine ov_blk (ls2 := [(0, ov_r 0), (1, ov_i way), (2, ov_i run), (3, ov_i (h10 64 0))]) (st2 := [ov_r 0]) (pc2 := 140) b_102_139_1 rfl rfl ?_
            refine ov_getf (v := ov_r 4) d_102_140 fl_OF_28 (zb_0 I35) (zs_0 I35) (congrArg ov_r (rg_0_2 I35)) ?_
            refine ov_getf (v := ov_i w23) d_102_143 fl_OF_179 (zb_4 I35) (zs_4 I35) rfl ?_
            exact ov_reti (st := []) d_102_146 rfl ⟨_, rfl, I35, (by show (h10 36 7) = (h 36 7) ∧ (h10 1 1) = (h 1 1) ∧ (h10 90 2) = (h 90 2) ∧ (h10 0 10) = (h 0 10) ∧ (h10 0 11) = (h 0 11) ∧ (h10 0 12) = (h 0 12) ∧ (h10 0 13) = (h 0 13) ∧ (h10 3 1) = (h 3 1) ∧ (h10 36 8) = (h 36 8) ∧ (h10 46 3) = (h 46 3) ∧ (h10 46 4) = (h 46 4) ∧ (h10 49 4) = (h 49 4) ∧ (h10 49 5) = (h 49 5) ∧ (h10 64 0) = (h 64 0) ∧ (h10 76 0) = (h 76 0); omega)⟩
        · skip
          refine ov_blk (ls2 := [(0, ov_r 0), (1, ov_i way), (2, ov_i run)]) (st2 := [ov_i 1, ov_r 64]) (pc2 := 54) b_102_53_1 rfl rfl ?_
          refine ov_goto (tgt := 58) d_102_54 (by decide) ?_
          refine ov_iald d_102_58 (zb_64 I11) (zs_64 I11) (by omega) ?_
          have g36 := ra_64 I11 1
          refine ov_blk (ls2 := [(0, ov_r 0), (1, ov_i way), (2, ov_i run), (3, ov_i (h10 64 1))]) (st2 := [ov_r 0]) (pc2 := 61) b_102_59_2 rfl rfl ?_
          refine ov_getf (v := ov_r 4) d_102_61 fl_OF_28 (zb_0 I11) (zs_0 I11) (congrArg ov_r (rg_0_2 I11)) ?_
          refine ov_blk (ls2 := [(0, ov_r 0), (1, ov_i way), (2, ov_i run), (3, ov_i (h10 64 1))]) (st2 := [ov_r 4, ov_r 4]) (pc2 := 65) b_102_64_1 rfl rfl ?_
          refine ov_getf (v := ov_i (h10 4 1)) d_102_65 fl_OF_179 (zb_4 I11) (zs_4 I11) rfl ?_
          have g37 := rg_4_1 I11
          refine ov_blk (ls2 := [(0, ov_r 0), (1, ov_i way), (2, ov_i run), (3, ov_i (h10 64 1))]) (st2 := [ov_r 0, ov_i (h10 4 1), ov_r 4]) (pc2 := 69) b_102_68_1 rfl rfl ?_
          refine ov_getf (v := ov_r 58) d_102_69 fl_OF_78 (zb_0 I11) (zs_0 I11) (congrArg ov_r e13) ?_
          refine ov_blk (ls2 := [(0, ov_r 0), (1, ov_i way), (2, ov_i run), (3, ov_i (h10 64 1))]) (st2 := [ov_r 0, ov_r 58, ov_i (h10 4 1), ov_r 4]) (pc2 := 73) b_102_72_1 rfl rfl ?_
          refine ov_getf (v := ov_r 4) d_102_73 fl_OF_28 (zb_0 I11) (zs_0 I11) (congrArg ov_r (rg_0_2 I11)) ?_
          refine ov_getf (v := ov_i (h10 4 0)) d_102_76 fl_OF_166 (zb_4 I11) (zs_4 I11) rfl ?_
          have g38 := rg_4_0 I11
          refine ov_blk (ls2 := [(0, ov_r 0), (1, ov_i way), (2, ov_i run), (3, ov_i (h10 64 1))]) (st2 := [ov_r 0, ov_i way, ov_i (h10 4 0), ov_r 58, ov_i (h10 4 1), ov_r 4]) (pc2 := 81) b_102_79_2 rfl rfl ?_
          refine ov_getf (v := ov_r 4) d_102_81 fl_OF_28 (zb_0 I11) (zs_0 I11) (congrArg ov_r (rg_0_2 I11)) ?_
          refine ov_getf (v := ov_i (h10 4 1)) d_102_84 fl_OF_179 (zb_4 I11) (zs_4 I11) rfl ?_
          refine ov_cV (as := [ov_i (h10 4 0), ov_i way, ov_i (h10 4 1)]) (st := [ov_i (h10 4 1), ov_r 4]) (d2 := d - 1) d_102_87 lk_OF_162 rfl (Nat.le_of_ble_eq_true rfl) (c := 9) (zb_58 I11) (zs_58 I11) ⟨by decide, rfl⟩ (by omega) (c_Town_waitFor_58 (d - 1) (by omega) U I11 (h10 4 0) way (h10 4 1) (by omega) (by omega) (by omega) (by omega)) ?_
          rintro _ _ _ ⟨v41, rfl, rfl, rfl, f40⟩
          show ov_R u d ov_m102 90 [(0, ov_r 0), (1, ov_i way), (2, ov_i run), (3, ov_i (h10 64 1))] [ov_i v41, ov_i (h10 4 1), ov_r 4] z9 h10 (P_OF_go_0 F z h way run)
          have f42 : 0 ≤ v41 ∧ v41 ≤ 60 := f40
          clear f40
          refine ov_blk (ls2 := [(0, ov_r 0), (1, ov_i way), (2, ov_i run), (3, ov_i (h10 64 1))]) (st2 := [ov_i (v41 + (h10 64 1)), ov_i (h10 4 1), ov_r 4]) (pc2 := 92) b_102_90_2 rfl rfl ?_
          refine ov_havw (fun w43 gw43 qw43 => ?_)
          refine ov_blk (ls2 := [(0, ov_r 0), (1, ov_i way), (2, ov_i run), (3, ov_i (h10 64 1))]) (st2 := [ov_i ((h10 4 1) + w43), ov_r 4]) (pc2 := 93) b_102_92_1 rfl rfl ?_
          refine ov_havw (fun w44 gw44 qw44 => ?_)
          refine ov_putf (x := w44) d_102_93 fl_OF_179 (zb_4 I11) (zs_4 I11) rfl nk_0 rfl ?_
          have I45 := up_4_1 (x := w44) I11 (by omega) (hw 4 (by decide +kernel))
          refine ov_blk (ls2 := [(0, ov_r 0), (1, ov_i way), (2, ov_i run), (3, ov_i (h10 64 1))]) (st2 := [ov_r 0]) (pc2 := 97) b_102_96_1 rfl rfl ?_
          refine ov_getf (v := ov_r 4) d_102_97 fl_OF_28 (zb_0 I45) (zs_0 I45) (congrArg ov_r (rg_0_2 I45)) ?_
          refine ov_blk (ls2 := [(0, ov_r 0), (1, ov_i way), (2, ov_i run), (3, ov_i (h10 64 1))]) (st2 := [ov_r 0, ov_r 4]) (pc2 := 101) b_102_100_1 rfl rfl ?_
          refine ov_getf (v := ov_r 58) d_102_101 fl_OF_78 (zb_0 I45) (zs_0 I45) (congrArg ov_r e13) ?_
          refine ov_blk (ls2 := [(0, ov_r 0), (1, ov_i way), (2, ov_i run), (3, ov_i (h10 64 1))]) (st2 := [ov_r 0, ov_r 58, ov_r 4]) (pc2 := 105) b_102_104_1 rfl rfl ?_
          refine ov_getf (v := ov_r 4) d_102_105 fl_OF_28 (zb_0 I45) (zs_0 I45) (congrArg ov_r (rg_0_2 I45)) ?_
          refine ov_getf (v := ov_i (h10 4 0)) d_102_108 fl_OF_166 (zb_4 I45) (zs_4 I45) rfl ?_
          refine ov_blk (ls2 := [(0, ov_r 0), (1, ov_i way), (2, ov_i run), (3, ov_i (h10 64 1))]) (st2 := [ov_i way, ov_i (h10 4 0), ov_r 58, ov_r 4]) (pc2 := 112) b_102_111_1 rfl rfl ?_
          refine ov_cV (as := [ov_i (h10 4 0), ov_i way]) (st := [ov_r 4]) (d2 := d - 1) d_102_112 lk_OF_182 rfl (Nat.le_of_ble_eq_true rfl) (c := 9) (zb_58 I45) (zs_58 I45) ⟨by decide, rfl⟩ (by omega) (c_Town_after_58 (d - 1) (by omega) U I45 (h10 4 0) way (by omega) (by omega) (by omega)) ?_
          rintro _ _ _ ⟨v48, rfl, rfl, rfl, f47⟩
          show ov_R u d ov_m102 115 [(0, ov_r 0), (1, ov_i way), (2, ov_i run), (3, ov_i (h10 64 1))] [ov_i v48, ov_r 4] z9 (ov_up h10 4 1 w44) (P_OF_go_0 F z h way run)
          have f49 : (way = 0 → v48 = (h10 4 0) + 1) ∧ (¬ way = 0 → v48 = (h10 4 0) + 6) := f47
          clear f47
          refine ov_putf (x := v48) d_102_115 fl_OF_166 (zb_4 I45) (zs_4 I45) rfl nk_0 rfl ?_
          have I50 := up_4_0 (x := v48) I45 (by omega) (hw 4 (by decide +kernel))
          refine ov_blk (ls2 := [(0, ov_r 0), (1, ov_i way), (2, ov_i run), (3, ov_i (h10 64 1))]) (st2 := [ov_r 0]) (pc2 := 119) b_102_118_1 rfl rfl ?_
          refine ov_getf (v := ov_r 4) d_102_119 fl_OF_28 (zb_0 I50) (zs_0 I50) (congrArg ov_r (rg_0_2 I50)) ?_
          refine ov_blk (ls2 := [(0, ov_r 0), (1, ov_i way), (2, ov_i run), (3, ov_i (h10 64 1))]) (st2 := [ov_r 4, ov_r 4]) (pc2 := 123) b_102_122_1 rfl rfl ?_
          refine ov_getf (v := ov_i (h10 4 2)) d_102_123 fl_OF_185 (zb_4 I50) (zs_4 I50) rfl ?_
          have g51 := rg_4_2 I11
          refine ov_blk (ls2 := [(0, ov_r 0), (1, ov_i way), (2, ov_i run), (3, ov_i (h10 64 1))]) (st2 := [ov_i run, ov_i (h10 4 2), ov_r 4]) (pc2 := 127) b_102_126_1 rfl rfl ?_
          refine ov_ifeq (tgt := 134) d_102_127 (by decide) (by omega) (fun c52 => ?_) (fun c52 => ?_)
          · skip
            refine ov_blk (ls2 := [(0, ov_r 0), (1, ov_i way), (2, ov_i run), (3, ov_i (h10 64 1))]) (st2 := [ov_i ((h10 4 2) + 0), ov_r 4]) (pc2 := 136) b_102_134_2 rfl rfl ?_
            refine ov_havw (fun w53 gw53 qw53 => ?_)
            refine ov_putf (x := w53) d_102_136 fl_OF_185 (zb_4 I50) (zs_4 I50) rfl nk_0 rfl ?_
            have I54 := up_4_2 (x := w53) I50 (by omega) (hw 4 (by decide +kernel))
            refine ov_blk (ls2 := [(0, ov_r 0), (1, ov_i way), (2, ov_i run), (3, ov_i (h10 64 1))]) (st2 := [ov_r 0]) (pc2 := 140) b_102_139_1 rfl rfl ?_
            refine ov_getf (v := ov_r 4) d_102_140 fl_OF_28 (zb_0 I54) (zs_0 I54) (congrArg ov_r (rg_0_2 I54)) ?_
            refine ov_getf (v := ov_i w44) d_102_143 fl_OF_179 (zb_4 I54) (zs_4 I54) rfl ?_
            exact ov_reti (st := []) d_102_146 rfl ⟨_, rfl, I54, (by show (h10 36 7) = (h 36 7) ∧ (h10 1 1) = (h 1 1) ∧ (h10 90 2) = (h 90 2) ∧ (h10 0 10) = (h 0 10) ∧ (h10 0 11) = (h 0 11) ∧ (h10 0 12) = (h 0 12) ∧ (h10 0 13) = (h 0 13) ∧ (h10 3 1) = (h 3 1) ∧ (h10 36 8) = (h 36 8) ∧ (h10 46 3) = (h 46 3) ∧ (h10 46 4) = (h 46 4) ∧ (h10 49 4) = (h 49 4) ∧ (h10 49 5) = (h 49 5) ∧ (h10 64 0) = (h 64 0) ∧ (h10 76 0) = (h 76 0); omega)⟩
          · skip
            refine ov_blk (ls2 := [(0, ov_r 0), (1, ov_i way), (2, ov_i run), (3, ov_i (h10 64 1))]) (st2 := [ov_i 1, ov_i (h10 4 2), ov_r 4]) (pc2 := 131) b_102_130_1 rfl rfl ?_
            refine ov_goto (tgt := 135) d_102_131 (by decide) ?_
            refine ov_blk (ls2 := [(0, ov_r 0), (1, ov_i way), (2, ov_i run), (3, ov_i (h10 64 1))]) (st2 := [ov_i ((h10 4 2) + 1), ov_r 4]) (pc2 := 136) b_102_135_1 rfl rfl ?_
            refine ov_havw (fun w55 gw55 qw55 => ?_)
            refine ov_putf (x := w55) d_102_136 fl_OF_185 (zb_4 I50) (zs_4 I50) rfl nk_0 rfl ?_
            have I56 := up_4_2 (x := w55) I50 (by omega) (hw 4 (by decide +kernel))
            refine ov_blk (ls2 := [(0, ov_r 0), (1, ov_i way), (2, ov_i run), (3, ov_i (h10 64 1))]) (st2 := [ov_r 0]) (pc2 := 140) b_102_139_1 rfl rfl ?_
            refine ov_getf (v := ov_r 4) d_102_140 fl_OF_28 (zb_0 I56) (zs_0 I56) (congrArg ov_r (rg_0_2 I56)) ?_
            refine ov_getf (v := ov_i w44) d_102_143 fl_OF_179 (zb_4 I56) (zs_4 I56) rfl ?_
            exact ov_reti (st := []) d_102_146 rfl ⟨_, rfl, I56, (by show (h10 36 7) = (h 36 7) ∧ (h10 1 1) = (h 1 1) ∧ (h10 90 2) = (h 90 2) ∧ (h10 0 10) = (h 0 10) ∧ (h10 0 11) = (h 0 11) ∧ (h10 0 12) = (h 0 12) ∧ (h10 0 13) = (h 0 13) ∧ (h10 3 1) = (h 3 1) ∧ (h10 36 8) = (h 36 8) ∧ (h10 46 3) = (h 46 3) ∧ (h10 46 4) = (h 46 4) ∧ (h10 49 4) = (h 49 4) ∧ (h10 49 5) = (h 49 5) ∧ (h10 64 0) = (h 64 0) ∧ (h10 76 0) = (h 76 0); omega)⟩
      · skip
        refine ov_blk (ls2 := [(0, ov_r 0), (1, ov_i way), (2, ov_i run)]) (st2 := [ov_r 0]) (pc2 := 23) b_102_22_1 rfl rfl ?_
        refine ov_cV (as := []) (st := []) (d2 := d - 1) d_102_23 lk_OF_168 rfl (Nat.le_of_ble_eq_true rfl) (c := 0) (zb_0 I) (zs_0 I) ⟨by decide, rfl⟩ (by omega) (c_OF_runsLeft_0 (d - 1) (by omega) U I) ?_
        rintro _ _ _ ⟨v58, rfl, rfl, rfl, f57⟩
        show ov_R u d ov_m102 26 [(0, ov_r 0), (1, ov_i way), (2, ov_i run)] [ov_i v58] z h (P_OF_go_0 F z h way run)
        have f59 : -2147483648 ≤ v58 ∧ v58 ≤ 2147483647 := f57
        clear f57
        refine ov_ifgt (tgt := 31) d_102_26 (by decide) (by omega) (fun c60 => ?_) (fun c60 => ?_)
        · skip
          refine ov_blk (ls2 := [(0, ov_r 0), (1, ov_i way), (2, ov_i run)]) (st2 := [ov_r 0]) (pc2 := 32) b_102_31_1 rfl rfl ?_
          refine ov_getf (v := ov_r 9) d_102_32 fl_OF_35 (zb_0 I) (zs_0 I) (congrArg ov_r (rg_0_3 I)) ?_
          refine ov_blk (ls2 := [(0, ov_r 0), (1, ov_i way), (2, ov_i run)]) (st2 := [ov_r 0, ov_r 9]) (pc2 := 36) b_102_35_1 rfl rfl ?_
          refine ov_getf (v := ov_r 4) d_102_36 fl_OF_28 (zb_0 I) (zs_0 I) (congrArg ov_r (rg_0_2 I)) ?_
          refine ov_cV (as := [ov_r 4]) (st := []) (d2 := d - 1) d_102_39 lk_OF_172 rfl (Nat.le_of_ble_eq_true rfl) (c := 3) (zb_9 I) (zs_9 I) ⟨by decide, rfl⟩ (by omega) (c_History_keep_9_4_b (d - 1) (by omega) U I (ov_kws hw (by decide +kernel))) ?_
          rintro _ z62 h63 ⟨rfl, I64, f61⟩
          show ov_R u d ov_m102 42 [(0, ov_r 0), (1, ov_i way), (2, ov_i run)] [] z62 h63 (P_OF_go_0 F z h way run)
          have f65 : (h63 4 0) = (h 4 0) ∧ (h63 36 7) = (h 36 7) ∧ (h63 1 1) = (h 1 1) ∧ (h63 90 2) = (h 90 2) ∧ (h63 0 10) = (h 0 10) ∧ (h63 0 11) = (h 0 11) ∧ (h63 0 12) = (h 0 12) ∧ (h63 0 13) = (h 0 13) ∧ (h63 3 1) = (h 3 1) ∧ (h63 36 8) = (h 36 8) ∧ (h63 46 3) = (h 46 3) ∧ (h63 46 4) = (h 46 4) ∧ (h63 49 4) = (h 49 4) ∧ (h63 49 5) = (h 49 5) ∧ (h63 64 0) = (h 64 0) ∧ (h63 76 0) = (h 76 0) := f61
          clear f61
          have e66 : h63 0 10 = 58 := by omega
          refine ov_blk (ls2 := [(0, ov_r 0), (1, ov_i way), (2, ov_i run)]) (st2 := [ov_r 0]) (pc2 := 43) b_102_42_1 rfl rfl ?_
          refine ov_getf (v := ov_r 58) d_102_43 fl_OF_78 (zb_0 I64) (zs_0 I64) (congrArg ov_r e66) ?_
          refine ov_getf (v := ov_r 64) d_102_46 fl_OF_176 (zb_58 I64) (zs_58 I64) (congrArg ov_r (rg_58_7 I64)) ?_
          refine ov_blk (ls2 := [(0, ov_r 0), (1, ov_i way), (2, ov_i run)]) (st2 := [ov_i run, ov_r 64]) (pc2 := 50) b_102_49_1 rfl rfl ?_
          refine ov_ifeq (tgt := 57) d_102_50 (by decide) (by omega) (fun c67 => ?_) (fun c67 => ?_)
          · skip
            refine ov_blk (ls2 := [(0, ov_r 0), (1, ov_i way), (2, ov_i run)]) (st2 := [ov_i 0, ov_r 64]) (pc2 := 58) b_102_57_1 rfl rfl ?_
            refine ov_iald d_102_58 (zb_64 I64) (zs_64 I64) (by omega) ?_
            have g68 := ra_64 I64 0
            refine ov_blk (ls2 := [(0, ov_r 0), (1, ov_i way), (2, ov_i run), (3, ov_i (h63 64 0))]) (st2 := [ov_r 0]) (pc2 := 61) b_102_59_2 rfl rfl ?_
            refine ov_getf (v := ov_r 4) d_102_61 fl_OF_28 (zb_0 I64) (zs_0 I64) (congrArg ov_r (rg_0_2 I64)) ?_
            refine ov_blk (ls2 := [(0, ov_r 0), (1, ov_i way), (2, ov_i run), (3, ov_i (h63 64 0))]) (st2 := [ov_r 4, ov_r 4]) (pc2 := 65) b_102_64_1 rfl rfl ?_
            refine ov_getf (v := ov_i (h63 4 1)) d_102_65 fl_OF_179 (zb_4 I64) (zs_4 I64) rfl ?_
            have g69 := rg_4_1 I64
            refine ov_blk (ls2 := [(0, ov_r 0), (1, ov_i way), (2, ov_i run), (3, ov_i (h63 64 0))]) (st2 := [ov_r 0, ov_i (h63 4 1), ov_r 4]) (pc2 := 69) b_102_68_1 rfl rfl ?_
            refine ov_getf (v := ov_r 58) d_102_69 fl_OF_78 (zb_0 I64) (zs_0 I64) (congrArg ov_r e66) ?_
            refine ov_blk (ls2 := [(0, ov_r 0), (1, ov_i way), (2, ov_i run), (3, ov_i (h63 64 0))]) (st2 := [ov_r 0, ov_r 58, ov_i (h63 4 1), ov_r 4]) (pc2 := 73) b_102_72_1 rfl rfl ?_
            refine ov_getf (v := ov_r 4) d_102_73 fl_OF_28 (zb_0 I64) (zs_0 I64) (congrArg ov_r (rg_0_2 I64)) ?_
            refine ov_getf (v := ov_i (h63 4 0)) d_102_76 fl_OF_166 (zb_4 I64) (zs_4 I64) rfl ?_
            have g70 := rg_4_0 I64
            refine ov_blk (ls2 := [(0, ov_r 0), (1, ov_i way), (2, ov_i run), (3, ov_i (h63 64 0))]) (st2 := [ov_r 0, ov_i way, ov_i (h63 4 0), ov_r 58, ov_i (h63 4 1), ov_r 4]) (pc2 := 81) b_102_79_2 rfl rfl ?_
            refine ov_getf (v := ov_r 4) d_102_81 fl_OF_28 (zb_0 I64) (zs_0 I64) (congrArg ov_r (rg_0_2 I64)) ?_
            refine ov_getf (v := ov_i (h63 4 1)) d_102_84 fl_OF_179 (zb_4 I64) (zs_4 I64) rfl ?_
            refine ov_cV (as := [ov_i (h63 4 0), ov_i way, ov_i (h63 4 1)]) (st := [ov_i (h63 4 1), ov_r 4]) (d2 := d - 1) d_102_87 lk_OF_162 rfl (Nat.le_of_ble_eq_true rfl) (c := 9) (zb_58 I64) (zs_58 I64) ⟨by decide, rfl⟩ (by omega) (c_Town_waitFor_58 (d - 1) (by omega) U I64 (h63 4 0) way (h63 4 1) (by omega) (by omega) (by omega) (by omega)) ?_
            rintro _ _ _ ⟨v73, rfl, rfl, rfl, f72⟩
            show ov_R u d ov_m102 90 [(0, ov_r 0), (1, ov_i way), (2, ov_i run), (3, ov_i (h63 64 0))] [ov_i v73, ov_i (h63 4 1), ov_r 4] z62 h63 (P_OF_go_0 F z h way run)
            have f74 : 0 ≤ v73 ∧ v73 ≤ 60 := f72
            clear f72
            refine ov_blk (ls2 := [(0, ov_r 0), (1, ov_i way), (2, ov_i run), (3, ov_i (h63 64 0))]) (st2 := [ov_i (v73 + (h63 64 0)), ov_i (h63 4 1), ov_r 4]) (pc2 := 92) b_102_90_2 rfl rfl ?_
            refine ov_havw (fun w75 gw75 qw75 => ?_)
            refine ov_blk (ls2 := [(0, ov_r 0), (1, ov_i way), (2, ov_i run), (3, ov_i (h63 64 0))]) (st2 := [ov_i ((h63 4 1) + w75), ov_r 4]) (pc2 := 93) b_102_92_1 rfl rfl ?_
            refine ov_havw (fun w76 gw76 qw76 => ?_)
            refine ov_putf (x := w76) d_102_93 fl_OF_179 (zb_4 I64) (zs_4 I64) rfl nk_0 rfl ?_
            have I77 := up_4_1 (x := w76) I64 (by omega) (hw 4 (by decide +kernel))
            refine ov_blk (ls2 := [(0, ov_r 0), (1, ov_i way), (2, ov_i run), (3, ov_i (h63 64 0))]) (st2 := [ov_r 0]) (pc2 := 97) b_102_96_1 rfl rfl ?_
            refine ov_getf (v := ov_r 4) d_102_97 fl_OF_28 (zb_0 I77) (zs_0 I77) (congrArg ov_r (rg_0_2 I77)) ?_
            refine ov_blk (ls2 := [(0, ov_r 0), (1, ov_i way), (2, ov_i run), (3, ov_i (h63 64 0))]) (st2 := [ov_r 0, ov_r 4]) (pc2 := 101) b_102_100_1 rfl rfl ?_
            refine ov_getf (v := ov_r 58) d_102_101 fl_OF_78 (zb_0 I77) (zs_0 I77) (congrArg ov_r e66) ?_
            refine ov_blk (ls2 := [(0, ov_r 0), (1, ov_i way), (2, ov_i run), (3, ov_i (h63 64 0))]) (st2 := [ov_r 0, ov_r 58, ov_r 4]) (pc2 := 105) b_102_104_1 rfl rfl ?_
            refine ov_getf (v := ov_r 4) d_102_105 fl_OF_28 (zb_0 I77) (zs_0 I77) (congrArg ov_r (rg_0_2 I77)) ?_
            refine ov_getf (v := ov_i (h63 4 0)) d_102_108 fl_OF_166 (zb_4 I77) (zs_4 I77) rfl ?_
            refine ov_blk (ls2 := [(0, ov_r 0), (1, ov_i way), (2, ov_i run), (3, ov_i (h63 64 0))]) (st2 := [ov_i way, ov_i (h63 4 0), ov_r 58, ov_r 4]) (pc2 := 112) b_102_111_1 rfl rfl ?_
            refine ov_cV (as := [ov_i (h63 4 0), ov_i way]) (st := [ov_r 4]) (d2 := d - 1) d_102_112 lk_OF_182 rfl (Nat.le_of_ble_eq_true rfl) (c := 9) (zb_58 I77) (zs_58 I77) ⟨by decide, rfl⟩ (by omega) (c_Town_after_58 (d - 1) (by omega) U I77 (h63 4 0) way (by omega) (by omega) (by omega)) ?_
            rintro _ _ _ ⟨v80, rfl, rfl, rfl, f79⟩
            show ov_R u d ov_m102 115 [(0, ov_r 0), (1, ov_i way), (2, ov_i run), (3, ov_i (h63 64 0))] [ov_i v80, ov_r 4] z62 (ov_up h63 4 1 w76) (P_OF_go_0 F z h way run)
            have f81 : (way = 0 → v80 = (h63 4 0) + 1) ∧ (¬ way = 0 → v80 = (h63 4 0) + 6) := f79
            clear f79
            refine ov_putf (x := v80) d_102_115 fl_OF_166 (zb_4 I77) (zs_4 I77) rfl nk_0 rfl ?_
            have I82 := up_4_0 (x := v80) I77 (by omega) (hw 4 (by decide +kernel))
            refine ov_blk (ls2 := [(0, ov_r 0), (1, ov_i way), (2, ov_i run), (3, ov_i (h63 64 0))]) (st2 := [ov_r 0]) (pc2 := 119) b_102_118_1 rfl rfl ?_
            refine ov_getf (v := ov_r 4) d_102_119 fl_OF_28 (zb_0 I82) (zs_0 I82) (congrArg ov_r (rg_0_2 I82)) ?_
            refine ov_blk (ls2 := [(0, ov_r 0), (1, ov_i way), (2, ov_i run), (3, ov_i (h63 64 0))]) (st2 := [ov_r 4, ov_r 4]) (pc2 := 123) b_102_122_1 rfl rfl ?_
            refine ov_getf (v := ov_i (h63 4 2)) d_102_123 fl_OF_185 (zb_4 I82) (zs_4 I82) rfl ?_
            have g83 := rg_4_2 I64
            refine ov_blk (ls2 := [(0, ov_r 0), (1, ov_i way), (2, ov_i run), (3, ov_i (h63 64 0))]) (st2 := [ov_i run, ov_i (h63 4 2), ov_r 4]) (pc2 := 127) b_102_126_1 rfl rfl ?_
            refine ov_ifeq (tgt := 134) d_102_127 (by decide) (by omega) (fun c84 => ?_) (fun c84 => ?_)
            · skip
              refine ov_blk (ls2 := [(0, ov_r 0), (1, ov_i way), (2, ov_i run), (3, ov_i (h63 64 0))]) (st2 := [ov_i ((h63 4 2) + 0), ov_r 4]) (pc2 := 136) b_102_134_2 rfl rfl ?_
              refine ov_havw (fun w85 gw85 qw85 => ?_)
              refine ov_putf (x := w85) d_102_136 fl_OF_185 (zb_4 I82) (zs_4 I82) rfl nk_0 rfl ?_
              have I86 := up_4_2 (x := w85) I82 (by omega) (hw 4 (by decide +kernel))
              refine ov_blk (ls2 := [(0, ov_r 0), (1, ov_i way), (2, ov_i run), (3, ov_i (h63 64 0))]) (st2 := [ov_r 0]) (pc2 := 140) b_102_139_1 rfl rfl ?_
              refine ov_getf (v := ov_r 4) d_102_140 fl_OF_28 (zb_0 I86) (zs_0 I86) (congrArg ov_r (rg_0_2 I86)) ?_
              refine ov_getf (v := ov_i w76) d_102_143 fl_OF_179 (zb_4 I86) (zs_4 I86) rfl ?_
              exact ov_reti (st := []) d_102_146 rfl ⟨_, rfl, I86, (by show (h63 36 7) = (h 36 7) ∧ (h63 1 1) = (h 1 1) ∧ (h63 90 2) = (h 90 2) ∧ (h63 0 10) = (h 0 10) ∧ (h63 0 11) = (h 0 11) ∧ (h63 0 12) = (h 0 12) ∧ (h63 0 13) = (h 0 13) ∧ (h63 3 1) = (h 3 1) ∧ (h63 36 8) = (h 36 8) ∧ (h63 46 3) = (h 46 3) ∧ (h63 46 4) = (h 46 4) ∧ (h63 49 4) = (h 49 4) ∧ (h63 49 5) = (h 49 5) ∧ (h63 64 0) = (h 64 0) ∧ (h63 76 0) = (h 76 0); omega)⟩
            · skip
              refine ov_blk (ls2 := [(0, ov_r 0), (1, ov_i way), (2, ov_i run), (3, ov_i (h63 64 0))]) (st2 := [ov_i 1, ov_i (h63 4 2), ov_r 4]) (pc2 := 131) b_102_130_1 rfl rfl ?_
              refine ov_goto (tgt := 135) d_102_131 (by decide) ?_
              refine ov_blk (ls2 := [(0, ov_r 0), (1, ov_i way), (2, ov_i run), (3, ov_i (h63 64 0))]) (st2 := [ov_i ((h63 4 2) + 1), ov_r 4]) (pc2 := 136) b_102_135_1 rfl rfl ?_
              refine ov_havw (fun w87 gw87 qw87 => ?_)
              refine ov_putf (x := w87) d_102_136 fl_OF_185 (zb_4 I82) (zs_4 I82) rfl nk_0 rfl ?_
              have I88 := up_4_2 (x := w87) I82 (by omega) (hw 4 (by decide +kernel))
              refine ov_blk (ls2 := [(0, ov_r 0), (1, ov_i way), (2, ov_i run), (3, ov_i (h63 64 0))]) (st2 := [ov_r 0]) (pc2 := 140) b_102_139_1 rfl rfl ?_
              refine ov_getf (v := ov_r 4) d_102_140 fl_OF_28 (zb_0 I88) (zs_0 I88) (congrArg ov_r (rg_0_2 I88)) ?_
              refine ov_getf (v := ov_i w76) d_102_143 fl_OF_179 (zb_4 I88) (zs_4 I88) rfl ?_
              exact ov_reti (st := []) d_102_146 rfl ⟨_, rfl, I88, (by show (h63 36 7) = (h 36 7) ∧ (h63 1 1) = (h 1 1) ∧ (h63 90 2) = (h 90 2) ∧ (h63 0 10) = (h 0 10) ∧ (h63 0 11) = (h 0 11) ∧ (h63 0 12) = (h 0 12) ∧ (h63 0 13) = (h 0 13) ∧ (h63 3 1) = (h 3 1) ∧ (h63 36 8) = (h 36 8) ∧ (h63 46 3) = (h 46 3) ∧ (h63 46 4) = (h 46 4) ∧ (h63 49 4) = (h 49 4) ∧ (h63 49 5) = (h 49 5) ∧ (h63 64 0) = (h 64 0) ∧ (h63 76 0) = (h 76 0); omega)⟩
          · skip
            refine ov_blk (ls2 := [(0, ov_r 0), (1, ov_i way), (2, ov_i run)]) (st2 := [ov_i 1, ov_r 64]) (pc2 := 54) b_102_53_1 rfl rfl ?_
            refine ov_goto (tgt := 58) d_102_54 (by decide) ?_
            refine ov_iald d_102_58 (zb_64 I64) (zs_64 I64) (by omega) ?_
            have g89 := ra_64 I64 1
            refine ov_blk (ls2 := [(0, ov_r 0), (1, ov_i way), (2, ov_i run), (3, ov_i (h63 64 1))]) (st2 := [ov_r 0]) (pc2 := 61) b_102_59_2 rfl rfl ?_
            refine ov_getf (v := ov_r 4) d_102_61 fl_OF_28 (zb_0 I64) (zs_0 I64) (congrArg ov_r (rg_0_2 I64)) ?_
            refine ov_blk (ls2 := [(0, ov_r 0), (1, ov_i way), (2, ov_i run), (3, ov_i (h63 64 1))]) (st2 := [ov_r 4, ov_r 4]) (pc2 := 65) b_102_64_1 rfl rfl ?_
            refine ov_getf (v := ov_i (h63 4 1)) d_102_65 fl_OF_179 (zb_4 I64) (zs_4 I64) rfl ?_
            have g90 := rg_4_1 I64
            refine ov_blk (ls2 := [(0, ov_r 0), (1, ov_i way), (2, ov_i run), (3, ov_i (h63 64 1))]) (st2 := [ov_r 0, ov_i (h63 4 1), ov_r 4]) (pc2 := 69) b_102_68_1 rfl rfl ?_
            refine ov_getf (v := ov_r 58) d_102_69 fl_OF_78 (zb_0 I64) (zs_0 I64) (congrArg ov_r e66) ?_
            refine ov_blk (ls2 := [(0, ov_r 0), (1, ov_i way), (2, ov_i run), (3, ov_i (h63 64 1))]) (st2 := [ov_r 0, ov_r 58, ov_i (h63 4 1), ov_r 4]) (pc2 := 73) b_102_72_1 rfl rfl ?_
            refine ov_getf (v := ov_r 4) d_102_73 fl_OF_28 (zb_0 I64) (zs_0 I64) (congrArg ov_r (rg_0_2 I64)) ?_
            refine ov_getf (v := ov_i (h63 4 0)) d_102_76 fl_OF_166 (zb_4 I64) (zs_4 I64) rfl ?_
            have g91 := rg_4_0 I64
            refine ov_blk (ls2 := [(0, ov_r 0), (1, ov_i way), (2, ov_i run), (3, ov_i (h63 64 1))]) (st2 := [ov_r 0, ov_i way, ov_i (h63 4 0), ov_r 58, ov_i (h63 4 1), ov_r 4]) (pc2 := 81) b_102_79_2 rfl rfl ?_
            refine ov_getf (v := ov_r 4) d_102_81 fl_OF_28 (zb_0 I64) (zs_0 I64) (congrArg ov_r (rg_0_2 I64)) ?_
            refine ov_getf (v := ov_i (h63 4 1)) d_102_84 fl_OF_179 (zb_4 I64) (zs_4 I64) rfl ?_
            refine ov_cV (as := [ov_i (h63 4 0), ov_i way, ov_i (h63 4 1)]) (st := [ov_i (h63 4 1), ov_r 4]) (d2 := d - 1) d_102_87 lk_OF_162 rfl (Nat.le_of_ble_eq_true rfl) (c := 9) (zb_58 I64) (zs_58 I64) ⟨by decide, rfl⟩ (by omega) (c_Town_waitFor_58 (d - 1) (by omega) U I64 (h63 4 0) way (h63 4 1) (by omega) (by omega) (by omega) (by omega)) ?_
            rintro _ _ _ ⟨v94, rfl, rfl, rfl, f93⟩
            show ov_R u d ov_m102 90 [(0, ov_r 0), (1, ov_i way), (2, ov_i run), (3, ov_i (h63 64 1))] [ov_i v94, ov_i (h63 4 1), ov_r 4] z62 h63 (P_OF_go_0 F z h way run)
            have f95 : 0 ≤ v94 ∧ v94 ≤ 60 := f93
            clear f93
            refine ov_blk (ls2 := [(0, ov_r 0), (1, ov_i way), (2, ov_i run), (3, ov_i (h63 64 1))]) (st2 := [ov_i (v94 + (h63 64 1)), ov_i (h63 4 1), ov_r 4]) (pc2 := 92) b_102_90_2 rfl rfl ?_
            refine ov_havw (fun w96 gw96 qw96 => ?_)
            refine ov_blk (ls2 := [(0, ov_r 0), (1, ov_i way), (2, ov_i run), (3, ov_i (h63 64 1))]) (st2 := [ov_i ((h63 4 1) + w96), ov_r 4]) (pc2 := 93) b_102_92_1 rfl rfl ?_
            refine ov_havw (fun w97 gw97 qw97 => ?_)
            refine ov_putf (x := w97) d_102_93 fl_OF_179 (zb_4 I64) (zs_4 I64) rfl nk_0 rfl ?_
            have I98 := up_4_1 (x := w97) I64 (by omega) (hw 4 (by decide +kernel))
            refine ov_blk (ls2 := [(0, ov_r 0), (1, ov_i way), (2, ov_i run), (3, ov_i (h63 64 1))]) (st2 := [ov_r 0]) (pc2 := 97) b_102_96_1 rfl rfl ?_
            refine ov_getf (v := ov_r 4) d_102_97 fl_OF_28 (zb_0 I98) (zs_0 I98) (congrArg ov_r (rg_0_2 I98)) ?_
            refine ov_blk (ls2 := [(0, ov_r 0), (1, ov_i way), (2, ov_i run), (3, ov_i (h63 64 1))]) (st2 := [ov_r 0, ov_r 4]) (pc2 := 101) b_102_100_1 rfl rfl ?_
            refine ov_getf (v := ov_r 58) d_102_101 fl_OF_78 (zb_0 I98) (zs_0 I98) (congrArg ov_r e66) ?_
            refine ov_blk (ls2 := [(0, ov_r 0), (1, ov_i way), (2, ov_i run), (3, ov_i (h63 64 1))]) (st2 := [ov_r 0, ov_r 58, ov_r 4]) (pc2 := 105) b_102_104_1 rfl rfl ?_
            refine ov_getf (v := ov_r 4) d_102_105 fl_OF_28 (zb_0 I98) (zs_0 I98) (congrArg ov_r (rg_0_2 I98)) ?_
            refine ov_getf (v := ov_i (h63 4 0)) d_102_108 fl_OF_166 (zb_4 I98) (zs_4 I98) rfl ?_
            refine ov_blk (ls2 := [(0, ov_r 0), (1, ov_i way), (2, ov_i run), (3, ov_i (h63 64 1))]) (st2 := [ov_i way, ov_i (h63 4 0), ov_r 58, ov_r 4]) (pc2 := 112) b_102_111_1 rfl rfl ?_
            refine ov_cV (as := [ov_i (h63 4 0), ov_i way]) (st := [ov_r 4]) (d2 := d - 1) d_102_112 lk_OF_182 rfl (Nat.le_of_ble_eq_true rfl) (c := 9) (zb_58 I98) (zs_58 I98) ⟨by decide, rfl⟩ (by omega) (c_Town_after_58 (d - 1) (by omega) U I98 (h63 4 0) way (by omega) (by omega) (by omega)) ?_
            rintro _ _ _ ⟨v101, rfl, rfl, rfl, f100⟩
            show ov_R u d ov_m102 115 [(0, ov_r 0), (1, ov_i way), (2, ov_i run), (3, ov_i (h63 64 1))] [ov_i v101, ov_r 4] z62 (ov_up h63 4 1 w97) (P_OF_go_0 F z h way run)
            have f102 : (way = 0 → v101 = (h63 4 0) + 1) ∧ (¬ way = 0 → v101 = (h63 4 0) + 6) := f100
            clear f100
            refine ov_putf (x := v101) d_102_115 fl_OF_166 (zb_4 I98) (zs_4 I98) rfl nk_0 rfl ?_
            have I103 := up_4_0 (x := v101) I98 (by omega) (hw 4 (by decide +kernel))
            refine ov_blk (ls2 := [(0, ov_r 0), (1, ov_i way), (2, ov_i run), (3, ov_i (h63 64 1))]) (st2 := [ov_r 0]) (pc2 := 119) b_102_118_1 rfl rfl ?_
            refine ov_getf (v := ov_r 4) d_102_119 fl_OF_28 (zb_0 I103) (zs_0 I103) (congrArg ov_r (rg_0_2 I103)) ?_
            refine ov_blk (ls2 := [(0, ov_r 0), (1, ov_i way), (2, ov_i run), (3, ov_i (h63 64 1))]) (st2 := [ov_r 4, ov_r 4]) (pc2 := 123) b_102_122_1 rfl rfl ?_
            refine ov_getf (v := ov_i (h63 4 2)) d_102_123 fl_OF_185 (zb_4 I103) (zs_4 I103) rfl ?_
            have g104 := rg_4_2 I64
            refine ov_blk (ls2 := [(0, ov_r 0), (1, ov_i way), (2, ov_i run), (3, ov_i (h63 64 1))]) (st2 := [ov_i run, ov_i (h63 4 2), ov_r 4]) (pc2 := 127) b_102_126_1 rfl rfl ?_
            refine ov_ifeq (tgt := 134) d_102_127 (by decide) (by omega) (fun c105 => ?_) (fun c105 => ?_)
            · skip
              refine ov_blk (ls2 := [(0, ov_r 0), (1, ov_i way), (2, ov_i run), (3, ov_i (h63 64 1))]) (st2 := [ov_i ((h63 4 2) + 0), ov_r 4]) (pc2 := 136) b_102_134_2 rfl rfl ?_
              refine ov_havw (fun w106 gw106 qw106 => ?_)
              refine ov_putf (x := w106) d_102_136 fl_OF_185 (zb_4 I103) (zs_4 I103) rfl nk_0 rfl ?_
              have I107 := up_4_2 (x := w106) I103 (by omega) (hw 4 (by decide +kernel))
              refine ov_blk (ls2 := [(0, ov_r 0), (1, ov_i way), (2, ov_i run), (3, ov_i (h63 64 1))]) (st2 := [ov_r 0]) (pc2 := 140) b_102_139_1 rfl rfl ?_
              refine ov_getf (v := ov_r 4) d_102_140 fl_OF_28 (zb_0 I107) (zs_0 I107) (congrArg ov_r (rg_0_2 I107)) ?_
              refine ov_getf (v := ov_i w97) d_102_143 fl_OF_179 (zb_4 I107) (zs_4 I107) rfl ?_
              exact ov_reti (st := []) d_102_146 rfl ⟨_, rfl, I107, (by show (h63 36 7) = (h 36 7) ∧ (h63 1 1) = (h 1 1) ∧ (h63 90 2) = (h 90 2) ∧ (h63 0 10) = (h 0 10) ∧ (h63 0 11) = (h 0 11) ∧ (h63 0 12) = (h 0 12) ∧ (h63 0 13) = (h 0 13) ∧ (h63 3 1) = (h 3 1) ∧ (h63 36 8) = (h 36 8) ∧ (h63 46 3) = (h 46 3) ∧ (h63 46 4) = (h 46 4) ∧ (h63 49 4) = (h 49 4) ∧ (h63 49 5) = (h 49 5) ∧ (h63 64 0) = (h 64 0) ∧ (h63 76 0) = (h 76 0); omega)⟩
            · skip
              refine ov_blk (ls2 := [(0, ov_r 0), (1, ov_i way), (2, ov_i run), (3, ov_i (h63 64 1))]) (st2 := [ov_i 1, ov_i (h63 4 2), ov_r 4]) (pc2 := 131) b_102_130_1 rfl rfl ?_
              refine ov_goto (tgt := 135) d_102_131 (by decide) ?_
              refine ov_blk (ls2 := [(0, ov_r 0), (1, ov_i way), (2, ov_i run), (3, ov_i (h63 64 1))]) (st2 := [ov_i ((h63 4 2) + 1), ov_r 4]) (pc2 := 136) b_102_135_1 rfl rfl ?_
              refine ov_havw (fun w108 gw108 qw108 => ?_)
              refine ov_putf (x := w108) d_102_136 fl_OF_185 (zb_4 I103) (zs_4 I103) rfl nk_0 rfl ?_
              have I109 := up_4_2 (x := w108) I103 (by omega) (hw 4 (by decide +kernel))
              refine ov_blk (ls2 := [(0, ov_r 0), (1, ov_i way), (2, ov_i run), (3, ov_i (h63 64 1))]) (st2 := [ov_r 0]) (pc2 := 140) b_102_139_1 rfl rfl ?_
              refine ov_getf (v := ov_r 4) d_102_140 fl_OF_28 (zb_0 I109) (zs_0 I109) (congrArg ov_r (rg_0_2 I109)) ?_
              refine ov_getf (v := ov_i w97) d_102_143 fl_OF_179 (zb_4 I109) (zs_4 I109) rfl ?_
              exact ov_reti (st := []) d_102_146 rfl ⟨_, rfl, I109, (by show (h63 36 7) = (h 36 7) ∧ (h63 1 1) = (h 1 1) ∧ (h63 90 2) = (h 90 2) ∧ (h63 0 10) = (h 0 10) ∧ (h63 0 11) = (h 0 11) ∧ (h63 0 12) = (h 0 12) ∧ (h63 0 13) = (h 0 13) ∧ (h63 3 1) = (h 3 1) ∧ (h63 36 8) = (h 36 8) ∧ (h63 46 3) = (h 46 3) ∧ (h63 46 4) = (h 46 4) ∧ (h63 49 4) = (h 49 4) ∧ (h63 49 5) = (h 49 5) ∧ (h63 64 0) = (h 64 0) ∧ (h63 76 0) = (h 76 0); omega)⟩
        · skip
          refine ov_blk (ls2 := [(0, ov_r 0), (1, ov_i way), (2, ov_i run)]) (st2 := [ov_i (-1)]) (pc2 := 30) b_102_29_1 rfl rfl ?_
          exact ov_reti (st := []) d_102_30 rfl ⟨_, rfl, I, (by show (h 36 7) = (h 36 7) ∧ (h 1 1) = (h 1 1) ∧ (h 90 2) = (h 90 2) ∧ (h 0 10) = (h 0 10) ∧ (h 0 11) = (h 0 11) ∧ (h 0 12) = (h 0 12) ∧ (h 0 13) = (h 0 13) ∧ (h 3 1) = (h 3 1) ∧ (h 36 8) = (h 36 8) ∧ (h 46 3) = (h 46 3) ∧ (h 46 4) = (h 46 4) ∧ (h 49 4) = (h 49 4) ∧ (h 49 5) = (h 49 5) ∧ (h 64 0) = (h 64 0) ∧ (h 76 0) = (h 76 0); omega)⟩
  · skip
    refine ov_getf (v := ov_r 70) d_102_1 fl_OF_78 (zb_0 I) (zs_0 I) (congrArg ov_r e1) ?_
    refine ov_blk (ls2 := [(0, ov_r 0), (1, ov_i way), (2, ov_i run)]) (st2 := [ov_r 0, ov_r 70]) (pc2 := 5) b_102_4_1 rfl rfl ?_
    refine ov_getf (v := ov_r 4) d_102_5 fl_OF_28 (zb_0 I) (zs_0 I) (congrArg ov_r (rg_0_2 I)) ?_
    refine ov_getf (v := ov_i (h 4 0)) d_102_8 fl_OF_166 (zb_4 I) (zs_4 I) rfl ?_
    have g110 := rg_4_0 I
    refine ov_blk (ls2 := [(0, ov_r 0), (1, ov_i way), (2, ov_i run)]) (st2 := [ov_i way, ov_i (h 4 0), ov_r 70]) (pc2 := 12) b_102_11_1 rfl rfl ?_
    refine ov_cV (as := [ov_i (h 4 0), ov_i way]) (st := []) (d2 := d - 1) d_102_12 lk_OF_158 rfl (Nat.le_of_ble_eq_true rfl) (c := 9) (zb_70 I) (zs_70 I) ⟨by decide, rfl⟩ (by omega) (c_Town_isOpen_70 (d - 1) (by omega) U I (h 4 0) way (by omega) (by omega) (by omega)) ?_
    rintro _ _ _ ⟨v112, rfl, rfl, rfl, f111⟩
    show ov_R u d ov_m102 15 [(0, ov_r 0), (1, ov_i way), (2, ov_i run)] [ov_i v112] z h (P_OF_go_0 F z h way run)
    have f113 : (v112 = 0 ∨ v112 = 1) ∧ (v112 = 1 → (way = 0 ∧ (h 4 0) ≤ 52) ∨ (way = 1 ∧ (h 4 0) ≤ 47)) := f111
    clear f111
    refine ov_ifeq (tgt := 29) d_102_15 (by decide) (by omega) (fun c114 => ?_) (fun c114 => ?_)
    · skip
      refine ov_blk (ls2 := [(0, ov_r 0), (1, ov_i way), (2, ov_i run)]) (st2 := [ov_i (-1)]) (pc2 := 30) b_102_29_1 rfl rfl ?_
      exact ov_reti (st := []) d_102_30 rfl ⟨_, rfl, I, (by show (h 36 7) = (h 36 7) ∧ (h 1 1) = (h 1 1) ∧ (h 90 2) = (h 90 2) ∧ (h 0 10) = (h 0 10) ∧ (h 0 11) = (h 0 11) ∧ (h 0 12) = (h 0 12) ∧ (h 0 13) = (h 0 13) ∧ (h 3 1) = (h 3 1) ∧ (h 36 8) = (h 36 8) ∧ (h 46 3) = (h 46 3) ∧ (h 46 4) = (h 46 4) ∧ (h 49 4) = (h 49 4) ∧ (h 49 5) = (h 49 5) ∧ (h 64 0) = (h 64 0) ∧ (h 76 0) = (h 76 0); omega)⟩
    · skip
      refine ov_blk (ls2 := [(0, ov_r 0), (1, ov_i way), (2, ov_i run)]) (st2 := [ov_i run]) (pc2 := 19) b_102_18_1 rfl rfl ?_
      refine ov_ifeq (tgt := 31) d_102_19 (by decide) (by omega) (fun c115 => ?_) (fun c115 => ?_)
      · skip
        refine ov_blk (ls2 := [(0, ov_r 0), (1, ov_i way), (2, ov_i run)]) (st2 := [ov_r 0]) (pc2 := 32) b_102_31_1 rfl rfl ?_
        refine ov_getf (v := ov_r 9) d_102_32 fl_OF_35 (zb_0 I) (zs_0 I) (congrArg ov_r (rg_0_3 I)) ?_
        refine ov_blk (ls2 := [(0, ov_r 0), (1, ov_i way), (2, ov_i run)]) (st2 := [ov_r 0, ov_r 9]) (pc2 := 36) b_102_35_1 rfl rfl ?_
        refine ov_getf (v := ov_r 4) d_102_36 fl_OF_28 (zb_0 I) (zs_0 I) (congrArg ov_r (rg_0_2 I)) ?_
        refine ov_cV (as := [ov_r 4]) (st := []) (d2 := d - 1) d_102_39 lk_OF_172 rfl (Nat.le_of_ble_eq_true rfl) (c := 3) (zb_9 I) (zs_9 I) ⟨by decide, rfl⟩ (by omega) (c_History_keep_9_4_b (d - 1) (by omega) U I (ov_kws hw (by decide +kernel))) ?_
        rintro _ z117 h118 ⟨rfl, I119, f116⟩
        show ov_R u d ov_m102 42 [(0, ov_r 0), (1, ov_i way), (2, ov_i run)] [] z117 h118 (P_OF_go_0 F z h way run)
        have f120 : (h118 4 0) = (h 4 0) ∧ (h118 36 7) = (h 36 7) ∧ (h118 1 1) = (h 1 1) ∧ (h118 90 2) = (h 90 2) ∧ (h118 0 10) = (h 0 10) ∧ (h118 0 11) = (h 0 11) ∧ (h118 0 12) = (h 0 12) ∧ (h118 0 13) = (h 0 13) ∧ (h118 3 1) = (h 3 1) ∧ (h118 36 8) = (h 36 8) ∧ (h118 46 3) = (h 46 3) ∧ (h118 46 4) = (h 46 4) ∧ (h118 49 4) = (h 49 4) ∧ (h118 49 5) = (h 49 5) ∧ (h118 64 0) = (h 64 0) ∧ (h118 76 0) = (h 76 0) := f116
        clear f116
        have e121 : h118 0 10 = 70 := by omega
        refine ov_blk (ls2 := [(0, ov_r 0), (1, ov_i way), (2, ov_i run)]) (st2 := [ov_r 0]) (pc2 := 43) b_102_42_1 rfl rfl ?_
        refine ov_getf (v := ov_r 70) d_102_43 fl_OF_78 (zb_0 I119) (zs_0 I119) (congrArg ov_r e121) ?_
        refine ov_getf (v := ov_r 76) d_102_46 fl_OF_176 (zb_70 I119) (zs_70 I119) (congrArg ov_r (rg_70_7 I119)) ?_
        refine ov_blk (ls2 := [(0, ov_r 0), (1, ov_i way), (2, ov_i run)]) (st2 := [ov_i run, ov_r 76]) (pc2 := 50) b_102_49_1 rfl rfl ?_
        refine ov_ifeq (tgt := 57) d_102_50 (by decide) (by omega) (fun c122 => ?_) (fun c122 => ?_)
        · skip
          refine ov_blk (ls2 := [(0, ov_r 0), (1, ov_i way), (2, ov_i run)]) (st2 := [ov_i 0, ov_r 76]) (pc2 := 58) b_102_57_1 rfl rfl ?_
          refine ov_iald d_102_58 (zb_76 I119) (zs_76 I119) (by omega) ?_
          have g123 := ra_76 I119 0
          refine ov_blk (ls2 := [(0, ov_r 0), (1, ov_i way), (2, ov_i run), (3, ov_i (h118 76 0))]) (st2 := [ov_r 0]) (pc2 := 61) b_102_59_2 rfl rfl ?_
          refine ov_getf (v := ov_r 4) d_102_61 fl_OF_28 (zb_0 I119) (zs_0 I119) (congrArg ov_r (rg_0_2 I119)) ?_
          refine ov_blk (ls2 := [(0, ov_r 0), (1, ov_i way), (2, ov_i run), (3, ov_i (h118 76 0))]) (st2 := [ov_r 4, ov_r 4]) (pc2 := 65) b_102_64_1 rfl rfl ?_
          refine ov_getf (v := ov_i (h118 4 1)) d_102_65 fl_OF_179 (zb_4 I119) (zs_4 I119) rfl ?_
          have g124 := rg_4_1 I119
          refine ov_blk (ls2 := [(0, ov_r 0), (1, ov_i way), (2, ov_i run), (3, ov_i (h118 76 0))]) (st2 := [ov_r 0, ov_i (h118 4 1), ov_r 4]) (pc2 := 69) b_102_68_1 rfl rfl ?_
          refine ov_getf (v := ov_r 70) d_102_69 fl_OF_78 (zb_0 I119) (zs_0 I119) (congrArg ov_r e121) ?_
          refine ov_blk (ls2 := [(0, ov_r 0), (1, ov_i way), (2, ov_i run), (3, ov_i (h118 76 0))]) (st2 := [ov_r 0, ov_r 70, ov_i (h118 4 1), ov_r 4]) (pc2 := 73) b_102_72_1 rfl rfl ?_
          refine ov_getf (v := ov_r 4) d_102_73 fl_OF_28 (zb_0 I119) (zs_0 I119) (congrArg ov_r (rg_0_2 I119)) ?_
          refine ov_getf (v := ov_i (h118 4 0)) d_102_76 fl_OF_166 (zb_4 I119) (zs_4 I119) rfl ?_
          have g125 := rg_4_0 I119
          refine ov_blk (ls2 := [(0, ov_r 0), (1, ov_i way), (2, ov_i run), (3, ov_i (h118 76 0))]) (st2 := [ov_r 0, ov_i way, ov_i (h118 4 0), ov_r 70, ov_i (h118 4 1), ov_r 4]) (pc2 := 81) b_102_79_2 rfl rfl ?_
          refine ov_getf (v := ov_r 4) d_102_81 fl_OF_28 (zb_0 I119) (zs_0 I119) (congrArg ov_r (rg_0_2 I119)) ?_
          refine ov_getf (v := ov_i (h118 4 1)) d_102_84 fl_OF_179 (zb_4 I119) (zs_4 I119) rfl ?_
          refine ov_cV (as := [ov_i (h118 4 0), ov_i way, ov_i (h118 4 1)]) (st := [ov_i (h118 4 1), ov_r 4]) (d2 := d - 1) d_102_87 lk_OF_162 rfl (Nat.le_of_ble_eq_true rfl) (c := 9) (zb_70 I119) (zs_70 I119) ⟨by decide, rfl⟩ (by omega) (c_Town_waitFor_70 (d - 1) (by omega) U I119 (h118 4 0) way (h118 4 1) (by omega) (by omega) (by omega) (by omega)) ?_
          rintro _ _ _ ⟨v128, rfl, rfl, rfl, f127⟩
          show ov_R u d ov_m102 90 [(0, ov_r 0), (1, ov_i way), (2, ov_i run), (3, ov_i (h118 76 0))] [ov_i v128, ov_i (h118 4 1), ov_r 4] z117 h118 (P_OF_go_0 F z h way run)
          have f129 : 0 ≤ v128 ∧ v128 ≤ 60 := f127
          clear f127
          refine ov_blk (ls2 := [(0, ov_r 0), (1, ov_i way), (2, ov_i run), (3, ov_i (h118 76 0))]) (st2 := [ov_i (v128 + (h118 76 0)), ov_i (h118 4 1), ov_r 4]) (pc2 := 92) b_102_90_2 rfl rfl ?_
          refine ov_havw (fun w130 gw130 qw130 => ?_)
          refine ov_blk (ls2 := [(0, ov_r 0), (1, ov_i way), (2, ov_i run), (3, ov_i (h118 76 0))]) (st2 := [ov_i ((h118 4 1) + w130), ov_r 4]) (pc2 := 93) b_102_92_1 rfl rfl ?_
          refine ov_havw (fun w131 gw131 qw131 => ?_)
          refine ov_putf (x := w131) d_102_93 fl_OF_179 (zb_4 I119) (zs_4 I119) rfl nk_0 rfl ?_
          have I132 := up_4_1 (x := w131) I119 (by omega) (hw 4 (by decide +kernel))
          refine ov_blk (ls2 := [(0, ov_r 0), (1, ov_i way), (2, ov_i run), (3, ov_i (h118 76 0))]) (st2 := [ov_r 0]) (pc2 := 97) b_102_96_1 rfl rfl ?_
          refine ov_getf (v := ov_r 4) d_102_97 fl_OF_28 (zb_0 I132) (zs_0 I132) (congrArg ov_r (rg_0_2 I132)) ?_
          refine ov_blk (ls2 := [(0, ov_r 0), (1, ov_i way), (2, ov_i run), (3, ov_i (h118 76 0))]) (st2 := [ov_r 0, ov_r 4]) (pc2 := 101) b_102_100_1 rfl rfl ?_
          refine ov_getf (v := ov_r 70) d_102_101 fl_OF_78 (zb_0 I132) (zs_0 I132) (congrArg ov_r e121) ?_
          refine ov_blk (ls2 := [(0, ov_r 0), (1, ov_i way), (2, ov_i run), (3, ov_i (h118 76 0))]) (st2 := [ov_r 0, ov_r 70, ov_r 4]) (pc2 := 105) b_102_104_1 rfl rfl ?_
          refine ov_getf (v := ov_r 4) d_102_105 fl_OF_28 (zb_0 I132) (zs_0 I132) (congrArg ov_r (rg_0_2 I132)) ?_
          refine ov_getf (v := ov_i (h118 4 0)) d_102_108 fl_OF_166 (zb_4 I132) (zs_4 I132) rfl ?_
          refine ov_blk (ls2 := [(0, ov_r 0), (1, ov_i way), (2, ov_i run), (3, ov_i (h118 76 0))]) (st2 := [ov_i way, ov_i (h118 4 0), ov_r 70, ov_r 4]) (pc2 := 112) b_102_111_1 rfl rfl ?_
          refine ov_cV (as := [ov_i (h118 4 0), ov_i way]) (st := [ov_r 4]) (d2 := d - 1) d_102_112 lk_OF_182 rfl (Nat.le_of_ble_eq_true rfl) (c := 9) (zb_70 I132) (zs_70 I132) ⟨by decide, rfl⟩ (by omega) (c_Town_after_70 (d - 1) (by omega) U I132 (h118 4 0) way (by omega) (by omega) (by omega)) ?_
          rintro _ _ _ ⟨v135, rfl, rfl, rfl, f134⟩
          show ov_R u d ov_m102 115 [(0, ov_r 0), (1, ov_i way), (2, ov_i run), (3, ov_i (h118 76 0))] [ov_i v135, ov_r 4] z117 (ov_up h118 4 1 w131) (P_OF_go_0 F z h way run)
          have f136 : (way = 0 → v135 = (h118 4 0) + 1) ∧ (¬ way = 0 → v135 = (h118 4 0) + 6) := f134
          clear f134
          refine ov_putf (x := v135) d_102_115 fl_OF_166 (zb_4 I132) (zs_4 I132) rfl nk_0 rfl ?_
          have I137 := up_4_0 (x := v135) I132 (by omega) (hw 4 (by decide +kernel))
          refine ov_blk (ls2 := [(0, ov_r 0), (1, ov_i way), (2, ov_i run), (3, ov_i (h118 76 0))]) (st2 := [ov_r 0]) (pc2 := 119) b_102_118_1 rfl rfl ?_
          refine ov_getf (v := ov_r 4) d_102_119 fl_OF_28 (zb_0 I137) (zs_0 I137) (congrArg ov_r (rg_0_2 I137)) ?_
          refine ov_blk (ls2 := [(0, ov_r 0), (1, ov_i way), (2, ov_i run), (3, ov_i (h118 76 0))]) (st2 := [ov_r 4, ov_r 4]) (pc2 := 123) b_102_122_1 rfl rfl ?_
          refine ov_getf (v := ov_i (h118 4 2)) d_102_123 fl_OF_185 (zb_4 I137) (zs_4 I137) rfl ?_
          have g138 := rg_4_2 I119
          refine ov_blk (ls2 := [(0, ov_r 0), (1, ov_i way), (2, ov_i run), (3, ov_i (h118 76 0))]) (st2 := [ov_i run, ov_i (h118 4 2), ov_r 4]) (pc2 := 127) b_102_126_1 rfl rfl ?_
          refine ov_ifeq (tgt := 134) d_102_127 (by decide) (by omega) (fun c139 => ?_) (fun c139 => ?_)
          · skip
            refine ov_blk (ls2 := [(0, ov_r 0), (1, ov_i way), (2, ov_i run), (3, ov_i (h118 76 0))]) (st2 := [ov_i ((h118 4 2) + 0), ov_r 4]) (pc2 := 136) b_102_134_2 rfl rfl ?_
            refine ov_havw (fun w140 gw140 qw140 => ?_)
            refine ov_putf (x := w140) d_102_136 fl_OF_185 (zb_4 I137) (zs_4 I137) rfl nk_0 rfl ?_
            have I141 := up_4_2 (x := w140) I137 (by omega) (hw 4 (by decide +kernel))
            refine ov_blk (ls2 := [(0, ov_r 0), (1, ov_i way), (2, ov_i run), (3, ov_i (h118 76 0))]) (st2 := [ov_r 0]) (pc2 := 140) b_102_139_1 rfl rfl ?_
            refine ov_getf (v := ov_r 4) d_102_140 fl_OF_28 (zb_0 I141) (zs_0 I141) (congrArg ov_r (rg_0_2 I141)) ?_
            refine ov_getf (v := ov_i w131) d_102_143 fl_OF_179 (zb_4 I141) (zs_4 I141) rfl ?_
            exact ov_reti (st := []) d_102_146 rfl ⟨_, rfl, I141, (by show (h118 36 7) = (h 36 7) ∧ (h118 1 1) = (h 1 1) ∧ (h118 90 2) = (h 90 2) ∧ (h118 0 10) = (h 0 10) ∧ (h118 0 11) = (h 0 11) ∧ (h118 0 12) = (h 0 12) ∧ (h118 0 13) = (h 0 13) ∧ (h118 3 1) = (h 3 1) ∧ (h118 36 8) = (h 36 8) ∧ (h118 46 3) = (h 46 3) ∧ (h118 46 4) = (h 46 4) ∧ (h118 49 4) = (h 49 4) ∧ (h118 49 5) = (h 49 5) ∧ (h118 64 0) = (h 64 0) ∧ (h118 76 0) = (h 76 0); omega)⟩
          · skip
            refine ov_blk (ls2 := [(0, ov_r 0), (1, ov_i way), (2, ov_i run), (3, ov_i (h118 76 0))]) (st2 := [ov_i 1, ov_i (h118 4 2), ov_r 4]) (pc2 := 131) b_102_130_1 rfl rfl ?_
            refine ov_goto (tgt := 135) d_102_131 (by decide) ?_
            refine ov_blk (ls2 := [(0, ov_r 0), (1, ov_i way), (2, ov_i run), (3, ov_i (h118 76 0))]) (st2 := [ov_i ((h118 4 2) + 1), ov_r 4]) (pc2 := 136) b_102_135_1 rfl rfl ?_
            refine ov_havw (fun w142 gw142 qw142 => ?_)
            refine ov_putf (x := w142) d_102_136 fl_OF_185 (zb_4 I137) (zs_4 I137) rfl nk_0 rfl ?_
            have I143 := up_4_2 (x := w142) I137 (by omega) (hw 4 (by decide +kernel))
            refine ov_blk (ls2 := [(0, ov_r 0), (1, ov_i way), (2, ov_i run), (3, ov_i (h118 76 0))]) (st2 := [ov_r 0]) (pc2 := 140) b_102_139_1 rfl rfl ?_
            refine ov_getf (v := ov_r 4) d_102_140 fl_OF_28 (zb_0 I143) (zs_0 I143) (congrArg ov_r (rg_0_2 I143)) ?_
            refine ov_getf (v := ov_i w131) d_102_143 fl_OF_179 (zb_4 I143) (zs_4 I143) rfl ?_
            exact ov_reti (st := []) d_102_146 rfl ⟨_, rfl, I143, (by show (h118 36 7) = (h 36 7) ∧ (h118 1 1) = (h 1 1) ∧ (h118 90 2) = (h 90 2) ∧ (h118 0 10) = (h 0 10) ∧ (h118 0 11) = (h 0 11) ∧ (h118 0 12) = (h 0 12) ∧ (h118 0 13) = (h 0 13) ∧ (h118 3 1) = (h 3 1) ∧ (h118 36 8) = (h 36 8) ∧ (h118 46 3) = (h 46 3) ∧ (h118 46 4) = (h 46 4) ∧ (h118 49 4) = (h 49 4) ∧ (h118 49 5) = (h 49 5) ∧ (h118 64 0) = (h 64 0) ∧ (h118 76 0) = (h 76 0); omega)⟩
        · skip
          refine ov_blk (ls2 := [(0, ov_r 0), (1, ov_i way), (2, ov_i run)]) (st2 := [ov_i 1, ov_r 76]) (pc2 := 54) b_102_53_1 rfl rfl ?_
          refine ov_goto (tgt := 58) d_102_54 (by decide) ?_
          refine ov_iald d_102_58 (zb_76 I119) (zs_76 I119) (by omega) ?_
          have g144 := ra_76 I119 1
          refine ov_blk (ls2 := [(0, ov_r 0), (1, ov_i way), (2, ov_i run), (3, ov_i (h118 76 1))]) (st2 := [ov_r 0]) (pc2 := 61) b_102_59_2 rfl rfl ?_
          refine ov_getf (v := ov_r 4) d_102_61 fl_OF_28 (zb_0 I119) (zs_0 I119) (congrArg ov_r (rg_0_2 I119)) ?_
          refine ov_blk (ls2 := [(0, ov_r 0), (1, ov_i way), (2, ov_i run), (3, ov_i (h118 76 1))]) (st2 := [ov_r 4, ov_r 4]) (pc2 := 65) b_102_64_1 rfl rfl ?_
          refine ov_getf (v := ov_i (h118 4 1)) d_102_65 fl_OF_179 (zb_4 I119) (zs_4 I119) rfl ?_
          have g145 := rg_4_1 I119
          refine ov_blk (ls2 := [(0, ov_r 0), (1, ov_i way), (2, ov_i run), (3, ov_i (h118 76 1))]) (st2 := [ov_r 0, ov_i (h118 4 1), ov_r 4]) (pc2 := 69) b_102_68_1 rfl rfl ?_
          refine ov_getf (v := ov_r 70) d_102_69 fl_OF_78 (zb_0 I119) (zs_0 I119) (congrArg ov_r e121) ?_
          refine ov_blk (ls2 := [(0, ov_r 0), (1, ov_i way), (2, ov_i run), (3, ov_i (h118 76 1))]) (st2 := [ov_r 0, ov_r 70, ov_i (h118 4 1), ov_r 4]) (pc2 := 73) b_102_72_1 rfl rfl ?_
          refine ov_getf (v := ov_r 4) d_102_73 fl_OF_28 (zb_0 I119) (zs_0 I119) (congrArg ov_r (rg_0_2 I119)) ?_
          refine ov_getf (v := ov_i (h118 4 0)) d_102_76 fl_OF_166 (zb_4 I119) (zs_4 I119) rfl ?_
          have g146 := rg_4_0 I119
          refine ov_blk (ls2 := [(0, ov_r 0), (1, ov_i way), (2, ov_i run), (3, ov_i (h118 76 1))]) (st2 := [ov_r 0, ov_i way, ov_i (h118 4 0), ov_r 70, ov_i (h118 4 1), ov_r 4]) (pc2 := 81) b_102_79_2 rfl rfl ?_
          refine ov_getf (v := ov_r 4) d_102_81 fl_OF_28 (zb_0 I119) (zs_0 I119) (congrArg ov_r (rg_0_2 I119)) ?_
          refine ov_getf (v := ov_i (h118 4 1)) d_102_84 fl_OF_179 (zb_4 I119) (zs_4 I119) rfl ?_
          refine ov_cV (as := [ov_i (h118 4 0), ov_i way, ov_i (h118 4 1)]) (st := [ov_i (h118 4 1), ov_r 4]) (d2 := d - 1) d_102_87 lk_OF_162 rfl (Nat.le_of_ble_eq_true rfl) (c := 9) (zb_70 I119) (zs_70 I119) ⟨by decide, rfl⟩ (by omega) (c_Town_waitFor_70 (d - 1) (by omega) U I119 (h118 4 0) way (h118 4 1) (by omega) (by omega) (by omega) (by omega)) ?_
          rintro _ _ _ ⟨v149, rfl, rfl, rfl, f148⟩
          show ov_R u d ov_m102 90 [(0, ov_r 0), (1, ov_i way), (2, ov_i run), (3, ov_i (h118 76 1))] [ov_i v149, ov_i (h118 4 1), ov_r 4] z117 h118 (P_OF_go_0 F z h way run)
          have f150 : 0 ≤ v149 ∧ v149 ≤ 60 := f148
          clear f148
          refine ov_blk (ls2 := [(0, ov_r 0), (1, ov_i way), (2, ov_i run), (3, ov_i (h118 76 1))]) (st2 := [ov_i (v149 + (h118 76 1)), ov_i (h118 4 1), ov_r 4]) (pc2 := 92) b_102_90_2 rfl rfl ?_
          refine ov_havw (fun w151 gw151 qw151 => ?_)
          refine ov_blk (ls2 := [(0, ov_r 0), (1, ov_i way), (2, ov_i run), (3, ov_i (h118 76 1))]) (st2 := [ov_i ((h118 4 1) + w151), ov_r 4]) (pc2 := 93) b_102_92_1 rfl rfl ?_
          refine ov_havw (fun w152 gw152 qw152 => ?_)
          refine ov_putf (x := w152) d_102_93 fl_OF_179 (zb_4 I119) (zs_4 I119) rfl nk_0 rfl ?_
          have I153 := up_4_1 (x := w152) I119 (by omega) (hw 4 (by decide +kernel))
          refine ov_blk (ls2 := [(0, ov_r 0), (1, ov_i way), (2, ov_i run), (3, ov_i (h118 76 1))]) (st2 := [ov_r 0]) (pc2 := 97) b_102_96_1 rfl rfl ?_
          refine ov_getf (v := ov_r 4) d_102_97 fl_OF_28 (zb_0 I153) (zs_0 I153) (congrArg ov_r (rg_0_2 I153)) ?_
          refine ov_blk (ls2 := [(0, ov_r 0), (1, ov_i way), (2, ov_i run), (3, ov_i (h118 76 1))]) (st2 := [ov_r 0, ov_r 4]) (pc2 := 101) b_102_100_1 rfl rfl ?_
          refine ov_getf (v := ov_r 70) d_102_101 fl_OF_78 (zb_0 I153) (zs_0 I153) (congrArg ov_r e121) ?_
          refine ov_blk (ls2 := [(0, ov_r 0), (1, ov_i way), (2, ov_i run), (3, ov_i (h118 76 1))]) (st2 := [ov_r 0, ov_r 70, ov_r 4]) (pc2 := 105) b_102_104_1 rfl rfl ?_
          refine ov_getf (v := ov_r 4) d_102_105 fl_OF_28 (zb_0 I153) (zs_0 I153) (congrArg ov_r (rg_0_2 I153)) ?_
          refine ov_getf (v := ov_i (h118 4 0)) d_102_108 fl_OF_166 (zb_4 I153) (zs_4 I153) rfl ?_
          refine ov_blk (ls2 := [(0, ov_r 0), (1, ov_i way), (2, ov_i run), (3, ov_i (h118 76 1))]) (st2 := [ov_i way, ov_i (h118 4 0), ov_r 70, ov_r 4]) (pc2 := 112) b_102_111_1 rfl rfl ?_
          refine ov_cV (as := [ov_i (h118 4 0), ov_i way]) (st := [ov_r 4]) (d2 := d - 1) d_102_112 lk_OF_182 rfl (Nat.le_of_ble_eq_true rfl) (c := 9) (zb_70 I153) (zs_70 I153) ⟨by decide, rfl⟩ (by omega) (c_Town_after_70 (d - 1) (by omega) U I153 (h118 4 0) way (by omega) (by omega) (by omega)) ?_
          rintro _ _ _ ⟨v156, rfl, rfl, rfl, f155⟩
          show ov_R u d ov_m102 115 [(0, ov_r 0), (1, ov_i way), (2, ov_i run), (3, ov_i (h118 76 1))] [ov_i v156, ov_r 4] z117 (ov_up h118 4 1 w152) (P_OF_go_0 F z h way run)
          have f157 : (way = 0 → v156 = (h118 4 0) + 1) ∧ (¬ way = 0 → v156 = (h118 4 0) + 6) := f155
          clear f155
          refine ov_putf (x := v156) d_102_115 fl_OF_166 (zb_4 I153) (zs_4 I153) rfl nk_0 rfl ?_
          have I158 := up_4_0 (x := v156) I153 (by omega) (hw 4 (by decide +kernel))
          refine ov_blk (ls2 := [(0, ov_r 0), (1, ov_i way), (2, ov_i run), (3, ov_i (h118 76 1))]) (st2 := [ov_r 0]) (pc2 := 119) b_102_118_1 rfl rfl ?_
          refine ov_getf (v := ov_r 4) d_102_119 fl_OF_28 (zb_0 I158) (zs_0 I158) (congrArg ov_r (rg_0_2 I158)) ?_
          refine ov_blk (ls2 := [(0, ov_r 0), (1, ov_i way), (2, ov_i run), (3, ov_i (h118 76 1))]) (st2 := [ov_r 4, ov_r 4]) (pc2 := 123) b_102_122_1 rfl rfl ?_
          refine ov_getf (v := ov_i (h118 4 2)) d_102_123 fl_OF_185 (zb_4 I158) (zs_4 I158) rfl ?_
          have g159 := rg_4_2 I119
          refine ov_blk (ls2 := [(0, ov_r 0), (1, ov_i way), (2, ov_i run), (3, ov_i (h118 76 1))]) (st2 := [ov_i run, ov_i (h118 4 2), ov_r 4]) (pc2 := 127) b_102_126_1 rfl rfl ?_
          refine ov_ifeq (tgt := 134) d_102_127 (by decide) (by omega) (fun c160 => ?_) (fun c160 => ?_)
          · skip
            refine ov_blk (ls2 := [(0, ov_r 0), (1, ov_i way), (2, ov_i run), (3, ov_i (h118 76 1))]) (st2 := [ov_i ((h118 4 2) + 0), ov_r 4]) (pc2 := 136) b_102_134_2 rfl rfl ?_
            refine ov_havw (fun w161 gw161 qw161 => ?_)
            refine ov_putf (x := w161) d_102_136 fl_OF_185 (zb_4 I158) (zs_4 I158) rfl nk_0 rfl ?_
            have I162 := up_4_2 (x := w161) I158 (by omega) (hw 4 (by decide +kernel))
            refine ov_blk (ls2 := [(0, ov_r 0), (1, ov_i way), (2, ov_i run), (3, ov_i (h118 76 1))]) (st2 := [ov_r 0]) (pc2 := 140) b_102_139_1 rfl rfl ?_
            refine ov_getf (v := ov_r 4) d_102_140 fl_OF_28 (zb_0 I162) (zs_0 I162) (congrArg ov_r (rg_0_2 I162)) ?_
            refine ov_getf (v := ov_i w152) d_102_143 fl_OF_179 (zb_4 I162) (zs_4 I162) rfl ?_
            exact ov_reti (st := []) d_102_146 rfl ⟨_, rfl, I162, (by show (h118 36 7) = (h 36 7) ∧ (h118 1 1) = (h 1 1) ∧ (h118 90 2) = (h 90 2) ∧ (h118 0 10) = (h 0 10) ∧ (h118 0 11) = (h 0 11) ∧ (h118 0 12) = (h 0 12) ∧ (h118 0 13) = (h 0 13) ∧ (h118 3 1) = (h 3 1) ∧ (h118 36 8) = (h 36 8) ∧ (h118 46 3) = (h 46 3) ∧ (h118 46 4) = (h 46 4) ∧ (h118 49 4) = (h 49 4) ∧ (h118 49 5) = (h 49 5) ∧ (h118 64 0) = (h 64 0) ∧ (h118 76 0) = (h 76 0); omega)⟩
          · skip
            refine ov_blk (ls2 := [(0, ov_r 0), (1, ov_i way), (2, ov_i run), (3, ov_i (h118 76 1))]) (st2 := [ov_i 1, ov_i (h118 4 2), ov_r 4]) (pc2 := 131) b_102_130_1 rfl rfl ?_
            refine ov_goto (tgt := 135) d_102_131 (by decide) ?_
            refine ov_blk (ls2 := [(0, ov_r 0), (1, ov_i way), (2, ov_i run), (3, ov_i (h118 76 1))]) (st2 := [ov_i ((h118 4 2) + 1), ov_r 4]) (pc2 := 136) b_102_135_1 rfl rfl ?_
            refine ov_havw (fun w163 gw163 qw163 => ?_)
            refine ov_putf (x := w163) d_102_136 fl_OF_185 (zb_4 I158) (zs_4 I158) rfl nk_0 rfl ?_
            have I164 := up_4_2 (x := w163) I158 (by omega) (hw 4 (by decide +kernel))
            refine ov_blk (ls2 := [(0, ov_r 0), (1, ov_i way), (2, ov_i run), (3, ov_i (h118 76 1))]) (st2 := [ov_r 0]) (pc2 := 140) b_102_139_1 rfl rfl ?_
            refine ov_getf (v := ov_r 4) d_102_140 fl_OF_28 (zb_0 I164) (zs_0 I164) (congrArg ov_r (rg_0_2 I164)) ?_
            refine ov_getf (v := ov_i w152) d_102_143 fl_OF_179 (zb_4 I164) (zs_4 I164) rfl ?_
            exact ov_reti (st := []) d_102_146 rfl ⟨_, rfl, I164, (by show (h118 36 7) = (h 36 7) ∧ (h118 1 1) = (h 1 1) ∧ (h118 90 2) = (h 90 2) ∧ (h118 0 10) = (h 0 10) ∧ (h118 0 11) = (h 0 11) ∧ (h118 0 12) = (h 0 12) ∧ (h118 0 13) = (h 0 13) ∧ (h118 3 1) = (h 3 1) ∧ (h118 36 8) = (h 36 8) ∧ (h118 46 3) = (h 46 3) ∧ (h118 46 4) = (h 46 4) ∧ (h118 49 4) = (h 49 4) ∧ (h118 49 5) = (h 49 5) ∧ (h118 64 0) = (h 64 0) ∧ (h118 76 0) = (h 76 0); omega)⟩
      · skip
        refine ov_blk (ls2 := [(0, ov_r 0), (1, ov_i way), (2, ov_i run)]) (st2 := [ov_r 0]) (pc2 := 23) b_102_22_1 rfl rfl ?_
        refine ov_cV (as := []) (st := []) (d2 := d - 1) d_102_23 lk_OF_168 rfl (Nat.le_of_ble_eq_true rfl) (c := 0) (zb_0 I) (zs_0 I) ⟨by decide, rfl⟩ (by omega) (c_OF_runsLeft_0 (d - 1) (by omega) U I) ?_
        rintro _ _ _ ⟨v166, rfl, rfl, rfl, f165⟩
        show ov_R u d ov_m102 26 [(0, ov_r 0), (1, ov_i way), (2, ov_i run)] [ov_i v166] z h (P_OF_go_0 F z h way run)
        have f167 : -2147483648 ≤ v166 ∧ v166 ≤ 2147483647 := f165
        clear f165
        refine ov_ifgt (tgt := 31) d_102_26 (by decide) (by omega) (fun c168 => ?_) (fun c168 => ?_)
        · skip
          refine ov_blk (ls2 := [(0, ov_r 0), (1, ov_i way), (2, ov_i run)]) (st2 := [ov_r 0]) (pc2 := 32) b_102_31_1 rfl rfl ?_
          refine ov_getf (v := ov_r 9) d_102_32 fl_OF_35 (zb_0 I) (zs_0 I) (congrArg ov_r (rg_0_3 I)) ?_
          refine ov_blk (ls2 := [(0, ov_r 0), (1, ov_i way), (2, ov_i run)]) (st2 := [ov_r 0, ov_r 9]) (pc2 := 36) b_102_35_1 rfl rfl ?_
          refine ov_getf (v := ov_r 4) d_102_36 fl_OF_28 (zb_0 I) (zs_0 I) (congrArg ov_r (rg_0_2 I)) ?_
          refine ov_cV (as := [ov_r 4]) (st := []) (d2 := d - 1) d_102_39 lk_OF_172 rfl (Nat.le_of_ble_eq_true rfl) (c := 3) (zb_9 I) (zs_9 I) ⟨by decide, rfl⟩ (by omega) (c_History_keep_9_4_b (d - 1) (by omega) U I (ov_kws hw (by decide +kernel))) ?_
          rintro _ z170 h171 ⟨rfl, I172, f169⟩
          show ov_R u d ov_m102 42 [(0, ov_r 0), (1, ov_i way), (2, ov_i run)] [] z170 h171 (P_OF_go_0 F z h way run)
          have f173 : (h171 4 0) = (h 4 0) ∧ (h171 36 7) = (h 36 7) ∧ (h171 1 1) = (h 1 1) ∧ (h171 90 2) = (h 90 2) ∧ (h171 0 10) = (h 0 10) ∧ (h171 0 11) = (h 0 11) ∧ (h171 0 12) = (h 0 12) ∧ (h171 0 13) = (h 0 13) ∧ (h171 3 1) = (h 3 1) ∧ (h171 36 8) = (h 36 8) ∧ (h171 46 3) = (h 46 3) ∧ (h171 46 4) = (h 46 4) ∧ (h171 49 4) = (h 49 4) ∧ (h171 49 5) = (h 49 5) ∧ (h171 64 0) = (h 64 0) ∧ (h171 76 0) = (h 76 0) := f169
          clear f169
          have e174 : h171 0 10 = 70 := by omega
          refine ov_blk (ls2 := [(0, ov_r 0), (1, ov_i way), (2, ov_i run)]) (st2 := [ov_r 0]) (pc2 := 43) b_102_42_1 rfl rfl ?_
          refine ov_getf (v := ov_r 70) d_102_43 fl_OF_78 (zb_0 I172) (zs_0 I172) (congrArg ov_r e174) ?_
          refine ov_getf (v := ov_r 76) d_102_46 fl_OF_176 (zb_70 I172) (zs_70 I172) (congrArg ov_r (rg_70_7 I172)) ?_
          refine ov_blk (ls2 := [(0, ov_r 0), (1, ov_i way), (2, ov_i run)]) (st2 := [ov_i run, ov_r 76]) (pc2 := 50) b_102_49_1 rfl rfl ?_
          refine ov_ifeq (tgt := 57) d_102_50 (by decide) (by omega) (fun c175 => ?_) (fun c175 => ?_)
          · skip
            refine ov_blk (ls2 := [(0, ov_r 0), (1, ov_i way), (2, ov_i run)]) (st2 := [ov_i 0, ov_r 76]) (pc2 := 58) b_102_57_1 rfl rfl ?_
            refine ov_iald d_102_58 (zb_76 I172) (zs_76 I172) (by omega) ?_
            have g176 := ra_76 I172 0
            refine ov_blk (ls2 := [(0, ov_r 0), (1, ov_i way), (2, ov_i run), (3, ov_i (h171 76 0))]) (st2 := [ov_r 0]) (pc2 := 61) b_102_59_2 rfl rfl ?_
            refine ov_getf (v := ov_r 4) d_102_61 fl_OF_28 (zb_0 I172) (zs_0 I172) (congrArg ov_r (rg_0_2 I172)) ?_
            refine ov_blk (ls2 := [(0, ov_r 0), (1, ov_i way), (2, ov_i run), (3, ov_i (h171 76 0))]) (st2 := [ov_r 4, ov_r 4]) (pc2 := 65) b_102_64_1 rfl rfl ?_
            refine ov_getf (v := ov_i (h171 4 1)) d_102_65 fl_OF_179 (zb_4 I172) (zs_4 I172) rfl ?_
            have g177 := rg_4_1 I172
            refine ov_blk (ls2 := [(0, ov_r 0), (1, ov_i way), (2, ov_i run), (3, ov_i (h171 76 0))]) (st2 := [ov_r 0, ov_i (h171 4 1), ov_r 4]) (pc2 := 69) b_102_68_1 rfl rfl ?_
            refine ov_getf (v := ov_r 70) d_102_69 fl_OF_78 (zb_0 I172) (zs_0 I172) (congrArg ov_r e174) ?_
            refine ov_blk (ls2 := [(0, ov_r 0), (1, ov_i way), (2, ov_i run), (3, ov_i (h171 76 0))]) (st2 := [ov_r 0, ov_r 70, ov_i (h171 4 1), ov_r 4]) (pc2 := 73) b_102_72_1 rfl rfl ?_
            refine ov_getf (v := ov_r 4) d_102_73 fl_OF_28 (zb_0 I172) (zs_0 I172) (congrArg ov_r (rg_0_2 I172)) ?_
            refine ov_getf (v := ov_i (h171 4 0)) d_102_76 fl_OF_166 (zb_4 I172) (zs_4 I172) rfl ?_
            have g178 := rg_4_0 I172
            refine ov_blk (ls2 := [(0, ov_r 0), (1, ov_i way), (2, ov_i run), (3, ov_i (h171 76 0))]) (st2 := [ov_r 0, ov_i way, ov_i (h171 4 0), ov_r 70, ov_i (h171 4 1), ov_r 4]) (pc2 := 81) b_102_79_2 rfl rfl ?_
            refine ov_getf (v := ov_r 4) d_102_81 fl_OF_28 (zb_0 I172) (zs_0 I172) (congrArg ov_r (rg_0_2 I172)) ?_
            refine ov_getf (v := ov_i (h171 4 1)) d_102_84 fl_OF_179 (zb_4 I172) (zs_4 I172) rfl ?_
            refine ov_cV (as := [ov_i (h171 4 0), ov_i way, ov_i (h171 4 1)]) (st := [ov_i (h171 4 1), ov_r 4]) (d2 := d - 1) d_102_87 lk_OF_162 rfl (Nat.le_of_ble_eq_true rfl) (c := 9) (zb_70 I172) (zs_70 I172) ⟨by decide, rfl⟩ (by omega) (c_Town_waitFor_70 (d - 1) (by omega) U I172 (h171 4 0) way (h171 4 1) (by omega) (by omega) (by omega) (by omega)) ?_
            rintro _ _ _ ⟨v181, rfl, rfl, rfl, f180⟩
            show ov_R u d ov_m102 90 [(0, ov_r 0), (1, ov_i way), (2, ov_i run), (3, ov_i (h171 76 0))] [ov_i v181, ov_i (h171 4 1), ov_r 4] z170 h171 (P_OF_go_0 F z h way run)
            have f182 : 0 ≤ v181 ∧ v181 ≤ 60 := f180
            clear f180
            refine ov_blk (ls2 := [(0, ov_r 0), (1, ov_i way), (2, ov_i run), (3, ov_i (h171 76 0))]) (st2 := [ov_i (v181 + (h171 76 0)), ov_i (h171 4 1), ov_r 4]) (pc2 := 92) b_102_90_2 rfl rfl ?_
            refine ov_havw (fun w183 gw183 qw183 => ?_)
            refine ov_blk (ls2 := [(0, ov_r 0), (1, ov_i way), (2, ov_i run), (3, ov_i (h171 76 0))]) (st2 := [ov_i ((h171 4 1) + w183), ov_r 4]) (pc2 := 93) b_102_92_1 rfl rfl ?_
            refine ov_havw (fun w184 gw184 qw184 => ?_)
            refine ov_putf (x := w184) d_102_93 fl_OF_179 (zb_4 I172) (zs_4 I172) rfl nk_0 rfl ?_
            have I185 := up_4_1 (x := w184) I172 (by omega) (hw 4 (by decide +kernel))
            refine ov_blk (ls2 := [(0, ov_r 0), (1, ov_i way), (2, ov_i run), (3, ov_i (h171 76 0))]) (st2 := [ov_r 0]) (pc2 := 97) b_102_96_1 rfl rfl ?_
            refine ov_getf (v := ov_r 4) d_102_97 fl_OF_28 (zb_0 I185) (zs_0 I185) (congrArg ov_r (rg_0_2 I185)) ?_
            refine ov_blk (ls2 := [(0, ov_r 0), (1, ov_i way), (2, ov_i run), (3, ov_i (h171 76 0))]) (st2 := [ov_r 0, ov_r 4]) (pc2 := 101) b_102_100_1 rfl rfl ?_
            refine ov_getf (v := ov_r 70) d_102_101 fl_OF_78 (zb_0 I185) (zs_0 I185) (congrArg ov_r e174) ?_
            refine ov_blk (ls2 := [(0, ov_r 0), (1, ov_i way), (2, ov_i run), (3, ov_i (h171 76 0))]) (st2 := [ov_r 0, ov_r 70, ov_r 4]) (pc2 := 105) b_102_104_1 rfl rfl ?_
            refine ov_getf (v := ov_r 4) d_102_105 fl_OF_28 (zb_0 I185) (zs_0 I185) (congrArg ov_r (rg_0_2 I185)) ?_
            refine ov_getf (v := ov_i (h171 4 0)) d_102_108 fl_OF_166 (zb_4 I185) (zs_4 I185) rfl ?_
            refine ov_blk (ls2 := [(0, ov_r 0), (1, ov_i way), (2, ov_i run), (3, ov_i (h171 76 0))]) (st2 := [ov_i way, ov_i (h171 4 0), ov_r 70, ov_r 4]) (pc2 := 112) b_102_111_1 rfl rfl ?_
            refine ov_cV (as := [ov_i (h171 4 0), ov_i way]) (st := [ov_r 4]) (d2 := d - 1) d_102_112 lk_OF_182 rfl (Nat.le_of_ble_eq_true rfl) (c := 9) (zb_70 I185) (zs_70 I185) ⟨by decide, rfl⟩ (by omega) (c_Town_after_70 (d - 1) (by omega) U I185 (h171 4 0) way (by omega) (by omega) (by omega)) ?_
            rintro _ _ _ ⟨v188, rfl, rfl, rfl, f187⟩
            show ov_R u d ov_m102 115 [(0, ov_r 0), (1, ov_i way), (2, ov_i run), (3, ov_i (h171 76 0))] [ov_i v188, ov_r 4] z170 (ov_up h171 4 1 w184) (P_OF_go_0 F z h way run)
            have f189 : (way = 0 → v188 = (h171 4 0) + 1) ∧ (¬ way = 0 → v188 = (h171 4 0) + 6) := f187
            clear f187
            refine ov_putf (x := v188) d_102_115 fl_OF_166 (zb_4 I185) (zs_4 I185) rfl nk_0 rfl ?_
            have I190 := up_4_0 (x := v188) I185 (by omega) (hw 4 (by decide +kernel))
            refine ov_blk (ls2 := [(0, ov_r 0), (1, ov_i way), (2, ov_i run), (3, ov_i (h171 76 0))]) (st2 := [ov_r 0]) (pc2 := 119) b_102_118_1 rfl rfl ?_
            refine ov_getf (v := ov_r 4) d_102_119 fl_OF_28 (zb_0 I190) (zs_0 I190) (congrArg ov_r (rg_0_2 I190)) ?_
            refine ov_blk (ls2 := [(0, ov_r 0), (1, ov_i way), (2, ov_i run), (3, ov_i (h171 76 0))]) (st2 := [ov_r 4, ov_r 4]) (pc2 := 123) b_102_122_1 rfl rfl ?_
            refine ov_getf (v := ov_i (h171 4 2)) d_102_123 fl_OF_185 (zb_4 I190) (zs_4 I190) rfl ?_
            have g191 := rg_4_2 I172
            refine ov_blk (ls2 := [(0, ov_r 0), (1, ov_i way), (2, ov_i run), (3, ov_i (h171 76 0))]) (st2 := [ov_i run, ov_i (h171 4 2), ov_r 4]) (pc2 := 127) b_102_126_1 rfl rfl ?_
            refine ov_ifeq (tgt := 134) d_102_127 (by decide) (by omega) (fun c192 => ?_) (fun c192 => ?_)
            · skip
              refine ov_blk (ls2 := [(0, ov_r 0), (1, ov_i way), (2, ov_i run), (3, ov_i (h171 76 0))]) (st2 := [ov_i ((h171 4 2) + 0), ov_r 4]) (pc2 := 136) b_102_134_2 rfl rfl ?_
              refine ov_havw (fun w193 gw193 qw193 => ?_)
              refine ov_putf (x := w193) d_102_136 fl_OF_185 (zb_4 I190) (zs_4 I190) rfl nk_0 rfl ?_
              have I194 := up_4_2 (x := w193) I190 (by omega) (hw 4 (by decide +kernel))
              refine ov_blk (ls2 := [(0, ov_r 0), (1, ov_i way), (2, ov_i run), (3, ov_i (h171 76 0))]) (st2 := [ov_r 0]) (pc2 := 140) b_102_139_1 rfl rfl ?_
              refine ov_getf (v := ov_r 4) d_102_140 fl_OF_28 (zb_0 I194) (zs_0 I194) (congrArg ov_r (rg_0_2 I194)) ?_
              refine ov_getf (v := ov_i w184) d_102_143 fl_OF_179 (zb_4 I194) (zs_4 I194) rfl ?_
              exact ov_reti (st := []) d_102_146 rfl ⟨_, rfl, I194, (by show (h171 36 7) = (h 36 7) ∧ (h171 1 1) = (h 1 1) ∧ (h171 90 2) = (h 90 2) ∧ (h171 0 10) = (h 0 10) ∧ (h171 0 11) = (h 0 11) ∧ (h171 0 12) = (h 0 12) ∧ (h171 0 13) = (h 0 13) ∧ (h171 3 1) = (h 3 1) ∧ (h171 36 8) = (h 36 8) ∧ (h171 46 3) = (h 46 3) ∧ (h171 46 4) = (h 46 4) ∧ (h171 49 4) = (h 49 4) ∧ (h171 49 5) = (h 49 5) ∧ (h171 64 0) = (h 64 0) ∧ (h171 76 0) = (h 76 0); omega)⟩
            · skip
              refine ov_blk (ls2 := [(0, ov_r 0), (1, ov_i way), (2, ov_i run), (3, ov_i (h171 76 0))]) (st2 := [ov_i 1, ov_i (h171 4 2), ov_r 4]) (pc2 := 131) b_102_130_1 rfl rfl ?_
              refine ov_goto (tgt := 135) d_102_131 (by decide) ?_
              refine ov_blk (ls2 := [(0, ov_r 0), (1, ov_i way), (2, ov_i run), (3, ov_i (h171 76 0))]) (st2 := [ov_i ((h171 4 2) + 1), ov_r 4]) (pc2 := 136) b_102_135_1 rfl rfl ?_
              refine ov_havw (fun w195 gw195 qw195 => ?_)
              refine ov_putf (x := w195) d_102_136 fl_OF_185 (zb_4 I190) (zs_4 I190) rfl nk_0 rfl ?_
              have I196 := up_4_2 (x := w195) I190 (by omega) (hw 4 (by decide +kernel))
              refine ov_blk (ls2 := [(0, ov_r 0), (1, ov_i way), (2, ov_i run), (3, ov_i (h171 76 0))]) (st2 := [ov_r 0]) (pc2 := 140) b_102_139_1 rfl rfl ?_
              refine ov_getf (v := ov_r 4) d_102_140 fl_OF_28 (zb_0 I196) (zs_0 I196) (congrArg ov_r (rg_0_2 I196)) ?_
              refine ov_getf (v := ov_i w184) d_102_143 fl_OF_179 (zb_4 I196) (zs_4 I196) rfl ?_
              exact ov_reti (st := []) d_102_146 rfl ⟨_, rfl, I196, (by show (h171 36 7) = (h 36 7) ∧ (h171 1 1) = (h 1 1) ∧ (h171 90 2) = (h 90 2) ∧ (h171 0 10) = (h 0 10) ∧ (h171 0 11) = (h 0 11) ∧ (h171 0 12) = (h 0 12) ∧ (h171 0 13) = (h 0 13) ∧ (h171 3 1) = (h 3 1) ∧ (h171 36 8) = (h 36 8) ∧ (h171 46 3) = (h 46 3) ∧ (h171 46 4) = (h 46 4) ∧ (h171 49 4) = (h 49 4) ∧ (h171 49 5) = (h 49 5) ∧ (h171 64 0) = (h 64 0) ∧ (h171 76 0) = (h 76 0); omega)⟩
          · skip
            refine ov_blk (ls2 := [(0, ov_r 0), (1, ov_i way), (2, ov_i run)]) (st2 := [ov_i 1, ov_r 76]) (pc2 := 54) b_102_53_1 rfl rfl ?_
            refine ov_goto (tgt := 58) d_102_54 (by decide) ?_
            refine ov_iald d_102_58 (zb_76 I172) (zs_76 I172) (by omega) ?_
            have g197 := ra_76 I172 1
            refine ov_blk (ls2 := [(0, ov_r 0), (1, ov_i way), (2, ov_i run), (3, ov_i (h171 76 1))]) (st2 := [ov_r 0]) (pc2 := 61) b_102_59_2 rfl rfl ?_
            refine ov_getf (v := ov_r 4) d_102_61 fl_OF_28 (zb_0 I172) (zs_0 I172) (congrArg ov_r (rg_0_2 I172)) ?_
            refine ov_blk (ls2 := [(0, ov_r 0), (1, ov_i way), (2, ov_i run), (3, ov_i (h171 76 1))]) (st2 := [ov_r 4, ov_r 4]) (pc2 := 65) b_102_64_1 rfl rfl ?_
            refine ov_getf (v := ov_i (h171 4 1)) d_102_65 fl_OF_179 (zb_4 I172) (zs_4 I172) rfl ?_
            have g198 := rg_4_1 I172
            refine ov_blk (ls2 := [(0, ov_r 0), (1, ov_i way), (2, ov_i run), (3, ov_i (h171 76 1))]) (st2 := [ov_r 0, ov_i (h171 4 1), ov_r 4]) (pc2 := 69) b_102_68_1 rfl rfl ?_
            refine ov_getf (v := ov_r 70) d_102_69 fl_OF_78 (zb_0 I172) (zs_0 I172) (congrArg ov_r e174) ?_
            refine ov_blk (ls2 := [(0, ov_r 0), (1, ov_i way), (2, ov_i run), (3, ov_i (h171 76 1))]) (st2 := [ov_r 0, ov_r 70, ov_i (h171 4 1), ov_r 4]) (pc2 := 73) b_102_72_1 rfl rfl ?_
            refine ov_getf (v := ov_r 4) d_102_73 fl_OF_28 (zb_0 I172) (zs_0 I172) (congrArg ov_r (rg_0_2 I172)) ?_
            refine ov_getf (v := ov_i (h171 4 0)) d_102_76 fl_OF_166 (zb_4 I172) (zs_4 I172) rfl ?_
            have g199 := rg_4_0 I172
            refine ov_blk (ls2 := [(0, ov_r 0), (1, ov_i way), (2, ov_i run), (3, ov_i (h171 76 1))]) (st2 := [ov_r 0, ov_i way, ov_i (h171 4 0), ov_r 70, ov_i (h171 4 1), ov_r 4]) (pc2 := 81) b_102_79_2 rfl rfl ?_
            refine ov_getf (v := ov_r 4) d_102_81 fl_OF_28 (zb_0 I172) (zs_0 I172) (congrArg ov_r (rg_0_2 I172)) ?_
            refine ov_getf (v := ov_i (h171 4 1)) d_102_84 fl_OF_179 (zb_4 I172) (zs_4 I172) rfl ?_
            refine ov_cV (as := [ov_i (h171 4 0), ov_i way, ov_i (h171 4 1)]) (st := [ov_i (h171 4 1), ov_r 4]) (d2 := d - 1) d_102_87 lk_OF_162 rfl (Nat.le_of_ble_eq_true rfl) (c := 9) (zb_70 I172) (zs_70 I172) ⟨by decide, rfl⟩ (by omega) (c_Town_waitFor_70 (d - 1) (by omega) U I172 (h171 4 0) way (h171 4 1) (by omega) (by omega) (by omega) (by omega)) ?_
            rintro _ _ _ ⟨v202, rfl, rfl, rfl, f201⟩
            show ov_R u d ov_m102 90 [(0, ov_r 0), (1, ov_i way), (2, ov_i run), (3, ov_i (h171 76 1))] [ov_i v202, ov_i (h171 4 1), ov_r 4] z170 h171 (P_OF_go_0 F z h way run)
            have f203 : 0 ≤ v202 ∧ v202 ≤ 60 := f201
            clear f201
            refine ov_blk (ls2 := [(0, ov_r 0), (1, ov_i way), (2, ov_i run), (3, ov_i (h171 76 1))]) (st2 := [ov_i (v202 + (h171 76 1)), ov_i (h171 4 1), ov_r 4]) (pc2 := 92) b_102_90_2 rfl rfl ?_
            refine ov_havw (fun w204 gw204 qw204 => ?_)
            refine ov_blk (ls2 := [(0, ov_r 0), (1, ov_i way), (2, ov_i run), (3, ov_i (h171 76 1))]) (st2 := [ov_i ((h171 4 1) + w204), ov_r 4]) (pc2 := 93) b_102_92_1 rfl rfl ?_
            refine ov_havw (fun w205 gw205 qw205 => ?_)
            refine ov_putf (x := w205) d_102_93 fl_OF_179 (zb_4 I172) (zs_4 I172) rfl nk_0 rfl ?_
            have I206 := up_4_1 (x := w205) I172 (by omega) (hw 4 (by decide +kernel))
            refine ov_blk (ls2 := [(0, ov_r 0), (1, ov_i way), (2, ov_i run), (3, ov_i (h171 76 1))]) (st2 := [ov_r 0]) (pc2 := 97) b_102_96_1 rfl rfl ?_
            refine ov_getf (v := ov_r 4) d_102_97 fl_OF_28 (zb_0 I206) (zs_0 I206) (congrArg ov_r (rg_0_2 I206)) ?_
            refine ov_blk (ls2 := [(0, ov_r 0), (1, ov_i way), (2, ov_i run), (3, ov_i (h171 76 1))]) (st2 := [ov_r 0, ov_r 4]) (pc2 := 101) b_102_100_1 rfl rfl ?_
            refine ov_getf (v := ov_r 70) d_102_101 fl_OF_78 (zb_0 I206) (zs_0 I206) (congrArg ov_r e174) ?_
            refine ov_blk (ls2 := [(0, ov_r 0), (1, ov_i way), (2, ov_i run), (3, ov_i (h171 76 1))]) (st2 := [ov_r 0, ov_r 70, ov_r 4]) (pc2 := 105) b_102_104_1 rfl rfl ?_
            refine ov_getf (v := ov_r 4) d_102_105 fl_OF_28 (zb_0 I206) (zs_0 I206) (congrArg ov_r (rg_0_2 I206)) ?_
            refine ov_getf (v := ov_i (h171 4 0)) d_102_108 fl_OF_166 (zb_4 I206) (zs_4 I206) rfl ?_
            refine ov_blk (ls2 := [(0, ov_r 0), (1, ov_i way), (2, ov_i run), (3, ov_i (h171 76 1))]) (st2 := [ov_i way, ov_i (h171 4 0), ov_r 70, ov_r 4]) (pc2 := 112) b_102_111_1 rfl rfl ?_
            refine ov_cV (as := [ov_i (h171 4 0), ov_i way]) (st := [ov_r 4]) (d2 := d - 1) d_102_112 lk_OF_182 rfl (Nat.le_of_ble_eq_true rfl) (c := 9) (zb_70 I206) (zs_70 I206) ⟨by decide, rfl⟩ (by omega) (c_Town_after_70 (d - 1) (by omega) U I206 (h171 4 0) way (by omega) (by omega) (by omega)) ?_
            rintro _ _ _ ⟨v209, rfl, rfl, rfl, f208⟩
            show ov_R u d ov_m102 115 [(0, ov_r 0), (1, ov_i way), (2, ov_i run), (3, ov_i (h171 76 1))] [ov_i v209, ov_r 4] z170 (ov_up h171 4 1 w205) (P_OF_go_0 F z h way run)
            have f210 : (way = 0 → v209 = (h171 4 0) + 1) ∧ (¬ way = 0 → v209 = (h171 4 0) + 6) := f208
            clear f208
            refine ov_putf (x := v209) d_102_115 fl_OF_166 (zb_4 I206) (zs_4 I206) rfl nk_0 rfl ?_
            have I211 := up_4_0 (x := v209) I206 (by omega) (hw 4 (by decide +kernel))
            refine ov_blk (ls2 := [(0, ov_r 0), (1, ov_i way), (2, ov_i run), (3, ov_i (h171 76 1))]) (st2 := [ov_r 0]) (pc2 := 119) b_102_118_1 rfl rfl ?_
            refine ov_getf (v := ov_r 4) d_102_119 fl_OF_28 (zb_0 I211) (zs_0 I211) (congrArg ov_r (rg_0_2 I211)) ?_
            refine ov_blk (ls2 := [(0, ov_r 0), (1, ov_i way), (2, ov_i run), (3, ov_i (h171 76 1))]) (st2 := [ov_r 4, ov_r 4]) (pc2 := 123) b_102_122_1 rfl rfl ?_
            refine ov_getf (v := ov_i (h171 4 2)) d_102_123 fl_OF_185 (zb_4 I211) (zs_4 I211) rfl ?_
            have g212 := rg_4_2 I172
            refine ov_blk (ls2 := [(0, ov_r 0), (1, ov_i way), (2, ov_i run), (3, ov_i (h171 76 1))]) (st2 := [ov_i run, ov_i (h171 4 2), ov_r 4]) (pc2 := 127) b_102_126_1 rfl rfl ?_
            refine ov_ifeq (tgt := 134) d_102_127 (by decide) (by omega) (fun c213 => ?_) (fun c213 => ?_)
            · skip
              refine ov_blk (ls2 := [(0, ov_r 0), (1, ov_i way), (2, ov_i run), (3, ov_i (h171 76 1))]) (st2 := [ov_i ((h171 4 2) + 0), ov_r 4]) (pc2 := 136) b_102_134_2 rfl rfl ?_
              refine ov_havw (fun w214 gw214 qw214 => ?_)
              refine ov_putf (x := w214) d_102_136 fl_OF_185 (zb_4 I211) (zs_4 I211) rfl nk_0 rfl ?_
              have I215 := up_4_2 (x := w214) I211 (by omega) (hw 4 (by decide +kernel))
              refine ov_blk (ls2 := [(0, ov_r 0), (1, ov_i way), (2, ov_i run), (3, ov_i (h171 76 1))]) (st2 := [ov_r 0]) (pc2 := 140) b_102_139_1 rfl rfl ?_
              refine ov_getf (v := ov_r 4) d_102_140 fl_OF_28 (zb_0 I215) (zs_0 I215) (congrArg ov_r (rg_0_2 I215)) ?_
              refine ov_getf (v := ov_i w205) d_102_143 fl_OF_179 (zb_4 I215) (zs_4 I215) rfl ?_
              exact ov_reti (st := []) d_102_146 rfl ⟨_, rfl, I215, (by show (h171 36 7) = (h 36 7) ∧ (h171 1 1) = (h 1 1) ∧ (h171 90 2) = (h 90 2) ∧ (h171 0 10) = (h 0 10) ∧ (h171 0 11) = (h 0 11) ∧ (h171 0 12) = (h 0 12) ∧ (h171 0 13) = (h 0 13) ∧ (h171 3 1) = (h 3 1) ∧ (h171 36 8) = (h 36 8) ∧ (h171 46 3) = (h 46 3) ∧ (h171 46 4) = (h 46 4) ∧ (h171 49 4) = (h 49 4) ∧ (h171 49 5) = (h 49 5) ∧ (h171 64 0) = (h 64 0) ∧ (h171 76 0) = (h 76 0); omega)⟩
            · skip
              refine ov_blk (ls2 := [(0, ov_r 0), (1, ov_i way), (2, ov_i run), (3, ov_i (h171 76 1))]) (st2 := [ov_i 1, ov_i (h171 4 2), ov_r 4]) (pc2 := 131) b_102_130_1 rfl rfl ?_
              refine ov_goto (tgt := 135) d_102_131 (by decide) ?_
              refine ov_blk (ls2 := [(0, ov_r 0), (1, ov_i way), (2, ov_i run), (3, ov_i (h171 76 1))]) (st2 := [ov_i ((h171 4 2) + 1), ov_r 4]) (pc2 := 136) b_102_135_1 rfl rfl ?_
              refine ov_havw (fun w216 gw216 qw216 => ?_)
              refine ov_putf (x := w216) d_102_136 fl_OF_185 (zb_4 I211) (zs_4 I211) rfl nk_0 rfl ?_
              have I217 := up_4_2 (x := w216) I211 (by omega) (hw 4 (by decide +kernel))
              refine ov_blk (ls2 := [(0, ov_r 0), (1, ov_i way), (2, ov_i run), (3, ov_i (h171 76 1))]) (st2 := [ov_r 0]) (pc2 := 140) b_102_139_1 rfl rfl ?_
              refine ov_getf (v := ov_r 4) d_102_140 fl_OF_28 (zb_0 I217) (zs_0 I217) (congrArg ov_r (rg_0_2 I217)) ?_
              refine ov_getf (v := ov_i w205) d_102_143 fl_OF_179 (zb_4 I217) (zs_4 I217) rfl ?_
              exact ov_reti (st := []) d_102_146 rfl ⟨_, rfl, I217, (by show (h171 36 7) = (h 36 7) ∧ (h171 1 1) = (h 1 1) ∧ (h171 90 2) = (h 90 2) ∧ (h171 0 10) = (h 0 10) ∧ (h171 0 11) = (h 0 11) ∧ (h171 0 12) = (h 0 12) ∧ (h171 0 13) = (h 0 13) ∧ (h171 3 1) = (h 3 1) ∧ (h171 36 8) = (h 36 8) ∧ (h171 46 3) = (h 46 3) ∧ (h171 46 4) = (h 46 4) ∧ (h171 49 4) = (h 49 4) ∧ (h171 49 5) = (h 49 5) ∧ (h171 64 0) = (h 64 0) ∧ (h171 76 0) = (h 76 0); omega)⟩
        · skip
          refine ov_blk (ls2 := [(0, ov_r 0), (1, ov_i way), (2, ov_i run)]) (st2 := [ov_i (-1)]) (pc2 := 30) b_102_29_1 rfl rfl ?_
          exact ov_reti (st := []) d_102_30 rfl ⟨_, rfl, I, (by show (h 36 7) = (h 36 7) ∧ (h 1 1) = (h 1 1) ∧ (h 90 2) = (h 90 2) ∧ (h 0 10) = (h 0 10) ∧ (h 0 11) = (h 0 11) ∧ (h 0 12) = (h 0 12) ∧ (h 0 13) = (h 0 13) ∧ (h 3 1) = (h 3 1) ∧ (h 36 8) = (h 36 8) ∧ (h 46 3) = (h 46 3) ∧ (h 46 4) = (h 46 4) ∧ (h 49 4) = (h 49 4) ∧ (h 49 5) = (h 49 5) ∧ (h 64 0) = (h 64 0) ∧ (h 76 0) = (h 76 0); omega)⟩
abbrev P_OF_stay_0 (F : ov_H) (z : ov_Z) (h : ov_H) (s : Int) : Option ov_V → ov_Z → ov_H → Prop := fun r0 z' h' => ∃ r : Int, r0 = some (ov_i r) ∧ ov_I F z' h' ∧ ((h' 36 7) = (h 36 7) ∧ (h' 1 1) = (h 1 1) ∧ (h' 90 2) = (h 90 2) ∧ (h' 0 10) = (h 0 10) ∧ (h' 0 11) = (h 0 11) ∧ (h' 0 12) = (h 0 12) ∧ (h' 0 13) = (h 0 13) ∧ (h' 3 1) = (h 3 1) ∧ (h' 36 8) = (h 36 8) ∧ (h' 46 3) = (h 46 3) ∧ (h' 46 4) = (h 46 4) ∧ (h' 49 4) = (h 49 4) ∧ (h' 49 5) = (h 49 5) ∧ (h' 64 0) = (h 64 0) ∧ (h' 76 0) = (h 76 0))
set_option maxHeartbeats 4000000 in
theorem c_OF_stay_0 {u : ov_U} {F : ov_H} {z : ov_Z} {h : ov_H} (d : Nat) (hd : 2 ≤ d) (U : ov_cap u) (I : ov_I F z h) (hw : ov_kw 15888 F) (s : Int) (g_s : ov_g s) : ov_T u d ov_m105 [ov_r 0, ov_i s] z h (P_OF_stay_0 F z h s) := by
  refine ov_en rfl (Nat.le_of_ble_eq_true rfl) ?_
  show ov_R u d ov_m105 0 [(0, ov_r 0), (1, ov_i s)] [] z h (P_OF_stay_0 F z h s)
  refine ov_blk (ls2 := [(0, ov_r 0), (1, ov_i s)]) (st2 := [ov_i 1, ov_i s]) (pc2 := 2) b_105_0_2 rfl rfl ?_
  refine ov_iclt (tgt := 12) d_105_2 (by decide) (by omega) (by omega) (fun c1 => ?_) (fun c1 => ?_)
  · skip
    refine ov_blk (ls2 := [(0, ov_r 0), (1, ov_i s)]) (st2 := [ov_i (-1)]) (pc2 := 13) b_105_12_1 rfl rfl ?_
    exact ov_reti (st := []) d_105_13 rfl ⟨_, rfl, I, (by show (h 36 7) = (h 36 7) ∧ (h 1 1) = (h 1 1) ∧ (h 90 2) = (h 90 2) ∧ (h 0 10) = (h 0 10) ∧ (h 0 11) = (h 0 11) ∧ (h 0 12) = (h 0 12) ∧ (h 0 13) = (h 0 13) ∧ (h 3 1) = (h 3 1) ∧ (h 36 8) = (h 36 8) ∧ (h 46 3) = (h 46 3) ∧ (h 46 4) = (h 46 4) ∧ (h 49 4) = (h 49 4) ∧ (h 49 5) = (h 49 5) ∧ (h 64 0) = (h 64 0) ∧ (h 76 0) = (h 76 0); omega)⟩
  · skip
    refine ov_blk (ls2 := [(0, ov_r 0), (1, ov_i s)]) (st2 := [ov_i 1000, ov_i s]) (pc2 := 9) b_105_5_2 rfl rfl ?_
    refine ov_icle (tgt := 14) d_105_9 (by decide) (by omega) (by omega) (fun c2 => ?_) (fun c2 => ?_)
    · skip
      refine ov_blk (ls2 := [(0, ov_r 0), (1, ov_i s)]) (st2 := [ov_r 0]) (pc2 := 15) b_105_14_1 rfl rfl ?_
      refine ov_getf (v := ov_r 9) d_105_15 fl_OF_35 (zb_0 I) (zs_0 I) (congrArg ov_r (rg_0_3 I)) ?_
      refine ov_blk (ls2 := [(0, ov_r 0), (1, ov_i s)]) (st2 := [ov_r 0, ov_r 9]) (pc2 := 19) b_105_18_1 rfl rfl ?_
      refine ov_getf (v := ov_r 4) d_105_19 fl_OF_28 (zb_0 I) (zs_0 I) (congrArg ov_r (rg_0_2 I)) ?_
      refine ov_cV (as := [ov_r 4]) (st := []) (d2 := d - 1) d_105_22 lk_OF_172 rfl (Nat.le_of_ble_eq_true rfl) (c := 3) (zb_9 I) (zs_9 I) ⟨by decide, rfl⟩ (by omega) (c_History_keep_9_4_b (d - 1) (by omega) U I (ov_kws hw (by decide +kernel))) ?_
      rintro _ z4 h5 ⟨rfl, I6, f3⟩
      show ov_R u d ov_m105 25 [(0, ov_r 0), (1, ov_i s)] [] z4 h5 (P_OF_stay_0 F z h s)
      have f7 : (h5 4 0) = (h 4 0) ∧ (h5 36 7) = (h 36 7) ∧ (h5 1 1) = (h 1 1) ∧ (h5 90 2) = (h 90 2) ∧ (h5 0 10) = (h 0 10) ∧ (h5 0 11) = (h 0 11) ∧ (h5 0 12) = (h 0 12) ∧ (h5 0 13) = (h 0 13) ∧ (h5 3 1) = (h 3 1) ∧ (h5 36 8) = (h 36 8) ∧ (h5 46 3) = (h 46 3) ∧ (h5 46 4) = (h 46 4) ∧ (h5 49 4) = (h 49 4) ∧ (h5 49 5) = (h 49 5) ∧ (h5 64 0) = (h 64 0) ∧ (h5 76 0) = (h 76 0) := f3
      clear f3
      refine ov_blk (ls2 := [(0, ov_r 0), (1, ov_i s)]) (st2 := [ov_r 0]) (pc2 := 26) b_105_25_1 rfl rfl ?_
      refine ov_getf (v := ov_r 4) d_105_26 fl_OF_28 (zb_0 I6) (zs_0 I6) (congrArg ov_r (rg_0_2 I6)) ?_
      refine ov_blk (ls2 := [(0, ov_r 0), (1, ov_i s)]) (st2 := [ov_r 4, ov_r 4]) (pc2 := 30) b_105_29_1 rfl rfl ?_
      refine ov_getf (v := ov_i (h5 4 1)) d_105_30 fl_OF_179 (zb_4 I6) (zs_4 I6) rfl ?_
      have g8 := rg_4_1 I6
      refine ov_blk (ls2 := [(0, ov_r 0), (1, ov_i s)]) (st2 := [ov_i ((h5 4 1) + s), ov_r 4]) (pc2 := 35) b_105_33_2 rfl rfl ?_
      refine ov_havw (fun w9 gw9 qw9 => ?_)
      refine ov_putf (x := w9) d_105_35 fl_OF_179 (zb_4 I6) (zs_4 I6) rfl nk_0 rfl ?_
      have I10 := up_4_1 (x := w9) I6 (by omega) (hw 4 (by decide +kernel))
      refine ov_blk (ls2 := [(0, ov_r 0), (1, ov_i s)]) (st2 := [ov_r 0]) (pc2 := 39) b_105_38_1 rfl rfl ?_
      refine ov_getf (v := ov_r 4) d_105_39 fl_OF_28 (zb_0 I10) (zs_0 I10) (congrArg ov_r (rg_0_2 I10)) ?_
      refine ov_getf (v := ov_i w9) d_105_42 fl_OF_179 (zb_4 I10) (zs_4 I10) rfl ?_
      exact ov_reti (st := []) d_105_45 rfl ⟨_, rfl, I10, (by show (h5 36 7) = (h 36 7) ∧ (h5 1 1) = (h 1 1) ∧ (h5 90 2) = (h 90 2) ∧ (h5 0 10) = (h 0 10) ∧ (h5 0 11) = (h 0 11) ∧ (h5 0 12) = (h 0 12) ∧ (h5 0 13) = (h 0 13) ∧ (h5 3 1) = (h 3 1) ∧ (h5 36 8) = (h 36 8) ∧ (h5 46 3) = (h 46 3) ∧ (h5 46 4) = (h 46 4) ∧ (h5 49 4) = (h 49 4) ∧ (h5 49 5) = (h 49 5) ∧ (h5 64 0) = (h 64 0) ∧ (h5 76 0) = (h 76 0); omega)⟩
    · skip
      refine ov_blk (ls2 := [(0, ov_r 0), (1, ov_i s)]) (st2 := [ov_i (-1)]) (pc2 := 13) b_105_12_1 rfl rfl ?_
      exact ov_reti (st := []) d_105_13 rfl ⟨_, rfl, I, (by show (h 36 7) = (h 36 7) ∧ (h 1 1) = (h 1 1) ∧ (h 90 2) = (h 90 2) ∧ (h 0 10) = (h 0 10) ∧ (h 0 11) = (h 0 11) ∧ (h 0 12) = (h 0 12) ∧ (h 0 13) = (h 0 13) ∧ (h 3 1) = (h 3 1) ∧ (h 36 8) = (h 36 8) ∧ (h 46 3) = (h 46 3) ∧ (h 46 4) = (h 46 4) ∧ (h 49 4) = (h 49 4) ∧ (h 49 5) = (h 49 5) ∧ (h 64 0) = (h 64 0) ∧ (h 76 0) = (h 76 0); omega)⟩

abbrev P_Mo_fits_90 (F : ov_H × ov_Z) (z : ov_Z) (h : ov_H) (m : Int) : Option ov_V → ov_Z → ov_H → Prop := fun r0 z' h' => ∃ r : Int, r0 = some (ov_l r) ∧ ov_N F z' h' ∧ ((h' 90 2) = (h 90 2) ∧ (h' 90 7) = (h 90 7) ∧ (h' 90 8) = (h 90 8) ∧ (h' 90 13) = (h 90 13) ∧ (h' 90 20) = (h 90 20) ∧ (h' 90 22) = (h 90 22) ∧ (h' 90 25) = (h 90 25) ∧ (h' 90 26) = (h 90 26) ∧ (h' 90 28) = (h 90 28) ∧ (h' 90 29) = (h 90 29) ∧ (h' 90 30) = (h 90 30) ∧ (h' 90 34) = (h 90 34)) ∧ h' 91 = h 91 ∧ h' 92 = h 92 ∧ h' 93 = h 93 ∧ h' 94 = h 94 ∧ h' 95 = h 95 ∧ h' 96 = h 96 ∧ h' 97 = h 97 ∧ h' 98 = h 98 ∧ h' 99 = h 99 ∧ h' 100 = h 100 ∧ h' 103 = h 103 ∧ h' 104 = h 104 ∧ h' 105 = h 105 ∧ h' 106 = h 106 ∧ h' 109 = h 109 ∧ h' 114 = h 114
set_option maxHeartbeats 4000000 in
theorem c_Mo_fits_90 {u : ov_U} {F : ov_H × ov_Z} {z : ov_Z} {h : ov_H} (d : Nat) (hd : 60 ≤ d) (U : ov_cap u) (I : ov_N F z h) (m : Int) (g_m : ov_g m) (W : ov_WT (h 96)) : ov_T u d ov_m303 [ov_r 90, ov_i m] z h (P_Mo_fits_90 F z h m) := by
  refine ov_en rfl (Nat.le_of_ble_eq_true rfl) ?_
  show ov_R u d ov_m303 0 [(0, ov_r 90), (1, ov_i m)] [] z h (P_Mo_fits_90 F z h m)
  have t0 := t96_0 I
  have t1 := t96_1 I
  refine ov_blk (ls2 := [(0, ov_r 90), (1, ov_i m)]) (st2 := [ov_i 0, ov_r 90]) (pc2 := 2) b_303_0_2 rfl rfl ?_
  refine ov_putf (x := 0) d_303_2 fl_Mo_1 (zb_90 I) (zs_90 I) rfl nk_0 rfl ?_
  have I1 := up_90_0 (x := 0) I (by omega)
  refine ov_blk (ls2 := [(0, ov_r 90), (1, ov_i m)]) (st2 := [ov_i 3, ov_i 0, ov_i m]) (pc2 := 8) b_303_5_3 rfl rfl ?_
  refine ov_cS (as := [ov_i m, ov_i 0, ov_i 3]) (st := []) (d2 := d - 1) d_303_8 lk_Mo_299 rfl (Nat.le_of_ble_eq_true rfl) (by omega) (c_Mo_within (d - 1) (by omega) U I1 m 0 3 (by omega) (by omega) (by omega)) ?_
  rintro _ _ _ ⟨v3, rfl, rfl, rfl, f2⟩
  show ov_R u d ov_m303 11 [(0, ov_r 90), (1, ov_i m)] [ov_i v3] z (ov_up h 90 0 0) (P_Mo_fits_90 F z h m)
  have f4 : (v3 = 0 ∨ v3 = 1) ∧ (v3 = 1 → (0 : Int) ≤ m ∧ m ≤ (3 : Int)) ∧ (v3 = 0 → m < (0 : Int) ∨ (3 : Int) < m) := f2
  clear f2
  refine ov_ifne (tgt := 18) d_303_11 (by decide) (by omega) (fun c5 => ?_) (fun c5 => ?_)
  · skip
    have f4_ : v3 = 1 := by omega
    have f6 : (0 : Int) ≤ m ∧ m ≤ (3 : Int) := f4.2.1 (by omega)
    clear f4
    refine ov_blk (ls2 := [(0, ov_r 90), (1, ov_i m)]) (st2 := [ov_l 0, ov_r 90]) (pc2 := 20) b_303_18_2 rfl rfl ?_
    refine ov_putf (x := 0) d_303_20 fl_Mo_461 (zb_90 I1) (zs_90 I1) rfl nk_1 rfl ?_
    have I7 := up_90_43 (x := 0) I1
    refine ov_blk (ls2 := [(0, ov_r 90), (1, ov_i m)]) (st2 := [ov_i 0, ov_l 0, ov_i 0, ov_i 0, ov_i 0, ov_i 0, ov_r 90]) (pc2 := 30) b_303_23_7 rfl rfl ?_
    refine ov_cV (as := [ov_i 0, ov_i 0, ov_i 0, ov_i 0, ov_l 0, ov_i 0]) (st := []) (d2 := d - 1) d_303_30 lk_Mo_457 rfl (Nat.le_of_ble_eq_true rfl) (c := 1) (zb_90 I7) (zs_90 I7) ⟨by decide, rfl⟩ (by omega) (c_Mo_goesOn_90_all (Int.toNat (13 - (0) - (0))) (d - 1) (by omega) U I7 0 0 0 0 0 0 (by omega) (by omega) (by omega) (by omega) (by omega) (by omega) (by show (0 : Int) < (h 96 0) ∧ (0 : Int) < (h 96 1); omega) (by omega) (by omega) W) ?_
    rintro _ z25 h26 ⟨rfl, I27, f8, e9, e10, e11, e12, e13, e14, e15, e16, e17, e18, e19, e20, e21, e22, e23, e24⟩
    have E28 : h26 91 = h 91 := e9
    have E29 : h26 92 = h 92 := e10
    have E30 : h26 93 = h 93 := e11
    have E31 : h26 94 = h 94 := e12
    have E32 : h26 95 = h 95 := e13
    have E33 : h26 96 = h 96 := e14
    have E34 : h26 97 = h 97 := e15
    have E35 : h26 98 = h 98 := e16
    have E36 : h26 99 = h 99 := e17
    have E37 : h26 100 = h 100 := e18
    have E38 : h26 103 = h 103 := e19
    have E39 : h26 104 = h 104 := e20
    have E40 : h26 105 = h 105 := e21
    have E41 : h26 106 = h 106 := e22
    have E42 : h26 109 = h 109 := e23
    have E43 : h26 114 = h 114 := e24
    show ov_R u d ov_m303 33 [(0, ov_r 90), (1, ov_i m)] [] z25 h26 (P_Mo_fits_90 F z h m)
    have f44 : (h26 90 2) = (h 90 2) ∧ (h26 90 7) = (h 90 7) ∧ (h26 90 8) = (h 90 8) ∧ (h26 90 13) = (h 90 13) ∧ (h26 90 20) = (h 90 20) ∧ (h26 90 22) = (h 90 22) ∧ (h26 90 25) = (h 90 25) ∧ (h26 90 26) = (h 90 26) ∧ (h26 90 28) = (h 90 28) ∧ (h26 90 29) = (h 90 29) ∧ (h26 90 30) = (h 90 30) ∧ (h26 90 34) = (h 90 34) := f8
    clear f8
    refine ov_blk (ls2 := [(0, ov_r 90), (1, ov_i m)]) (st2 := [ov_i m]) (pc2 := 34) b_303_33_1 rfl rfl ?_
    refine ov_ifeq (tgt := 46) d_303_34 (by decide) (by omega) (fun c45 => ?_) (fun c45 => ?_)
    · skip
      refine ov_blk (ls2 := [(0, ov_r 90), (1, ov_i m)]) (st2 := [ov_i m]) (pc2 := 47) b_303_46_1 rfl rfl ?_
      refine ov_ifne (tgt := 57) d_303_47 (by decide) (by omega) (fun c46 => ?_) (fun c46 => ?_)
      · omega
      · skip
        refine ov_blk (ls2 := [(0, ov_r 90), (1, ov_i m)]) (st2 := [ov_r 90]) (pc2 := 51) b_303_50_1 rfl rfl ?_
        refine ov_getf (v := ov_l (h26 90 43)) d_303_51 fl_Mo_461 (zb_90 I27) (zs_90 I27) rfl ?_
        refine ov_goto (tgt := 60) d_303_54 (by decide) ?_
        exact ov_retl (st := []) d_303_60 rfl ⟨_, rfl, I27, (by show (h26 90 2) = (h 90 2) ∧ (h26 90 7) = (h 90 7) ∧ (h26 90 8) = (h 90 8) ∧ (h26 90 13) = (h 90 13) ∧ (h26 90 20) = (h 90 20) ∧ (h26 90 22) = (h 90 22) ∧ (h26 90 25) = (h 90 25) ∧ (h26 90 26) = (h 90 26) ∧ (h26 90 28) = (h 90 28) ∧ (h26 90 29) = (h 90 29) ∧ (h26 90 30) = (h 90 30) ∧ (h26 90 34) = (h 90 34); omega), E28, E29, E30, E31, E32, E33, E34, E35, E36, E37, E38, E39, E40, E41, E42, E43⟩
    · skip
      refine ov_blk (ls2 := [(0, ov_r 90), (1, ov_i m)]) (st2 := [ov_r 90]) (pc2 := 38) b_303_37_1 rfl rfl ?_
      refine ov_getf (v := ov_l (h26 90 43)) d_303_38 fl_Mo_461 (zb_90 I27) (zs_90 I27) rfl ?_
      refine ov_blk (ls2 := [(0, ov_r 90), (1, ov_i m)]) (st2 := [ov_i (ov_lcmp (h26 90 43) 0)]) (pc2 := 43) b_303_41_2 rfl rfl ?_
      have g47 := ov_lcg (h26 90 43) 0
      refine ov_ifne (tgt := 61) d_303_43 (by decide) (by omega) (fun c48 => ?_) (fun c48 => ?_)
      · skip
        refine ov_blk (ls2 := [(0, ov_r 90), (1, ov_i m)]) (st2 := [ov_i 1, ov_i m]) (pc2 := 63) b_303_61_2 rfl rfl ?_
        refine ov_icne (tgt := 72) d_303_63 (by decide) (by omega) (by omega) (fun c49 => ?_) (fun c49 => ?_)
        · skip
          refine ov_blk (ls2 := [(0, ov_r 90), (1, ov_i m), (2, ov_l 0), (4, ov_i 0)]) (st2 := []) (pc2 := 77) b_303_72_4 rfl rfl ?_
          have L53 : ∀ (n50 : Nat) (x2 : Int) (x4 : Int) (q52 : 0 ≤ x4 ∧ x4 ≤ 54), 54 - x4 < (n50 : Int) → ov_R u d ov_m303 77 [(0, ov_r 90), (1, ov_i m), (2, ov_l x2), (4, ov_i x4)] [] z25 h26 (P_Mo_fits_90 F z h m) := by
            intro n50
            induction n50 with
            | zero =>
              intro x2 x4 q52 hn54
              exact absurd hn54 (by omega)
            | succ n50 ih51 =>
              intro x2 x4 q52 hn54
              refine ov_blk (ls2 := [(0, ov_r 90), (1, ov_i m), (2, ov_l x2), (4, ov_i x4)]) (st2 := [ov_i 54, ov_i x4]) (pc2 := 81) b_303_77_2 rfl rfl ?_
              refine ov_icge (tgt := 176) d_303_81 (by decide) (by omega) (by omega) (fun c55 => ?_) (fun c55 => ?_)
              · skip
                refine ov_blk (ls2 := [(0, ov_r 90), (1, ov_i m), (2, ov_l x2), (4, ov_i x4)]) (st2 := [ov_l x2]) (pc2 := 177) b_303_176_1 rfl rfl ?_
                exact ov_retl (st := []) d_303_177 rfl ⟨_, rfl, I27, (by show (h26 90 2) = (h 90 2) ∧ (h26 90 7) = (h 90 7) ∧ (h26 90 8) = (h 90 8) ∧ (h26 90 13) = (h 90 13) ∧ (h26 90 20) = (h 90 20) ∧ (h26 90 22) = (h 90 22) ∧ (h26 90 25) = (h 90 25) ∧ (h26 90 26) = (h 90 26) ∧ (h26 90 28) = (h 90 28) ∧ (h26 90 29) = (h 90 29) ∧ (h26 90 30) = (h 90 30) ∧ (h26 90 34) = (h 90 34); omega), E28, E29, E30, E31, E32, E33, E34, E35, E36, E37, E38, E39, E40, E41, E42, E43⟩
              · skip
                refine ov_blk (ls2 := [(0, ov_r 90), (1, ov_i m), (2, ov_l x2), (4, ov_i x4)]) (st2 := [ov_r 90]) (pc2 := 85) b_303_84_1 rfl rfl ?_
                refine ov_getf (v := ov_l (h26 90 45)) d_303_85 fl_Mo_468 (zb_90 I27) (zs_90 I27) rfl ?_
                refine ov_blk (ls2 := [(0, ov_r 90), (1, ov_i m), (2, ov_l x2), (4, ov_i x4)]) (st2 := [ov_i (ov_lcmp (ov_land (ov_lshr (h26 90 45) x4) 1) 1)]) (pc2 := 95) b_303_88_6 rfl rfl ?_
                have g56 := ov_lcg (ov_land (ov_lshr (h26 90 45) x4) 1) 1
                refine ov_ifne (tgt := 130) d_303_95 (by decide) (by omega) (fun c57 => ?_) (fun c57 => ?_)
                · skip
                  refine ov_blk (ls2 := [(0, ov_r 90), (1, ov_i m), (2, ov_l x2), (4, ov_i x4), (5, ov_i 0)]) (st2 := [ov_i 0, ov_l x2]) (pc2 := 136) b_303_130_4 rfl rfl ?_
                  refine ov_ifeq (tgt := 167) d_303_136 (by decide) (by omega) (fun c58 => ?_) (fun c58 => ?_)
                  · skip
                    refine ov_blk (ls2 := [(0, ov_r 90), (1, ov_i m), (2, ov_l (ov_lor x2 0)), (4, ov_i (x4 + 1)), (5, ov_i 0)]) (st2 := []) (pc2 := 173) b_303_167_4 rfl rfl ?_
                    refine ov_goto (tgt := 77) d_303_173 (by decide) ?_
                    refine ov_sub (ls2 := [(0, ov_r 90), (1, ov_i m), (2, ov_l (ov_lor x2 0)), (4, ov_i (x4 + 1))]) (List.Sublist.subset (by repeat (first | exact List.Sublist.refl _ | apply List.Sublist.cons_cons | apply List.Sublist.cons))) ?_
                    exact ih51 (ov_lor x2 0) (x4 + 1) (by show 0 ≤ (x4 + 1) ∧ (x4 + 1) ≤ 54; omega) (by omega)
                  · omega
                · skip
                  refine ov_blk (ls2 := [(0, ov_r 90), (1, ov_i m), (2, ov_l x2), (4, ov_i x4)]) (st2 := [ov_i 6, ov_i x4]) (pc2 := 102) b_303_98_2 rfl rfl ?_
                  refine ov_idiv d_303_102 (by omega) (by omega) (by omega) ?_
                  have g59 := ov_td (a := x4) (b := 6) (by omega)
                  refine ov_blk (ls2 := [(0, ov_r 90), (1, ov_i m), (2, ov_l x2), (4, ov_i x4)]) (st2 := [ov_i 8, ov_i (Int.tdiv x4 6)]) (pc2 := 105) b_303_103_1 rfl rfl ?_
                  refine ov_icge (tgt := 112) d_303_105 (by decide) (by omega) (by omega) (fun c60 => ?_) (fun c60 => ?_)
                  · skip
                    refine ov_blk (ls2 := [(0, ov_r 90), (1, ov_i m), (2, ov_l x2), (4, ov_i x4)]) (st2 := [ov_i 2, ov_i m, ov_i 0]) (pc2 := 115) b_303_112_3 rfl rfl ?_
                    refine ov_icne (tgt := 122) d_303_115 (by decide) (by omega) (by omega) (fun c61 => ?_) (fun c61 => ?_)
                    · skip
                      refine ov_blk (ls2 := [(0, ov_r 90), (1, ov_i m), (2, ov_l x2), (4, ov_i x4)]) (st2 := [ov_i 0, ov_i 0]) (pc2 := 123) b_303_122_1 rfl rfl ?_
                      refine ov_icne (tgt := 130) d_303_123 (by decide) (by omega) (by omega) (fun c62 => ?_) (fun c62 => ?_)
                      · omega
                      · skip
                        refine ov_blk (ls2 := [(0, ov_r 90), (1, ov_i m), (2, ov_l x2), (4, ov_i x4)]) (st2 := [ov_i 1]) (pc2 := 127) b_303_126_1 rfl rfl ?_
                        refine ov_goto (tgt := 131) d_303_127 (by decide) ?_
                        refine ov_blk (ls2 := [(0, ov_r 90), (1, ov_i m), (2, ov_l x2), (4, ov_i x4), (5, ov_i 1)]) (st2 := [ov_i 1, ov_l x2]) (pc2 := 136) b_303_131_3 rfl rfl ?_
                        refine ov_ifeq (tgt := 167) d_303_136 (by decide) (by omega) (fun c63 => ?_) (fun c63 => ?_)
                        · omega
                        · skip
                          refine ov_blk (ls2 := [(0, ov_r 90), (1, ov_i m), (2, ov_l x2), (4, ov_i x4), (5, ov_i 1)]) (st2 := [ov_i 2, ov_i m, ov_l 1, ov_l x2]) (pc2 := 142) b_303_139_3 rfl rfl ?_
                          refine ov_icne (tgt := 156) d_303_142 (by decide) (by omega) (by omega) (fun c64 => ?_) (fun c64 => ?_)
                          · skip
                            refine ov_blk (ls2 := [(0, ov_r 90), (1, ov_i m), (2, ov_l x2), (4, ov_i x4), (5, ov_i 1)]) (st2 := [ov_i 6, ov_i x4, ov_i 0, ov_l 1, ov_l x2]) (pc2 := 161) b_303_156_3 rfl rfl ?_
                            refine ov_irem d_303_161 (by omega) (by omega) (by omega) ?_
                            have g65 := ov_tm (a := x4) (b := 6) (by omega)
                            have g66 := ov_tmg (a := x4) (b := 6) (by omega) (by omega)
                            refine ov_blk (ls2 := [(0, ov_r 90), (1, ov_i m), (2, ov_l x2), (4, ov_i x4), (5, ov_i 1)]) (st2 := [ov_l (ov_lshl 1 (0 + (Int.tmod x4 6))), ov_l x2]) (pc2 := 164) b_303_162_2 rfl rfl ?_
                            refine ov_goto (tgt := 168) d_303_164 (by decide) ?_
                            refine ov_blk (ls2 := [(0, ov_r 90), (1, ov_i m), (2, ov_l (ov_lor x2 (ov_lshl 1 (0 + (Int.tmod x4 6))))), (4, ov_i (x4 + 1)), (5, ov_i 1)]) (st2 := []) (pc2 := 173) b_303_168_3 rfl rfl ?_
                            refine ov_goto (tgt := 77) d_303_173 (by decide) ?_
                            refine ov_sub (ls2 := [(0, ov_r 90), (1, ov_i m), (2, ov_l (ov_lor x2 (ov_lshl 1 (0 + (Int.tmod x4 6))))), (4, ov_i (x4 + 1))]) (List.Sublist.subset (by repeat (first | exact List.Sublist.refl _ | apply List.Sublist.cons_cons | apply List.Sublist.cons))) ?_
                            exact ih51 (ov_lor x2 (ov_lshl 1 (0 + (Int.tmod x4 6)))) (x4 + 1) (by show 0 ≤ (x4 + 1) ∧ (x4 + 1) ≤ 54; omega) (by omega)
                          · omega
                    · skip
                      refine ov_blk (ls2 := [(0, ov_r 90), (1, ov_i m), (2, ov_l x2), (4, ov_i x4)]) (st2 := [ov_i 1, ov_i 0]) (pc2 := 119) b_303_118_1 rfl rfl ?_
                      refine ov_goto (tgt := 123) d_303_119 (by decide) ?_
                      refine ov_icne (tgt := 130) d_303_123 (by decide) (by omega) (by omega) (fun c67 => ?_) (fun c67 => ?_)
                      · skip
                        refine ov_blk (ls2 := [(0, ov_r 90), (1, ov_i m), (2, ov_l x2), (4, ov_i x4), (5, ov_i 0)]) (st2 := [ov_i 0, ov_l x2]) (pc2 := 136) b_303_130_4 rfl rfl ?_
                        refine ov_ifeq (tgt := 167) d_303_136 (by decide) (by omega) (fun c68 => ?_) (fun c68 => ?_)
                        · skip
                          refine ov_blk (ls2 := [(0, ov_r 90), (1, ov_i m), (2, ov_l (ov_lor x2 0)), (4, ov_i (x4 + 1)), (5, ov_i 0)]) (st2 := []) (pc2 := 173) b_303_167_4 rfl rfl ?_
                          refine ov_goto (tgt := 77) d_303_173 (by decide) ?_
                          refine ov_sub (ls2 := [(0, ov_r 90), (1, ov_i m), (2, ov_l (ov_lor x2 0)), (4, ov_i (x4 + 1))]) (List.Sublist.subset (by repeat (first | exact List.Sublist.refl _ | apply List.Sublist.cons_cons | apply List.Sublist.cons))) ?_
                          exact ih51 (ov_lor x2 0) (x4 + 1) (by show 0 ≤ (x4 + 1) ∧ (x4 + 1) ≤ 54; omega) (by omega)
                        · omega
                      · omega
                  · skip
                    refine ov_blk (ls2 := [(0, ov_r 90), (1, ov_i m), (2, ov_l x2), (4, ov_i x4)]) (st2 := [ov_i 1]) (pc2 := 109) b_303_108_1 rfl rfl ?_
                    refine ov_goto (tgt := 113) d_303_109 (by decide) ?_
                    refine ov_blk (ls2 := [(0, ov_r 90), (1, ov_i m), (2, ov_l x2), (4, ov_i x4)]) (st2 := [ov_i 2, ov_i m, ov_i 1]) (pc2 := 115) b_303_113_2 rfl rfl ?_
                    refine ov_icne (tgt := 122) d_303_115 (by decide) (by omega) (by omega) (fun c69 => ?_) (fun c69 => ?_)
                    · skip
                      refine ov_blk (ls2 := [(0, ov_r 90), (1, ov_i m), (2, ov_l x2), (4, ov_i x4)]) (st2 := [ov_i 0, ov_i 1]) (pc2 := 123) b_303_122_1 rfl rfl ?_
                      refine ov_icne (tgt := 130) d_303_123 (by decide) (by omega) (by omega) (fun c70 => ?_) (fun c70 => ?_)
                      · skip
                        refine ov_blk (ls2 := [(0, ov_r 90), (1, ov_i m), (2, ov_l x2), (4, ov_i x4), (5, ov_i 0)]) (st2 := [ov_i 0, ov_l x2]) (pc2 := 136) b_303_130_4 rfl rfl ?_
                        refine ov_ifeq (tgt := 167) d_303_136 (by decide) (by omega) (fun c71 => ?_) (fun c71 => ?_)
                        · skip
                          refine ov_blk (ls2 := [(0, ov_r 90), (1, ov_i m), (2, ov_l (ov_lor x2 0)), (4, ov_i (x4 + 1)), (5, ov_i 0)]) (st2 := []) (pc2 := 173) b_303_167_4 rfl rfl ?_
                          refine ov_goto (tgt := 77) d_303_173 (by decide) ?_
                          refine ov_sub (ls2 := [(0, ov_r 90), (1, ov_i m), (2, ov_l (ov_lor x2 0)), (4, ov_i (x4 + 1))]) (List.Sublist.subset (by repeat (first | exact List.Sublist.refl _ | apply List.Sublist.cons_cons | apply List.Sublist.cons))) ?_
                          exact ih51 (ov_lor x2 0) (x4 + 1) (by show 0 ≤ (x4 + 1) ∧ (x4 + 1) ≤ 54; omega) (by omega)
                        · omega
                      · omega
                    · skip
                      refine ov_blk (ls2 := [(0, ov_r 90), (1, ov_i m), (2, ov_l x2), (4, ov_i x4)]) (st2 := [ov_i 1, ov_i 1]) (pc2 := 119) b_303_118_1 rfl rfl ?_
                      refine ov_goto (tgt := 123) d_303_119 (by decide) ?_
                      refine ov_icne (tgt := 130) d_303_123 (by decide) (by omega) (by omega) (fun c72 => ?_) (fun c72 => ?_)
                      · omega
                      · skip
                        refine ov_blk (ls2 := [(0, ov_r 90), (1, ov_i m), (2, ov_l x2), (4, ov_i x4)]) (st2 := [ov_i 1]) (pc2 := 127) b_303_126_1 rfl rfl ?_
                        refine ov_goto (tgt := 131) d_303_127 (by decide) ?_
                        refine ov_blk (ls2 := [(0, ov_r 90), (1, ov_i m), (2, ov_l x2), (4, ov_i x4), (5, ov_i 1)]) (st2 := [ov_i 1, ov_l x2]) (pc2 := 136) b_303_131_3 rfl rfl ?_
                        refine ov_ifeq (tgt := 167) d_303_136 (by decide) (by omega) (fun c73 => ?_) (fun c73 => ?_)
                        · omega
                        · skip
                          refine ov_blk (ls2 := [(0, ov_r 90), (1, ov_i m), (2, ov_l x2), (4, ov_i x4), (5, ov_i 1)]) (st2 := [ov_i 2, ov_i m, ov_l 1, ov_l x2]) (pc2 := 142) b_303_139_3 rfl rfl ?_
                          refine ov_icne (tgt := 156) d_303_142 (by decide) (by omega) (by omega) (fun c74 => ?_) (fun c74 => ?_)
                          · omega
                          · skip
                            refine ov_blk (ls2 := [(0, ov_r 90), (1, ov_i m), (2, ov_l x2), (4, ov_i x4), (5, ov_i 1)]) (st2 := [ov_i 6, ov_i x4, ov_i 8, ov_l 1, ov_l x2]) (pc2 := 151) b_303_145_3 rfl rfl ?_
                            refine ov_idiv d_303_151 (by omega) (by omega) (by omega) ?_
                            have g75 := ov_td (a := x4) (b := 6) (by omega)
                            refine ov_blk (ls2 := [(0, ov_r 90), (1, ov_i m), (2, ov_l x2), (4, ov_i x4), (5, ov_i 1)]) (st2 := [ov_i (8 * (Int.tdiv x4 6)), ov_l 1, ov_l x2]) (pc2 := 153) b_303_152_1 rfl rfl ?_
                            refine ov_goto (tgt := 157) d_303_153 (by decide) ?_
                            refine ov_blk (ls2 := [(0, ov_r 90), (1, ov_i m), (2, ov_l x2), (4, ov_i x4), (5, ov_i 1)]) (st2 := [ov_i 6, ov_i x4, ov_i (8 * (Int.tdiv x4 6)), ov_l 1, ov_l x2]) (pc2 := 161) b_303_157_2 rfl rfl ?_
                            refine ov_irem d_303_161 (by omega) (by omega) (by omega) ?_
                            have g76 := ov_tm (a := x4) (b := 6) (by omega)
                            have g77 := ov_tmg (a := x4) (b := 6) (by omega) (by omega)
                            refine ov_blk (ls2 := [(0, ov_r 90), (1, ov_i m), (2, ov_l x2), (4, ov_i x4), (5, ov_i 1)]) (st2 := [ov_l (ov_lshl 1 ((8 * (Int.tdiv x4 6)) + (Int.tmod x4 6))), ov_l x2]) (pc2 := 164) b_303_162_2 rfl rfl ?_
                            refine ov_goto (tgt := 168) d_303_164 (by decide) ?_
                            refine ov_blk (ls2 := [(0, ov_r 90), (1, ov_i m), (2, ov_l (ov_lor x2 (ov_lshl 1 ((8 * (Int.tdiv x4 6)) + (Int.tmod x4 6))))), (4, ov_i (x4 + 1)), (5, ov_i 1)]) (st2 := []) (pc2 := 173) b_303_168_3 rfl rfl ?_
                            refine ov_goto (tgt := 77) d_303_173 (by decide) ?_
                            refine ov_sub (ls2 := [(0, ov_r 90), (1, ov_i m), (2, ov_l (ov_lor x2 (ov_lshl 1 ((8 * (Int.tdiv x4 6)) + (Int.tmod x4 6))))), (4, ov_i (x4 + 1))]) (List.Sublist.subset (by repeat (first | exact List.Sublist.refl _ | apply List.Sublist.cons_cons | apply List.Sublist.cons))) ?_
                            exact ih51 (ov_lor x2 (ov_lshl 1 ((8 * (Int.tdiv x4 6)) + (Int.tmod x4 6)))) (x4 + 1) (by show 0 ≤ (x4 + 1) ∧ (x4 + 1) ≤ 54; omega) (by omega)
          exact L53 55 0 0 (by show 0 ≤ 0 ∧ 0 ≤ 54; omega) (by omega)
        · skip
          refine ov_blk (ls2 := [(0, ov_r 90), (1, ov_i m)]) (st2 := [ov_r 90]) (pc2 := 67) b_303_66_1 rfl rfl ?_
          refine ov_getf (v := ov_i (h26 90 44)) d_303_67 fl_Mo_465 (zb_90 I27) (zs_90 I27) rfl ?_
          have g78 := rg_90_44 I27
          refine ov_blk (ls2 := [(0, ov_r 90), (1, ov_i m)]) (st2 := [ov_l (ov_w (h26 90 44))]) (pc2 := 71) b_303_70_1 rfl rfl ?_
          have g79 := ov_wg (h26 90 44)
          have g80 := ov_wq (h26 90 44)
          exact ov_retl (st := []) d_303_71 rfl ⟨_, rfl, I27, (by show (h26 90 2) = (h 90 2) ∧ (h26 90 7) = (h 90 7) ∧ (h26 90 8) = (h 90 8) ∧ (h26 90 13) = (h 90 13) ∧ (h26 90 20) = (h 90 20) ∧ (h26 90 22) = (h 90 22) ∧ (h26 90 25) = (h 90 25) ∧ (h26 90 26) = (h 90 26) ∧ (h26 90 28) = (h 90 28) ∧ (h26 90 29) = (h 90 29) ∧ (h26 90 30) = (h 90 30) ∧ (h26 90 34) = (h 90 34); omega), E28, E29, E30, E31, E32, E33, E34, E35, E36, E37, E38, E39, E40, E41, E42, E43⟩
      · skip
        refine ov_blk (ls2 := [(0, ov_r 90), (1, ov_i m)]) (st2 := [ov_i m]) (pc2 := 47) b_303_46_1 rfl rfl ?_
        refine ov_ifne (tgt := 57) d_303_47 (by decide) (by omega) (fun c81 => ?_) (fun c81 => ?_)
        · skip
          refine ov_ldc2 (n := (-1)) d_303_57 kc_Mo_433 ?_
          exact ov_retl (st := []) d_303_60 rfl ⟨_, rfl, I27, (by show (h26 90 2) = (h 90 2) ∧ (h26 90 7) = (h 90 7) ∧ (h26 90 8) = (h 90 8) ∧ (h26 90 13) = (h 90 13) ∧ (h26 90 20) = (h 90 20) ∧ (h26 90 22) = (h 90 22) ∧ (h26 90 25) = (h 90 25) ∧ (h26 90 26) = (h 90 26) ∧ (h26 90 28) = (h 90 28) ∧ (h26 90 29) = (h 90 29) ∧ (h26 90 30) = (h 90 30) ∧ (h26 90 34) = (h 90 34); omega), E28, E29, E30, E31, E32, E33, E34, E35, E36, E37, E38, E39, E40, E41, E42, E43⟩
        · omega
  · skip
    have f4_ : v3 = 0 := by omega
    have f82 : m < (0 : Int) ∨ (3 : Int) < m := f4.2.2 (by omega)
    clear f4
    refine ov_ldc2 (n := (-1)) d_303_14 kc_Mo_433 ?_
    exact ov_retl (st := []) d_303_17 rfl ⟨_, rfl, I1, ⟨rfl, rfl, rfl, rfl, rfl, rfl, rfl, rfl, rfl, rfl, rfl, rfl⟩, rfl, rfl, rfl, rfl, rfl, rfl, rfl, rfl, rfl, rfl, rfl, rfl, rfl, rfl, rfl, rfl⟩

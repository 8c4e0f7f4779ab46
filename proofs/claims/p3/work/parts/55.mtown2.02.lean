abbrev P_Mo_walk_90 (F : ov_H × ov_Z) (z : ov_Z) (h : ov_H) : Option ov_V → ov_Z → ov_H → Prop := fun r0 z' h' => ∃ r : Int, r0 = some (ov_i r) ∧ ov_N F z' h' ∧ ((h' 90 13) = (h 90 13) ∧ (h' 90 20) = (h 90 20) ∧ (h' 90 22) = (h 90 22) ∧ (h' 90 25) = (h 90 25) ∧ (h' 90 26) = (h 90 26) ∧ (h' 90 28) = (h 90 28) ∧ (h' 90 29) = (h 90 29) ∧ (h' 90 30) = (h 90 30) ∧ (h' 90 34) = (h 90 34) ∧ 0 ≤ r ∧ r ≤ 16005 ∧ (h' 90 2) = 0) ∧ h' 91 = h 91 ∧ h' 95 = h 95 ∧ h' 96 = h 96 ∧ h' 97 = h 97 ∧ h' 98 = h 98 ∧ h' 99 = h 99 ∧ h' 103 = h 103 ∧ h' 105 = h 105 ∧ h' 106 = h 106 ∧ h' 109 = h 109 ∧ h' 114 = h 114 ∧ (ov_WK (h 100) → ov_WK (h' 100))
set_option maxHeartbeats 4000000 in
theorem c_Mo_walk_90 {u : ov_U} {F : ov_H × ov_Z} {z : ov_Z} {h : ov_H} (d : Nat) (hd : 40 ≤ d) (U : ov_cap u) (I : ov_N F z h) : ov_T u d ov_m234 [ov_r 90] z h (P_Mo_walk_90 F z h) := by
  refine ov_en rfl (Nat.le_of_ble_eq_true rfl) ?_
  show ov_R u d ov_m234 0 [(0, ov_r 90)] [] z h (P_Mo_walk_90 F z h)
  have w0 := s100_0 I
  refine ov_blk (ls2 := [(0, ov_r 90)]) (st2 := [ov_i 0, ov_r 90]) (pc2 := 2) b_234_0_2 rfl rfl ?_
  refine ov_putf (x := 0) d_234_2 fl_Mo_1 (zb_90 I) (zs_90 I) rfl nk_0 rfl ?_
  have I1 := up_90_0 (x := 0) I (by omega)
  refine ov_blk (ls2 := [(0, ov_r 90)]) (st2 := [ov_r 90]) (pc2 := 6) b_234_5_1 rfl rfl ?_
  refine ov_cV (as := []) (st := []) (d2 := d - 1) d_234_6 lk_Mo_205 rfl (Nat.le_of_ble_eq_true rfl) (c := 1) (zb_90 I1) (zs_90 I1) ⟨by decide, rfl⟩ (by omega) (c_Mo_cutAll_90 (d - 1) (by omega) U I1) ?_
  rintro _ z16 h17 ⟨rfl, I18, f2, e3, e4, e5, e6, e7, e8, e9, e10, e11, e12, e13, e14, y15⟩
  have E19 : h17 91 = h 91 := e3
  have E20 : h17 95 = h 95 := e4
  have E21 : h17 96 = h 96 := e5
  have E22 : h17 97 = h 97 := e6
  have E23 : h17 98 = h 98 := e7
  have E24 : h17 99 = h 99 := e8
  have E25 : h17 100 = h 100 := e9
  have E26 : h17 103 = h 103 := e10
  have E27 : h17 105 = h 105 := e11
  have E28 : h17 106 = h 106 := e12
  have E29 : h17 109 = h 109 := e13
  have E30 : h17 114 = h 114 := e14
  show ov_R u d ov_m234 9 [(0, ov_r 90)] [] z16 h17 (P_Mo_walk_90 F z h)
  have f31 : (h17 90 13) = (h 90 13) ∧ (h17 90 20) = (h 90 20) ∧ (h17 90 22) = (h 90 22) ∧ (h17 90 25) = (h 90 25) ∧ (h17 90 26) = (h 90 26) ∧ (h17 90 28) = (h 90 28) ∧ (h17 90 29) = (h 90 29) ∧ (h17 90 30) = (h 90 30) ∧ (h17 90 34) = (h 90 34) ∧ (h17 90 7) = 0 ∧ (h17 90 8) = 0 ∧ (h17 90 2) = 0 := f2
  clear f2
  have y15_ : ∃ n : Int, 0 ≤ n ∧ n ≤ 1000 ∧ (h17 92) n = 0 := y15
  obtain ⟨n, hn0, hn1, hn2⟩ := y15_
  have z0 : ov_sx (ov_tw (h17 100)) (Int.toNat 0) = 0 := rfl
  have t0 := t96_0 I
  have t1 := t96_1 I
  refine ov_blk (ls2 := [(0, ov_r 90), (1, ov_i 0), (2, ov_i 0), (3, ov_i 0)]) (st2 := []) (pc2 := 15) b_234_9_6 rfl rfl ?_
  have L35 : ∀ (n32 : Nat) (x1 : Int) (x2 : Int) (x3 : Int) (z36 : ov_Z) (h37 : ov_H) (I38 : ov_N F z36 h37) (E39 : h37 91 = h 91) (E40 : h37 92 = h17 92) (E41 : h37 93 = h17 93) (E42 : h37 94 = h17 94) (E43 : h37 95 = h 95) (E44 : h37 96 = h 96) (E45 : h37 97 = h 97) (E46 : h37 98 = h 98) (E47 : h37 99 = h 99) (E48 : h37 103 = h 103) (E49 : h37 105 = h 105) (E50 : h37 106 = h 106) (E51 : h37 109 = h 109) (E52 : h37 114 = h 114) (xo : ∀ j : Int, j < 30 → (h37 100) j = (h 100) j) (q34 : 0 ≤ x1 ∧ x1 ≤ 13 ∧ 0 ≤ x2 ∧ x2 ≤ 5 ∧ 0 ≤ x3 ∧ x3 ≤ 8 ∧ x2 = ov_sx (ov_tw (h37 100)) (Int.toNat x1) ∧ x3 = x1 - x2 ∧ x2 < (h 96 0) ∧ x3 < (h 96 1) ∧ 0 ≤ (h37 90 7) ∧ (h37 90 7) ≤ n ∧ (h37 90 2) = (h17 90 2) ∧ (h37 90 13) = (h17 90 13) ∧ (h37 90 20) = (h17 90 20) ∧ (h37 90 22) = (h17 90 22) ∧ (h37 90 25) = (h17 90 25) ∧ (h37 90 26) = (h17 90 26) ∧ (h37 90 28) = (h17 90 28) ∧ (h37 90 29) = (h17 90 29) ∧ (h37 90 30) = (h17 90 30) ∧ (h37 90 34) = (h17 90 34)), 1001 - (h37 90 7) - min ((h37 90 8)) 1 < (n32 : Int) → ov_R u d ov_m234 15 [(0, ov_r 90), (1, ov_i x1), (2, ov_i x2), (3, ov_i x3)] [] z36 h37 (P_Mo_walk_90 F z h) := by
    intro n32
    induction n32 with
    | zero =>
      intro x1 x2 x3 z36 h37 I38 E39 E40 E41 E42 E43 E44 E45 E46 E47 E48 E49 E50 E51 E52 xo q34 hn53
      exact absurd hn53 (by omega)
    | succ n32 ih33 =>
      intro x1 x2 x3 z36 h37 I38 E39 E40 E41 E42 E43 E44 E45 E46 E47 E48 E49 E50 E51 E52 xo q34 hn53
      refine ov_blk (ls2 := [(0, ov_r 90), (1, ov_i x1), (2, ov_i x2), (3, ov_i x3)]) (st2 := [ov_r 90]) (pc2 := 16) b_234_15_1 rfl rfl ?_
      refine ov_getf (v := ov_i (h37 90 8)) d_234_16 fl_Mo_180 (zb_90 I38) (zs_90 I38) rfl ?_
      have g54 := rg_90_8 I38
      refine ov_ifne (tgt := 170) d_234_19 (by decide) (by omega) (fun c55 => ?_) (fun c55 => ?_)
      · skip
        refine ov_blk (ls2 := [(0, ov_r 90), (1, ov_i x1), (2, ov_i x2), (3, ov_i x3)]) (st2 := [ov_r 90]) (pc2 := 171) b_234_170_1 rfl rfl ?_
        refine ov_getf (v := ov_i (h37 90 8)) d_234_171 fl_Mo_180 (zb_90 I38) (zs_90 I38) rfl ?_
        refine ov_ifle (tgt := 182) d_234_174 (by decide) (by omega) (fun c57 => ?_) (fun c57 => ?_)
        · omega
        · skip
          refine ov_blk (ls2 := [(0, ov_r 90), (1, ov_i x1), (2, ov_i x2), (3, ov_i x3)]) (st2 := [ov_r 90]) (pc2 := 178) b_234_177_1 rfl rfl ?_
          refine ov_getf (v := ov_i (h37 90 8)) d_234_178 fl_Mo_180 (zb_90 I38) (zs_90 I38) rfl ?_
          exact ov_reti (st := []) d_234_181 rfl ⟨_, rfl, I38, (by show (h37 90 13) = (h 90 13) ∧ (h37 90 20) = (h 90 20) ∧ (h37 90 22) = (h 90 22) ∧ (h37 90 25) = (h 90 25) ∧ (h37 90 26) = (h 90 26) ∧ (h37 90 28) = (h 90 28) ∧ (h37 90 29) = (h 90 29) ∧ (h37 90 30) = (h 90 30) ∧ (h37 90 34) = (h 90 34) ∧ 0 ≤ (h37 90 8) ∧ (h37 90 8) ≤ 16005 ∧ (h37 90 2) = 0; omega), E39, E43, E44, E45, E46, E47, E48, E49, E50, E51, E52, (fun w => by show ov_WK (h37 100); exact ov_WK_o w (by omega) xo)⟩
      · skip
        refine ov_blk (ls2 := [(0, ov_r 90), (1, ov_i x1), (2, ov_i x2), (3, ov_i x3)]) (st2 := [ov_r 90]) (pc2 := 23) b_234_22_1 rfl rfl ?_
        refine ov_getf (v := ov_r 92) d_234_23 fl_Mo_24 (zb_90 I38) (zs_90 I38) (congrArg ov_r (rg_90_4 I38)) ?_
        refine ov_blk (ls2 := [(0, ov_r 90), (1, ov_i x1), (2, ov_i x2), (3, ov_i x3)]) (st2 := [ov_r 90, ov_r 92]) (pc2 := 27) b_234_26_1 rfl rfl ?_
        refine ov_getf (v := ov_i (h37 90 7)) d_234_27 fl_Mo_177 (zb_90 I38) (zs_90 I38) rfl ?_
        have g59 := rg_90_7 I38
        refine ov_iald d_234_30 (zb_92 I38) (zs_92 I38) (by omega) ?_
        rw [show h37 92 = h17 92 from E40]
        have g60 := ra_92 I18 (h37 90 7)
        refine ov_ifeq (tgt := 170) d_234_31 (by decide) (by omega) (fun c61 => ?_) (fun c61 => ?_)
        · skip
          refine ov_blk (ls2 := [(0, ov_r 90), (1, ov_i x1), (2, ov_i x2), (3, ov_i x3)]) (st2 := [ov_r 90]) (pc2 := 171) b_234_170_1 rfl rfl ?_
          refine ov_getf (v := ov_i (h37 90 8)) d_234_171 fl_Mo_180 (zb_90 I38) (zs_90 I38) rfl ?_
          refine ov_ifle (tgt := 182) d_234_174 (by decide) (by omega) (fun c63 => ?_) (fun c63 => ?_)
          · skip
            refine ov_blk (ls2 := [(0, ov_r 90), (1, ov_i x1), (2, ov_i x2), (3, ov_i x3)]) (st2 := [ov_r 90]) (pc2 := 183) b_234_182_1 rfl rfl ?_
            refine ov_getf (v := ov_r 100) d_234_183 fl_Mo_93 (zb_90 I38) (zs_90 I38) (congrArg ov_r (rg_90_16 I38)) ?_
            refine ov_blk (ls2 := [(0, ov_r 90), (1, ov_i x1), (2, ov_i x2), (3, ov_i x3)]) (st2 := [ov_i x1, ov_i 0, ov_r 100]) (pc2 := 188) b_234_186_2 rfl rfl ?_
            refine ov_iast d_234_188 (zb_100 I38) (zs_100 I38) (by omega) ?_
            have I64 := ua_100 (k := 0) (x := x1) I38 (by refine ⟨?_, ?_, ?_, ?_⟩ <;> omega)
            refine ov_blk (ls2 := [(0, ov_r 90), (1, ov_i x1), (2, ov_i x2), (3, ov_i x3), (4, ov_i 0)]) (st2 := []) (pc2 := 192) b_234_189_2 rfl rfl ?_
            have L68 : ∀ (n65 : Nat) (x4 : Int) (z69 : ov_Z) (h70 : ov_H) (I71 : ov_N F z69 h70) (E72 : h70 91 = h 91) (E73 : h70 92 = h17 92) (E74 : h70 93 = h17 93) (E75 : h70 94 = h17 94) (E76 : h70 95 = h 95) (E77 : h70 96 = h 96) (E78 : h70 97 = h 97) (E79 : h70 98 = h 98) (E80 : h70 99 = h 99) (E81 : h70 103 = h 103) (E82 : h70 105 = h 105) (E83 : h70 106 = h 106) (E84 : h70 109 = h 109) (E85 : h70 114 = h 114) (xk : ∀ j : Int, 0 ≤ j → j < x4 → (h70 100) (1 + j) = h37 100 (30 + j)) (xl : ∀ j : Int, 30 ≤ j → (h70 100) j = h37 100 j) (q67 : 0 ≤ x4 ∧ x4 ≤ 26 ∧ (h70 100 0) = x1 ∧ (h70 90 2) = (h37 90 2) ∧ (h70 90 7) = (h37 90 7) ∧ (h70 90 8) = (h37 90 8) ∧ (h70 90 13) = (h37 90 13) ∧ (h70 90 20) = (h37 90 20) ∧ (h70 90 22) = (h37 90 22) ∧ (h70 90 25) = (h37 90 25) ∧ (h70 90 26) = (h37 90 26) ∧ (h70 90 28) = (h37 90 28) ∧ (h70 90 29) = (h37 90 29) ∧ (h70 90 30) = (h37 90 30) ∧ (h70 90 34) = (h37 90 34)), 26 - x4 < (n65 : Int) → ov_R u d ov_m234 192 [(0, ov_r 90), (1, ov_i x1), (2, ov_i x2), (3, ov_i x3), (4, ov_i x4)] [] z69 h70 (P_Mo_walk_90 F z h) := by
              intro n65
              induction n65 with
              | zero =>
                intro x4 z69 h70 I71 E72 E73 E74 E75 E76 E77 E78 E79 E80 E81 E82 E83 E84 E85 xk xl q67 hn86
                exact absurd hn86 (by omega)
              | succ n65 ih66 =>
                intro x4 z69 h70 I71 E72 E73 E74 E75 E76 E77 E78 E79 E80 E81 E82 E83 E84 E85 xk xl q67 hn86
                refine ov_blk (ls2 := [(0, ov_r 90), (1, ov_i x1), (2, ov_i x2), (3, ov_i x3), (4, ov_i x4)]) (st2 := [ov_i (2 * x1), ov_i x4]) (pc2 := 197) b_234_192_4 rfl rfl ?_
                refine ov_icge (tgt := 225) d_234_197 (by decide) (by omega) (by omega) (fun c87 => ?_) (fun c87 => ?_)
                · skip
                  refine ov_blk (ls2 := [(0, ov_r 90), (1, ov_i x1), (2, ov_i x2), (3, ov_i x3), (4, ov_i x4)]) (st2 := [ov_i 0]) (pc2 := 226) b_234_225_1 rfl rfl ?_
                  exact ov_reti (st := []) d_234_226 rfl ⟨_, rfl, I71, (by show (h70 90 13) = (h 90 13) ∧ (h70 90 20) = (h 90 20) ∧ (h70 90 22) = (h 90 22) ∧ (h70 90 25) = (h 90 25) ∧ (h70 90 26) = (h 90 26) ∧ (h70 90 28) = (h 90 28) ∧ (h70 90 29) = (h 90 29) ∧ (h70 90 30) = (h 90 30) ∧ (h70 90 34) = (h 90 34) ∧ 0 ≤ 0 ∧ 0 ≤ 16005 ∧ (h70 90 2) = 0; omega), E72, E76, E77, E78, E79, E80, E81, E82, E83, E84, E85, (fun w => ov_WK_of (f := h37 100) (n := x1) (by omega) (by show (h70 100 0) = _; omega) (by omega) (fun j a b => xk j a (by omega)))⟩
                · skip
                  have gw := ra_100 I71 (30 + x4)
                  have g0 : h70 100 0 = h70 100 0 := rfl
                  refine ov_blk (ls2 := [(0, ov_r 90), (1, ov_i x1), (2, ov_i x2), (3, ov_i x3), (4, ov_i x4)]) (st2 := [ov_r 90]) (pc2 := 201) b_234_200_1 rfl rfl ?_
                  refine ov_getf (v := ov_r 100) d_234_201 fl_Mo_93 (zb_90 I71) (zs_90 I71) (congrArg ov_r (rg_90_16 I71)) ?_
                  refine ov_blk (ls2 := [(0, ov_r 90), (1, ov_i x1), (2, ov_i x2), (3, ov_i x3), (4, ov_i x4)]) (st2 := [ov_r 90, ov_i (1 + x4), ov_r 100]) (pc2 := 209) b_234_204_4 rfl rfl ?_
                  refine ov_getf (v := ov_r 100) d_234_209 fl_Mo_93 (zb_90 I71) (zs_90 I71) (congrArg ov_r (rg_90_16 I71)) ?_
                  refine ov_blk (ls2 := [(0, ov_r 90), (1, ov_i x1), (2, ov_i x2), (3, ov_i x3), (4, ov_i x4)]) (st2 := [ov_i (30 + x4), ov_r 100, ov_i (1 + x4), ov_r 100]) (pc2 := 217) b_234_212_3 rfl rfl ?_
                  refine ov_iald d_234_217 (zb_100 I71) (zs_100 I71) (by omega) ?_
                  have g88 := s100_g I71 (30 + x4)
                  refine ov_iast d_234_218 (zb_100 I71) (zs_100 I71) (by omega) ?_
                  have I89 := ua_100 (k := (1 + x4)) (x := (h70 100 (30 + x4))) I71 (by refine ⟨?_, ?_, ?_, ?_⟩ <;> omega)
                  have gh : ((ov_up h70 100 (1 + x4) (h70 100 (30 + x4))) 100 0) = h70 100 0 := by rw [ov_up_j (by omega)]
                  refine ov_blk (ls2 := [(0, ov_r 90), (1, ov_i x1), (2, ov_i x2), (3, ov_i x3), (4, ov_i (x4 + 1))]) (st2 := []) (pc2 := 222) b_234_219_1 rfl rfl ?_
                  refine ov_goto (tgt := 192) d_234_222 (by decide) ?_
                  exact ih66 (x4 + 1) _ _ I89 E72 E73 E74 E75 E76 E77 E78 E79 E80 E81 E82 E83 E84 E85 (fun j a b => if e : j = x4 then (by rw [e, ov_up_row, ov_rs_eq]; exact xl _ (by omega)) else (by rw [ov_up_j (by omega)]; exact xk j a (by omega))) (fun j a => by rw [ov_up_j (by omega)]; exact xl j a) (by show 0 ≤ (x4 + 1) ∧ (x4 + 1) ≤ 26 ∧ ((ov_up h70 100 (1 + x4) (h70 100 (30 + x4))) 100 0) = x1 ∧ (h70 90 2) = (h37 90 2) ∧ (h70 90 7) = (h37 90 7) ∧ (h70 90 8) = (h37 90 8) ∧ (h70 90 13) = (h37 90 13) ∧ (h70 90 20) = (h37 90 20) ∧ (h70 90 22) = (h37 90 22) ∧ (h70 90 25) = (h37 90 25) ∧ (h70 90 26) = (h37 90 26) ∧ (h70 90 28) = (h37 90 28) ∧ (h70 90 29) = (h37 90 29) ∧ (h70 90 30) = (h37 90 30) ∧ (h70 90 34) = (h37 90 34); omega) (by omega)
            exact L68 27 0 _ _ I64 E39 E40 E41 E42 E43 E44 E45 E46 E47 E48 E49 E50 E51 E52 (fun j a b => by omega) (fun j a => by rw [ov_up_j (by omega)]) (by show 0 ≤ 0 ∧ 0 ≤ 26 ∧ x1 = x1 ∧ (h37 90 2) = (h37 90 2) ∧ (h37 90 7) = (h37 90 7) ∧ (h37 90 8) = (h37 90 8) ∧ (h37 90 13) = (h37 90 13) ∧ (h37 90 20) = (h37 90 20) ∧ (h37 90 22) = (h37 90 22) ∧ (h37 90 25) = (h37 90 25) ∧ (h37 90 26) = (h37 90 26) ∧ (h37 90 28) = (h37 90 28) ∧ (h37 90 29) = (h37 90 29) ∧ (h37 90 30) = (h37 90 30) ∧ (h37 90 34) = (h37 90 34); omega) (by omega)
          · omega
        · skip
          have qn : (h37 90 7) = n → h17 92 (h37 90 7) = h17 92 n := fun e => by rw [e]
          have t0 := t96_0 I
          have t1 := t96_1 I
          refine ov_blk (ls2 := [(0, ov_r 90), (1, ov_i x1), (2, ov_i x2), (3, ov_i x3)]) (st2 := [ov_i 2, ov_i 10, ov_r 90]) (pc2 := 38) b_234_34_3 rfl rfl ?_
          have cf90 : h37 92 (n) = h17 92 (n) := congrFun E40 (n)
          refine ov_cV (as := [ov_i 10, ov_i 2]) (st := []) (d2 := d - 1) d_234_38 lk_Mo_202 rfl (Nat.le_of_ble_eq_true rfl) (c := 1) (zb_90 I38) (zs_90 I38) ⟨by decide, rfl⟩ (by omega) (c_Mo_wordHere_90 n (d - 1) (by omega) U I38 10 2 (by omega) (by omega) (by show 0 ≤ n ∧ n ≤ 1000 ∧ (h37 92 (n)) = 0 ∧ (h37 90 7) ≤ n; omega) (by omega)) ?_
          rintro _ _ _ ⟨v92, rfl, rfl, rfl, f91⟩
          show ov_R u d ov_m234 41 [(0, ov_r 90), (1, ov_i x1), (2, ov_i x2), (3, ov_i x3)] [ov_i v92] z36 h37 (P_Mo_walk_90 F z h)
          have f93 : -1 ≤ v92 ∧ v92 < (2 : Int) ∧ (0 ≤ v92 → (h37 90 7) < n ∧ (h37 90 8) = 0) := f91
          clear f91
          refine ov_blk (ls2 := [(0, ov_r 90), (1, ov_i x1), (2, ov_i x2), (3, ov_i x3), (4, ov_i v92)]) (st2 := [ov_i v92]) (pc2 := 45) b_234_41_2 rfl rfl ?_
          refine ov_ifge (tgt := 56) d_234_45 (by decide) (by omega) (fun c94 => ?_) (fun c94 => ?_)
          · skip
            refine ov_blk (ls2 := [(0, ov_r 90), (1, ov_i x1), (2, ov_i x2), (3, ov_i x3), (4, ov_i v92)]) (st2 := [ov_i v92, ov_i x3, ov_i x2, ov_r 90]) (pc2 := 61) b_234_56_4 rfl rfl ?_
            refine ov_cV (as := [ov_i x2, ov_i x3, ov_i v92]) (st := []) (d2 := d - 1) d_234_61 lk_Mo_250 rfl (Nat.le_of_ble_eq_true rfl) (c := 1) (zb_90 I38) (zs_90 I38) ⟨by decide, rfl⟩ (by omega) (c_Mo_isThere_90 (d - 1) (by omega) U I38 x2 x3 v92 (by omega) (by omega) (by omega)) ?_
            rintro _ _ _ ⟨v96, rfl, rfl, rfl, f95⟩
            show ov_R u d ov_m234 64 [(0, ov_r 90), (1, ov_i x1), (2, ov_i x2), (3, ov_i x3), (4, ov_i v92)] [ov_i v96] z36 h37 (P_Mo_walk_90 F z h)
            rw [show h37 96 = h 96 from E44] at f95
            have f97 : (v96 = 0 ∨ v96 = 1) ∧ (v96 = 1 → ((v92 = 0 → x2 < (h 96 0) - 1) ∧ (¬ v92 = 0 → x3 < (h 96 1) - 1))) ∧ (v96 = 0 → ¬ ((v92 = 0 → x2 < (h 96 0) - 1) ∧ (¬ v92 = 0 → x3 < (h 96 1) - 1))) := f95
            clear f95
            refine ov_ifeq (tgt := 78) d_234_64 (by decide) (by omega) (fun c98 => ?_) (fun c98 => ?_)
            · skip
              have f97_ : v96 = 0 := by omega
              have f99 : ¬ ((v92 = 0 → x2 < (h 96 0) - 1) ∧ (¬ v92 = 0 → x3 < (h 96 1) - 1)) := f97.2.2 (by omega)
              clear f97
              refine ov_blk (ls2 := [(0, ov_r 90), (1, ov_i x1), (2, ov_i x2), (3, ov_i x3), (4, ov_i v92)]) (st2 := [ov_i 2, ov_r 90]) (pc2 := 80) b_234_78_2 rfl rfl ?_
              refine ov_cV (as := [ov_i 2]) (st := []) (d2 := d - 1) d_234_80 lk_Mo_186 rfl (Nat.le_of_ble_eq_true rfl) (c := 1) (zb_90 I38) (zs_90 I38) ⟨by decide, rfl⟩ (by omega) (c_Mo_wrong_90 (d - 1) (by omega) U I38 2 (by omega) (by omega)) ?_
              rintro _ z116 h117 ⟨rfl, I118, f100, e101, e102, e103, e104, e105, e106, e107, e108, e109, e110, e111, e112, e113, e114, e115⟩
              have E119 : h117 91 = h 91 := Eq.trans e101 E39
              have E120 : h117 92 = h17 92 := Eq.trans e102 E40
              have E121 : h117 93 = h17 93 := Eq.trans e103 E41
              have E122 : h117 94 = h17 94 := Eq.trans e104 E42
              have E123 : h117 95 = h 95 := Eq.trans e105 E43
              have E124 : h117 96 = h 96 := Eq.trans e106 E44
              have E125 : h117 97 = h 97 := Eq.trans e107 E45
              have E126 : h117 98 = h 98 := Eq.trans e108 E46
              have E127 : h117 99 = h 99 := Eq.trans e109 E47
              have E128 : h117 100 = h37 100 := e110
              have E129 : h117 103 = h 103 := Eq.trans e111 E48
              have E130 : h117 105 = h 105 := Eq.trans e112 E49
              have E131 : h117 106 = h 106 := Eq.trans e113 E50
              have E132 : h117 109 = h 109 := Eq.trans e114 E51
              have E133 : h117 114 = h 114 := Eq.trans e115 E52
              show ov_R u d ov_m234 83 [(0, ov_r 90), (1, ov_i x1), (2, ov_i x2), (3, ov_i x3), (4, ov_i v92)] [] z116 h117 (P_Mo_walk_90 F z h)
              have f134 : (h117 90 2) = (h37 90 2) ∧ (h117 90 7) = (h37 90 7) ∧ (h117 90 13) = (h37 90 13) ∧ (h117 90 20) = (h37 90 20) ∧ (h117 90 22) = (h37 90 22) ∧ (h117 90 25) = (h37 90 25) ∧ (h117 90 26) = (h37 90 26) ∧ (h117 90 28) = (h37 90 28) ∧ (h117 90 29) = (h37 90 29) ∧ (h117 90 30) = (h37 90 30) ∧ (h117 90 34) = (h37 90 34) ∧ 0 < (h117 90 8) ∧ (h37 90 8) ≤ (h117 90 8) := f100
              clear f100
              refine ov_goto (tgt := 97) d_234_83 (by decide) ?_
              refine ov_blk (ls2 := [(0, ov_r 90), (1, ov_i x1), (2, ov_i x2), (3, ov_i x3), (4, ov_i v92)]) (st2 := [ov_r 90]) (pc2 := 98) b_234_97_1 rfl rfl ?_
              refine ov_getf (v := ov_i (h117 90 8)) d_234_98 fl_Mo_180 (zb_90 I118) (zs_90 I118) rfl ?_
              have g135 := rg_90_8 I118
              refine ov_ifne (tgt := 161) d_234_101 (by decide) (by omega) (fun c136 => ?_) (fun c136 => ?_)
              · skip
                refine ov_blk (ls2 := [(0, ov_r 90), (1, ov_i x1), (2, ov_i x2), (3, ov_i x3), (4, ov_i v92)]) (st2 := [ov_i 59, ov_r 90]) (pc2 := 164) b_234_161_2 rfl rfl ?_
                have cf137 : h117 92 (n) = h17 92 (n) := congrFun E120 (n)
                refine ov_cV (as := [ov_i 59]) (st := []) (d2 := d - 1) d_234_164 lk_Mo_214 rfl (Nat.le_of_ble_eq_true rfl) (c := 1) (zb_90 I118) (zs_90 I118) ⟨by decide, rfl⟩ (by omega) (c_Mo_takeSign_90 n (d - 1) (by omega) U I118 59 (by omega) (by show 0 ≤ n ∧ n ≤ 1000 ∧ (h117 92 (n)) = 0 ∧ (h117 90 7) ≤ n; omega)) ?_
                rintro _ z154 h155 ⟨rfl, I156, f138, e139, e140, e141, e142, e143, e144, e145, e146, e147, e148, e149, e150, e151, e152, e153⟩
                have E157 : h155 91 = h 91 := Eq.trans e139 E119
                have E158 : h155 92 = h17 92 := Eq.trans e140 E120
                have E159 : h155 93 = h17 93 := Eq.trans e141 E121
                have E160 : h155 94 = h17 94 := Eq.trans e142 E122
                have E161 : h155 95 = h 95 := Eq.trans e143 E123
                have E162 : h155 96 = h 96 := Eq.trans e144 E124
                have E163 : h155 97 = h 97 := Eq.trans e145 E125
                have E164 : h155 98 = h 98 := Eq.trans e146 E126
                have E165 : h155 99 = h 99 := Eq.trans e147 E127
                have E166 : h155 100 = h37 100 := Eq.trans e148 E128
                have E167 : h155 103 = h 103 := Eq.trans e149 E129
                have E168 : h155 105 = h 105 := Eq.trans e150 E130
                have E169 : h155 106 = h 106 := Eq.trans e151 E131
                have E170 : h155 109 = h 109 := Eq.trans e152 E132
                have E171 : h155 114 = h 114 := Eq.trans e153 E133
                show ov_R u d ov_m234 167 [(0, ov_r 90), (1, ov_i x1), (2, ov_i x2), (3, ov_i x3), (4, ov_i v92)] [] z154 h155 (P_Mo_walk_90 F z h)
                have f172 : (h155 90 2) = (h117 90 2) ∧ (h155 90 13) = (h117 90 13) ∧ (h155 90 20) = (h117 90 20) ∧ (h155 90 22) = (h117 90 22) ∧ (h155 90 25) = (h117 90 25) ∧ (h155 90 26) = (h117 90 26) ∧ (h155 90 28) = (h117 90 28) ∧ (h155 90 29) = (h117 90 29) ∧ (h155 90 30) = (h117 90 30) ∧ (h155 90 34) = (h117 90 34) ∧ (h117 90 7) ≤ (h155 90 7) ∧ (h155 90 7) ≤ n ∧ (h117 90 8) ≤ (h155 90 8) ∧ (h117 90 7) < (h155 90 7) + (h155 90 8) := f138
                clear f138
                refine ov_goto (tgt := 15) d_234_167 (by decide) ?_
                refine ov_sub (ls2 := [(0, ov_r 90), (1, ov_i x1), (2, ov_i x2), (3, ov_i x3)]) (List.Sublist.subset (by repeat (first | exact List.Sublist.refl _ | apply List.Sublist.cons_cons | apply List.Sublist.cons))) ?_
                have bs : ov_sx (ov_tw (h155 100)) (Int.toNat x1) = ov_sx (ov_tw (h37 100)) (Int.toNat x1) := by rw [show h155 100 = h37 100 from E166]
                have bo : ∀ j : Int, j < 30 → h155 100 j = h 100 j := by rw [show h155 100 = h37 100 from E166]; exact xo
                exact ih33 x1 x2 x3 _ _ I156 E157 E158 E159 E160 E161 E162 E163 E164 E165 E167 E168 E169 E170 E171 bo (by show 0 ≤ x1 ∧ x1 ≤ 13 ∧ 0 ≤ x2 ∧ x2 ≤ 5 ∧ 0 ≤ x3 ∧ x3 ≤ 8 ∧ x2 = ov_sx (ov_tw (h155 100)) (Int.toNat x1) ∧ x3 = x1 - x2 ∧ x2 < (h 96 0) ∧ x3 < (h 96 1) ∧ 0 ≤ (h155 90 7) ∧ (h155 90 7) ≤ n ∧ (h155 90 2) = (h17 90 2) ∧ (h155 90 13) = (h17 90 13) ∧ (h155 90 20) = (h17 90 20) ∧ (h155 90 22) = (h17 90 22) ∧ (h155 90 25) = (h17 90 25) ∧ (h155 90 26) = (h17 90 26) ∧ (h155 90 28) = (h17 90 28) ∧ (h155 90 29) = (h17 90 29) ∧ (h155 90 30) = (h17 90 30) ∧ (h155 90 34) = (h17 90 34); omega) (by omega)
              · omega
            · skip
              have f97_ : v96 = 1 := by omega
              have f173 : ((v92 = 0 → x2 < (h 96 0) - 1) ∧ (¬ v92 = 0 → x3 < (h 96 1) - 1)) := f97.2.1 (by omega)
              clear f97
              refine ov_blk (ls2 := [(0, ov_r 90), (1, ov_i x1), (2, ov_i x2), (3, ov_i x3), (4, ov_i v92)]) (st2 := [ov_i v92, ov_i x3, ov_i x2, ov_r 90]) (pc2 := 72) b_234_67_4 rfl rfl ?_
              refine ov_cV (as := [ov_i x2, ov_i x3, ov_i v92]) (st := []) (d2 := d - 1) d_234_72 lk_Mo_254 rfl (Nat.le_of_ble_eq_true rfl) (c := 1) (zb_90 I38) (zs_90 I38) ⟨by decide, rfl⟩ (by omega) (c_Mo_isBarred_90 (d - 1) (by omega) U I38 x2 x3 v92 (by omega) (by omega) (by omega) (by omega) (by omega)) ?_
              rintro _ _ _ ⟨v175, rfl, rfl, rfl, f174⟩
              show ov_R u d ov_m234 75 [(0, ov_r 90), (1, ov_i x1), (2, ov_i x2), (3, ov_i x3), (4, ov_i v92)] [ov_i v175] z36 h37 (P_Mo_walk_90 F z h)
              rw [show h37 96 = h 96 from E44] at f174
              have f176 : (v175 = 0 ∨ v175 = 1) ∧ (v175 = 1 → ov_and (ov_shr ((h 96 (226 + 6 * x3 + x2))) v92) 1 = 1) ∧ (v175 = 0 → ¬ ov_and (ov_shr ((h 96 (226 + 6 * x3 + x2))) v92) 1 = 1) := f174
              clear f174
              refine ov_ifeq (tgt := 86) d_234_75 (by decide) (by omega) (fun c177 => ?_) (fun c177 => ?_)
              · skip
                have f176_ : v175 = 0 := by omega
                have f178 : ¬ ov_and (ov_shr ((h 96 (226 + 6 * x3 + x2))) v92) 1 = 1 := f176.2.2 (by omega)
                clear f176
                refine ov_blk (ls2 := [(0, ov_r 90), (1, ov_i x1), (2, ov_i x2), (3, ov_i x3), (4, ov_i v92)]) (st2 := [ov_i 13, ov_i x1]) (pc2 := 89) b_234_86_2 rfl rfl ?_
                refine ov_icne (tgt := 97) d_234_89 (by decide) (by omega) (by omega) (fun c179 => ?_) (fun c179 => ?_)
                · skip
                  refine ov_blk (ls2 := [(0, ov_r 90), (1, ov_i x1), (2, ov_i x2), (3, ov_i x3), (4, ov_i v92)]) (st2 := [ov_r 90]) (pc2 := 98) b_234_97_1 rfl rfl ?_
                  refine ov_getf (v := ov_i (h37 90 8)) d_234_98 fl_Mo_180 (zb_90 I38) (zs_90 I38) rfl ?_
                  refine ov_ifne (tgt := 161) d_234_101 (by decide) (by omega) (fun c181 => ?_) (fun c181 => ?_)
                  · omega
                  · skip
                    refine ov_blk (ls2 := [(0, ov_r 90), (1, ov_i x1), (2, ov_i x2), (3, ov_i x3), (4, ov_i v92)]) (st2 := [ov_r 90, ov_r 90]) (pc2 := 106) b_234_104_2 rfl rfl ?_
                    refine ov_getf (v := ov_i (h37 90 7)) d_234_106 fl_Mo_177 (zb_90 I38) (zs_90 I38) rfl ?_
                    refine ov_blk (ls2 := [(0, ov_r 90), (1, ov_i x1), (2, ov_i x2), (3, ov_i x3), (4, ov_i v92)]) (st2 := [ov_i ((h37 90 7) + 1), ov_r 90]) (pc2 := 111) b_234_109_2 rfl rfl ?_
                    refine ov_putf (x := ((h37 90 7) + 1)) d_234_111 fl_Mo_177 (zb_90 I38) (zs_90 I38) rfl nk_0 rfl ?_
                    have I183 := up_90_7 (x := ((h37 90 7) + 1)) I38 (by omega)
                    refine ov_blk (ls2 := [(0, ov_r 90), (1, ov_i x1), (2, ov_i x2), (3, ov_i x3), (4, ov_i v92)]) (st2 := [ov_r 90]) (pc2 := 115) b_234_114_1 rfl rfl ?_
                    refine ov_getf (v := ov_r 100) d_234_115 fl_Mo_93 (zb_90 I183) (zs_90 I183) (congrArg ov_r (rg_90_16 I183)) ?_
                    refine ov_blk (ls2 := [(0, ov_r 90), (1, ov_i x1), (2, ov_i x2), (3, ov_i x3), (4, ov_i v92)]) (st2 := [ov_i v92, ov_i (30 + (2 * x1)), ov_r 100]) (pc2 := 126) b_234_118_6 rfl rfl ?_
                    refine ov_iast d_234_126 (zb_100 I183) (zs_100 I183) (by omega) ?_
                    have I184 := ua_100 (k := (30 + (2 * x1))) (x := v92) I183 (by refine ⟨?_, ?_, ?_, ?_⟩ <;> omega)
                    refine ov_blk (ls2 := [(0, ov_r 90), (1, ov_i x1), (2, ov_i x2), (3, ov_i x3), (4, ov_i v92)]) (st2 := [ov_r 90]) (pc2 := 128) b_234_127_1 rfl rfl ?_
                    refine ov_getf (v := ov_r 100) d_234_128 fl_Mo_93 (zb_90 I184) (zs_90 I184) (congrArg ov_r (rg_90_16 I184)) ?_
                    refine ov_blk (ls2 := [(0, ov_r 90), (1, ov_i x1), (2, ov_i x2), (3, ov_i x3), (4, ov_i v92)]) (st2 := [ov_i 9999, ov_i 0, ov_r 90, ov_i (31 + (2 * x1)), ov_r 100]) (pc2 := 142) b_234_131_8 rfl rfl ?_
                    have cf185 : h37 92 (n) = h17 92 (n) := congrFun E40 (n)
                    refine ov_cV (as := [ov_i 0, ov_i 9999]) (st := [ov_i (31 + (2 * x1)), ov_r 100]) (d2 := d - 1) d_234_142 lk_Mo_198 rfl (Nat.le_of_ble_eq_true rfl) (c := 1) (zb_90 I184) (zs_90 I184) ⟨by decide, rfl⟩ (by omega) (c_Mo_takeNumber_90 n (d - 1) (by omega) U I184 0 9999 (by omega) (by omega) (by show 0 ≤ n ∧ n ≤ 1000 ∧ (h37 92 (n)) = 0 ∧ ((h37 90 7) + 1) ≤ n; omega)) ?_
                    rintro _ z203 h204 ⟨v187, rfl, I205, f186, e188, e189, e190, e191, e192, e193, e194, e195, e196, e197, e198, e199, e200, e201, e202⟩
                    have E206 : h204 91 = h 91 := Eq.trans e188 E39
                    have E207 : h204 92 = h17 92 := Eq.trans e189 E40
                    have E208 : h204 93 = h17 93 := Eq.trans e190 E41
                    have E209 : h204 94 = h17 94 := Eq.trans e191 E42
                    have E210 : h204 95 = h 95 := Eq.trans e192 E43
                    have E211 : h204 96 = h 96 := Eq.trans e193 E44
                    have E212 : h204 97 = h 97 := Eq.trans e194 E45
                    have E213 : h204 98 = h 98 := Eq.trans e195 E46
                    have E214 : h204 99 = h 99 := Eq.trans e196 E47
                    have E215 : h204 103 = h 103 := Eq.trans e198 E48
                    have E216 : h204 105 = h 105 := Eq.trans e199 E49
                    have E217 : h204 106 = h 106 := Eq.trans e200 E50
                    have E218 : h204 109 = h 109 := Eq.trans e201 E51
                    have E219 : h204 114 = h 114 := Eq.trans e202 E52
                    show ov_R u d ov_m234 145 [(0, ov_r 90), (1, ov_i x1), (2, ov_i x2), (3, ov_i x3), (4, ov_i v92)] [ov_i v187, ov_i (31 + (2 * x1)), ov_r 100] z203 h204 (P_Mo_walk_90 F z h)
                    have f220 : (h204 90 2) = (h37 90 2) ∧ (h204 90 13) = (h37 90 13) ∧ (h204 90 20) = (h37 90 20) ∧ (h204 90 22) = (h37 90 22) ∧ (h204 90 25) = (h37 90 25) ∧ (h204 90 26) = (h37 90 26) ∧ (h204 90 28) = (h37 90 28) ∧ (h204 90 29) = (h37 90 29) ∧ (h204 90 30) = (h37 90 30) ∧ (h204 90 34) = (h37 90 34) ∧ ((h37 90 7) + 1) ≤ (h204 90 7) ∧ (h204 90 7) ≤ n ∧ (h37 90 8) ≤ (h204 90 8) ∧ ((h204 90 8) = 0 → (0 : Int) ≤ v187 ∧ v187 ≤ (9999 : Int)) ∧ (0 < (h204 90 8) → v187 = 0) ∧ ((h37 90 7) + 1) < (h204 90 7) + (h204 90 8) := f186
                    clear f186
                    refine ov_iast d_234_145 (zb_100 I205) (zs_100 I205) (by omega) ?_
                    have I221 := ua_100 (k := (31 + (2 * x1))) (x := v187) I205 (by refine ⟨?_, ?_, ?_, ?_⟩ <;> omega)
                    refine ov_blk (ls2 := [(0, ov_r 90), (1, ov_i (x1 + 1)), (2, ov_i (x2 + (1 - v92))), (3, ov_i (x3 + v92)), (4, ov_i v92)]) (st2 := [ov_i 59, ov_r 90]) (pc2 := 164) b_234_146_13 rfl rfl ?_
                    have cf222 : h204 92 (n) = h17 92 (n) := congrFun E207 (n)
                    refine ov_cV (as := [ov_i 59]) (st := []) (d2 := d - 1) d_234_164 lk_Mo_214 rfl (Nat.le_of_ble_eq_true rfl) (c := 1) (zb_90 I221) (zs_90 I221) ⟨by decide, rfl⟩ (by omega) (c_Mo_takeSign_90 n (d - 1) (by omega) U I221 59 (by omega) (by show 0 ≤ n ∧ n ≤ 1000 ∧ (h204 92 (n)) = 0 ∧ (h204 90 7) ≤ n; omega)) ?_
                    rintro _ z239 h240 ⟨rfl, I241, f223, e224, e225, e226, e227, e228, e229, e230, e231, e232, e233, e234, e235, e236, e237, e238⟩
                    have E242 : h240 91 = h 91 := Eq.trans e224 E206
                    have E243 : h240 92 = h17 92 := Eq.trans e225 E207
                    have E244 : h240 93 = h17 93 := Eq.trans e226 E208
                    have E245 : h240 94 = h17 94 := Eq.trans e227 E209
                    have E246 : h240 95 = h 95 := Eq.trans e228 E210
                    have E247 : h240 96 = h 96 := Eq.trans e229 E211
                    have E248 : h240 97 = h 97 := Eq.trans e230 E212
                    have E249 : h240 98 = h 98 := Eq.trans e231 E213
                    have E250 : h240 99 = h 99 := Eq.trans e232 E214
                    have E251 : h240 103 = h 103 := Eq.trans e234 E215
                    have E252 : h240 105 = h 105 := Eq.trans e235 E216
                    have E253 : h240 106 = h 106 := Eq.trans e236 E217
                    have E254 : h240 109 = h 109 := Eq.trans e237 E218
                    have E255 : h240 114 = h 114 := Eq.trans e238 E219
                    show ov_R u d ov_m234 167 [(0, ov_r 90), (1, ov_i (x1 + 1)), (2, ov_i (x2 + (1 - v92))), (3, ov_i (x3 + v92)), (4, ov_i v92)] [] z239 h240 (P_Mo_walk_90 F z h)
                    have f256 : (h240 90 2) = (h204 90 2) ∧ (h240 90 13) = (h204 90 13) ∧ (h240 90 20) = (h204 90 20) ∧ (h240 90 22) = (h204 90 22) ∧ (h240 90 25) = (h204 90 25) ∧ (h240 90 26) = (h204 90 26) ∧ (h240 90 28) = (h204 90 28) ∧ (h240 90 29) = (h204 90 29) ∧ (h240 90 30) = (h204 90 30) ∧ (h240 90 34) = (h204 90 34) ∧ (h204 90 7) ≤ (h240 90 7) ∧ (h240 90 7) ≤ n ∧ (h204 90 8) ≤ (h240 90 8) ∧ (h204 90 7) < (h240 90 7) + (h240 90 8) := f223
                    clear f223
                    refine ov_goto (tgt := 15) d_234_167 (by decide) ?_
                    refine ov_sub (ls2 := [(0, ov_r 90), (1, ov_i (x1 + 1)), (2, ov_i (x2 + (1 - v92))), (3, ov_i (x3 + v92))]) (List.Sublist.subset (by repeat (first | exact List.Sublist.refl _ | apply List.Sublist.cons_cons | apply List.Sublist.cons))) ?_
                    have r1 : (ov_up (ov_up h37 90 7 ((h37 90 7) + 1)) 100 (30 + (2 * x1)) v92) 100 = ov_rs (h37 100) (30 + 2 * x1) v92 := by rw [ov_up_row]; rfl
                    have r2 : h240 100 = ov_rs (ov_rs (h37 100) (30 + 2 * x1) v92) (31 + 2 * x1) v187 := by rw [e233, ov_up_row, e197, r1]
                    have bs : ov_sx (ov_tw (h240 100)) (Int.toNat (x1 + 1)) = ov_sx (ov_tw (h37 100)) (Int.toNat x1) + (1 - v92) := by rw [r2, ov_tw_s _ (by omega), ov_tw_o (by omega) (by omega), ov_tw_o (by omega) (by omega), ov_rs_ne (by omega), ov_rs_eq]
                    have bo : ∀ j : Int, j < 30 → h240 100 j = h 100 j := fun j hj => by rw [r2, ov_rs_ne (by omega), ov_rs_ne (by omega)]; exact xo j hj
                    exact ih33 (x1 + 1) (x2 + (1 - v92)) (x3 + v92) _ _ I241 E242 E243 E244 E245 E246 E247 E248 E249 E250 E251 E252 E253 E254 E255 bo (by show 0 ≤ (x1 + 1) ∧ (x1 + 1) ≤ 13 ∧ 0 ≤ (x2 + (1 - v92)) ∧ (x2 + (1 - v92)) ≤ 5 ∧ 0 ≤ (x3 + v92) ∧ (x3 + v92) ≤ 8 ∧ (x2 + (1 - v92)) = ov_sx (ov_tw (h240 100)) (Int.toNat (x1 + 1)) ∧ (x3 + v92) = (x1 + 1) - (x2 + (1 - v92)) ∧ (x2 + (1 - v92)) < (h 96 0) ∧ (x3 + v92) < (h 96 1) ∧ 0 ≤ (h240 90 7) ∧ (h240 90 7) ≤ n ∧ (h240 90 2) = (h17 90 2) ∧ (h240 90 13) = (h17 90 13) ∧ (h240 90 20) = (h17 90 20) ∧ (h240 90 22) = (h17 90 22) ∧ (h240 90 25) = (h17 90 25) ∧ (h240 90 26) = (h17 90 26) ∧ (h240 90 28) = (h17 90 28) ∧ (h240 90 29) = (h17 90 29) ∧ (h240 90 30) = (h17 90 30) ∧ (h240 90 34) = (h17 90 34); omega) (by omega)
                · skip
                  refine ov_blk (ls2 := [(0, ov_r 90), (1, ov_i x1), (2, ov_i x2), (3, ov_i x3), (4, ov_i v92)]) (st2 := [ov_i 5, ov_r 90]) (pc2 := 94) b_234_92_2 rfl rfl ?_
                  refine ov_cV (as := [ov_i 5]) (st := []) (d2 := d - 1) d_234_94 lk_Mo_186 rfl (Nat.le_of_ble_eq_true rfl) (c := 1) (zb_90 I38) (zs_90 I38) ⟨by decide, rfl⟩ (by omega) (c_Mo_wrong_90 (d - 1) (by omega) U I38 5 (by omega) (by omega)) ?_
                  rintro _ z273 h274 ⟨rfl, I275, f257, e258, e259, e260, e261, e262, e263, e264, e265, e266, e267, e268, e269, e270, e271, e272⟩
                  have E276 : h274 91 = h 91 := Eq.trans e258 E39
                  have E277 : h274 92 = h17 92 := Eq.trans e259 E40
                  have E278 : h274 93 = h17 93 := Eq.trans e260 E41
                  have E279 : h274 94 = h17 94 := Eq.trans e261 E42
                  have E280 : h274 95 = h 95 := Eq.trans e262 E43
                  have E281 : h274 96 = h 96 := Eq.trans e263 E44
                  have E282 : h274 97 = h 97 := Eq.trans e264 E45
                  have E283 : h274 98 = h 98 := Eq.trans e265 E46
                  have E284 : h274 99 = h 99 := Eq.trans e266 E47
                  have E285 : h274 100 = h37 100 := e267
                  have E286 : h274 103 = h 103 := Eq.trans e268 E48
                  have E287 : h274 105 = h 105 := Eq.trans e269 E49
                  have E288 : h274 106 = h 106 := Eq.trans e270 E50
                  have E289 : h274 109 = h 109 := Eq.trans e271 E51
                  have E290 : h274 114 = h 114 := Eq.trans e272 E52
                  show ov_R u d ov_m234 97 [(0, ov_r 90), (1, ov_i x1), (2, ov_i x2), (3, ov_i x3), (4, ov_i v92)] [] z273 h274 (P_Mo_walk_90 F z h)
                  have f291 : (h274 90 2) = (h37 90 2) ∧ (h274 90 7) = (h37 90 7) ∧ (h274 90 13) = (h37 90 13) ∧ (h274 90 20) = (h37 90 20) ∧ (h274 90 22) = (h37 90 22) ∧ (h274 90 25) = (h37 90 25) ∧ (h274 90 26) = (h37 90 26) ∧ (h274 90 28) = (h37 90 28) ∧ (h274 90 29) = (h37 90 29) ∧ (h274 90 30) = (h37 90 30) ∧ (h274 90 34) = (h37 90 34) ∧ 0 < (h274 90 8) ∧ (h37 90 8) ≤ (h274 90 8) := f257
                  clear f257
                  refine ov_blk (ls2 := [(0, ov_r 90), (1, ov_i x1), (2, ov_i x2), (3, ov_i x3), (4, ov_i v92)]) (st2 := [ov_r 90]) (pc2 := 98) b_234_97_1 rfl rfl ?_
                  refine ov_getf (v := ov_i (h274 90 8)) d_234_98 fl_Mo_180 (zb_90 I275) (zs_90 I275) rfl ?_
                  have g292 := rg_90_8 I275
                  refine ov_ifne (tgt := 161) d_234_101 (by decide) (by omega) (fun c293 => ?_) (fun c293 => ?_)
                  · skip
                    refine ov_blk (ls2 := [(0, ov_r 90), (1, ov_i x1), (2, ov_i x2), (3, ov_i x3), (4, ov_i v92)]) (st2 := [ov_i 59, ov_r 90]) (pc2 := 164) b_234_161_2 rfl rfl ?_
                    have cf294 : h274 92 (n) = h17 92 (n) := congrFun E277 (n)
                    refine ov_cV (as := [ov_i 59]) (st := []) (d2 := d - 1) d_234_164 lk_Mo_214 rfl (Nat.le_of_ble_eq_true rfl) (c := 1) (zb_90 I275) (zs_90 I275) ⟨by decide, rfl⟩ (by omega) (c_Mo_takeSign_90 n (d - 1) (by omega) U I275 59 (by omega) (by show 0 ≤ n ∧ n ≤ 1000 ∧ (h274 92 (n)) = 0 ∧ (h274 90 7) ≤ n; omega)) ?_
                    rintro _ z311 h312 ⟨rfl, I313, f295, e296, e297, e298, e299, e300, e301, e302, e303, e304, e305, e306, e307, e308, e309, e310⟩
                    have E314 : h312 91 = h 91 := Eq.trans e296 E276
                    have E315 : h312 92 = h17 92 := Eq.trans e297 E277
                    have E316 : h312 93 = h17 93 := Eq.trans e298 E278
                    have E317 : h312 94 = h17 94 := Eq.trans e299 E279
                    have E318 : h312 95 = h 95 := Eq.trans e300 E280
                    have E319 : h312 96 = h 96 := Eq.trans e301 E281
                    have E320 : h312 97 = h 97 := Eq.trans e302 E282
                    have E321 : h312 98 = h 98 := Eq.trans e303 E283
                    have E322 : h312 99 = h 99 := Eq.trans e304 E284
                    have E323 : h312 100 = h37 100 := Eq.trans e305 E285
                    have E324 : h312 103 = h 103 := Eq.trans e306 E286
                    have E325 : h312 105 = h 105 := Eq.trans e307 E287
                    have E326 : h312 106 = h 106 := Eq.trans e308 E288
                    have E327 : h312 109 = h 109 := Eq.trans e309 E289
                    have E328 : h312 114 = h 114 := Eq.trans e310 E290
                    show ov_R u d ov_m234 167 [(0, ov_r 90), (1, ov_i x1), (2, ov_i x2), (3, ov_i x3), (4, ov_i v92)] [] z311 h312 (P_Mo_walk_90 F z h)
                    have f329 : (h312 90 2) = (h274 90 2) ∧ (h312 90 13) = (h274 90 13) ∧ (h312 90 20) = (h274 90 20) ∧ (h312 90 22) = (h274 90 22) ∧ (h312 90 25) = (h274 90 25) ∧ (h312 90 26) = (h274 90 26) ∧ (h312 90 28) = (h274 90 28) ∧ (h312 90 29) = (h274 90 29) ∧ (h312 90 30) = (h274 90 30) ∧ (h312 90 34) = (h274 90 34) ∧ (h274 90 7) ≤ (h312 90 7) ∧ (h312 90 7) ≤ n ∧ (h274 90 8) ≤ (h312 90 8) ∧ (h274 90 7) < (h312 90 7) + (h312 90 8) := f295
                    clear f295
                    refine ov_goto (tgt := 15) d_234_167 (by decide) ?_
                    refine ov_sub (ls2 := [(0, ov_r 90), (1, ov_i x1), (2, ov_i x2), (3, ov_i x3)]) (List.Sublist.subset (by repeat (first | exact List.Sublist.refl _ | apply List.Sublist.cons_cons | apply List.Sublist.cons))) ?_
                    have bs : ov_sx (ov_tw (h312 100)) (Int.toNat x1) = ov_sx (ov_tw (h37 100)) (Int.toNat x1) := by rw [show h312 100 = h37 100 from E323]
                    have bo : ∀ j : Int, j < 30 → h312 100 j = h 100 j := by rw [show h312 100 = h37 100 from E323]; exact xo
                    exact ih33 x1 x2 x3 _ _ I313 E314 E315 E316 E317 E318 E319 E320 E321 E322 E324 E325 E326 E327 E328 bo (by show 0 ≤ x1 ∧ x1 ≤ 13 ∧ 0 ≤ x2 ∧ x2 ≤ 5 ∧ 0 ≤ x3 ∧ x3 ≤ 8 ∧ x2 = ov_sx (ov_tw (h312 100)) (Int.toNat x1) ∧ x3 = x1 - x2 ∧ x2 < (h 96 0) ∧ x3 < (h 96 1) ∧ 0 ≤ (h312 90 7) ∧ (h312 90 7) ≤ n ∧ (h312 90 2) = (h17 90 2) ∧ (h312 90 13) = (h17 90 13) ∧ (h312 90 20) = (h17 90 20) ∧ (h312 90 22) = (h17 90 22) ∧ (h312 90 25) = (h17 90 25) ∧ (h312 90 26) = (h17 90 26) ∧ (h312 90 28) = (h17 90 28) ∧ (h312 90 29) = (h17 90 29) ∧ (h312 90 30) = (h17 90 30) ∧ (h312 90 34) = (h17 90 34); omega) (by omega)
                  · omega
              · skip
                have f176_ : v175 = 1 := by omega
                have f330 : ov_and (ov_shr ((h 96 (226 + 6 * x3 + x2))) v92) 1 = 1 := f176.2.1 (by omega)
                clear f176
                refine ov_blk (ls2 := [(0, ov_r 90), (1, ov_i x1), (2, ov_i x2), (3, ov_i x3), (4, ov_i v92)]) (st2 := [ov_i 2, ov_r 90]) (pc2 := 80) b_234_78_2 rfl rfl ?_
                refine ov_cV (as := [ov_i 2]) (st := []) (d2 := d - 1) d_234_80 lk_Mo_186 rfl (Nat.le_of_ble_eq_true rfl) (c := 1) (zb_90 I38) (zs_90 I38) ⟨by decide, rfl⟩ (by omega) (c_Mo_wrong_90 (d - 1) (by omega) U I38 2 (by omega) (by omega)) ?_
                rintro _ z347 h348 ⟨rfl, I349, f331, e332, e333, e334, e335, e336, e337, e338, e339, e340, e341, e342, e343, e344, e345, e346⟩
                have E350 : h348 91 = h 91 := Eq.trans e332 E39
                have E351 : h348 92 = h17 92 := Eq.trans e333 E40
                have E352 : h348 93 = h17 93 := Eq.trans e334 E41
                have E353 : h348 94 = h17 94 := Eq.trans e335 E42
                have E354 : h348 95 = h 95 := Eq.trans e336 E43
                have E355 : h348 96 = h 96 := Eq.trans e337 E44
                have E356 : h348 97 = h 97 := Eq.trans e338 E45
                have E357 : h348 98 = h 98 := Eq.trans e339 E46
                have E358 : h348 99 = h 99 := Eq.trans e340 E47
                have E359 : h348 100 = h37 100 := e341
                have E360 : h348 103 = h 103 := Eq.trans e342 E48
                have E361 : h348 105 = h 105 := Eq.trans e343 E49
                have E362 : h348 106 = h 106 := Eq.trans e344 E50
                have E363 : h348 109 = h 109 := Eq.trans e345 E51
                have E364 : h348 114 = h 114 := Eq.trans e346 E52
                show ov_R u d ov_m234 83 [(0, ov_r 90), (1, ov_i x1), (2, ov_i x2), (3, ov_i x3), (4, ov_i v92)] [] z347 h348 (P_Mo_walk_90 F z h)
                have f365 : (h348 90 2) = (h37 90 2) ∧ (h348 90 7) = (h37 90 7) ∧ (h348 90 13) = (h37 90 13) ∧ (h348 90 20) = (h37 90 20) ∧ (h348 90 22) = (h37 90 22) ∧ (h348 90 25) = (h37 90 25) ∧ (h348 90 26) = (h37 90 26) ∧ (h348 90 28) = (h37 90 28) ∧ (h348 90 29) = (h37 90 29) ∧ (h348 90 30) = (h37 90 30) ∧ (h348 90 34) = (h37 90 34) ∧ 0 < (h348 90 8) ∧ (h37 90 8) ≤ (h348 90 8) := f331
                clear f331
                refine ov_goto (tgt := 97) d_234_83 (by decide) ?_
                refine ov_blk (ls2 := [(0, ov_r 90), (1, ov_i x1), (2, ov_i x2), (3, ov_i x3), (4, ov_i v92)]) (st2 := [ov_r 90]) (pc2 := 98) b_234_97_1 rfl rfl ?_
                refine ov_getf (v := ov_i (h348 90 8)) d_234_98 fl_Mo_180 (zb_90 I349) (zs_90 I349) rfl ?_
                have g366 := rg_90_8 I349
                refine ov_ifne (tgt := 161) d_234_101 (by decide) (by omega) (fun c367 => ?_) (fun c367 => ?_)
                · skip
                  refine ov_blk (ls2 := [(0, ov_r 90), (1, ov_i x1), (2, ov_i x2), (3, ov_i x3), (4, ov_i v92)]) (st2 := [ov_i 59, ov_r 90]) (pc2 := 164) b_234_161_2 rfl rfl ?_
                  have cf368 : h348 92 (n) = h17 92 (n) := congrFun E351 (n)
                  refine ov_cV (as := [ov_i 59]) (st := []) (d2 := d - 1) d_234_164 lk_Mo_214 rfl (Nat.le_of_ble_eq_true rfl) (c := 1) (zb_90 I349) (zs_90 I349) ⟨by decide, rfl⟩ (by omega) (c_Mo_takeSign_90 n (d - 1) (by omega) U I349 59 (by omega) (by show 0 ≤ n ∧ n ≤ 1000 ∧ (h348 92 (n)) = 0 ∧ (h348 90 7) ≤ n; omega)) ?_
                  rintro _ z385 h386 ⟨rfl, I387, f369, e370, e371, e372, e373, e374, e375, e376, e377, e378, e379, e380, e381, e382, e383, e384⟩
                  have E388 : h386 91 = h 91 := Eq.trans e370 E350
                  have E389 : h386 92 = h17 92 := Eq.trans e371 E351
                  have E390 : h386 93 = h17 93 := Eq.trans e372 E352
                  have E391 : h386 94 = h17 94 := Eq.trans e373 E353
                  have E392 : h386 95 = h 95 := Eq.trans e374 E354
                  have E393 : h386 96 = h 96 := Eq.trans e375 E355
                  have E394 : h386 97 = h 97 := Eq.trans e376 E356
                  have E395 : h386 98 = h 98 := Eq.trans e377 E357
                  have E396 : h386 99 = h 99 := Eq.trans e378 E358
                  have E397 : h386 100 = h37 100 := Eq.trans e379 E359
                  have E398 : h386 103 = h 103 := Eq.trans e380 E360
                  have E399 : h386 105 = h 105 := Eq.trans e381 E361
                  have E400 : h386 106 = h 106 := Eq.trans e382 E362
                  have E401 : h386 109 = h 109 := Eq.trans e383 E363
                  have E402 : h386 114 = h 114 := Eq.trans e384 E364
                  show ov_R u d ov_m234 167 [(0, ov_r 90), (1, ov_i x1), (2, ov_i x2), (3, ov_i x3), (4, ov_i v92)] [] z385 h386 (P_Mo_walk_90 F z h)
                  have f403 : (h386 90 2) = (h348 90 2) ∧ (h386 90 13) = (h348 90 13) ∧ (h386 90 20) = (h348 90 20) ∧ (h386 90 22) = (h348 90 22) ∧ (h386 90 25) = (h348 90 25) ∧ (h386 90 26) = (h348 90 26) ∧ (h386 90 28) = (h348 90 28) ∧ (h386 90 29) = (h348 90 29) ∧ (h386 90 30) = (h348 90 30) ∧ (h386 90 34) = (h348 90 34) ∧ (h348 90 7) ≤ (h386 90 7) ∧ (h386 90 7) ≤ n ∧ (h348 90 8) ≤ (h386 90 8) ∧ (h348 90 7) < (h386 90 7) + (h386 90 8) := f369
                  clear f369
                  refine ov_goto (tgt := 15) d_234_167 (by decide) ?_
                  refine ov_sub (ls2 := [(0, ov_r 90), (1, ov_i x1), (2, ov_i x2), (3, ov_i x3)]) (List.Sublist.subset (by repeat (first | exact List.Sublist.refl _ | apply List.Sublist.cons_cons | apply List.Sublist.cons))) ?_
                  have bs : ov_sx (ov_tw (h386 100)) (Int.toNat x1) = ov_sx (ov_tw (h37 100)) (Int.toNat x1) := by rw [show h386 100 = h37 100 from E397]
                  have bo : ∀ j : Int, j < 30 → h386 100 j = h 100 j := by rw [show h386 100 = h37 100 from E397]; exact xo
                  exact ih33 x1 x2 x3 _ _ I387 E388 E389 E390 E391 E392 E393 E394 E395 E396 E398 E399 E400 E401 E402 bo (by show 0 ≤ x1 ∧ x1 ≤ 13 ∧ 0 ≤ x2 ∧ x2 ≤ 5 ∧ 0 ≤ x3 ∧ x3 ≤ 8 ∧ x2 = ov_sx (ov_tw (h386 100)) (Int.toNat x1) ∧ x3 = x1 - x2 ∧ x2 < (h 96 0) ∧ x3 < (h 96 1) ∧ 0 ≤ (h386 90 7) ∧ (h386 90 7) ≤ n ∧ (h386 90 2) = (h17 90 2) ∧ (h386 90 13) = (h17 90 13) ∧ (h386 90 20) = (h17 90 20) ∧ (h386 90 22) = (h17 90 22) ∧ (h386 90 25) = (h17 90 25) ∧ (h386 90 26) = (h17 90 26) ∧ (h386 90 28) = (h17 90 28) ∧ (h386 90 29) = (h17 90 29) ∧ (h386 90 30) = (h17 90 30) ∧ (h386 90 34) = (h17 90 34); omega) (by omega)
                · omega
          · skip
            refine ov_blk (ls2 := [(0, ov_r 90), (1, ov_i x1), (2, ov_i x2), (3, ov_i x3), (4, ov_i v92)]) (st2 := [ov_i 1, ov_r 90]) (pc2 := 50) b_234_48_2 rfl rfl ?_
            refine ov_cV (as := [ov_i 1]) (st := []) (d2 := d - 1) d_234_50 lk_Mo_186 rfl (Nat.le_of_ble_eq_true rfl) (c := 1) (zb_90 I38) (zs_90 I38) ⟨by decide, rfl⟩ (by omega) (c_Mo_wrong_90 (d - 1) (by omega) U I38 1 (by omega) (by omega)) ?_
            rintro _ z420 h421 ⟨rfl, I422, f404, e405, e406, e407, e408, e409, e410, e411, e412, e413, e414, e415, e416, e417, e418, e419⟩
            have E423 : h421 91 = h 91 := Eq.trans e405 E39
            have E424 : h421 92 = h17 92 := Eq.trans e406 E40
            have E425 : h421 93 = h17 93 := Eq.trans e407 E41
            have E426 : h421 94 = h17 94 := Eq.trans e408 E42
            have E427 : h421 95 = h 95 := Eq.trans e409 E43
            have E428 : h421 96 = h 96 := Eq.trans e410 E44
            have E429 : h421 97 = h 97 := Eq.trans e411 E45
            have E430 : h421 98 = h 98 := Eq.trans e412 E46
            have E431 : h421 99 = h 99 := Eq.trans e413 E47
            have E432 : h421 100 = h37 100 := e414
            have E433 : h421 103 = h 103 := Eq.trans e415 E48
            have E434 : h421 105 = h 105 := Eq.trans e416 E49
            have E435 : h421 106 = h 106 := Eq.trans e417 E50
            have E436 : h421 109 = h 109 := Eq.trans e418 E51
            have E437 : h421 114 = h 114 := Eq.trans e419 E52
            show ov_R u d ov_m234 53 [(0, ov_r 90), (1, ov_i x1), (2, ov_i x2), (3, ov_i x3), (4, ov_i v92)] [] z420 h421 (P_Mo_walk_90 F z h)
            have f438 : (h421 90 2) = (h37 90 2) ∧ (h421 90 7) = (h37 90 7) ∧ (h421 90 13) = (h37 90 13) ∧ (h421 90 20) = (h37 90 20) ∧ (h421 90 22) = (h37 90 22) ∧ (h421 90 25) = (h37 90 25) ∧ (h421 90 26) = (h37 90 26) ∧ (h421 90 28) = (h37 90 28) ∧ (h421 90 29) = (h37 90 29) ∧ (h421 90 30) = (h37 90 30) ∧ (h421 90 34) = (h37 90 34) ∧ 0 < (h421 90 8) ∧ (h37 90 8) ≤ (h421 90 8) := f404
            clear f404
            refine ov_goto (tgt := 97) d_234_53 (by decide) ?_
            refine ov_blk (ls2 := [(0, ov_r 90), (1, ov_i x1), (2, ov_i x2), (3, ov_i x3), (4, ov_i v92)]) (st2 := [ov_r 90]) (pc2 := 98) b_234_97_1 rfl rfl ?_
            refine ov_getf (v := ov_i (h421 90 8)) d_234_98 fl_Mo_180 (zb_90 I422) (zs_90 I422) rfl ?_
            have g439 := rg_90_8 I422
            refine ov_ifne (tgt := 161) d_234_101 (by decide) (by omega) (fun c440 => ?_) (fun c440 => ?_)
            · skip
              refine ov_blk (ls2 := [(0, ov_r 90), (1, ov_i x1), (2, ov_i x2), (3, ov_i x3), (4, ov_i v92)]) (st2 := [ov_i 59, ov_r 90]) (pc2 := 164) b_234_161_2 rfl rfl ?_
              have cf441 : h421 92 (n) = h17 92 (n) := congrFun E424 (n)
              refine ov_cV (as := [ov_i 59]) (st := []) (d2 := d - 1) d_234_164 lk_Mo_214 rfl (Nat.le_of_ble_eq_true rfl) (c := 1) (zb_90 I422) (zs_90 I422) ⟨by decide, rfl⟩ (by omega) (c_Mo_takeSign_90 n (d - 1) (by omega) U I422 59 (by omega) (by show 0 ≤ n ∧ n ≤ 1000 ∧ (h421 92 (n)) = 0 ∧ (h421 90 7) ≤ n; omega)) ?_
              rintro _ z458 h459 ⟨rfl, I460, f442, e443, e444, e445, e446, e447, e448, e449, e450, e451, e452, e453, e454, e455, e456, e457⟩
              have E461 : h459 91 = h 91 := Eq.trans e443 E423
              have E462 : h459 92 = h17 92 := Eq.trans e444 E424
              have E463 : h459 93 = h17 93 := Eq.trans e445 E425
              have E464 : h459 94 = h17 94 := Eq.trans e446 E426
              have E465 : h459 95 = h 95 := Eq.trans e447 E427
              have E466 : h459 96 = h 96 := Eq.trans e448 E428
              have E467 : h459 97 = h 97 := Eq.trans e449 E429
              have E468 : h459 98 = h 98 := Eq.trans e450 E430
              have E469 : h459 99 = h 99 := Eq.trans e451 E431
              have E470 : h459 100 = h37 100 := Eq.trans e452 E432
              have E471 : h459 103 = h 103 := Eq.trans e453 E433
              have E472 : h459 105 = h 105 := Eq.trans e454 E434
              have E473 : h459 106 = h 106 := Eq.trans e455 E435
              have E474 : h459 109 = h 109 := Eq.trans e456 E436
              have E475 : h459 114 = h 114 := Eq.trans e457 E437
              show ov_R u d ov_m234 167 [(0, ov_r 90), (1, ov_i x1), (2, ov_i x2), (3, ov_i x3), (4, ov_i v92)] [] z458 h459 (P_Mo_walk_90 F z h)
              have f476 : (h459 90 2) = (h421 90 2) ∧ (h459 90 13) = (h421 90 13) ∧ (h459 90 20) = (h421 90 20) ∧ (h459 90 22) = (h421 90 22) ∧ (h459 90 25) = (h421 90 25) ∧ (h459 90 26) = (h421 90 26) ∧ (h459 90 28) = (h421 90 28) ∧ (h459 90 29) = (h421 90 29) ∧ (h459 90 30) = (h421 90 30) ∧ (h459 90 34) = (h421 90 34) ∧ (h421 90 7) ≤ (h459 90 7) ∧ (h459 90 7) ≤ n ∧ (h421 90 8) ≤ (h459 90 8) ∧ (h421 90 7) < (h459 90 7) + (h459 90 8) := f442
              clear f442
              refine ov_goto (tgt := 15) d_234_167 (by decide) ?_
              refine ov_sub (ls2 := [(0, ov_r 90), (1, ov_i x1), (2, ov_i x2), (3, ov_i x3)]) (List.Sublist.subset (by repeat (first | exact List.Sublist.refl _ | apply List.Sublist.cons_cons | apply List.Sublist.cons))) ?_
              have bs : ov_sx (ov_tw (h459 100)) (Int.toNat x1) = ov_sx (ov_tw (h37 100)) (Int.toNat x1) := by rw [show h459 100 = h37 100 from E470]
              have bo : ∀ j : Int, j < 30 → h459 100 j = h 100 j := by rw [show h459 100 = h37 100 from E470]; exact xo
              exact ih33 x1 x2 x3 _ _ I460 E461 E462 E463 E464 E465 E466 E467 E468 E469 E471 E472 E473 E474 E475 bo (by show 0 ≤ x1 ∧ x1 ≤ 13 ∧ 0 ≤ x2 ∧ x2 ≤ 5 ∧ 0 ≤ x3 ∧ x3 ≤ 8 ∧ x2 = ov_sx (ov_tw (h459 100)) (Int.toNat x1) ∧ x3 = x1 - x2 ∧ x2 < (h 96 0) ∧ x3 < (h 96 1) ∧ 0 ≤ (h459 90 7) ∧ (h459 90 7) ≤ n ∧ (h459 90 2) = (h17 90 2) ∧ (h459 90 13) = (h17 90 13) ∧ (h459 90 20) = (h17 90 20) ∧ (h459 90 22) = (h17 90 22) ∧ (h459 90 25) = (h17 90 25) ∧ (h459 90 26) = (h17 90 26) ∧ (h459 90 28) = (h17 90 28) ∧ (h459 90 29) = (h17 90 29) ∧ (h459 90 30) = (h17 90 30) ∧ (h459 90 34) = (h17 90 34); omega) (by omega)
            · omega
  exact L35 1003 0 0 0 _ _ I18 E19 rfl rfl rfl E20 E21 E22 E23 E24 E26 E27 E28 E29 E30 (fun j _ => congrFun E25 j) (by show 0 ≤ 0 ∧ 0 ≤ 13 ∧ 0 ≤ 0 ∧ 0 ≤ 5 ∧ 0 ≤ 0 ∧ 0 ≤ 8 ∧ 0 = ov_sx (ov_tw (h17 100)) (Int.toNat 0) ∧ 0 = 0 - 0 ∧ 0 < (h 96 0) ∧ 0 < (h 96 1) ∧ 0 ≤ (h17 90 7) ∧ (h17 90 7) ≤ n ∧ (h17 90 2) = (h17 90 2) ∧ (h17 90 13) = (h17 90 13) ∧ (h17 90 20) = (h17 90 20) ∧ (h17 90 22) = (h17 90 22) ∧ (h17 90 25) = (h17 90 25) ∧ (h17 90 26) = (h17 90 26) ∧ (h17 90 28) = (h17 90 28) ∧ (h17 90 29) = (h17 90 29) ∧ (h17 90 30) = (h17 90 30) ∧ (h17 90 34) = (h17 90 34); omega) (by omega)

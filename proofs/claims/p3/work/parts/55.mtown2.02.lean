abbrev P_Mo_walk_90 (F : ov_H × ov_Z) (z : ov_Z) (h : ov_H) : Option ov_V → ov_Z → ov_H → Prop := fun r0 z' h' => ∃ r : Int, r0 = some (ov_i r) ∧ ov_N F z' h' ∧ ((h' 90 13) = (h 90 13) ∧ (h' 90 20) = (h 90 20) ∧ (h' 90 22) = (h 90 22) ∧ (h' 90 25) = (h 90 25) ∧ (h' 90 26) = (h 90 26) ∧ (h' 90 28) = (h 90 28) ∧ (h' 90 29) = (h 90 29) ∧ (h' 90 30) = (h 90 30) ∧ (h' 90 34) = (h 90 34) ∧ 0 ≤ r ∧ r ≤ 16005 ∧ (h' 90 2) = 0) ∧ h' 95 = h 95 ∧ h' 96 = h 96 ∧ h' 97 = h 97 ∧ h' 98 = h 98 ∧ h' 99 = h 99 ∧ h' 103 = h 103 ∧ h' 105 = h 105 ∧ h' 106 = h 106 ∧ h' 109 = h 109 ∧ h' 114 = h 114 ∧ (ov_WK (h 100) → ov_WK (h' 100))
set_option maxHeartbeats 4000000 in
theorem c_Mo_walk_90 {u : ov_U} {F : ov_H × ov_Z} {z : ov_Z} {h : ov_H} (d : Nat) (hd : 40 ≤ d) (U : ov_cap u) (I : ov_N F z h) : ov_T u d ov_m234 [ov_r 90] z h (P_Mo_walk_90 F z h) := by
  refine ov_en rfl (Nat.le_of_ble_eq_true rfl) ?_
  show ov_R u d ov_m234 0 [(0, ov_r 90)] [] z h (P_Mo_walk_90 F z h)
  have w0 := s100_0 I
  refine ov_blk (ls2 := [(0, ov_r 90)]) (st2 := [ov_i 0, ov_r 90]) (pc2 := 2) b_234_0_2 rfl rfl ?_
  refine ov_putf (x := 0) d_234_2 fl_Mo_1 (zb_90 I) (zs_90 I) rfl nk_0 rfl ?_
  have I1 := up_90_0 (x := 0) I (by omega)
  refine ov_blk (ls2 := [(0, ov_r 90)]) (st2 := [ov_r 90]) (pc2 := 6) b_234_5_1 rfl rfl ?_
  refine ov_cV (as := []) (st := []) (d2 := d - 1) d_234_6 lk_Mo_205 rfl (Nat.le_of_ble_eq_true rfl) (c := 1) (zb_90 I1) (zs_90 I1) ⟨by decide, rfl⟩ (by omega) (c_Mo_cutAll_90 (d - 1) (by omega) U I1) ?_
  rintro _ z15 h16 ⟨rfl, I17, f2, e3, e4, e5, e6, e7, e8, e9, e10, e11, e12, e13, y14⟩
  have E18 : h16 95 = h 95 := e3
  have E19 : h16 96 = h 96 := e4
  have E20 : h16 97 = h 97 := e5
  have E21 : h16 98 = h 98 := e6
  have E22 : h16 99 = h 99 := e7
  have E23 : h16 100 = h 100 := e8
  have E24 : h16 103 = h 103 := e9
  have E25 : h16 105 = h 105 := e10
  have E26 : h16 106 = h 106 := e11
  have E27 : h16 109 = h 109 := e12
  have E28 : h16 114 = h 114 := e13
  show ov_R u d ov_m234 9 [(0, ov_r 90)] [] z15 h16 (P_Mo_walk_90 F z h)
  have f29 : (h16 90 13) = (h 90 13) ∧ (h16 90 20) = (h 90 20) ∧ (h16 90 22) = (h 90 22) ∧ (h16 90 25) = (h 90 25) ∧ (h16 90 26) = (h 90 26) ∧ (h16 90 28) = (h 90 28) ∧ (h16 90 29) = (h 90 29) ∧ (h16 90 30) = (h 90 30) ∧ (h16 90 34) = (h 90 34) ∧ (h16 90 7) = 0 ∧ (h16 90 8) = 0 ∧ (h16 90 2) = 0 := f2
  clear f2
  have y14_ : ∃ n : Int, 0 ≤ n ∧ n ≤ 1000 ∧ (h16 92) n = 0 := y14
  obtain ⟨n, hn0, hn1, hn2⟩ := y14_
  have z0 : ov_sx (ov_tw (h16 100)) (Int.toNat 0) = 0 := rfl
  have t0 := t96_0 I
  have t1 := t96_1 I
  refine ov_blk (ls2 := [(0, ov_r 90), (1, ov_i 0), (2, ov_i 0), (3, ov_i 0)]) (st2 := []) (pc2 := 15) b_234_9_6 rfl rfl ?_
  have L33 : ∀ (n30 : Nat) (x1 : Int) (x2 : Int) (x3 : Int) (z34 : ov_Z) (h35 : ov_H) (I36 : ov_N F z34 h35) (E37 : h35 92 = h16 92) (E38 : h35 93 = h16 93) (E39 : h35 94 = h16 94) (E40 : h35 95 = h 95) (E41 : h35 96 = h 96) (E42 : h35 97 = h 97) (E43 : h35 98 = h 98) (E44 : h35 99 = h 99) (E45 : h35 103 = h 103) (E46 : h35 105 = h 105) (E47 : h35 106 = h 106) (E48 : h35 109 = h 109) (E49 : h35 114 = h 114) (xo : ∀ j : Int, j < 30 → (h35 100) j = (h 100) j) (q32 : 0 ≤ x1 ∧ x1 ≤ 13 ∧ 0 ≤ x2 ∧ x2 ≤ 5 ∧ 0 ≤ x3 ∧ x3 ≤ 8 ∧ x2 = ov_sx (ov_tw (h35 100)) (Int.toNat x1) ∧ x3 = x1 - x2 ∧ x2 < (h 96 0) ∧ x3 < (h 96 1) ∧ 0 ≤ (h35 90 7) ∧ (h35 90 7) ≤ n ∧ (h35 90 2) = (h16 90 2) ∧ (h35 90 13) = (h16 90 13) ∧ (h35 90 20) = (h16 90 20) ∧ (h35 90 22) = (h16 90 22) ∧ (h35 90 25) = (h16 90 25) ∧ (h35 90 26) = (h16 90 26) ∧ (h35 90 28) = (h16 90 28) ∧ (h35 90 29) = (h16 90 29) ∧ (h35 90 30) = (h16 90 30) ∧ (h35 90 34) = (h16 90 34)), 1001 - (h35 90 7) - min ((h35 90 8)) 1 < (n30 : Int) → ov_R u d ov_m234 15 [(0, ov_r 90), (1, ov_i x1), (2, ov_i x2), (3, ov_i x3)] [] z34 h35 (P_Mo_walk_90 F z h) := by
    intro n30
    induction n30 with
    | zero =>
      intro x1 x2 x3 z34 h35 I36 E37 E38 E39 E40 E41 E42 E43 E44 E45 E46 E47 E48 E49 xo q32 hn50
      exact absurd hn50 (by omega)
    | succ n30 ih31 =>
      intro x1 x2 x3 z34 h35 I36 E37 E38 E39 E40 E41 E42 E43 E44 E45 E46 E47 E48 E49 xo q32 hn50
      refine ov_blk (ls2 := [(0, ov_r 90), (1, ov_i x1), (2, ov_i x2), (3, ov_i x3)]) (st2 := [ov_r 90]) (pc2 := 16) b_234_15_1 rfl rfl ?_
      refine ov_getf (v := ov_i (h35 90 8)) d_234_16 fl_Mo_180 (zb_90 I36) (zs_90 I36) rfl ?_
      have g51 := rg_90_8 I36
      refine ov_ifne (tgt := 170) d_234_19 (by decide) (by omega) (fun c52 => ?_) (fun c52 => ?_)
      · skip
        refine ov_blk (ls2 := [(0, ov_r 90), (1, ov_i x1), (2, ov_i x2), (3, ov_i x3)]) (st2 := [ov_r 90]) (pc2 := 171) b_234_170_1 rfl rfl ?_
        refine ov_getf (v := ov_i (h35 90 8)) d_234_171 fl_Mo_180 (zb_90 I36) (zs_90 I36) rfl ?_
        refine ov_ifle (tgt := 182) d_234_174 (by decide) (by omega) (fun c54 => ?_) (fun c54 => ?_)
        · omega
        · skip
          refine ov_blk (ls2 := [(0, ov_r 90), (1, ov_i x1), (2, ov_i x2), (3, ov_i x3)]) (st2 := [ov_r 90]) (pc2 := 178) b_234_177_1 rfl rfl ?_
          refine ov_getf (v := ov_i (h35 90 8)) d_234_178 fl_Mo_180 (zb_90 I36) (zs_90 I36) rfl ?_
          exact ov_reti (st := []) d_234_181 rfl ⟨_, rfl, I36, (by show (h35 90 13) = (h 90 13) ∧ (h35 90 20) = (h 90 20) ∧ (h35 90 22) = (h 90 22) ∧ (h35 90 25) = (h 90 25) ∧ (h35 90 26) = (h 90 26) ∧ (h35 90 28) = (h 90 28) ∧ (h35 90 29) = (h 90 29) ∧ (h35 90 30) = (h 90 30) ∧ (h35 90 34) = (h 90 34) ∧ 0 ≤ (h35 90 8) ∧ (h35 90 8) ≤ 16005 ∧ (h35 90 2) = 0; omega), E40, E41, E42, E43, E44, E45, E46, E47, E48, E49, (fun w => by show ov_WK (h35 100); exact ov_WK_o w (by omega) xo)⟩
      · skip
        refine ov_blk (ls2 := [(0, ov_r 90), (1, ov_i x1), (2, ov_i x2), (3, ov_i x3)]) (st2 := [ov_r 90]) (pc2 := 23) b_234_22_1 rfl rfl ?_
        refine ov_getf (v := ov_r 92) d_234_23 fl_Mo_24 (zb_90 I36) (zs_90 I36) (congrArg ov_r (rg_90_4 I36)) ?_
        refine ov_blk (ls2 := [(0, ov_r 90), (1, ov_i x1), (2, ov_i x2), (3, ov_i x3)]) (st2 := [ov_r 90, ov_r 92]) (pc2 := 27) b_234_26_1 rfl rfl ?_
        refine ov_getf (v := ov_i (h35 90 7)) d_234_27 fl_Mo_177 (zb_90 I36) (zs_90 I36) rfl ?_
        have g56 := rg_90_7 I36
        refine ov_iald d_234_30 (zb_92 I36) (zs_92 I36) (by omega) ?_
        rw [show h35 92 = h16 92 from E37]
        have g57 := ra_92 I17 (h35 90 7)
        refine ov_ifeq (tgt := 170) d_234_31 (by decide) (by omega) (fun c58 => ?_) (fun c58 => ?_)
        · skip
          refine ov_blk (ls2 := [(0, ov_r 90), (1, ov_i x1), (2, ov_i x2), (3, ov_i x3)]) (st2 := [ov_r 90]) (pc2 := 171) b_234_170_1 rfl rfl ?_
          refine ov_getf (v := ov_i (h35 90 8)) d_234_171 fl_Mo_180 (zb_90 I36) (zs_90 I36) rfl ?_
          refine ov_ifle (tgt := 182) d_234_174 (by decide) (by omega) (fun c60 => ?_) (fun c60 => ?_)
          · skip
            refine ov_blk (ls2 := [(0, ov_r 90), (1, ov_i x1), (2, ov_i x2), (3, ov_i x3)]) (st2 := [ov_r 90]) (pc2 := 183) b_234_182_1 rfl rfl ?_
            refine ov_getf (v := ov_r 100) d_234_183 fl_Mo_93 (zb_90 I36) (zs_90 I36) (congrArg ov_r (rg_90_16 I36)) ?_
            refine ov_blk (ls2 := [(0, ov_r 90), (1, ov_i x1), (2, ov_i x2), (3, ov_i x3)]) (st2 := [ov_i x1, ov_i 0, ov_r 100]) (pc2 := 188) b_234_186_2 rfl rfl ?_
            refine ov_iast d_234_188 (zb_100 I36) (zs_100 I36) (by omega) ?_
            have I61 := ua_100 (k := 0) (x := x1) I36 (by refine ⟨?_, ?_, ?_, ?_⟩ <;> omega)
            refine ov_blk (ls2 := [(0, ov_r 90), (1, ov_i x1), (2, ov_i x2), (3, ov_i x3), (4, ov_i 0)]) (st2 := []) (pc2 := 192) b_234_189_2 rfl rfl ?_
            have L65 : ∀ (n62 : Nat) (x4 : Int) (z66 : ov_Z) (h67 : ov_H) (I68 : ov_N F z66 h67) (E69 : h67 92 = h16 92) (E70 : h67 93 = h16 93) (E71 : h67 94 = h16 94) (E72 : h67 95 = h 95) (E73 : h67 96 = h 96) (E74 : h67 97 = h 97) (E75 : h67 98 = h 98) (E76 : h67 99 = h 99) (E77 : h67 103 = h 103) (E78 : h67 105 = h 105) (E79 : h67 106 = h 106) (E80 : h67 109 = h 109) (E81 : h67 114 = h 114) (xk : ∀ j : Int, 0 ≤ j → j < x4 → (h67 100) (1 + j) = h35 100 (30 + j)) (xl : ∀ j : Int, 30 ≤ j → (h67 100) j = h35 100 j) (q64 : 0 ≤ x4 ∧ x4 ≤ 26 ∧ (h67 100 0) = x1 ∧ (h67 90 2) = (h35 90 2) ∧ (h67 90 7) = (h35 90 7) ∧ (h67 90 8) = (h35 90 8) ∧ (h67 90 13) = (h35 90 13) ∧ (h67 90 20) = (h35 90 20) ∧ (h67 90 22) = (h35 90 22) ∧ (h67 90 25) = (h35 90 25) ∧ (h67 90 26) = (h35 90 26) ∧ (h67 90 28) = (h35 90 28) ∧ (h67 90 29) = (h35 90 29) ∧ (h67 90 30) = (h35 90 30) ∧ (h67 90 34) = (h35 90 34)), 26 - x4 < (n62 : Int) → ov_R u d ov_m234 192 [(0, ov_r 90), (1, ov_i x1), (2, ov_i x2), (3, ov_i x3), (4, ov_i x4)] [] z66 h67 (P_Mo_walk_90 F z h) := by
              intro n62
              induction n62 with
              | zero =>
                intro x4 z66 h67 I68 E69 E70 E71 E72 E73 E74 E75 E76 E77 E78 E79 E80 E81 xk xl q64 hn82
                exact absurd hn82 (by omega)
              | succ n62 ih63 =>
                intro x4 z66 h67 I68 E69 E70 E71 E72 E73 E74 E75 E76 E77 E78 E79 E80 E81 xk xl q64 hn82
                refine ov_blk (ls2 := [(0, ov_r 90), (1, ov_i x1), (2, ov_i x2), (3, ov_i x3), (4, ov_i x4)]) (st2 := [ov_i (2 * x1), ov_i x4]) (pc2 := 197) b_234_192_4 rfl rfl ?_
                refine ov_icge (tgt := 225) d_234_197 (by decide) (by omega) (by omega) (fun c83 => ?_) (fun c83 => ?_)
                · skip
                  refine ov_blk (ls2 := [(0, ov_r 90), (1, ov_i x1), (2, ov_i x2), (3, ov_i x3), (4, ov_i x4)]) (st2 := [ov_i 0]) (pc2 := 226) b_234_225_1 rfl rfl ?_
                  exact ov_reti (st := []) d_234_226 rfl ⟨_, rfl, I68, (by show (h67 90 13) = (h 90 13) ∧ (h67 90 20) = (h 90 20) ∧ (h67 90 22) = (h 90 22) ∧ (h67 90 25) = (h 90 25) ∧ (h67 90 26) = (h 90 26) ∧ (h67 90 28) = (h 90 28) ∧ (h67 90 29) = (h 90 29) ∧ (h67 90 30) = (h 90 30) ∧ (h67 90 34) = (h 90 34) ∧ 0 ≤ 0 ∧ 0 ≤ 16005 ∧ (h67 90 2) = 0; omega), E72, E73, E74, E75, E76, E77, E78, E79, E80, E81, (fun w => ov_WK_of (f := h35 100) (n := x1) (by omega) (by show (h67 100 0) = _; omega) (by omega) (fun j a b => xk j a (by omega)))⟩
                · skip
                  have gw := ra_100 I68 (30 + x4)
                  have g0 : h67 100 0 = h67 100 0 := rfl
                  refine ov_blk (ls2 := [(0, ov_r 90), (1, ov_i x1), (2, ov_i x2), (3, ov_i x3), (4, ov_i x4)]) (st2 := [ov_r 90]) (pc2 := 201) b_234_200_1 rfl rfl ?_
                  refine ov_getf (v := ov_r 100) d_234_201 fl_Mo_93 (zb_90 I68) (zs_90 I68) (congrArg ov_r (rg_90_16 I68)) ?_
                  refine ov_blk (ls2 := [(0, ov_r 90), (1, ov_i x1), (2, ov_i x2), (3, ov_i x3), (4, ov_i x4)]) (st2 := [ov_r 90, ov_i (1 + x4), ov_r 100]) (pc2 := 209) b_234_204_4 rfl rfl ?_
                  refine ov_getf (v := ov_r 100) d_234_209 fl_Mo_93 (zb_90 I68) (zs_90 I68) (congrArg ov_r (rg_90_16 I68)) ?_
                  refine ov_blk (ls2 := [(0, ov_r 90), (1, ov_i x1), (2, ov_i x2), (3, ov_i x3), (4, ov_i x4)]) (st2 := [ov_i (30 + x4), ov_r 100, ov_i (1 + x4), ov_r 100]) (pc2 := 217) b_234_212_3 rfl rfl ?_
                  refine ov_iald d_234_217 (zb_100 I68) (zs_100 I68) (by omega) ?_
                  have g84 := s100_g I68 (30 + x4)
                  refine ov_iast d_234_218 (zb_100 I68) (zs_100 I68) (by omega) ?_
                  have I85 := ua_100 (k := (1 + x4)) (x := (h67 100 (30 + x4))) I68 (by refine ⟨?_, ?_, ?_, ?_⟩ <;> omega)
                  have gh : ((ov_up h67 100 (1 + x4) (h67 100 (30 + x4))) 100 0) = h67 100 0 := by rw [ov_up_j (by omega)]
                  refine ov_blk (ls2 := [(0, ov_r 90), (1, ov_i x1), (2, ov_i x2), (3, ov_i x3), (4, ov_i (x4 + 1))]) (st2 := []) (pc2 := 222) b_234_219_1 rfl rfl ?_
                  refine ov_goto (tgt := 192) d_234_222 (by decide) ?_
                  exact ih63 (x4 + 1) _ _ I85 E69 E70 E71 E72 E73 E74 E75 E76 E77 E78 E79 E80 E81 (fun j a b => if e : j = x4 then (by rw [e, ov_up_row, ov_rs_eq]; exact xl _ (by omega)) else (by rw [ov_up_j (by omega)]; exact xk j a (by omega))) (fun j a => by rw [ov_up_j (by omega)]; exact xl j a) (by show 0 ≤ (x4 + 1) ∧ (x4 + 1) ≤ 26 ∧ ((ov_up h67 100 (1 + x4) (h67 100 (30 + x4))) 100 0) = x1 ∧ (h67 90 2) = (h35 90 2) ∧ (h67 90 7) = (h35 90 7) ∧ (h67 90 8) = (h35 90 8) ∧ (h67 90 13) = (h35 90 13) ∧ (h67 90 20) = (h35 90 20) ∧ (h67 90 22) = (h35 90 22) ∧ (h67 90 25) = (h35 90 25) ∧ (h67 90 26) = (h35 90 26) ∧ (h67 90 28) = (h35 90 28) ∧ (h67 90 29) = (h35 90 29) ∧ (h67 90 30) = (h35 90 30) ∧ (h67 90 34) = (h35 90 34); omega) (by omega)
            exact L65 27 0 _ _ I61 E37 E38 E39 E40 E41 E42 E43 E44 E45 E46 E47 E48 E49 (fun j a b => by omega) (fun j a => by rw [ov_up_j (by omega)]) (by show 0 ≤ 0 ∧ 0 ≤ 26 ∧ x1 = x1 ∧ (h35 90 2) = (h35 90 2) ∧ (h35 90 7) = (h35 90 7) ∧ (h35 90 8) = (h35 90 8) ∧ (h35 90 13) = (h35 90 13) ∧ (h35 90 20) = (h35 90 20) ∧ (h35 90 22) = (h35 90 22) ∧ (h35 90 25) = (h35 90 25) ∧ (h35 90 26) = (h35 90 26) ∧ (h35 90 28) = (h35 90 28) ∧ (h35 90 29) = (h35 90 29) ∧ (h35 90 30) = (h35 90 30) ∧ (h35 90 34) = (h35 90 34); omega) (by omega)
          · omega
        · skip
          have qn : (h35 90 7) = n → h16 92 (h35 90 7) = h16 92 n := fun e => by rw [e]
          have t0 := t96_0 I
          have t1 := t96_1 I
          refine ov_blk (ls2 := [(0, ov_r 90), (1, ov_i x1), (2, ov_i x2), (3, ov_i x3)]) (st2 := [ov_i 2, ov_i 10, ov_r 90]) (pc2 := 38) b_234_34_3 rfl rfl ?_
          have cf86 : h35 92 (n) = h16 92 (n) := congrFun E37 (n)
          refine ov_cV (as := [ov_i 10, ov_i 2]) (st := []) (d2 := d - 1) d_234_38 lk_Mo_202 rfl (Nat.le_of_ble_eq_true rfl) (c := 1) (zb_90 I36) (zs_90 I36) ⟨by decide, rfl⟩ (by omega) (c_Mo_wordHere_90 n (d - 1) (by omega) U I36 10 2 (by omega) (by omega) (by show 0 ≤ n ∧ n ≤ 1000 ∧ (h35 92 (n)) = 0 ∧ (h35 90 7) ≤ n; omega) (by omega)) ?_
          rintro _ _ _ ⟨v88, rfl, rfl, rfl, f87⟩
          show ov_R u d ov_m234 41 [(0, ov_r 90), (1, ov_i x1), (2, ov_i x2), (3, ov_i x3)] [ov_i v88] z34 h35 (P_Mo_walk_90 F z h)
          have f89 : -1 ≤ v88 ∧ v88 < (2 : Int) ∧ (0 ≤ v88 → (h35 90 7) < n ∧ (h35 90 8) = 0) := f87
          clear f87
          refine ov_blk (ls2 := [(0, ov_r 90), (1, ov_i x1), (2, ov_i x2), (3, ov_i x3), (4, ov_i v88)]) (st2 := [ov_i v88]) (pc2 := 45) b_234_41_2 rfl rfl ?_
          refine ov_ifge (tgt := 56) d_234_45 (by decide) (by omega) (fun c90 => ?_) (fun c90 => ?_)
          · skip
            refine ov_blk (ls2 := [(0, ov_r 90), (1, ov_i x1), (2, ov_i x2), (3, ov_i x3), (4, ov_i v88)]) (st2 := [ov_i v88, ov_i x3, ov_i x2, ov_r 90]) (pc2 := 61) b_234_56_4 rfl rfl ?_
            refine ov_cV (as := [ov_i x2, ov_i x3, ov_i v88]) (st := []) (d2 := d - 1) d_234_61 lk_Mo_250 rfl (Nat.le_of_ble_eq_true rfl) (c := 1) (zb_90 I36) (zs_90 I36) ⟨by decide, rfl⟩ (by omega) (c_Mo_isThere_90 (d - 1) (by omega) U I36 x2 x3 v88 (by omega) (by omega) (by omega)) ?_
            rintro _ _ _ ⟨v92, rfl, rfl, rfl, f91⟩
            show ov_R u d ov_m234 64 [(0, ov_r 90), (1, ov_i x1), (2, ov_i x2), (3, ov_i x3), (4, ov_i v88)] [ov_i v92] z34 h35 (P_Mo_walk_90 F z h)
            rw [show h35 96 = h 96 from E41] at f91
            have f93 : (v92 = 0 ∨ v92 = 1) ∧ (v92 = 1 → ((v88 = 0 → x2 < (h 96 0) - 1) ∧ (¬ v88 = 0 → x3 < (h 96 1) - 1))) ∧ (v92 = 0 → ¬ ((v88 = 0 → x2 < (h 96 0) - 1) ∧ (¬ v88 = 0 → x3 < (h 96 1) - 1))) := f91
            clear f91
            refine ov_ifeq (tgt := 78) d_234_64 (by decide) (by omega) (fun c94 => ?_) (fun c94 => ?_)
            · skip
              have f93_ : v92 = 0 := by omega
              have f95 : ¬ ((v88 = 0 → x2 < (h 96 0) - 1) ∧ (¬ v88 = 0 → x3 < (h 96 1) - 1)) := f93.2.2 (by omega)
              clear f93
              refine ov_blk (ls2 := [(0, ov_r 90), (1, ov_i x1), (2, ov_i x2), (3, ov_i x3), (4, ov_i v88)]) (st2 := [ov_i 2, ov_r 90]) (pc2 := 80) b_234_78_2 rfl rfl ?_
              refine ov_cV (as := [ov_i 2]) (st := []) (d2 := d - 1) d_234_80 lk_Mo_186 rfl (Nat.le_of_ble_eq_true rfl) (c := 1) (zb_90 I36) (zs_90 I36) ⟨by decide, rfl⟩ (by omega) (c_Mo_wrong_90 (d - 1) (by omega) U I36 2 (by omega) (by omega)) ?_
              rintro _ z111 h112 ⟨rfl, I113, f96, e97, e98, e99, e100, e101, e102, e103, e104, e105, e106, e107, e108, e109, e110⟩
              have E114 : h112 92 = h16 92 := Eq.trans e97 E37
              have E115 : h112 93 = h16 93 := Eq.trans e98 E38
              have E116 : h112 94 = h16 94 := Eq.trans e99 E39
              have E117 : h112 95 = h 95 := Eq.trans e100 E40
              have E118 : h112 96 = h 96 := Eq.trans e101 E41
              have E119 : h112 97 = h 97 := Eq.trans e102 E42
              have E120 : h112 98 = h 98 := Eq.trans e103 E43
              have E121 : h112 99 = h 99 := Eq.trans e104 E44
              have E122 : h112 100 = h35 100 := e105
              have E123 : h112 103 = h 103 := Eq.trans e106 E45
              have E124 : h112 105 = h 105 := Eq.trans e107 E46
              have E125 : h112 106 = h 106 := Eq.trans e108 E47
              have E126 : h112 109 = h 109 := Eq.trans e109 E48
              have E127 : h112 114 = h 114 := Eq.trans e110 E49
              show ov_R u d ov_m234 83 [(0, ov_r 90), (1, ov_i x1), (2, ov_i x2), (3, ov_i x3), (4, ov_i v88)] [] z111 h112 (P_Mo_walk_90 F z h)
              have f128 : (h112 90 2) = (h35 90 2) ∧ (h112 90 7) = (h35 90 7) ∧ (h112 90 13) = (h35 90 13) ∧ (h112 90 20) = (h35 90 20) ∧ (h112 90 22) = (h35 90 22) ∧ (h112 90 25) = (h35 90 25) ∧ (h112 90 26) = (h35 90 26) ∧ (h112 90 28) = (h35 90 28) ∧ (h112 90 29) = (h35 90 29) ∧ (h112 90 30) = (h35 90 30) ∧ (h112 90 34) = (h35 90 34) ∧ 0 < (h112 90 8) ∧ (h35 90 8) ≤ (h112 90 8) := f96
              clear f96
              refine ov_goto (tgt := 97) d_234_83 (by decide) ?_
              refine ov_blk (ls2 := [(0, ov_r 90), (1, ov_i x1), (2, ov_i x2), (3, ov_i x3), (4, ov_i v88)]) (st2 := [ov_r 90]) (pc2 := 98) b_234_97_1 rfl rfl ?_
              refine ov_getf (v := ov_i (h112 90 8)) d_234_98 fl_Mo_180 (zb_90 I113) (zs_90 I113) rfl ?_
              have g129 := rg_90_8 I113
              refine ov_ifne (tgt := 161) d_234_101 (by decide) (by omega) (fun c130 => ?_) (fun c130 => ?_)
              · skip
                refine ov_blk (ls2 := [(0, ov_r 90), (1, ov_i x1), (2, ov_i x2), (3, ov_i x3), (4, ov_i v88)]) (st2 := [ov_i 59, ov_r 90]) (pc2 := 164) b_234_161_2 rfl rfl ?_
                have cf131 : h112 92 (n) = h16 92 (n) := congrFun E114 (n)
                refine ov_cV (as := [ov_i 59]) (st := []) (d2 := d - 1) d_234_164 lk_Mo_214 rfl (Nat.le_of_ble_eq_true rfl) (c := 1) (zb_90 I113) (zs_90 I113) ⟨by decide, rfl⟩ (by omega) (c_Mo_takeSign_90 n (d - 1) (by omega) U I113 59 (by omega) (by show 0 ≤ n ∧ n ≤ 1000 ∧ (h112 92 (n)) = 0 ∧ (h112 90 7) ≤ n; omega)) ?_
                rintro _ z147 h148 ⟨rfl, I149, f132, e133, e134, e135, e136, e137, e138, e139, e140, e141, e142, e143, e144, e145, e146⟩
                have E150 : h148 92 = h16 92 := Eq.trans e133 E114
                have E151 : h148 93 = h16 93 := Eq.trans e134 E115
                have E152 : h148 94 = h16 94 := Eq.trans e135 E116
                have E153 : h148 95 = h 95 := Eq.trans e136 E117
                have E154 : h148 96 = h 96 := Eq.trans e137 E118
                have E155 : h148 97 = h 97 := Eq.trans e138 E119
                have E156 : h148 98 = h 98 := Eq.trans e139 E120
                have E157 : h148 99 = h 99 := Eq.trans e140 E121
                have E158 : h148 100 = h35 100 := Eq.trans e141 E122
                have E159 : h148 103 = h 103 := Eq.trans e142 E123
                have E160 : h148 105 = h 105 := Eq.trans e143 E124
                have E161 : h148 106 = h 106 := Eq.trans e144 E125
                have E162 : h148 109 = h 109 := Eq.trans e145 E126
                have E163 : h148 114 = h 114 := Eq.trans e146 E127
                show ov_R u d ov_m234 167 [(0, ov_r 90), (1, ov_i x1), (2, ov_i x2), (3, ov_i x3), (4, ov_i v88)] [] z147 h148 (P_Mo_walk_90 F z h)
                have f164 : (h148 90 2) = (h112 90 2) ∧ (h148 90 13) = (h112 90 13) ∧ (h148 90 20) = (h112 90 20) ∧ (h148 90 22) = (h112 90 22) ∧ (h148 90 25) = (h112 90 25) ∧ (h148 90 26) = (h112 90 26) ∧ (h148 90 28) = (h112 90 28) ∧ (h148 90 29) = (h112 90 29) ∧ (h148 90 30) = (h112 90 30) ∧ (h148 90 34) = (h112 90 34) ∧ (h112 90 7) ≤ (h148 90 7) ∧ (h148 90 7) ≤ n ∧ (h112 90 8) ≤ (h148 90 8) ∧ (h112 90 7) < (h148 90 7) + (h148 90 8) := f132
                clear f132
                refine ov_goto (tgt := 15) d_234_167 (by decide) ?_
                refine ov_sub (ls2 := [(0, ov_r 90), (1, ov_i x1), (2, ov_i x2), (3, ov_i x3)]) (List.Sublist.subset (by repeat (first | exact List.Sublist.refl _ | apply List.Sublist.cons_cons | apply List.Sublist.cons))) ?_
                have bs : ov_sx (ov_tw (h148 100)) (Int.toNat x1) = ov_sx (ov_tw (h35 100)) (Int.toNat x1) := by rw [show h148 100 = h35 100 from E158]
                have bo : ∀ j : Int, j < 30 → h148 100 j = h 100 j := by rw [show h148 100 = h35 100 from E158]; exact xo
                exact ih31 x1 x2 x3 _ _ I149 E150 E151 E152 E153 E154 E155 E156 E157 E159 E160 E161 E162 E163 bo (by show 0 ≤ x1 ∧ x1 ≤ 13 ∧ 0 ≤ x2 ∧ x2 ≤ 5 ∧ 0 ≤ x3 ∧ x3 ≤ 8 ∧ x2 = ov_sx (ov_tw (h148 100)) (Int.toNat x1) ∧ x3 = x1 - x2 ∧ x2 < (h 96 0) ∧ x3 < (h 96 1) ∧ 0 ≤ (h148 90 7) ∧ (h148 90 7) ≤ n ∧ (h148 90 2) = (h16 90 2) ∧ (h148 90 13) = (h16 90 13) ∧ (h148 90 20) = (h16 90 20) ∧ (h148 90 22) = (h16 90 22) ∧ (h148 90 25) = (h16 90 25) ∧ (h148 90 26) = (h16 90 26) ∧ (h148 90 28) = (h16 90 28) ∧ (h148 90 29) = (h16 90 29) ∧ (h148 90 30) = (h16 90 30) ∧ (h148 90 34) = (h16 90 34); omega) (by omega)
              · omega
            · skip
              have f93_ : v92 = 1 := by omega
              have f165 : ((v88 = 0 → x2 < (h 96 0) - 1) ∧ (¬ v88 = 0 → x3 < (h 96 1) - 1)) := f93.2.1 (by omega)
              clear f93
              refine ov_blk (ls2 := [(0, ov_r 90), (1, ov_i x1), (2, ov_i x2), (3, ov_i x3), (4, ov_i v88)]) (st2 := [ov_i v88, ov_i x3, ov_i x2, ov_r 90]) (pc2 := 72) b_234_67_4 rfl rfl ?_
              refine ov_cV (as := [ov_i x2, ov_i x3, ov_i v88]) (st := []) (d2 := d - 1) d_234_72 lk_Mo_254 rfl (Nat.le_of_ble_eq_true rfl) (c := 1) (zb_90 I36) (zs_90 I36) ⟨by decide, rfl⟩ (by omega) (c_Mo_isBarred_90 (d - 1) (by omega) U I36 x2 x3 v88 (by omega) (by omega) (by omega) (by omega) (by omega)) ?_
              rintro _ _ _ ⟨v167, rfl, rfl, rfl, f166⟩
              show ov_R u d ov_m234 75 [(0, ov_r 90), (1, ov_i x1), (2, ov_i x2), (3, ov_i x3), (4, ov_i v88)] [ov_i v167] z34 h35 (P_Mo_walk_90 F z h)
              rw [show h35 96 = h 96 from E41] at f166
              have f168 : (v167 = 0 ∨ v167 = 1) ∧ (v167 = 1 → ov_and (ov_shr ((h 96 (226 + 6 * x3 + x2))) v88) 1 = 1) ∧ (v167 = 0 → ¬ ov_and (ov_shr ((h 96 (226 + 6 * x3 + x2))) v88) 1 = 1) := f166
              clear f166
              refine ov_ifeq (tgt := 86) d_234_75 (by decide) (by omega) (fun c169 => ?_) (fun c169 => ?_)
              · skip
                have f168_ : v167 = 0 := by omega
                have f170 : ¬ ov_and (ov_shr ((h 96 (226 + 6 * x3 + x2))) v88) 1 = 1 := f168.2.2 (by omega)
                clear f168
                refine ov_blk (ls2 := [(0, ov_r 90), (1, ov_i x1), (2, ov_i x2), (3, ov_i x3), (4, ov_i v88)]) (st2 := [ov_i 13, ov_i x1]) (pc2 := 89) b_234_86_2 rfl rfl ?_
                refine ov_icne (tgt := 97) d_234_89 (by decide) (by omega) (by omega) (fun c171 => ?_) (fun c171 => ?_)
                · skip
                  refine ov_blk (ls2 := [(0, ov_r 90), (1, ov_i x1), (2, ov_i x2), (3, ov_i x3), (4, ov_i v88)]) (st2 := [ov_r 90]) (pc2 := 98) b_234_97_1 rfl rfl ?_
                  refine ov_getf (v := ov_i (h35 90 8)) d_234_98 fl_Mo_180 (zb_90 I36) (zs_90 I36) rfl ?_
                  refine ov_ifne (tgt := 161) d_234_101 (by decide) (by omega) (fun c173 => ?_) (fun c173 => ?_)
                  · omega
                  · skip
                    refine ov_blk (ls2 := [(0, ov_r 90), (1, ov_i x1), (2, ov_i x2), (3, ov_i x3), (4, ov_i v88)]) (st2 := [ov_r 90, ov_r 90]) (pc2 := 106) b_234_104_2 rfl rfl ?_
                    refine ov_getf (v := ov_i (h35 90 7)) d_234_106 fl_Mo_177 (zb_90 I36) (zs_90 I36) rfl ?_
                    refine ov_blk (ls2 := [(0, ov_r 90), (1, ov_i x1), (2, ov_i x2), (3, ov_i x3), (4, ov_i v88)]) (st2 := [ov_i ((h35 90 7) + 1), ov_r 90]) (pc2 := 111) b_234_109_2 rfl rfl ?_
                    refine ov_putf (x := ((h35 90 7) + 1)) d_234_111 fl_Mo_177 (zb_90 I36) (zs_90 I36) rfl nk_0 rfl ?_
                    have I175 := up_90_7 (x := ((h35 90 7) + 1)) I36 (by omega)
                    refine ov_blk (ls2 := [(0, ov_r 90), (1, ov_i x1), (2, ov_i x2), (3, ov_i x3), (4, ov_i v88)]) (st2 := [ov_r 90]) (pc2 := 115) b_234_114_1 rfl rfl ?_
                    refine ov_getf (v := ov_r 100) d_234_115 fl_Mo_93 (zb_90 I175) (zs_90 I175) (congrArg ov_r (rg_90_16 I175)) ?_
                    refine ov_blk (ls2 := [(0, ov_r 90), (1, ov_i x1), (2, ov_i x2), (3, ov_i x3), (4, ov_i v88)]) (st2 := [ov_i v88, ov_i (30 + (2 * x1)), ov_r 100]) (pc2 := 126) b_234_118_6 rfl rfl ?_
                    refine ov_iast d_234_126 (zb_100 I175) (zs_100 I175) (by omega) ?_
                    have I176 := ua_100 (k := (30 + (2 * x1))) (x := v88) I175 (by refine ⟨?_, ?_, ?_, ?_⟩ <;> omega)
                    refine ov_blk (ls2 := [(0, ov_r 90), (1, ov_i x1), (2, ov_i x2), (3, ov_i x3), (4, ov_i v88)]) (st2 := [ov_r 90]) (pc2 := 128) b_234_127_1 rfl rfl ?_
                    refine ov_getf (v := ov_r 100) d_234_128 fl_Mo_93 (zb_90 I176) (zs_90 I176) (congrArg ov_r (rg_90_16 I176)) ?_
                    refine ov_blk (ls2 := [(0, ov_r 90), (1, ov_i x1), (2, ov_i x2), (3, ov_i x3), (4, ov_i v88)]) (st2 := [ov_i 9999, ov_i 0, ov_r 90, ov_i (31 + (2 * x1)), ov_r 100]) (pc2 := 142) b_234_131_8 rfl rfl ?_
                    have cf177 : h35 92 (n) = h16 92 (n) := congrFun E37 (n)
                    refine ov_cV (as := [ov_i 0, ov_i 9999]) (st := [ov_i (31 + (2 * x1)), ov_r 100]) (d2 := d - 1) d_234_142 lk_Mo_198 rfl (Nat.le_of_ble_eq_true rfl) (c := 1) (zb_90 I176) (zs_90 I176) ⟨by decide, rfl⟩ (by omega) (c_Mo_takeNumber_90 n (d - 1) (by omega) U I176 0 9999 (by omega) (by omega) (by show 0 ≤ n ∧ n ≤ 1000 ∧ (h35 92 (n)) = 0 ∧ ((h35 90 7) + 1) ≤ n; omega)) ?_
                    rintro _ z194 h195 ⟨v179, rfl, I196, f178, e180, e181, e182, e183, e184, e185, e186, e187, e188, e189, e190, e191, e192, e193⟩
                    have E197 : h195 92 = h16 92 := Eq.trans e180 E37
                    have E198 : h195 93 = h16 93 := Eq.trans e181 E38
                    have E199 : h195 94 = h16 94 := Eq.trans e182 E39
                    have E200 : h195 95 = h 95 := Eq.trans e183 E40
                    have E201 : h195 96 = h 96 := Eq.trans e184 E41
                    have E202 : h195 97 = h 97 := Eq.trans e185 E42
                    have E203 : h195 98 = h 98 := Eq.trans e186 E43
                    have E204 : h195 99 = h 99 := Eq.trans e187 E44
                    have E205 : h195 103 = h 103 := Eq.trans e189 E45
                    have E206 : h195 105 = h 105 := Eq.trans e190 E46
                    have E207 : h195 106 = h 106 := Eq.trans e191 E47
                    have E208 : h195 109 = h 109 := Eq.trans e192 E48
                    have E209 : h195 114 = h 114 := Eq.trans e193 E49
                    show ov_R u d ov_m234 145 [(0, ov_r 90), (1, ov_i x1), (2, ov_i x2), (3, ov_i x3), (4, ov_i v88)] [ov_i v179, ov_i (31 + (2 * x1)), ov_r 100] z194 h195 (P_Mo_walk_90 F z h)
                    have f210 : (h195 90 2) = (h35 90 2) ∧ (h195 90 13) = (h35 90 13) ∧ (h195 90 20) = (h35 90 20) ∧ (h195 90 22) = (h35 90 22) ∧ (h195 90 25) = (h35 90 25) ∧ (h195 90 26) = (h35 90 26) ∧ (h195 90 28) = (h35 90 28) ∧ (h195 90 29) = (h35 90 29) ∧ (h195 90 30) = (h35 90 30) ∧ (h195 90 34) = (h35 90 34) ∧ ((h35 90 7) + 1) ≤ (h195 90 7) ∧ (h195 90 7) ≤ n ∧ (h35 90 8) ≤ (h195 90 8) ∧ ((h195 90 8) = 0 → (0 : Int) ≤ v179 ∧ v179 ≤ (9999 : Int)) ∧ (0 < (h195 90 8) → v179 = 0) ∧ ((h35 90 7) + 1) < (h195 90 7) + (h195 90 8) := f178
                    clear f178
                    refine ov_iast d_234_145 (zb_100 I196) (zs_100 I196) (by omega) ?_
                    have I211 := ua_100 (k := (31 + (2 * x1))) (x := v179) I196 (by refine ⟨?_, ?_, ?_, ?_⟩ <;> omega)
                    refine ov_blk (ls2 := [(0, ov_r 90), (1, ov_i (x1 + 1)), (2, ov_i (x2 + (1 - v88))), (3, ov_i (x3 + v88)), (4, ov_i v88)]) (st2 := [ov_i 59, ov_r 90]) (pc2 := 164) b_234_146_13 rfl rfl ?_
                    have cf212 : h195 92 (n) = h16 92 (n) := congrFun E197 (n)
                    refine ov_cV (as := [ov_i 59]) (st := []) (d2 := d - 1) d_234_164 lk_Mo_214 rfl (Nat.le_of_ble_eq_true rfl) (c := 1) (zb_90 I211) (zs_90 I211) ⟨by decide, rfl⟩ (by omega) (c_Mo_takeSign_90 n (d - 1) (by omega) U I211 59 (by omega) (by show 0 ≤ n ∧ n ≤ 1000 ∧ (h195 92 (n)) = 0 ∧ (h195 90 7) ≤ n; omega)) ?_
                    rintro _ z228 h229 ⟨rfl, I230, f213, e214, e215, e216, e217, e218, e219, e220, e221, e222, e223, e224, e225, e226, e227⟩
                    have E231 : h229 92 = h16 92 := Eq.trans e214 E197
                    have E232 : h229 93 = h16 93 := Eq.trans e215 E198
                    have E233 : h229 94 = h16 94 := Eq.trans e216 E199
                    have E234 : h229 95 = h 95 := Eq.trans e217 E200
                    have E235 : h229 96 = h 96 := Eq.trans e218 E201
                    have E236 : h229 97 = h 97 := Eq.trans e219 E202
                    have E237 : h229 98 = h 98 := Eq.trans e220 E203
                    have E238 : h229 99 = h 99 := Eq.trans e221 E204
                    have E239 : h229 103 = h 103 := Eq.trans e223 E205
                    have E240 : h229 105 = h 105 := Eq.trans e224 E206
                    have E241 : h229 106 = h 106 := Eq.trans e225 E207
                    have E242 : h229 109 = h 109 := Eq.trans e226 E208
                    have E243 : h229 114 = h 114 := Eq.trans e227 E209
                    show ov_R u d ov_m234 167 [(0, ov_r 90), (1, ov_i (x1 + 1)), (2, ov_i (x2 + (1 - v88))), (3, ov_i (x3 + v88)), (4, ov_i v88)] [] z228 h229 (P_Mo_walk_90 F z h)
                    have f244 : (h229 90 2) = (h195 90 2) ∧ (h229 90 13) = (h195 90 13) ∧ (h229 90 20) = (h195 90 20) ∧ (h229 90 22) = (h195 90 22) ∧ (h229 90 25) = (h195 90 25) ∧ (h229 90 26) = (h195 90 26) ∧ (h229 90 28) = (h195 90 28) ∧ (h229 90 29) = (h195 90 29) ∧ (h229 90 30) = (h195 90 30) ∧ (h229 90 34) = (h195 90 34) ∧ (h195 90 7) ≤ (h229 90 7) ∧ (h229 90 7) ≤ n ∧ (h195 90 8) ≤ (h229 90 8) ∧ (h195 90 7) < (h229 90 7) + (h229 90 8) := f213
                    clear f213
                    refine ov_goto (tgt := 15) d_234_167 (by decide) ?_
                    refine ov_sub (ls2 := [(0, ov_r 90), (1, ov_i (x1 + 1)), (2, ov_i (x2 + (1 - v88))), (3, ov_i (x3 + v88))]) (List.Sublist.subset (by repeat (first | exact List.Sublist.refl _ | apply List.Sublist.cons_cons | apply List.Sublist.cons))) ?_
                    have r1 : (ov_up (ov_up h35 90 7 ((h35 90 7) + 1)) 100 (30 + (2 * x1)) v88) 100 = ov_rs (h35 100) (30 + 2 * x1) v88 := by rw [ov_up_row]; rfl
                    have r2 : h229 100 = ov_rs (ov_rs (h35 100) (30 + 2 * x1) v88) (31 + 2 * x1) v179 := by rw [e222, ov_up_row, e188, r1]
                    have bs : ov_sx (ov_tw (h229 100)) (Int.toNat (x1 + 1)) = ov_sx (ov_tw (h35 100)) (Int.toNat x1) + (1 - v88) := by rw [r2, ov_tw_s _ (by omega), ov_tw_o (by omega) (by omega), ov_tw_o (by omega) (by omega), ov_rs_ne (by omega), ov_rs_eq]
                    have bo : ∀ j : Int, j < 30 → h229 100 j = h 100 j := fun j hj => by rw [r2, ov_rs_ne (by omega), ov_rs_ne (by omega)]; exact xo j hj
                    exact ih31 (x1 + 1) (x2 + (1 - v88)) (x3 + v88) _ _ I230 E231 E232 E233 E234 E235 E236 E237 E238 E239 E240 E241 E242 E243 bo (by show 0 ≤ (x1 + 1) ∧ (x1 + 1) ≤ 13 ∧ 0 ≤ (x2 + (1 - v88)) ∧ (x2 + (1 - v88)) ≤ 5 ∧ 0 ≤ (x3 + v88) ∧ (x3 + v88) ≤ 8 ∧ (x2 + (1 - v88)) = ov_sx (ov_tw (h229 100)) (Int.toNat (x1 + 1)) ∧ (x3 + v88) = (x1 + 1) - (x2 + (1 - v88)) ∧ (x2 + (1 - v88)) < (h 96 0) ∧ (x3 + v88) < (h 96 1) ∧ 0 ≤ (h229 90 7) ∧ (h229 90 7) ≤ n ∧ (h229 90 2) = (h16 90 2) ∧ (h229 90 13) = (h16 90 13) ∧ (h229 90 20) = (h16 90 20) ∧ (h229 90 22) = (h16 90 22) ∧ (h229 90 25) = (h16 90 25) ∧ (h229 90 26) = (h16 90 26) ∧ (h229 90 28) = (h16 90 28) ∧ (h229 90 29) = (h16 90 29) ∧ (h229 90 30) = (h16 90 30) ∧ (h229 90 34) = (h16 90 34); omega) (by omega)
                · skip
                  refine ov_blk (ls2 := [(0, ov_r 90), (1, ov_i x1), (2, ov_i x2), (3, ov_i x3), (4, ov_i v88)]) (st2 := [ov_i 5, ov_r 90]) (pc2 := 94) b_234_92_2 rfl rfl ?_
                  refine ov_cV (as := [ov_i 5]) (st := []) (d2 := d - 1) d_234_94 lk_Mo_186 rfl (Nat.le_of_ble_eq_true rfl) (c := 1) (zb_90 I36) (zs_90 I36) ⟨by decide, rfl⟩ (by omega) (c_Mo_wrong_90 (d - 1) (by omega) U I36 5 (by omega) (by omega)) ?_
                  rintro _ z260 h261 ⟨rfl, I262, f245, e246, e247, e248, e249, e250, e251, e252, e253, e254, e255, e256, e257, e258, e259⟩
                  have E263 : h261 92 = h16 92 := Eq.trans e246 E37
                  have E264 : h261 93 = h16 93 := Eq.trans e247 E38
                  have E265 : h261 94 = h16 94 := Eq.trans e248 E39
                  have E266 : h261 95 = h 95 := Eq.trans e249 E40
                  have E267 : h261 96 = h 96 := Eq.trans e250 E41
                  have E268 : h261 97 = h 97 := Eq.trans e251 E42
                  have E269 : h261 98 = h 98 := Eq.trans e252 E43
                  have E270 : h261 99 = h 99 := Eq.trans e253 E44
                  have E271 : h261 100 = h35 100 := e254
                  have E272 : h261 103 = h 103 := Eq.trans e255 E45
                  have E273 : h261 105 = h 105 := Eq.trans e256 E46
                  have E274 : h261 106 = h 106 := Eq.trans e257 E47
                  have E275 : h261 109 = h 109 := Eq.trans e258 E48
                  have E276 : h261 114 = h 114 := Eq.trans e259 E49
                  show ov_R u d ov_m234 97 [(0, ov_r 90), (1, ov_i x1), (2, ov_i x2), (3, ov_i x3), (4, ov_i v88)] [] z260 h261 (P_Mo_walk_90 F z h)
                  have f277 : (h261 90 2) = (h35 90 2) ∧ (h261 90 7) = (h35 90 7) ∧ (h261 90 13) = (h35 90 13) ∧ (h261 90 20) = (h35 90 20) ∧ (h261 90 22) = (h35 90 22) ∧ (h261 90 25) = (h35 90 25) ∧ (h261 90 26) = (h35 90 26) ∧ (h261 90 28) = (h35 90 28) ∧ (h261 90 29) = (h35 90 29) ∧ (h261 90 30) = (h35 90 30) ∧ (h261 90 34) = (h35 90 34) ∧ 0 < (h261 90 8) ∧ (h35 90 8) ≤ (h261 90 8) := f245
                  clear f245
                  refine ov_blk (ls2 := [(0, ov_r 90), (1, ov_i x1), (2, ov_i x2), (3, ov_i x3), (4, ov_i v88)]) (st2 := [ov_r 90]) (pc2 := 98) b_234_97_1 rfl rfl ?_
                  refine ov_getf (v := ov_i (h261 90 8)) d_234_98 fl_Mo_180 (zb_90 I262) (zs_90 I262) rfl ?_
                  have g278 := rg_90_8 I262
                  refine ov_ifne (tgt := 161) d_234_101 (by decide) (by omega) (fun c279 => ?_) (fun c279 => ?_)
                  · skip
                    refine ov_blk (ls2 := [(0, ov_r 90), (1, ov_i x1), (2, ov_i x2), (3, ov_i x3), (4, ov_i v88)]) (st2 := [ov_i 59, ov_r 90]) (pc2 := 164) b_234_161_2 rfl rfl ?_
                    have cf280 : h261 92 (n) = h16 92 (n) := congrFun E263 (n)
                    refine ov_cV (as := [ov_i 59]) (st := []) (d2 := d - 1) d_234_164 lk_Mo_214 rfl (Nat.le_of_ble_eq_true rfl) (c := 1) (zb_90 I262) (zs_90 I262) ⟨by decide, rfl⟩ (by omega) (c_Mo_takeSign_90 n (d - 1) (by omega) U I262 59 (by omega) (by show 0 ≤ n ∧ n ≤ 1000 ∧ (h261 92 (n)) = 0 ∧ (h261 90 7) ≤ n; omega)) ?_
                    rintro _ z296 h297 ⟨rfl, I298, f281, e282, e283, e284, e285, e286, e287, e288, e289, e290, e291, e292, e293, e294, e295⟩
                    have E299 : h297 92 = h16 92 := Eq.trans e282 E263
                    have E300 : h297 93 = h16 93 := Eq.trans e283 E264
                    have E301 : h297 94 = h16 94 := Eq.trans e284 E265
                    have E302 : h297 95 = h 95 := Eq.trans e285 E266
                    have E303 : h297 96 = h 96 := Eq.trans e286 E267
                    have E304 : h297 97 = h 97 := Eq.trans e287 E268
                    have E305 : h297 98 = h 98 := Eq.trans e288 E269
                    have E306 : h297 99 = h 99 := Eq.trans e289 E270
                    have E307 : h297 100 = h35 100 := Eq.trans e290 E271
                    have E308 : h297 103 = h 103 := Eq.trans e291 E272
                    have E309 : h297 105 = h 105 := Eq.trans e292 E273
                    have E310 : h297 106 = h 106 := Eq.trans e293 E274
                    have E311 : h297 109 = h 109 := Eq.trans e294 E275
                    have E312 : h297 114 = h 114 := Eq.trans e295 E276
                    show ov_R u d ov_m234 167 [(0, ov_r 90), (1, ov_i x1), (2, ov_i x2), (3, ov_i x3), (4, ov_i v88)] [] z296 h297 (P_Mo_walk_90 F z h)
                    have f313 : (h297 90 2) = (h261 90 2) ∧ (h297 90 13) = (h261 90 13) ∧ (h297 90 20) = (h261 90 20) ∧ (h297 90 22) = (h261 90 22) ∧ (h297 90 25) = (h261 90 25) ∧ (h297 90 26) = (h261 90 26) ∧ (h297 90 28) = (h261 90 28) ∧ (h297 90 29) = (h261 90 29) ∧ (h297 90 30) = (h261 90 30) ∧ (h297 90 34) = (h261 90 34) ∧ (h261 90 7) ≤ (h297 90 7) ∧ (h297 90 7) ≤ n ∧ (h261 90 8) ≤ (h297 90 8) ∧ (h261 90 7) < (h297 90 7) + (h297 90 8) := f281
                    clear f281
                    refine ov_goto (tgt := 15) d_234_167 (by decide) ?_
                    refine ov_sub (ls2 := [(0, ov_r 90), (1, ov_i x1), (2, ov_i x2), (3, ov_i x3)]) (List.Sublist.subset (by repeat (first | exact List.Sublist.refl _ | apply List.Sublist.cons_cons | apply List.Sublist.cons))) ?_
                    have bs : ov_sx (ov_tw (h297 100)) (Int.toNat x1) = ov_sx (ov_tw (h35 100)) (Int.toNat x1) := by rw [show h297 100 = h35 100 from E307]
                    have bo : ∀ j : Int, j < 30 → h297 100 j = h 100 j := by rw [show h297 100 = h35 100 from E307]; exact xo
                    exact ih31 x1 x2 x3 _ _ I298 E299 E300 E301 E302 E303 E304 E305 E306 E308 E309 E310 E311 E312 bo (by show 0 ≤ x1 ∧ x1 ≤ 13 ∧ 0 ≤ x2 ∧ x2 ≤ 5 ∧ 0 ≤ x3 ∧ x3 ≤ 8 ∧ x2 = ov_sx (ov_tw (h297 100)) (Int.toNat x1) ∧ x3 = x1 - x2 ∧ x2 < (h 96 0) ∧ x3 < (h 96 1) ∧ 0 ≤ (h297 90 7) ∧ (h297 90 7) ≤ n ∧ (h297 90 2) = (h16 90 2) ∧ (h297 90 13) = (h16 90 13) ∧ (h297 90 20) = (h16 90 20) ∧ (h297 90 22) = (h16 90 22) ∧ (h297 90 25) = (h16 90 25) ∧ (h297 90 26) = (h16 90 26) ∧ (h297 90 28) = (h16 90 28) ∧ (h297 90 29) = (h16 90 29) ∧ (h297 90 30) = (h16 90 30) ∧ (h297 90 34) = (h16 90 34); omega) (by omega)
                  · omega
              · skip
                have f168_ : v167 = 1 := by omega
                have f314 : ov_and (ov_shr ((h 96 (226 + 6 * x3 + x2))) v88) 1 = 1 := f168.2.1 (by omega)
                clear f168
                refine ov_blk (ls2 := [(0, ov_r 90), (1, ov_i x1), (2, ov_i x2), (3, ov_i x3), (4, ov_i v88)]) (st2 := [ov_i 2, ov_r 90]) (pc2 := 80) b_234_78_2 rfl rfl ?_
                refine ov_cV (as := [ov_i 2]) (st := []) (d2 := d - 1) d_234_80 lk_Mo_186 rfl (Nat.le_of_ble_eq_true rfl) (c := 1) (zb_90 I36) (zs_90 I36) ⟨by decide, rfl⟩ (by omega) (c_Mo_wrong_90 (d - 1) (by omega) U I36 2 (by omega) (by omega)) ?_
                rintro _ z330 h331 ⟨rfl, I332, f315, e316, e317, e318, e319, e320, e321, e322, e323, e324, e325, e326, e327, e328, e329⟩
                have E333 : h331 92 = h16 92 := Eq.trans e316 E37
                have E334 : h331 93 = h16 93 := Eq.trans e317 E38
                have E335 : h331 94 = h16 94 := Eq.trans e318 E39
                have E336 : h331 95 = h 95 := Eq.trans e319 E40
                have E337 : h331 96 = h 96 := Eq.trans e320 E41
                have E338 : h331 97 = h 97 := Eq.trans e321 E42
                have E339 : h331 98 = h 98 := Eq.trans e322 E43
                have E340 : h331 99 = h 99 := Eq.trans e323 E44
                have E341 : h331 100 = h35 100 := e324
                have E342 : h331 103 = h 103 := Eq.trans e325 E45
                have E343 : h331 105 = h 105 := Eq.trans e326 E46
                have E344 : h331 106 = h 106 := Eq.trans e327 E47
                have E345 : h331 109 = h 109 := Eq.trans e328 E48
                have E346 : h331 114 = h 114 := Eq.trans e329 E49
                show ov_R u d ov_m234 83 [(0, ov_r 90), (1, ov_i x1), (2, ov_i x2), (3, ov_i x3), (4, ov_i v88)] [] z330 h331 (P_Mo_walk_90 F z h)
                have f347 : (h331 90 2) = (h35 90 2) ∧ (h331 90 7) = (h35 90 7) ∧ (h331 90 13) = (h35 90 13) ∧ (h331 90 20) = (h35 90 20) ∧ (h331 90 22) = (h35 90 22) ∧ (h331 90 25) = (h35 90 25) ∧ (h331 90 26) = (h35 90 26) ∧ (h331 90 28) = (h35 90 28) ∧ (h331 90 29) = (h35 90 29) ∧ (h331 90 30) = (h35 90 30) ∧ (h331 90 34) = (h35 90 34) ∧ 0 < (h331 90 8) ∧ (h35 90 8) ≤ (h331 90 8) := f315
                clear f315
                refine ov_goto (tgt := 97) d_234_83 (by decide) ?_
                refine ov_blk (ls2 := [(0, ov_r 90), (1, ov_i x1), (2, ov_i x2), (3, ov_i x3), (4, ov_i v88)]) (st2 := [ov_r 90]) (pc2 := 98) b_234_97_1 rfl rfl ?_
                refine ov_getf (v := ov_i (h331 90 8)) d_234_98 fl_Mo_180 (zb_90 I332) (zs_90 I332) rfl ?_
                have g348 := rg_90_8 I332
                refine ov_ifne (tgt := 161) d_234_101 (by decide) (by omega) (fun c349 => ?_) (fun c349 => ?_)
                · skip
                  refine ov_blk (ls2 := [(0, ov_r 90), (1, ov_i x1), (2, ov_i x2), (3, ov_i x3), (4, ov_i v88)]) (st2 := [ov_i 59, ov_r 90]) (pc2 := 164) b_234_161_2 rfl rfl ?_
                  have cf350 : h331 92 (n) = h16 92 (n) := congrFun E333 (n)
                  refine ov_cV (as := [ov_i 59]) (st := []) (d2 := d - 1) d_234_164 lk_Mo_214 rfl (Nat.le_of_ble_eq_true rfl) (c := 1) (zb_90 I332) (zs_90 I332) ⟨by decide, rfl⟩ (by omega) (c_Mo_takeSign_90 n (d - 1) (by omega) U I332 59 (by omega) (by show 0 ≤ n ∧ n ≤ 1000 ∧ (h331 92 (n)) = 0 ∧ (h331 90 7) ≤ n; omega)) ?_
                  rintro _ z366 h367 ⟨rfl, I368, f351, e352, e353, e354, e355, e356, e357, e358, e359, e360, e361, e362, e363, e364, e365⟩
                  have E369 : h367 92 = h16 92 := Eq.trans e352 E333
                  have E370 : h367 93 = h16 93 := Eq.trans e353 E334
                  have E371 : h367 94 = h16 94 := Eq.trans e354 E335
                  have E372 : h367 95 = h 95 := Eq.trans e355 E336
                  have E373 : h367 96 = h 96 := Eq.trans e356 E337
                  have E374 : h367 97 = h 97 := Eq.trans e357 E338
                  have E375 : h367 98 = h 98 := Eq.trans e358 E339
                  have E376 : h367 99 = h 99 := Eq.trans e359 E340
                  have E377 : h367 100 = h35 100 := Eq.trans e360 E341
                  have E378 : h367 103 = h 103 := Eq.trans e361 E342
                  have E379 : h367 105 = h 105 := Eq.trans e362 E343
                  have E380 : h367 106 = h 106 := Eq.trans e363 E344
                  have E381 : h367 109 = h 109 := Eq.trans e364 E345
                  have E382 : h367 114 = h 114 := Eq.trans e365 E346
                  show ov_R u d ov_m234 167 [(0, ov_r 90), (1, ov_i x1), (2, ov_i x2), (3, ov_i x3), (4, ov_i v88)] [] z366 h367 (P_Mo_walk_90 F z h)
                  have f383 : (h367 90 2) = (h331 90 2) ∧ (h367 90 13) = (h331 90 13) ∧ (h367 90 20) = (h331 90 20) ∧ (h367 90 22) = (h331 90 22) ∧ (h367 90 25) = (h331 90 25) ∧ (h367 90 26) = (h331 90 26) ∧ (h367 90 28) = (h331 90 28) ∧ (h367 90 29) = (h331 90 29) ∧ (h367 90 30) = (h331 90 30) ∧ (h367 90 34) = (h331 90 34) ∧ (h331 90 7) ≤ (h367 90 7) ∧ (h367 90 7) ≤ n ∧ (h331 90 8) ≤ (h367 90 8) ∧ (h331 90 7) < (h367 90 7) + (h367 90 8) := f351
                  clear f351
                  refine ov_goto (tgt := 15) d_234_167 (by decide) ?_
                  refine ov_sub (ls2 := [(0, ov_r 90), (1, ov_i x1), (2, ov_i x2), (3, ov_i x3)]) (List.Sublist.subset (by repeat (first | exact List.Sublist.refl _ | apply List.Sublist.cons_cons | apply List.Sublist.cons))) ?_
                  have bs : ov_sx (ov_tw (h367 100)) (Int.toNat x1) = ov_sx (ov_tw (h35 100)) (Int.toNat x1) := by rw [show h367 100 = h35 100 from E377]
                  have bo : ∀ j : Int, j < 30 → h367 100 j = h 100 j := by rw [show h367 100 = h35 100 from E377]; exact xo
                  exact ih31 x1 x2 x3 _ _ I368 E369 E370 E371 E372 E373 E374 E375 E376 E378 E379 E380 E381 E382 bo (by show 0 ≤ x1 ∧ x1 ≤ 13 ∧ 0 ≤ x2 ∧ x2 ≤ 5 ∧ 0 ≤ x3 ∧ x3 ≤ 8 ∧ x2 = ov_sx (ov_tw (h367 100)) (Int.toNat x1) ∧ x3 = x1 - x2 ∧ x2 < (h 96 0) ∧ x3 < (h 96 1) ∧ 0 ≤ (h367 90 7) ∧ (h367 90 7) ≤ n ∧ (h367 90 2) = (h16 90 2) ∧ (h367 90 13) = (h16 90 13) ∧ (h367 90 20) = (h16 90 20) ∧ (h367 90 22) = (h16 90 22) ∧ (h367 90 25) = (h16 90 25) ∧ (h367 90 26) = (h16 90 26) ∧ (h367 90 28) = (h16 90 28) ∧ (h367 90 29) = (h16 90 29) ∧ (h367 90 30) = (h16 90 30) ∧ (h367 90 34) = (h16 90 34); omega) (by omega)
                · omega
          · skip
            refine ov_blk (ls2 := [(0, ov_r 90), (1, ov_i x1), (2, ov_i x2), (3, ov_i x3), (4, ov_i v88)]) (st2 := [ov_i 1, ov_r 90]) (pc2 := 50) b_234_48_2 rfl rfl ?_
            refine ov_cV (as := [ov_i 1]) (st := []) (d2 := d - 1) d_234_50 lk_Mo_186 rfl (Nat.le_of_ble_eq_true rfl) (c := 1) (zb_90 I36) (zs_90 I36) ⟨by decide, rfl⟩ (by omega) (c_Mo_wrong_90 (d - 1) (by omega) U I36 1 (by omega) (by omega)) ?_
            rintro _ z399 h400 ⟨rfl, I401, f384, e385, e386, e387, e388, e389, e390, e391, e392, e393, e394, e395, e396, e397, e398⟩
            have E402 : h400 92 = h16 92 := Eq.trans e385 E37
            have E403 : h400 93 = h16 93 := Eq.trans e386 E38
            have E404 : h400 94 = h16 94 := Eq.trans e387 E39
            have E405 : h400 95 = h 95 := Eq.trans e388 E40
            have E406 : h400 96 = h 96 := Eq.trans e389 E41
            have E407 : h400 97 = h 97 := Eq.trans e390 E42
            have E408 : h400 98 = h 98 := Eq.trans e391 E43
            have E409 : h400 99 = h 99 := Eq.trans e392 E44
            have E410 : h400 100 = h35 100 := e393
            have E411 : h400 103 = h 103 := Eq.trans e394 E45
            have E412 : h400 105 = h 105 := Eq.trans e395 E46
            have E413 : h400 106 = h 106 := Eq.trans e396 E47
            have E414 : h400 109 = h 109 := Eq.trans e397 E48
            have E415 : h400 114 = h 114 := Eq.trans e398 E49
            show ov_R u d ov_m234 53 [(0, ov_r 90), (1, ov_i x1), (2, ov_i x2), (3, ov_i x3), (4, ov_i v88)] [] z399 h400 (P_Mo_walk_90 F z h)
            have f416 : (h400 90 2) = (h35 90 2) ∧ (h400 90 7) = (h35 90 7) ∧ (h400 90 13) = (h35 90 13) ∧ (h400 90 20) = (h35 90 20) ∧ (h400 90 22) = (h35 90 22) ∧ (h400 90 25) = (h35 90 25) ∧ (h400 90 26) = (h35 90 26) ∧ (h400 90 28) = (h35 90 28) ∧ (h400 90 29) = (h35 90 29) ∧ (h400 90 30) = (h35 90 30) ∧ (h400 90 34) = (h35 90 34) ∧ 0 < (h400 90 8) ∧ (h35 90 8) ≤ (h400 90 8) := f384
            clear f384
            refine ov_goto (tgt := 97) d_234_53 (by decide) ?_
            refine ov_blk (ls2 := [(0, ov_r 90), (1, ov_i x1), (2, ov_i x2), (3, ov_i x3), (4, ov_i v88)]) (st2 := [ov_r 90]) (pc2 := 98) b_234_97_1 rfl rfl ?_
            refine ov_getf (v := ov_i (h400 90 8)) d_234_98 fl_Mo_180 (zb_90 I401) (zs_90 I401) rfl ?_
            have g417 := rg_90_8 I401
            refine ov_ifne (tgt := 161) d_234_101 (by decide) (by omega) (fun c418 => ?_) (fun c418 => ?_)
            · skip
              refine ov_blk (ls2 := [(0, ov_r 90), (1, ov_i x1), (2, ov_i x2), (3, ov_i x3), (4, ov_i v88)]) (st2 := [ov_i 59, ov_r 90]) (pc2 := 164) b_234_161_2 rfl rfl ?_
              have cf419 : h400 92 (n) = h16 92 (n) := congrFun E402 (n)
              refine ov_cV (as := [ov_i 59]) (st := []) (d2 := d - 1) d_234_164 lk_Mo_214 rfl (Nat.le_of_ble_eq_true rfl) (c := 1) (zb_90 I401) (zs_90 I401) ⟨by decide, rfl⟩ (by omega) (c_Mo_takeSign_90 n (d - 1) (by omega) U I401 59 (by omega) (by show 0 ≤ n ∧ n ≤ 1000 ∧ (h400 92 (n)) = 0 ∧ (h400 90 7) ≤ n; omega)) ?_
              rintro _ z435 h436 ⟨rfl, I437, f420, e421, e422, e423, e424, e425, e426, e427, e428, e429, e430, e431, e432, e433, e434⟩
              have E438 : h436 92 = h16 92 := Eq.trans e421 E402
              have E439 : h436 93 = h16 93 := Eq.trans e422 E403
              have E440 : h436 94 = h16 94 := Eq.trans e423 E404
              have E441 : h436 95 = h 95 := Eq.trans e424 E405
              have E442 : h436 96 = h 96 := Eq.trans e425 E406
              have E443 : h436 97 = h 97 := Eq.trans e426 E407
              have E444 : h436 98 = h 98 := Eq.trans e427 E408
              have E445 : h436 99 = h 99 := Eq.trans e428 E409
              have E446 : h436 100 = h35 100 := Eq.trans e429 E410
              have E447 : h436 103 = h 103 := Eq.trans e430 E411
              have E448 : h436 105 = h 105 := Eq.trans e431 E412
              have E449 : h436 106 = h 106 := Eq.trans e432 E413
              have E450 : h436 109 = h 109 := Eq.trans e433 E414
              have E451 : h436 114 = h 114 := Eq.trans e434 E415
              show ov_R u d ov_m234 167 [(0, ov_r 90), (1, ov_i x1), (2, ov_i x2), (3, ov_i x3), (4, ov_i v88)] [] z435 h436 (P_Mo_walk_90 F z h)
              have f452 : (h436 90 2) = (h400 90 2) ∧ (h436 90 13) = (h400 90 13) ∧ (h436 90 20) = (h400 90 20) ∧ (h436 90 22) = (h400 90 22) ∧ (h436 90 25) = (h400 90 25) ∧ (h436 90 26) = (h400 90 26) ∧ (h436 90 28) = (h400 90 28) ∧ (h436 90 29) = (h400 90 29) ∧ (h436 90 30) = (h400 90 30) ∧ (h436 90 34) = (h400 90 34) ∧ (h400 90 7) ≤ (h436 90 7) ∧ (h436 90 7) ≤ n ∧ (h400 90 8) ≤ (h436 90 8) ∧ (h400 90 7) < (h436 90 7) + (h436 90 8) := f420
              clear f420
              refine ov_goto (tgt := 15) d_234_167 (by decide) ?_
              refine ov_sub (ls2 := [(0, ov_r 90), (1, ov_i x1), (2, ov_i x2), (3, ov_i x3)]) (List.Sublist.subset (by repeat (first | exact List.Sublist.refl _ | apply List.Sublist.cons_cons | apply List.Sublist.cons))) ?_
              have bs : ov_sx (ov_tw (h436 100)) (Int.toNat x1) = ov_sx (ov_tw (h35 100)) (Int.toNat x1) := by rw [show h436 100 = h35 100 from E446]
              have bo : ∀ j : Int, j < 30 → h436 100 j = h 100 j := by rw [show h436 100 = h35 100 from E446]; exact xo
              exact ih31 x1 x2 x3 _ _ I437 E438 E439 E440 E441 E442 E443 E444 E445 E447 E448 E449 E450 E451 bo (by show 0 ≤ x1 ∧ x1 ≤ 13 ∧ 0 ≤ x2 ∧ x2 ≤ 5 ∧ 0 ≤ x3 ∧ x3 ≤ 8 ∧ x2 = ov_sx (ov_tw (h436 100)) (Int.toNat x1) ∧ x3 = x1 - x2 ∧ x2 < (h 96 0) ∧ x3 < (h 96 1) ∧ 0 ≤ (h436 90 7) ∧ (h436 90 7) ≤ n ∧ (h436 90 2) = (h16 90 2) ∧ (h436 90 13) = (h16 90 13) ∧ (h436 90 20) = (h16 90 20) ∧ (h436 90 22) = (h16 90 22) ∧ (h436 90 25) = (h16 90 25) ∧ (h436 90 26) = (h16 90 26) ∧ (h436 90 28) = (h16 90 28) ∧ (h436 90 29) = (h16 90 29) ∧ (h436 90 30) = (h16 90 30) ∧ (h436 90 34) = (h16 90 34); omega) (by omega)
            · omega
  exact L33 1003 0 0 0 _ _ I17 rfl rfl rfl E18 E19 E20 E21 E22 E24 E25 E26 E27 E28 (fun j _ => congrFun E23 j) (by show 0 ≤ 0 ∧ 0 ≤ 13 ∧ 0 ≤ 0 ∧ 0 ≤ 5 ∧ 0 ≤ 0 ∧ 0 ≤ 8 ∧ 0 = ov_sx (ov_tw (h16 100)) (Int.toNat 0) ∧ 0 = 0 - 0 ∧ 0 < (h 96 0) ∧ 0 < (h 96 1) ∧ 0 ≤ (h16 90 7) ∧ (h16 90 7) ≤ n ∧ (h16 90 2) = (h16 90 2) ∧ (h16 90 13) = (h16 90 13) ∧ (h16 90 20) = (h16 90 20) ∧ (h16 90 22) = (h16 90 22) ∧ (h16 90 25) = (h16 90 25) ∧ (h16 90 26) = (h16 90 26) ∧ (h16 90 28) = (h16 90 28) ∧ (h16 90 29) = (h16 90 29) ∧ (h16 90 30) = (h16 90 30) ∧ (h16 90 34) = (h16 90 34); omega) (by omega)

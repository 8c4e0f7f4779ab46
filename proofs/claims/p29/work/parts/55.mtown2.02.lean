abbrev P_Mo_walk_90 (F : ov_H × ov_Z) (z : ov_Z) (h : ov_H) : Option ov_V → ov_Z → ov_H → Prop := fun r0 z' h' => ∃ r : Int, r0 = some (ov_i r) ∧ ov_N F z' h' ∧ ((h' 90 13) = (h 90 13) ∧ (h' 90 20) = (h 90 20) ∧ (h' 90 22) = (h 90 22) ∧ (h' 90 25) = (h 90 25) ∧ (h' 90 26) = (h 90 26) ∧ (h' 90 28) = (h 90 28) ∧ (h' 90 29) = (h 90 29) ∧ (h' 90 30) = (h 90 30) ∧ (h' 90 34) = (h 90 34) ∧ 0 ≤ r ∧ r ≤ 16005 ∧ (h' 90 2) = 0) ∧ h' 91 = h 91 ∧ h' 95 = h 95 ∧ h' 96 = h 96 ∧ h' 97 = h 97 ∧ h' 98 = h 98 ∧ h' 99 = h 99 ∧ h' 103 = h 103 ∧ h' 104 = h 104 ∧ h' 105 = h 105 ∧ h' 106 = h 106 ∧ h' 109 = h 109 ∧ h' 114 = h 114 ∧ (ov_WK (h 100) → ov_WK (h' 100))
set_option maxHeartbeats 4000000 in
theorem c_Mo_walk_90 {u : ov_U} {F : ov_H × ov_Z} {z : ov_Z} {h : ov_H} (d : Nat) (hd : 40 ≤ d) (U : ov_cap u) (I : ov_N F z h) : ov_T u d ov_m234 [ov_r 90] z h (P_Mo_walk_90 F z h) := by
  refine ov_en rfl (Nat.le_of_ble_eq_true rfl) ?_
  show ov_R u d ov_m234 0 [(0, ov_r 90)] [] z h (P_Mo_walk_90 F z h)
  have w0 := s100_0 I
  refine ov_blk (ls2 := [(0, ov_r 90)]) (st2 := [ov_i 0, ov_r 90]) (pc2 := 2) b_234_0_2 rfl rfl ?_
  refine ov_putf (x := 0) d_234_2 fl_Mo_1 (zb_90 I) (zs_90 I) rfl nk_0 rfl ?_
  have I1 := up_90_0 (x := 0) I (by omega)
  refine ov_blk (ls2 := [(0, ov_r 90)]) (st2 := [ov_r 90]) (pc2 := 6) b_234_5_1 rfl rfl ?_
  refine ov_cV (as := []) (st := []) (d2 := d - 1) d_234_6 lk_Mo_205 rfl (Nat.le_of_ble_eq_true rfl) (c := 1) (zb_90 I1) (zs_90 I1) ⟨by decide, rfl⟩ (by omega) (c_Mo_cutAll_90 (d - 1) (by omega) U I1) ?_
  rintro _ z17 h18 ⟨rfl, I19, f2, e3, e4, e5, e6, e7, e8, e9, e10, e11, e12, e13, e14, e15, y16⟩
  have E20 : h18 91 = h 91 := e3
  have E21 : h18 95 = h 95 := e4
  have E22 : h18 96 = h 96 := e5
  have E23 : h18 97 = h 97 := e6
  have E24 : h18 98 = h 98 := e7
  have E25 : h18 99 = h 99 := e8
  have E26 : h18 100 = h 100 := e9
  have E27 : h18 103 = h 103 := e10
  have E28 : h18 104 = h 104 := e11
  have E29 : h18 105 = h 105 := e12
  have E30 : h18 106 = h 106 := e13
  have E31 : h18 109 = h 109 := e14
  have E32 : h18 114 = h 114 := e15
  show ov_R u d ov_m234 9 [(0, ov_r 90)] [] z17 h18 (P_Mo_walk_90 F z h)
  have f33 : (h18 90 13) = (h 90 13) ∧ (h18 90 20) = (h 90 20) ∧ (h18 90 22) = (h 90 22) ∧ (h18 90 25) = (h 90 25) ∧ (h18 90 26) = (h 90 26) ∧ (h18 90 28) = (h 90 28) ∧ (h18 90 29) = (h 90 29) ∧ (h18 90 30) = (h 90 30) ∧ (h18 90 34) = (h 90 34) ∧ (h18 90 7) = 0 ∧ (h18 90 8) = 0 ∧ (h18 90 2) = 0 := f2
  clear f2
  have y16_ : ∃ n : Int, 0 ≤ n ∧ n ≤ 1000 ∧ (h18 92) n = 0 := y16
  obtain ⟨n, hn0, hn1, hn2⟩ := y16_
  have z0 : ov_sx (ov_tw (h18 100)) (Int.toNat 0) = 0 := rfl
  have t0 := t96_0 I
  have t1 := t96_1 I
  refine ov_blk (ls2 := [(0, ov_r 90), (1, ov_i 0), (2, ov_i 0), (3, ov_i 0)]) (st2 := []) (pc2 := 15) b_234_9_6 rfl rfl ?_
  have L37 : ∀ (n34 : Nat) (x1 : Int) (x2 : Int) (x3 : Int) (z38 : ov_Z) (h39 : ov_H) (I40 : ov_N F z38 h39) (E41 : h39 91 = h 91) (E42 : h39 92 = h18 92) (E43 : h39 93 = h18 93) (E44 : h39 94 = h18 94) (E45 : h39 95 = h 95) (E46 : h39 96 = h 96) (E47 : h39 97 = h 97) (E48 : h39 98 = h 98) (E49 : h39 99 = h 99) (E50 : h39 103 = h 103) (E51 : h39 104 = h 104) (E52 : h39 105 = h 105) (E53 : h39 106 = h 106) (E54 : h39 109 = h 109) (E55 : h39 114 = h 114) (xo : ∀ j : Int, j < 30 → (h39 100) j = (h 100) j) (q36 : 0 ≤ x1 ∧ x1 ≤ 13 ∧ 0 ≤ x2 ∧ x2 ≤ 5 ∧ 0 ≤ x3 ∧ x3 ≤ 8 ∧ x2 = ov_sx (ov_tw (h39 100)) (Int.toNat x1) ∧ x3 = x1 - x2 ∧ x2 < (h 96 0) ∧ x3 < (h 96 1) ∧ 0 ≤ (h39 90 7) ∧ (h39 90 7) ≤ n ∧ (h39 90 2) = (h18 90 2) ∧ (h39 90 13) = (h18 90 13) ∧ (h39 90 20) = (h18 90 20) ∧ (h39 90 22) = (h18 90 22) ∧ (h39 90 25) = (h18 90 25) ∧ (h39 90 26) = (h18 90 26) ∧ (h39 90 28) = (h18 90 28) ∧ (h39 90 29) = (h18 90 29) ∧ (h39 90 30) = (h18 90 30) ∧ (h39 90 34) = (h18 90 34)), 1001 - (h39 90 7) - min ((h39 90 8)) 1 < (n34 : Int) → ov_R u d ov_m234 15 [(0, ov_r 90), (1, ov_i x1), (2, ov_i x2), (3, ov_i x3)] [] z38 h39 (P_Mo_walk_90 F z h) := by
    intro n34
    induction n34 with
    | zero =>
      intro x1 x2 x3 z38 h39 I40 E41 E42 E43 E44 E45 E46 E47 E48 E49 E50 E51 E52 E53 E54 E55 xo q36 hn56
      exact absurd hn56 (by omega)
    | succ n34 ih35 =>
      intro x1 x2 x3 z38 h39 I40 E41 E42 E43 E44 E45 E46 E47 E48 E49 E50 E51 E52 E53 E54 E55 xo q36 hn56
      refine ov_blk (ls2 := [(0, ov_r 90), (1, ov_i x1), (2, ov_i x2), (3, ov_i x3)]) (st2 := [ov_r 90]) (pc2 := 16) b_234_15_1 rfl rfl ?_
      refine ov_getf (v := ov_i (h39 90 8)) d_234_16 fl_Mo_180 (zb_90 I40) (zs_90 I40) rfl ?_
      have g57 := rg_90_8 I40
      refine ov_ifne (tgt := 170) d_234_19 (by decide) (by omega) (fun c58 => ?_) (fun c58 => ?_)
      · skip
        refine ov_blk (ls2 := [(0, ov_r 90), (1, ov_i x1), (2, ov_i x2), (3, ov_i x3)]) (st2 := [ov_r 90]) (pc2 := 171) b_234_170_1 rfl rfl ?_
        refine ov_getf (v := ov_i (h39 90 8)) d_234_171 fl_Mo_180 (zb_90 I40) (zs_90 I40) rfl ?_
        refine ov_ifle (tgt := 182) d_234_174 (by decide) (by omega) (fun c60 => ?_) (fun c60 => ?_)
        · omega
        · skip
          refine ov_blk (ls2 := [(0, ov_r 90), (1, ov_i x1), (2, ov_i x2), (3, ov_i x3)]) (st2 := [ov_r 90]) (pc2 := 178) b_234_177_1 rfl rfl ?_
          refine ov_getf (v := ov_i (h39 90 8)) d_234_178 fl_Mo_180 (zb_90 I40) (zs_90 I40) rfl ?_
          exact ov_reti (st := []) d_234_181 rfl ⟨_, rfl, I40, (by show (h39 90 13) = (h 90 13) ∧ (h39 90 20) = (h 90 20) ∧ (h39 90 22) = (h 90 22) ∧ (h39 90 25) = (h 90 25) ∧ (h39 90 26) = (h 90 26) ∧ (h39 90 28) = (h 90 28) ∧ (h39 90 29) = (h 90 29) ∧ (h39 90 30) = (h 90 30) ∧ (h39 90 34) = (h 90 34) ∧ 0 ≤ (h39 90 8) ∧ (h39 90 8) ≤ 16005 ∧ (h39 90 2) = 0; omega), E41, E45, E46, E47, E48, E49, E50, E51, E52, E53, E54, E55, (fun w => by show ov_WK (h39 100); exact ov_WK_o w (by omega) xo)⟩
      · skip
        refine ov_blk (ls2 := [(0, ov_r 90), (1, ov_i x1), (2, ov_i x2), (3, ov_i x3)]) (st2 := [ov_r 90]) (pc2 := 23) b_234_22_1 rfl rfl ?_
        refine ov_getf (v := ov_r 92) d_234_23 fl_Mo_24 (zb_90 I40) (zs_90 I40) (congrArg ov_r (rg_90_4 I40)) ?_
        refine ov_blk (ls2 := [(0, ov_r 90), (1, ov_i x1), (2, ov_i x2), (3, ov_i x3)]) (st2 := [ov_r 90, ov_r 92]) (pc2 := 27) b_234_26_1 rfl rfl ?_
        refine ov_getf (v := ov_i (h39 90 7)) d_234_27 fl_Mo_177 (zb_90 I40) (zs_90 I40) rfl ?_
        have g62 := rg_90_7 I40
        refine ov_iald d_234_30 (zb_92 I40) (zs_92 I40) (by omega) ?_
        rw [show h39 92 = h18 92 from E42]
        have g63 := ra_92 I19 (h39 90 7)
        refine ov_ifeq (tgt := 170) d_234_31 (by decide) (by omega) (fun c64 => ?_) (fun c64 => ?_)
        · skip
          refine ov_blk (ls2 := [(0, ov_r 90), (1, ov_i x1), (2, ov_i x2), (3, ov_i x3)]) (st2 := [ov_r 90]) (pc2 := 171) b_234_170_1 rfl rfl ?_
          refine ov_getf (v := ov_i (h39 90 8)) d_234_171 fl_Mo_180 (zb_90 I40) (zs_90 I40) rfl ?_
          refine ov_ifle (tgt := 182) d_234_174 (by decide) (by omega) (fun c66 => ?_) (fun c66 => ?_)
          · skip
            refine ov_blk (ls2 := [(0, ov_r 90), (1, ov_i x1), (2, ov_i x2), (3, ov_i x3)]) (st2 := [ov_r 90]) (pc2 := 183) b_234_182_1 rfl rfl ?_
            refine ov_getf (v := ov_r 100) d_234_183 fl_Mo_93 (zb_90 I40) (zs_90 I40) (congrArg ov_r (rg_90_16 I40)) ?_
            refine ov_blk (ls2 := [(0, ov_r 90), (1, ov_i x1), (2, ov_i x2), (3, ov_i x3)]) (st2 := [ov_i x1, ov_i 0, ov_r 100]) (pc2 := 188) b_234_186_2 rfl rfl ?_
            refine ov_iast d_234_188 (zb_100 I40) (zs_100 I40) (by omega) ?_
            have I67 := ua_100 (k := 0) (x := x1) I40 (by refine ⟨?_, ?_, ?_, ?_⟩ <;> omega)
            refine ov_blk (ls2 := [(0, ov_r 90), (1, ov_i x1), (2, ov_i x2), (3, ov_i x3), (4, ov_i 0)]) (st2 := []) (pc2 := 192) b_234_189_2 rfl rfl ?_
            have L71 : ∀ (n68 : Nat) (x4 : Int) (z72 : ov_Z) (h73 : ov_H) (I74 : ov_N F z72 h73) (E75 : h73 91 = h 91) (E76 : h73 92 = h18 92) (E77 : h73 93 = h18 93) (E78 : h73 94 = h18 94) (E79 : h73 95 = h 95) (E80 : h73 96 = h 96) (E81 : h73 97 = h 97) (E82 : h73 98 = h 98) (E83 : h73 99 = h 99) (E84 : h73 103 = h 103) (E85 : h73 104 = h 104) (E86 : h73 105 = h 105) (E87 : h73 106 = h 106) (E88 : h73 109 = h 109) (E89 : h73 114 = h 114) (xk : ∀ j : Int, 0 ≤ j → j < x4 → (h73 100) (1 + j) = h39 100 (30 + j)) (xl : ∀ j : Int, 30 ≤ j → (h73 100) j = h39 100 j) (q70 : 0 ≤ x4 ∧ x4 ≤ 26 ∧ (h73 100 0) = x1 ∧ (h73 90 2) = (h39 90 2) ∧ (h73 90 7) = (h39 90 7) ∧ (h73 90 8) = (h39 90 8) ∧ (h73 90 13) = (h39 90 13) ∧ (h73 90 20) = (h39 90 20) ∧ (h73 90 22) = (h39 90 22) ∧ (h73 90 25) = (h39 90 25) ∧ (h73 90 26) = (h39 90 26) ∧ (h73 90 28) = (h39 90 28) ∧ (h73 90 29) = (h39 90 29) ∧ (h73 90 30) = (h39 90 30) ∧ (h73 90 34) = (h39 90 34)), 26 - x4 < (n68 : Int) → ov_R u d ov_m234 192 [(0, ov_r 90), (1, ov_i x1), (2, ov_i x2), (3, ov_i x3), (4, ov_i x4)] [] z72 h73 (P_Mo_walk_90 F z h) := by
              intro n68
              induction n68 with
              | zero =>
                intro x4 z72 h73 I74 E75 E76 E77 E78 E79 E80 E81 E82 E83 E84 E85 E86 E87 E88 E89 xk xl q70 hn90
                exact absurd hn90 (by omega)
              | succ n68 ih69 =>
                intro x4 z72 h73 I74 E75 E76 E77 E78 E79 E80 E81 E82 E83 E84 E85 E86 E87 E88 E89 xk xl q70 hn90
                refine ov_blk (ls2 := [(0, ov_r 90), (1, ov_i x1), (2, ov_i x2), (3, ov_i x3), (4, ov_i x4)]) (st2 := [ov_i (2 * x1), ov_i x4]) (pc2 := 197) b_234_192_4 rfl rfl ?_
                refine ov_icge (tgt := 225) d_234_197 (by decide) (by omega) (by omega) (fun c91 => ?_) (fun c91 => ?_)
                · skip
                  refine ov_blk (ls2 := [(0, ov_r 90), (1, ov_i x1), (2, ov_i x2), (3, ov_i x3), (4, ov_i x4)]) (st2 := [ov_i 0]) (pc2 := 226) b_234_225_1 rfl rfl ?_
                  exact ov_reti (st := []) d_234_226 rfl ⟨_, rfl, I74, (by show (h73 90 13) = (h 90 13) ∧ (h73 90 20) = (h 90 20) ∧ (h73 90 22) = (h 90 22) ∧ (h73 90 25) = (h 90 25) ∧ (h73 90 26) = (h 90 26) ∧ (h73 90 28) = (h 90 28) ∧ (h73 90 29) = (h 90 29) ∧ (h73 90 30) = (h 90 30) ∧ (h73 90 34) = (h 90 34) ∧ 0 ≤ 0 ∧ 0 ≤ 16005 ∧ (h73 90 2) = 0; omega), E75, E79, E80, E81, E82, E83, E84, E85, E86, E87, E88, E89, (fun w => ov_WK_of (f := h39 100) (n := x1) (by omega) (by show (h73 100 0) = _; omega) (by omega) (fun j a b => xk j a (by omega)))⟩
                · skip
                  have gw := ra_100 I74 (30 + x4)
                  have g0 : h73 100 0 = h73 100 0 := rfl
                  refine ov_blk (ls2 := [(0, ov_r 90), (1, ov_i x1), (2, ov_i x2), (3, ov_i x3), (4, ov_i x4)]) (st2 := [ov_r 90]) (pc2 := 201) b_234_200_1 rfl rfl ?_
                  refine ov_getf (v := ov_r 100) d_234_201 fl_Mo_93 (zb_90 I74) (zs_90 I74) (congrArg ov_r (rg_90_16 I74)) ?_
                  refine ov_blk (ls2 := [(0, ov_r 90), (1, ov_i x1), (2, ov_i x2), (3, ov_i x3), (4, ov_i x4)]) (st2 := [ov_r 90, ov_i (1 + x4), ov_r 100]) (pc2 := 209) b_234_204_4 rfl rfl ?_
                  refine ov_getf (v := ov_r 100) d_234_209 fl_Mo_93 (zb_90 I74) (zs_90 I74) (congrArg ov_r (rg_90_16 I74)) ?_
                  refine ov_blk (ls2 := [(0, ov_r 90), (1, ov_i x1), (2, ov_i x2), (3, ov_i x3), (4, ov_i x4)]) (st2 := [ov_i (30 + x4), ov_r 100, ov_i (1 + x4), ov_r 100]) (pc2 := 217) b_234_212_3 rfl rfl ?_
                  refine ov_iald d_234_217 (zb_100 I74) (zs_100 I74) (by omega) ?_
                  have g92 := s100_g I74 (30 + x4)
                  refine ov_iast d_234_218 (zb_100 I74) (zs_100 I74) (by omega) ?_
                  have I93 := ua_100 (k := (1 + x4)) (x := (h73 100 (30 + x4))) I74 (by refine ⟨?_, ?_, ?_, ?_⟩ <;> omega)
                  have gh : ((ov_up h73 100 (1 + x4) (h73 100 (30 + x4))) 100 0) = h73 100 0 := by rw [ov_up_j (by omega)]
                  refine ov_blk (ls2 := [(0, ov_r 90), (1, ov_i x1), (2, ov_i x2), (3, ov_i x3), (4, ov_i (x4 + 1))]) (st2 := []) (pc2 := 222) b_234_219_1 rfl rfl ?_
                  refine ov_goto (tgt := 192) d_234_222 (by decide) ?_
                  exact ih69 (x4 + 1) _ _ I93 E75 E76 E77 E78 E79 E80 E81 E82 E83 E84 E85 E86 E87 E88 E89 (fun j a b => if e : j = x4 then (by rw [e, ov_up_row, ov_rs_eq]; exact xl _ (by omega)) else (by rw [ov_up_j (by omega)]; exact xk j a (by omega))) (fun j a => by rw [ov_up_j (by omega)]; exact xl j a) (by show 0 ≤ (x4 + 1) ∧ (x4 + 1) ≤ 26 ∧ ((ov_up h73 100 (1 + x4) (h73 100 (30 + x4))) 100 0) = x1 ∧ (h73 90 2) = (h39 90 2) ∧ (h73 90 7) = (h39 90 7) ∧ (h73 90 8) = (h39 90 8) ∧ (h73 90 13) = (h39 90 13) ∧ (h73 90 20) = (h39 90 20) ∧ (h73 90 22) = (h39 90 22) ∧ (h73 90 25) = (h39 90 25) ∧ (h73 90 26) = (h39 90 26) ∧ (h73 90 28) = (h39 90 28) ∧ (h73 90 29) = (h39 90 29) ∧ (h73 90 30) = (h39 90 30) ∧ (h73 90 34) = (h39 90 34); omega) (by omega)
            exact L71 27 0 _ _ I67 E41 E42 E43 E44 E45 E46 E47 E48 E49 E50 E51 E52 E53 E54 E55 (fun j a b => by omega) (fun j a => by rw [ov_up_j (by omega)]) (by show 0 ≤ 0 ∧ 0 ≤ 26 ∧ x1 = x1 ∧ (h39 90 2) = (h39 90 2) ∧ (h39 90 7) = (h39 90 7) ∧ (h39 90 8) = (h39 90 8) ∧ (h39 90 13) = (h39 90 13) ∧ (h39 90 20) = (h39 90 20) ∧ (h39 90 22) = (h39 90 22) ∧ (h39 90 25) = (h39 90 25) ∧ (h39 90 26) = (h39 90 26) ∧ (h39 90 28) = (h39 90 28) ∧ (h39 90 29) = (h39 90 29) ∧ (h39 90 30) = (h39 90 30) ∧ (h39 90 34) = (h39 90 34); omega) (by omega)
          · omega
        · skip
          have qn : (h39 90 7) = n → h18 92 (h39 90 7) = h18 92 n := fun e => by rw [e]
          have t0 := t96_0 I
          have t1 := t96_1 I
          refine ov_blk (ls2 := [(0, ov_r 90), (1, ov_i x1), (2, ov_i x2), (3, ov_i x3)]) (st2 := [ov_i 2, ov_i 10, ov_r 90]) (pc2 := 38) b_234_34_3 rfl rfl ?_
          have cf94 : h39 92 (n) = h18 92 (n) := congrFun E42 (n)
          refine ov_cV (as := [ov_i 10, ov_i 2]) (st := []) (d2 := d - 1) d_234_38 lk_Mo_202 rfl (Nat.le_of_ble_eq_true rfl) (c := 1) (zb_90 I40) (zs_90 I40) ⟨by decide, rfl⟩ (by omega) (c_Mo_wordHere_90 n (d - 1) (by omega) U I40 10 2 (by omega) (by omega) (by show 0 ≤ n ∧ n ≤ 1000 ∧ (h39 92 (n)) = 0 ∧ (h39 90 7) ≤ n; omega) (by omega)) ?_
          rintro _ _ _ ⟨v96, rfl, rfl, rfl, f95⟩
          show ov_R u d ov_m234 41 [(0, ov_r 90), (1, ov_i x1), (2, ov_i x2), (3, ov_i x3)] [ov_i v96] z38 h39 (P_Mo_walk_90 F z h)
          have f97 : -1 ≤ v96 ∧ v96 < (2 : Int) ∧ (0 ≤ v96 → (h39 90 7) < n ∧ (h39 90 8) = 0) := f95
          clear f95
          refine ov_blk (ls2 := [(0, ov_r 90), (1, ov_i x1), (2, ov_i x2), (3, ov_i x3), (4, ov_i v96)]) (st2 := [ov_i v96]) (pc2 := 45) b_234_41_2 rfl rfl ?_
          refine ov_ifge (tgt := 56) d_234_45 (by decide) (by omega) (fun c98 => ?_) (fun c98 => ?_)
          · skip
            refine ov_blk (ls2 := [(0, ov_r 90), (1, ov_i x1), (2, ov_i x2), (3, ov_i x3), (4, ov_i v96)]) (st2 := [ov_i v96, ov_i x3, ov_i x2, ov_r 90]) (pc2 := 61) b_234_56_4 rfl rfl ?_
            refine ov_cV (as := [ov_i x2, ov_i x3, ov_i v96]) (st := []) (d2 := d - 1) d_234_61 lk_Mo_250 rfl (Nat.le_of_ble_eq_true rfl) (c := 1) (zb_90 I40) (zs_90 I40) ⟨by decide, rfl⟩ (by omega) (c_Mo_isThere_90 (d - 1) (by omega) U I40 x2 x3 v96 (by omega) (by omega) (by omega)) ?_
            rintro _ _ _ ⟨v100, rfl, rfl, rfl, f99⟩
            show ov_R u d ov_m234 64 [(0, ov_r 90), (1, ov_i x1), (2, ov_i x2), (3, ov_i x3), (4, ov_i v96)] [ov_i v100] z38 h39 (P_Mo_walk_90 F z h)
            rw [show h39 96 = h 96 from E46] at f99
            have f101 : (v100 = 0 ∨ v100 = 1) ∧ (v100 = 1 → ((v96 = 0 → x2 < (h 96 0) - 1) ∧ (¬ v96 = 0 → x3 < (h 96 1) - 1))) ∧ (v100 = 0 → ¬ ((v96 = 0 → x2 < (h 96 0) - 1) ∧ (¬ v96 = 0 → x3 < (h 96 1) - 1))) := f99
            clear f99
            refine ov_ifeq (tgt := 78) d_234_64 (by decide) (by omega) (fun c102 => ?_) (fun c102 => ?_)
            · skip
              have f101_ : v100 = 0 := by omega
              have f103 : ¬ ((v96 = 0 → x2 < (h 96 0) - 1) ∧ (¬ v96 = 0 → x3 < (h 96 1) - 1)) := f101.2.2 (by omega)
              clear f101
              refine ov_blk (ls2 := [(0, ov_r 90), (1, ov_i x1), (2, ov_i x2), (3, ov_i x3), (4, ov_i v96)]) (st2 := [ov_i 2, ov_r 90]) (pc2 := 80) b_234_78_2 rfl rfl ?_
              refine ov_cV (as := [ov_i 2]) (st := []) (d2 := d - 1) d_234_80 lk_Mo_186 rfl (Nat.le_of_ble_eq_true rfl) (c := 1) (zb_90 I40) (zs_90 I40) ⟨by decide, rfl⟩ (by omega) (c_Mo_wrong_90 (d - 1) (by omega) U I40 2 (by omega) (by omega)) ?_
              rintro _ z121 h122 ⟨rfl, I123, f104, e105, e106, e107, e108, e109, e110, e111, e112, e113, e114, e115, e116, e117, e118, e119, e120⟩
              have E124 : h122 91 = h 91 := Eq.trans e105 E41
              have E125 : h122 92 = h18 92 := Eq.trans e106 E42
              have E126 : h122 93 = h18 93 := Eq.trans e107 E43
              have E127 : h122 94 = h18 94 := Eq.trans e108 E44
              have E128 : h122 95 = h 95 := Eq.trans e109 E45
              have E129 : h122 96 = h 96 := Eq.trans e110 E46
              have E130 : h122 97 = h 97 := Eq.trans e111 E47
              have E131 : h122 98 = h 98 := Eq.trans e112 E48
              have E132 : h122 99 = h 99 := Eq.trans e113 E49
              have E133 : h122 100 = h39 100 := e114
              have E134 : h122 103 = h 103 := Eq.trans e115 E50
              have E135 : h122 104 = h 104 := Eq.trans e116 E51
              have E136 : h122 105 = h 105 := Eq.trans e117 E52
              have E137 : h122 106 = h 106 := Eq.trans e118 E53
              have E138 : h122 109 = h 109 := Eq.trans e119 E54
              have E139 : h122 114 = h 114 := Eq.trans e120 E55
              show ov_R u d ov_m234 83 [(0, ov_r 90), (1, ov_i x1), (2, ov_i x2), (3, ov_i x3), (4, ov_i v96)] [] z121 h122 (P_Mo_walk_90 F z h)
              have f140 : (h122 90 2) = (h39 90 2) ∧ (h122 90 7) = (h39 90 7) ∧ (h122 90 13) = (h39 90 13) ∧ (h122 90 20) = (h39 90 20) ∧ (h122 90 22) = (h39 90 22) ∧ (h122 90 25) = (h39 90 25) ∧ (h122 90 26) = (h39 90 26) ∧ (h122 90 28) = (h39 90 28) ∧ (h122 90 29) = (h39 90 29) ∧ (h122 90 30) = (h39 90 30) ∧ (h122 90 34) = (h39 90 34) ∧ 0 < (h122 90 8) ∧ (h39 90 8) ≤ (h122 90 8) := f104
              clear f104
              refine ov_goto (tgt := 97) d_234_83 (by decide) ?_
              refine ov_blk (ls2 := [(0, ov_r 90), (1, ov_i x1), (2, ov_i x2), (3, ov_i x3), (4, ov_i v96)]) (st2 := [ov_r 90]) (pc2 := 98) b_234_97_1 rfl rfl ?_
              refine ov_getf (v := ov_i (h122 90 8)) d_234_98 fl_Mo_180 (zb_90 I123) (zs_90 I123) rfl ?_
              have g141 := rg_90_8 I123
              refine ov_ifne (tgt := 161) d_234_101 (by decide) (by omega) (fun c142 => ?_) (fun c142 => ?_)
              · skip
                refine ov_blk (ls2 := [(0, ov_r 90), (1, ov_i x1), (2, ov_i x2), (3, ov_i x3), (4, ov_i v96)]) (st2 := [ov_i 59, ov_r 90]) (pc2 := 164) b_234_161_2 rfl rfl ?_
                have cf143 : h122 92 (n) = h18 92 (n) := congrFun E125 (n)
                refine ov_cV (as := [ov_i 59]) (st := []) (d2 := d - 1) d_234_164 lk_Mo_214 rfl (Nat.le_of_ble_eq_true rfl) (c := 1) (zb_90 I123) (zs_90 I123) ⟨by decide, rfl⟩ (by omega) (c_Mo_takeSign_90 n (d - 1) (by omega) U I123 59 (by omega) (by show 0 ≤ n ∧ n ≤ 1000 ∧ (h122 92 (n)) = 0 ∧ (h122 90 7) ≤ n; omega)) ?_
                rintro _ z161 h162 ⟨rfl, I163, f144, e145, e146, e147, e148, e149, e150, e151, e152, e153, e154, e155, e156, e157, e158, e159, e160⟩
                have E164 : h162 91 = h 91 := Eq.trans e145 E124
                have E165 : h162 92 = h18 92 := Eq.trans e146 E125
                have E166 : h162 93 = h18 93 := Eq.trans e147 E126
                have E167 : h162 94 = h18 94 := Eq.trans e148 E127
                have E168 : h162 95 = h 95 := Eq.trans e149 E128
                have E169 : h162 96 = h 96 := Eq.trans e150 E129
                have E170 : h162 97 = h 97 := Eq.trans e151 E130
                have E171 : h162 98 = h 98 := Eq.trans e152 E131
                have E172 : h162 99 = h 99 := Eq.trans e153 E132
                have E173 : h162 100 = h39 100 := Eq.trans e154 E133
                have E174 : h162 103 = h 103 := Eq.trans e155 E134
                have E175 : h162 104 = h 104 := Eq.trans e156 E135
                have E176 : h162 105 = h 105 := Eq.trans e157 E136
                have E177 : h162 106 = h 106 := Eq.trans e158 E137
                have E178 : h162 109 = h 109 := Eq.trans e159 E138
                have E179 : h162 114 = h 114 := Eq.trans e160 E139
                show ov_R u d ov_m234 167 [(0, ov_r 90), (1, ov_i x1), (2, ov_i x2), (3, ov_i x3), (4, ov_i v96)] [] z161 h162 (P_Mo_walk_90 F z h)
                have f180 : (h162 90 2) = (h122 90 2) ∧ (h162 90 13) = (h122 90 13) ∧ (h162 90 20) = (h122 90 20) ∧ (h162 90 22) = (h122 90 22) ∧ (h162 90 25) = (h122 90 25) ∧ (h162 90 26) = (h122 90 26) ∧ (h162 90 28) = (h122 90 28) ∧ (h162 90 29) = (h122 90 29) ∧ (h162 90 30) = (h122 90 30) ∧ (h162 90 34) = (h122 90 34) ∧ (h122 90 7) ≤ (h162 90 7) ∧ (h162 90 7) ≤ n ∧ (h122 90 8) ≤ (h162 90 8) ∧ (h122 90 7) < (h162 90 7) + (h162 90 8) := f144
                clear f144
                refine ov_goto (tgt := 15) d_234_167 (by decide) ?_
                refine ov_sub (ls2 := [(0, ov_r 90), (1, ov_i x1), (2, ov_i x2), (3, ov_i x3)]) (List.Sublist.subset (by repeat (first | exact List.Sublist.refl _ | apply List.Sublist.cons_cons | apply List.Sublist.cons))) ?_
                have bs : ov_sx (ov_tw (h162 100)) (Int.toNat x1) = ov_sx (ov_tw (h39 100)) (Int.toNat x1) := by rw [show h162 100 = h39 100 from E173]
                have bo : ∀ j : Int, j < 30 → h162 100 j = h 100 j := by rw [show h162 100 = h39 100 from E173]; exact xo
                exact ih35 x1 x2 x3 _ _ I163 E164 E165 E166 E167 E168 E169 E170 E171 E172 E174 E175 E176 E177 E178 E179 bo (by show 0 ≤ x1 ∧ x1 ≤ 13 ∧ 0 ≤ x2 ∧ x2 ≤ 5 ∧ 0 ≤ x3 ∧ x3 ≤ 8 ∧ x2 = ov_sx (ov_tw (h162 100)) (Int.toNat x1) ∧ x3 = x1 - x2 ∧ x2 < (h 96 0) ∧ x3 < (h 96 1) ∧ 0 ≤ (h162 90 7) ∧ (h162 90 7) ≤ n ∧ (h162 90 2) = (h18 90 2) ∧ (h162 90 13) = (h18 90 13) ∧ (h162 90 20) = (h18 90 20) ∧ (h162 90 22) = (h18 90 22) ∧ (h162 90 25) = (h18 90 25) ∧ (h162 90 26) = (h18 90 26) ∧ (h162 90 28) = (h18 90 28) ∧ (h162 90 29) = (h18 90 29) ∧ (h162 90 30) = (h18 90 30) ∧ (h162 90 34) = (h18 90 34); omega) (by omega)
              · omega
            · skip
              have f101_ : v100 = 1 := by omega
              have f181 : ((v96 = 0 → x2 < (h 96 0) - 1) ∧ (¬ v96 = 0 → x3 < (h 96 1) - 1)) := f101.2.1 (by omega)
              clear f101
              refine ov_blk (ls2 := [(0, ov_r 90), (1, ov_i x1), (2, ov_i x2), (3, ov_i x3), (4, ov_i v96)]) (st2 := [ov_i v96, ov_i x3, ov_i x2, ov_r 90]) (pc2 := 72) b_234_67_4 rfl rfl ?_
              refine ov_cV (as := [ov_i x2, ov_i x3, ov_i v96]) (st := []) (d2 := d - 1) d_234_72 lk_Mo_254 rfl (Nat.le_of_ble_eq_true rfl) (c := 1) (zb_90 I40) (zs_90 I40) ⟨by decide, rfl⟩ (by omega) (c_Mo_isBarred_90 (d - 1) (by omega) U I40 x2 x3 v96 (by omega) (by omega) (by omega) (by omega) (by omega)) ?_
              rintro _ _ _ ⟨v183, rfl, rfl, rfl, f182⟩
              show ov_R u d ov_m234 75 [(0, ov_r 90), (1, ov_i x1), (2, ov_i x2), (3, ov_i x3), (4, ov_i v96)] [ov_i v183] z38 h39 (P_Mo_walk_90 F z h)
              rw [show h39 96 = h 96 from E46] at f182
              have f184 : (v183 = 0 ∨ v183 = 1) ∧ (v183 = 1 → ov_and (ov_shr ((h 96 (226 + 6 * x3 + x2))) v96) 1 = 1) ∧ (v183 = 0 → ¬ ov_and (ov_shr ((h 96 (226 + 6 * x3 + x2))) v96) 1 = 1) := f182
              clear f182
              refine ov_ifeq (tgt := 86) d_234_75 (by decide) (by omega) (fun c185 => ?_) (fun c185 => ?_)
              · skip
                have f184_ : v183 = 0 := by omega
                have f186 : ¬ ov_and (ov_shr ((h 96 (226 + 6 * x3 + x2))) v96) 1 = 1 := f184.2.2 (by omega)
                clear f184
                refine ov_blk (ls2 := [(0, ov_r 90), (1, ov_i x1), (2, ov_i x2), (3, ov_i x3), (4, ov_i v96)]) (st2 := [ov_i 13, ov_i x1]) (pc2 := 89) b_234_86_2 rfl rfl ?_
                refine ov_icne (tgt := 97) d_234_89 (by decide) (by omega) (by omega) (fun c187 => ?_) (fun c187 => ?_)
                · skip
                  refine ov_blk (ls2 := [(0, ov_r 90), (1, ov_i x1), (2, ov_i x2), (3, ov_i x3), (4, ov_i v96)]) (st2 := [ov_r 90]) (pc2 := 98) b_234_97_1 rfl rfl ?_
                  refine ov_getf (v := ov_i (h39 90 8)) d_234_98 fl_Mo_180 (zb_90 I40) (zs_90 I40) rfl ?_
                  refine ov_ifne (tgt := 161) d_234_101 (by decide) (by omega) (fun c189 => ?_) (fun c189 => ?_)
                  · omega
                  · skip
                    refine ov_blk (ls2 := [(0, ov_r 90), (1, ov_i x1), (2, ov_i x2), (3, ov_i x3), (4, ov_i v96)]) (st2 := [ov_r 90, ov_r 90]) (pc2 := 106) b_234_104_2 rfl rfl ?_
                    refine ov_getf (v := ov_i (h39 90 7)) d_234_106 fl_Mo_177 (zb_90 I40) (zs_90 I40) rfl ?_
                    refine ov_blk (ls2 := [(0, ov_r 90), (1, ov_i x1), (2, ov_i x2), (3, ov_i x3), (4, ov_i v96)]) (st2 := [ov_i ((h39 90 7) + 1), ov_r 90]) (pc2 := 111) b_234_109_2 rfl rfl ?_
                    refine ov_putf (x := ((h39 90 7) + 1)) d_234_111 fl_Mo_177 (zb_90 I40) (zs_90 I40) rfl nk_0 rfl ?_
                    have I191 := up_90_7 (x := ((h39 90 7) + 1)) I40 (by omega)
                    refine ov_blk (ls2 := [(0, ov_r 90), (1, ov_i x1), (2, ov_i x2), (3, ov_i x3), (4, ov_i v96)]) (st2 := [ov_r 90]) (pc2 := 115) b_234_114_1 rfl rfl ?_
                    refine ov_getf (v := ov_r 100) d_234_115 fl_Mo_93 (zb_90 I191) (zs_90 I191) (congrArg ov_r (rg_90_16 I191)) ?_
                    refine ov_blk (ls2 := [(0, ov_r 90), (1, ov_i x1), (2, ov_i x2), (3, ov_i x3), (4, ov_i v96)]) (st2 := [ov_i v96, ov_i (30 + (2 * x1)), ov_r 100]) (pc2 := 126) b_234_118_6 rfl rfl ?_
                    refine ov_iast d_234_126 (zb_100 I191) (zs_100 I191) (by omega) ?_
                    have I192 := ua_100 (k := (30 + (2 * x1))) (x := v96) I191 (by refine ⟨?_, ?_, ?_, ?_⟩ <;> omega)
                    refine ov_blk (ls2 := [(0, ov_r 90), (1, ov_i x1), (2, ov_i x2), (3, ov_i x3), (4, ov_i v96)]) (st2 := [ov_r 90]) (pc2 := 128) b_234_127_1 rfl rfl ?_
                    refine ov_getf (v := ov_r 100) d_234_128 fl_Mo_93 (zb_90 I192) (zs_90 I192) (congrArg ov_r (rg_90_16 I192)) ?_
                    refine ov_blk (ls2 := [(0, ov_r 90), (1, ov_i x1), (2, ov_i x2), (3, ov_i x3), (4, ov_i v96)]) (st2 := [ov_i 9999, ov_i 0, ov_r 90, ov_i (31 + (2 * x1)), ov_r 100]) (pc2 := 142) b_234_131_8 rfl rfl ?_
                    have cf193 : h39 92 (n) = h18 92 (n) := congrFun E42 (n)
                    refine ov_cV (as := [ov_i 0, ov_i 9999]) (st := [ov_i (31 + (2 * x1)), ov_r 100]) (d2 := d - 1) d_234_142 lk_Mo_198 rfl (Nat.le_of_ble_eq_true rfl) (c := 1) (zb_90 I192) (zs_90 I192) ⟨by decide, rfl⟩ (by omega) (c_Mo_takeNumber_90 n (d - 1) (by omega) U I192 0 9999 (by omega) (by omega) (by show 0 ≤ n ∧ n ≤ 1000 ∧ (h39 92 (n)) = 0 ∧ ((h39 90 7) + 1) ≤ n; omega)) ?_
                    rintro _ z212 h213 ⟨v195, rfl, I214, f194, e196, e197, e198, e199, e200, e201, e202, e203, e204, e205, e206, e207, e208, e209, e210, e211⟩
                    have E215 : h213 91 = h 91 := Eq.trans e196 E41
                    have E216 : h213 92 = h18 92 := Eq.trans e197 E42
                    have E217 : h213 93 = h18 93 := Eq.trans e198 E43
                    have E218 : h213 94 = h18 94 := Eq.trans e199 E44
                    have E219 : h213 95 = h 95 := Eq.trans e200 E45
                    have E220 : h213 96 = h 96 := Eq.trans e201 E46
                    have E221 : h213 97 = h 97 := Eq.trans e202 E47
                    have E222 : h213 98 = h 98 := Eq.trans e203 E48
                    have E223 : h213 99 = h 99 := Eq.trans e204 E49
                    have E224 : h213 103 = h 103 := Eq.trans e206 E50
                    have E225 : h213 104 = h 104 := Eq.trans e207 E51
                    have E226 : h213 105 = h 105 := Eq.trans e208 E52
                    have E227 : h213 106 = h 106 := Eq.trans e209 E53
                    have E228 : h213 109 = h 109 := Eq.trans e210 E54
                    have E229 : h213 114 = h 114 := Eq.trans e211 E55
                    show ov_R u d ov_m234 145 [(0, ov_r 90), (1, ov_i x1), (2, ov_i x2), (3, ov_i x3), (4, ov_i v96)] [ov_i v195, ov_i (31 + (2 * x1)), ov_r 100] z212 h213 (P_Mo_walk_90 F z h)
                    have f230 : (h213 90 2) = (h39 90 2) ∧ (h213 90 13) = (h39 90 13) ∧ (h213 90 20) = (h39 90 20) ∧ (h213 90 22) = (h39 90 22) ∧ (h213 90 25) = (h39 90 25) ∧ (h213 90 26) = (h39 90 26) ∧ (h213 90 28) = (h39 90 28) ∧ (h213 90 29) = (h39 90 29) ∧ (h213 90 30) = (h39 90 30) ∧ (h213 90 34) = (h39 90 34) ∧ ((h39 90 7) + 1) ≤ (h213 90 7) ∧ (h213 90 7) ≤ n ∧ (h39 90 8) ≤ (h213 90 8) ∧ ((h213 90 8) = 0 → (0 : Int) ≤ v195 ∧ v195 ≤ (9999 : Int)) ∧ (0 < (h213 90 8) → v195 = 0) ∧ ((h39 90 7) + 1) < (h213 90 7) + (h213 90 8) := f194
                    clear f194
                    refine ov_iast d_234_145 (zb_100 I214) (zs_100 I214) (by omega) ?_
                    have I231 := ua_100 (k := (31 + (2 * x1))) (x := v195) I214 (by refine ⟨?_, ?_, ?_, ?_⟩ <;> omega)
                    refine ov_blk (ls2 := [(0, ov_r 90), (1, ov_i (x1 + 1)), (2, ov_i (x2 + (1 - v96))), (3, ov_i (x3 + v96)), (4, ov_i v96)]) (st2 := [ov_i 59, ov_r 90]) (pc2 := 164) b_234_146_13 rfl rfl ?_
                    have cf232 : h213 92 (n) = h18 92 (n) := congrFun E216 (n)
                    refine ov_cV (as := [ov_i 59]) (st := []) (d2 := d - 1) d_234_164 lk_Mo_214 rfl (Nat.le_of_ble_eq_true rfl) (c := 1) (zb_90 I231) (zs_90 I231) ⟨by decide, rfl⟩ (by omega) (c_Mo_takeSign_90 n (d - 1) (by omega) U I231 59 (by omega) (by show 0 ≤ n ∧ n ≤ 1000 ∧ (h213 92 (n)) = 0 ∧ (h213 90 7) ≤ n; omega)) ?_
                    rintro _ z250 h251 ⟨rfl, I252, f233, e234, e235, e236, e237, e238, e239, e240, e241, e242, e243, e244, e245, e246, e247, e248, e249⟩
                    have E253 : h251 91 = h 91 := Eq.trans e234 E215
                    have E254 : h251 92 = h18 92 := Eq.trans e235 E216
                    have E255 : h251 93 = h18 93 := Eq.trans e236 E217
                    have E256 : h251 94 = h18 94 := Eq.trans e237 E218
                    have E257 : h251 95 = h 95 := Eq.trans e238 E219
                    have E258 : h251 96 = h 96 := Eq.trans e239 E220
                    have E259 : h251 97 = h 97 := Eq.trans e240 E221
                    have E260 : h251 98 = h 98 := Eq.trans e241 E222
                    have E261 : h251 99 = h 99 := Eq.trans e242 E223
                    have E262 : h251 103 = h 103 := Eq.trans e244 E224
                    have E263 : h251 104 = h 104 := Eq.trans e245 E225
                    have E264 : h251 105 = h 105 := Eq.trans e246 E226
                    have E265 : h251 106 = h 106 := Eq.trans e247 E227
                    have E266 : h251 109 = h 109 := Eq.trans e248 E228
                    have E267 : h251 114 = h 114 := Eq.trans e249 E229
                    show ov_R u d ov_m234 167 [(0, ov_r 90), (1, ov_i (x1 + 1)), (2, ov_i (x2 + (1 - v96))), (3, ov_i (x3 + v96)), (4, ov_i v96)] [] z250 h251 (P_Mo_walk_90 F z h)
                    have f268 : (h251 90 2) = (h213 90 2) ∧ (h251 90 13) = (h213 90 13) ∧ (h251 90 20) = (h213 90 20) ∧ (h251 90 22) = (h213 90 22) ∧ (h251 90 25) = (h213 90 25) ∧ (h251 90 26) = (h213 90 26) ∧ (h251 90 28) = (h213 90 28) ∧ (h251 90 29) = (h213 90 29) ∧ (h251 90 30) = (h213 90 30) ∧ (h251 90 34) = (h213 90 34) ∧ (h213 90 7) ≤ (h251 90 7) ∧ (h251 90 7) ≤ n ∧ (h213 90 8) ≤ (h251 90 8) ∧ (h213 90 7) < (h251 90 7) + (h251 90 8) := f233
                    clear f233
                    refine ov_goto (tgt := 15) d_234_167 (by decide) ?_
                    refine ov_sub (ls2 := [(0, ov_r 90), (1, ov_i (x1 + 1)), (2, ov_i (x2 + (1 - v96))), (3, ov_i (x3 + v96))]) (List.Sublist.subset (by repeat (first | exact List.Sublist.refl _ | apply List.Sublist.cons_cons | apply List.Sublist.cons))) ?_
                    have r1 : (ov_up (ov_up h39 90 7 ((h39 90 7) + 1)) 100 (30 + (2 * x1)) v96) 100 = ov_rs (h39 100) (30 + 2 * x1) v96 := by rw [ov_up_row]; rfl
                    have r2 : h251 100 = ov_rs (ov_rs (h39 100) (30 + 2 * x1) v96) (31 + 2 * x1) v195 := by rw [e243, ov_up_row, e205, r1]
                    have bs : ov_sx (ov_tw (h251 100)) (Int.toNat (x1 + 1)) = ov_sx (ov_tw (h39 100)) (Int.toNat x1) + (1 - v96) := by rw [r2, ov_tw_s _ (by omega), ov_tw_o (by omega) (by omega), ov_tw_o (by omega) (by omega), ov_rs_ne (by omega), ov_rs_eq]
                    have bo : ∀ j : Int, j < 30 → h251 100 j = h 100 j := fun j hj => by rw [r2, ov_rs_ne (by omega), ov_rs_ne (by omega)]; exact xo j hj
                    exact ih35 (x1 + 1) (x2 + (1 - v96)) (x3 + v96) _ _ I252 E253 E254 E255 E256 E257 E258 E259 E260 E261 E262 E263 E264 E265 E266 E267 bo (by show 0 ≤ (x1 + 1) ∧ (x1 + 1) ≤ 13 ∧ 0 ≤ (x2 + (1 - v96)) ∧ (x2 + (1 - v96)) ≤ 5 ∧ 0 ≤ (x3 + v96) ∧ (x3 + v96) ≤ 8 ∧ (x2 + (1 - v96)) = ov_sx (ov_tw (h251 100)) (Int.toNat (x1 + 1)) ∧ (x3 + v96) = (x1 + 1) - (x2 + (1 - v96)) ∧ (x2 + (1 - v96)) < (h 96 0) ∧ (x3 + v96) < (h 96 1) ∧ 0 ≤ (h251 90 7) ∧ (h251 90 7) ≤ n ∧ (h251 90 2) = (h18 90 2) ∧ (h251 90 13) = (h18 90 13) ∧ (h251 90 20) = (h18 90 20) ∧ (h251 90 22) = (h18 90 22) ∧ (h251 90 25) = (h18 90 25) ∧ (h251 90 26) = (h18 90 26) ∧ (h251 90 28) = (h18 90 28) ∧ (h251 90 29) = (h18 90 29) ∧ (h251 90 30) = (h18 90 30) ∧ (h251 90 34) = (h18 90 34); omega) (by omega)
                · skip
                  refine ov_blk (ls2 := [(0, ov_r 90), (1, ov_i x1), (2, ov_i x2), (3, ov_i x3), (4, ov_i v96)]) (st2 := [ov_i 5, ov_r 90]) (pc2 := 94) b_234_92_2 rfl rfl ?_
                  refine ov_cV (as := [ov_i 5]) (st := []) (d2 := d - 1) d_234_94 lk_Mo_186 rfl (Nat.le_of_ble_eq_true rfl) (c := 1) (zb_90 I40) (zs_90 I40) ⟨by decide, rfl⟩ (by omega) (c_Mo_wrong_90 (d - 1) (by omega) U I40 5 (by omega) (by omega)) ?_
                  rintro _ z286 h287 ⟨rfl, I288, f269, e270, e271, e272, e273, e274, e275, e276, e277, e278, e279, e280, e281, e282, e283, e284, e285⟩
                  have E289 : h287 91 = h 91 := Eq.trans e270 E41
                  have E290 : h287 92 = h18 92 := Eq.trans e271 E42
                  have E291 : h287 93 = h18 93 := Eq.trans e272 E43
                  have E292 : h287 94 = h18 94 := Eq.trans e273 E44
                  have E293 : h287 95 = h 95 := Eq.trans e274 E45
                  have E294 : h287 96 = h 96 := Eq.trans e275 E46
                  have E295 : h287 97 = h 97 := Eq.trans e276 E47
                  have E296 : h287 98 = h 98 := Eq.trans e277 E48
                  have E297 : h287 99 = h 99 := Eq.trans e278 E49
                  have E298 : h287 100 = h39 100 := e279
                  have E299 : h287 103 = h 103 := Eq.trans e280 E50
                  have E300 : h287 104 = h 104 := Eq.trans e281 E51
                  have E301 : h287 105 = h 105 := Eq.trans e282 E52
                  have E302 : h287 106 = h 106 := Eq.trans e283 E53
                  have E303 : h287 109 = h 109 := Eq.trans e284 E54
                  have E304 : h287 114 = h 114 := Eq.trans e285 E55
                  show ov_R u d ov_m234 97 [(0, ov_r 90), (1, ov_i x1), (2, ov_i x2), (3, ov_i x3), (4, ov_i v96)] [] z286 h287 (P_Mo_walk_90 F z h)
                  have f305 : (h287 90 2) = (h39 90 2) ∧ (h287 90 7) = (h39 90 7) ∧ (h287 90 13) = (h39 90 13) ∧ (h287 90 20) = (h39 90 20) ∧ (h287 90 22) = (h39 90 22) ∧ (h287 90 25) = (h39 90 25) ∧ (h287 90 26) = (h39 90 26) ∧ (h287 90 28) = (h39 90 28) ∧ (h287 90 29) = (h39 90 29) ∧ (h287 90 30) = (h39 90 30) ∧ (h287 90 34) = (h39 90 34) ∧ 0 < (h287 90 8) ∧ (h39 90 8) ≤ (h287 90 8) := f269
                  clear f269
                  refine ov_blk (ls2 := [(0, ov_r 90), (1, ov_i x1), (2, ov_i x2), (3, ov_i x3), (4, ov_i v96)]) (st2 := [ov_r 90]) (pc2 := 98) b_234_97_1 rfl rfl ?_
                  refine ov_getf (v := ov_i (h287 90 8)) d_234_98 fl_Mo_180 (zb_90 I288) (zs_90 I288) rfl ?_
                  have g306 := rg_90_8 I288
                  refine ov_ifne (tgt := 161) d_234_101 (by decide) (by omega) (fun c307 => ?_) (fun c307 => ?_)
                  · skip
                    refine ov_blk (ls2 := [(0, ov_r 90), (1, ov_i x1), (2, ov_i x2), (3, ov_i x3), (4, ov_i v96)]) (st2 := [ov_i 59, ov_r 90]) (pc2 := 164) b_234_161_2 rfl rfl ?_
                    have cf308 : h287 92 (n) = h18 92 (n) := congrFun E290 (n)
                    refine ov_cV (as := [ov_i 59]) (st := []) (d2 := d - 1) d_234_164 lk_Mo_214 rfl (Nat.le_of_ble_eq_true rfl) (c := 1) (zb_90 I288) (zs_90 I288) ⟨by decide, rfl⟩ (by omega) (c_Mo_takeSign_90 n (d - 1) (by omega) U I288 59 (by omega) (by show 0 ≤ n ∧ n ≤ 1000 ∧ (h287 92 (n)) = 0 ∧ (h287 90 7) ≤ n; omega)) ?_
                    rintro _ z326 h327 ⟨rfl, I328, f309, e310, e311, e312, e313, e314, e315, e316, e317, e318, e319, e320, e321, e322, e323, e324, e325⟩
                    have E329 : h327 91 = h 91 := Eq.trans e310 E289
                    have E330 : h327 92 = h18 92 := Eq.trans e311 E290
                    have E331 : h327 93 = h18 93 := Eq.trans e312 E291
                    have E332 : h327 94 = h18 94 := Eq.trans e313 E292
                    have E333 : h327 95 = h 95 := Eq.trans e314 E293
                    have E334 : h327 96 = h 96 := Eq.trans e315 E294
                    have E335 : h327 97 = h 97 := Eq.trans e316 E295
                    have E336 : h327 98 = h 98 := Eq.trans e317 E296
                    have E337 : h327 99 = h 99 := Eq.trans e318 E297
                    have E338 : h327 100 = h39 100 := Eq.trans e319 E298
                    have E339 : h327 103 = h 103 := Eq.trans e320 E299
                    have E340 : h327 104 = h 104 := Eq.trans e321 E300
                    have E341 : h327 105 = h 105 := Eq.trans e322 E301
                    have E342 : h327 106 = h 106 := Eq.trans e323 E302
                    have E343 : h327 109 = h 109 := Eq.trans e324 E303
                    have E344 : h327 114 = h 114 := Eq.trans e325 E304
                    show ov_R u d ov_m234 167 [(0, ov_r 90), (1, ov_i x1), (2, ov_i x2), (3, ov_i x3), (4, ov_i v96)] [] z326 h327 (P_Mo_walk_90 F z h)
                    have f345 : (h327 90 2) = (h287 90 2) ∧ (h327 90 13) = (h287 90 13) ∧ (h327 90 20) = (h287 90 20) ∧ (h327 90 22) = (h287 90 22) ∧ (h327 90 25) = (h287 90 25) ∧ (h327 90 26) = (h287 90 26) ∧ (h327 90 28) = (h287 90 28) ∧ (h327 90 29) = (h287 90 29) ∧ (h327 90 30) = (h287 90 30) ∧ (h327 90 34) = (h287 90 34) ∧ (h287 90 7) ≤ (h327 90 7) ∧ (h327 90 7) ≤ n ∧ (h287 90 8) ≤ (h327 90 8) ∧ (h287 90 7) < (h327 90 7) + (h327 90 8) := f309
                    clear f309
                    refine ov_goto (tgt := 15) d_234_167 (by decide) ?_
                    refine ov_sub (ls2 := [(0, ov_r 90), (1, ov_i x1), (2, ov_i x2), (3, ov_i x3)]) (List.Sublist.subset (by repeat (first | exact List.Sublist.refl _ | apply List.Sublist.cons_cons | apply List.Sublist.cons))) ?_
                    have bs : ov_sx (ov_tw (h327 100)) (Int.toNat x1) = ov_sx (ov_tw (h39 100)) (Int.toNat x1) := by rw [show h327 100 = h39 100 from E338]
                    have bo : ∀ j : Int, j < 30 → h327 100 j = h 100 j := by rw [show h327 100 = h39 100 from E338]; exact xo
                    exact ih35 x1 x2 x3 _ _ I328 E329 E330 E331 E332 E333 E334 E335 E336 E337 E339 E340 E341 E342 E343 E344 bo (by show 0 ≤ x1 ∧ x1 ≤ 13 ∧ 0 ≤ x2 ∧ x2 ≤ 5 ∧ 0 ≤ x3 ∧ x3 ≤ 8 ∧ x2 = ov_sx (ov_tw (h327 100)) (Int.toNat x1) ∧ x3 = x1 - x2 ∧ x2 < (h 96 0) ∧ x3 < (h 96 1) ∧ 0 ≤ (h327 90 7) ∧ (h327 90 7) ≤ n ∧ (h327 90 2) = (h18 90 2) ∧ (h327 90 13) = (h18 90 13) ∧ (h327 90 20) = (h18 90 20) ∧ (h327 90 22) = (h18 90 22) ∧ (h327 90 25) = (h18 90 25) ∧ (h327 90 26) = (h18 90 26) ∧ (h327 90 28) = (h18 90 28) ∧ (h327 90 29) = (h18 90 29) ∧ (h327 90 30) = (h18 90 30) ∧ (h327 90 34) = (h18 90 34); omega) (by omega)
                  · omega
              · skip
                have f184_ : v183 = 1 := by omega
                have f346 : ov_and (ov_shr ((h 96 (226 + 6 * x3 + x2))) v96) 1 = 1 := f184.2.1 (by omega)
                clear f184
                refine ov_blk (ls2 := [(0, ov_r 90), (1, ov_i x1), (2, ov_i x2), (3, ov_i x3), (4, ov_i v96)]) (st2 := [ov_i 2, ov_r 90]) (pc2 := 80) b_234_78_2 rfl rfl ?_
                refine ov_cV (as := [ov_i 2]) (st := []) (d2 := d - 1) d_234_80 lk_Mo_186 rfl (Nat.le_of_ble_eq_true rfl) (c := 1) (zb_90 I40) (zs_90 I40) ⟨by decide, rfl⟩ (by omega) (c_Mo_wrong_90 (d - 1) (by omega) U I40 2 (by omega) (by omega)) ?_
                rintro _ z364 h365 ⟨rfl, I366, f347, e348, e349, e350, e351, e352, e353, e354, e355, e356, e357, e358, e359, e360, e361, e362, e363⟩
                have E367 : h365 91 = h 91 := Eq.trans e348 E41
                have E368 : h365 92 = h18 92 := Eq.trans e349 E42
                have E369 : h365 93 = h18 93 := Eq.trans e350 E43
                have E370 : h365 94 = h18 94 := Eq.trans e351 E44
                have E371 : h365 95 = h 95 := Eq.trans e352 E45
                have E372 : h365 96 = h 96 := Eq.trans e353 E46
                have E373 : h365 97 = h 97 := Eq.trans e354 E47
                have E374 : h365 98 = h 98 := Eq.trans e355 E48
                have E375 : h365 99 = h 99 := Eq.trans e356 E49
                have E376 : h365 100 = h39 100 := e357
                have E377 : h365 103 = h 103 := Eq.trans e358 E50
                have E378 : h365 104 = h 104 := Eq.trans e359 E51
                have E379 : h365 105 = h 105 := Eq.trans e360 E52
                have E380 : h365 106 = h 106 := Eq.trans e361 E53
                have E381 : h365 109 = h 109 := Eq.trans e362 E54
                have E382 : h365 114 = h 114 := Eq.trans e363 E55
                show ov_R u d ov_m234 83 [(0, ov_r 90), (1, ov_i x1), (2, ov_i x2), (3, ov_i x3), (4, ov_i v96)] [] z364 h365 (P_Mo_walk_90 F z h)
                have f383 : (h365 90 2) = (h39 90 2) ∧ (h365 90 7) = (h39 90 7) ∧ (h365 90 13) = (h39 90 13) ∧ (h365 90 20) = (h39 90 20) ∧ (h365 90 22) = (h39 90 22) ∧ (h365 90 25) = (h39 90 25) ∧ (h365 90 26) = (h39 90 26) ∧ (h365 90 28) = (h39 90 28) ∧ (h365 90 29) = (h39 90 29) ∧ (h365 90 30) = (h39 90 30) ∧ (h365 90 34) = (h39 90 34) ∧ 0 < (h365 90 8) ∧ (h39 90 8) ≤ (h365 90 8) := f347
                clear f347
                refine ov_goto (tgt := 97) d_234_83 (by decide) ?_
                refine ov_blk (ls2 := [(0, ov_r 90), (1, ov_i x1), (2, ov_i x2), (3, ov_i x3), (4, ov_i v96)]) (st2 := [ov_r 90]) (pc2 := 98) b_234_97_1 rfl rfl ?_
                refine ov_getf (v := ov_i (h365 90 8)) d_234_98 fl_Mo_180 (zb_90 I366) (zs_90 I366) rfl ?_
                have g384 := rg_90_8 I366
                refine ov_ifne (tgt := 161) d_234_101 (by decide) (by omega) (fun c385 => ?_) (fun c385 => ?_)
                · skip
                  refine ov_blk (ls2 := [(0, ov_r 90), (1, ov_i x1), (2, ov_i x2), (3, ov_i x3), (4, ov_i v96)]) (st2 := [ov_i 59, ov_r 90]) (pc2 := 164) b_234_161_2 rfl rfl ?_
                  have cf386 : h365 92 (n) = h18 92 (n) := congrFun E368 (n)
                  refine ov_cV (as := [ov_i 59]) (st := []) (d2 := d - 1) d_234_164 lk_Mo_214 rfl (Nat.le_of_ble_eq_true rfl) (c := 1) (zb_90 I366) (zs_90 I366) ⟨by decide, rfl⟩ (by omega) (c_Mo_takeSign_90 n (d - 1) (by omega) U I366 59 (by omega) (by show 0 ≤ n ∧ n ≤ 1000 ∧ (h365 92 (n)) = 0 ∧ (h365 90 7) ≤ n; omega)) ?_
                  rintro _ z404 h405 ⟨rfl, I406, f387, e388, e389, e390, e391, e392, e393, e394, e395, e396, e397, e398, e399, e400, e401, e402, e403⟩
                  have E407 : h405 91 = h 91 := Eq.trans e388 E367
                  have E408 : h405 92 = h18 92 := Eq.trans e389 E368
                  have E409 : h405 93 = h18 93 := Eq.trans e390 E369
                  have E410 : h405 94 = h18 94 := Eq.trans e391 E370
                  have E411 : h405 95 = h 95 := Eq.trans e392 E371
                  have E412 : h405 96 = h 96 := Eq.trans e393 E372
                  have E413 : h405 97 = h 97 := Eq.trans e394 E373
                  have E414 : h405 98 = h 98 := Eq.trans e395 E374
                  have E415 : h405 99 = h 99 := Eq.trans e396 E375
                  have E416 : h405 100 = h39 100 := Eq.trans e397 E376
                  have E417 : h405 103 = h 103 := Eq.trans e398 E377
                  have E418 : h405 104 = h 104 := Eq.trans e399 E378
                  have E419 : h405 105 = h 105 := Eq.trans e400 E379
                  have E420 : h405 106 = h 106 := Eq.trans e401 E380
                  have E421 : h405 109 = h 109 := Eq.trans e402 E381
                  have E422 : h405 114 = h 114 := Eq.trans e403 E382
                  show ov_R u d ov_m234 167 [(0, ov_r 90), (1, ov_i x1), (2, ov_i x2), (3, ov_i x3), (4, ov_i v96)] [] z404 h405 (P_Mo_walk_90 F z h)
                  have f423 : (h405 90 2) = (h365 90 2) ∧ (h405 90 13) = (h365 90 13) ∧ (h405 90 20) = (h365 90 20) ∧ (h405 90 22) = (h365 90 22) ∧ (h405 90 25) = (h365 90 25) ∧ (h405 90 26) = (h365 90 26) ∧ (h405 90 28) = (h365 90 28) ∧ (h405 90 29) = (h365 90 29) ∧ (h405 90 30) = (h365 90 30) ∧ (h405 90 34) = (h365 90 34) ∧ (h365 90 7) ≤ (h405 90 7) ∧ (h405 90 7) ≤ n ∧ (h365 90 8) ≤ (h405 90 8) ∧ (h365 90 7) < (h405 90 7) + (h405 90 8) := f387
                  clear f387
                  refine ov_goto (tgt := 15) d_234_167 (by decide) ?_
                  refine ov_sub (ls2 := [(0, ov_r 90), (1, ov_i x1), (2, ov_i x2), (3, ov_i x3)]) (List.Sublist.subset (by repeat (first | exact List.Sublist.refl _ | apply List.Sublist.cons_cons | apply List.Sublist.cons))) ?_
                  have bs : ov_sx (ov_tw (h405 100)) (Int.toNat x1) = ov_sx (ov_tw (h39 100)) (Int.toNat x1) := by rw [show h405 100 = h39 100 from E416]
                  have bo : ∀ j : Int, j < 30 → h405 100 j = h 100 j := by rw [show h405 100 = h39 100 from E416]; exact xo
                  exact ih35 x1 x2 x3 _ _ I406 E407 E408 E409 E410 E411 E412 E413 E414 E415 E417 E418 E419 E420 E421 E422 bo (by show 0 ≤ x1 ∧ x1 ≤ 13 ∧ 0 ≤ x2 ∧ x2 ≤ 5 ∧ 0 ≤ x3 ∧ x3 ≤ 8 ∧ x2 = ov_sx (ov_tw (h405 100)) (Int.toNat x1) ∧ x3 = x1 - x2 ∧ x2 < (h 96 0) ∧ x3 < (h 96 1) ∧ 0 ≤ (h405 90 7) ∧ (h405 90 7) ≤ n ∧ (h405 90 2) = (h18 90 2) ∧ (h405 90 13) = (h18 90 13) ∧ (h405 90 20) = (h18 90 20) ∧ (h405 90 22) = (h18 90 22) ∧ (h405 90 25) = (h18 90 25) ∧ (h405 90 26) = (h18 90 26) ∧ (h405 90 28) = (h18 90 28) ∧ (h405 90 29) = (h18 90 29) ∧ (h405 90 30) = (h18 90 30) ∧ (h405 90 34) = (h18 90 34); omega) (by omega)
                · omega
          · skip
            refine ov_blk (ls2 := [(0, ov_r 90), (1, ov_i x1), (2, ov_i x2), (3, ov_i x3), (4, ov_i v96)]) (st2 := [ov_i 1, ov_r 90]) (pc2 := 50) b_234_48_2 rfl rfl ?_
            refine ov_cV (as := [ov_i 1]) (st := []) (d2 := d - 1) d_234_50 lk_Mo_186 rfl (Nat.le_of_ble_eq_true rfl) (c := 1) (zb_90 I40) (zs_90 I40) ⟨by decide, rfl⟩ (by omega) (c_Mo_wrong_90 (d - 1) (by omega) U I40 1 (by omega) (by omega)) ?_
            rintro _ z441 h442 ⟨rfl, I443, f424, e425, e426, e427, e428, e429, e430, e431, e432, e433, e434, e435, e436, e437, e438, e439, e440⟩
            have E444 : h442 91 = h 91 := Eq.trans e425 E41
            have E445 : h442 92 = h18 92 := Eq.trans e426 E42
            have E446 : h442 93 = h18 93 := Eq.trans e427 E43
            have E447 : h442 94 = h18 94 := Eq.trans e428 E44
            have E448 : h442 95 = h 95 := Eq.trans e429 E45
            have E449 : h442 96 = h 96 := Eq.trans e430 E46
            have E450 : h442 97 = h 97 := Eq.trans e431 E47
            have E451 : h442 98 = h 98 := Eq.trans e432 E48
            have E452 : h442 99 = h 99 := Eq.trans e433 E49
            have E453 : h442 100 = h39 100 := e434
            have E454 : h442 103 = h 103 := Eq.trans e435 E50
            have E455 : h442 104 = h 104 := Eq.trans e436 E51
            have E456 : h442 105 = h 105 := Eq.trans e437 E52
            have E457 : h442 106 = h 106 := Eq.trans e438 E53
            have E458 : h442 109 = h 109 := Eq.trans e439 E54
            have E459 : h442 114 = h 114 := Eq.trans e440 E55
            show ov_R u d ov_m234 53 [(0, ov_r 90), (1, ov_i x1), (2, ov_i x2), (3, ov_i x3), (4, ov_i v96)] [] z441 h442 (P_Mo_walk_90 F z h)
            have f460 : (h442 90 2) = (h39 90 2) ∧ (h442 90 7) = (h39 90 7) ∧ (h442 90 13) = (h39 90 13) ∧ (h442 90 20) = (h39 90 20) ∧ (h442 90 22) = (h39 90 22) ∧ (h442 90 25) = (h39 90 25) ∧ (h442 90 26) = (h39 90 26) ∧ (h442 90 28) = (h39 90 28) ∧ (h442 90 29) = (h39 90 29) ∧ (h442 90 30) = (h39 90 30) ∧ (h442 90 34) = (h39 90 34) ∧ 0 < (h442 90 8) ∧ (h39 90 8) ≤ (h442 90 8) := f424
            clear f424
            refine ov_goto (tgt := 97) d_234_53 (by decide) ?_
            refine ov_blk (ls2 := [(0, ov_r 90), (1, ov_i x1), (2, ov_i x2), (3, ov_i x3), (4, ov_i v96)]) (st2 := [ov_r 90]) (pc2 := 98) b_234_97_1 rfl rfl ?_
            refine ov_getf (v := ov_i (h442 90 8)) d_234_98 fl_Mo_180 (zb_90 I443) (zs_90 I443) rfl ?_
            have g461 := rg_90_8 I443
            refine ov_ifne (tgt := 161) d_234_101 (by decide) (by omega) (fun c462 => ?_) (fun c462 => ?_)
            · skip
              refine ov_blk (ls2 := [(0, ov_r 90), (1, ov_i x1), (2, ov_i x2), (3, ov_i x3), (4, ov_i v96)]) (st2 := [ov_i 59, ov_r 90]) (pc2 := 164) b_234_161_2 rfl rfl ?_
              have cf463 : h442 92 (n) = h18 92 (n) := congrFun E445 (n)
              refine ov_cV (as := [ov_i 59]) (st := []) (d2 := d - 1) d_234_164 lk_Mo_214 rfl (Nat.le_of_ble_eq_true rfl) (c := 1) (zb_90 I443) (zs_90 I443) ⟨by decide, rfl⟩ (by omega) (c_Mo_takeSign_90 n (d - 1) (by omega) U I443 59 (by omega) (by show 0 ≤ n ∧ n ≤ 1000 ∧ (h442 92 (n)) = 0 ∧ (h442 90 7) ≤ n; omega)) ?_
              rintro _ z481 h482 ⟨rfl, I483, f464, e465, e466, e467, e468, e469, e470, e471, e472, e473, e474, e475, e476, e477, e478, e479, e480⟩
              have E484 : h482 91 = h 91 := Eq.trans e465 E444
              have E485 : h482 92 = h18 92 := Eq.trans e466 E445
              have E486 : h482 93 = h18 93 := Eq.trans e467 E446
              have E487 : h482 94 = h18 94 := Eq.trans e468 E447
              have E488 : h482 95 = h 95 := Eq.trans e469 E448
              have E489 : h482 96 = h 96 := Eq.trans e470 E449
              have E490 : h482 97 = h 97 := Eq.trans e471 E450
              have E491 : h482 98 = h 98 := Eq.trans e472 E451
              have E492 : h482 99 = h 99 := Eq.trans e473 E452
              have E493 : h482 100 = h39 100 := Eq.trans e474 E453
              have E494 : h482 103 = h 103 := Eq.trans e475 E454
              have E495 : h482 104 = h 104 := Eq.trans e476 E455
              have E496 : h482 105 = h 105 := Eq.trans e477 E456
              have E497 : h482 106 = h 106 := Eq.trans e478 E457
              have E498 : h482 109 = h 109 := Eq.trans e479 E458
              have E499 : h482 114 = h 114 := Eq.trans e480 E459
              show ov_R u d ov_m234 167 [(0, ov_r 90), (1, ov_i x1), (2, ov_i x2), (3, ov_i x3), (4, ov_i v96)] [] z481 h482 (P_Mo_walk_90 F z h)
              have f500 : (h482 90 2) = (h442 90 2) ∧ (h482 90 13) = (h442 90 13) ∧ (h482 90 20) = (h442 90 20) ∧ (h482 90 22) = (h442 90 22) ∧ (h482 90 25) = (h442 90 25) ∧ (h482 90 26) = (h442 90 26) ∧ (h482 90 28) = (h442 90 28) ∧ (h482 90 29) = (h442 90 29) ∧ (h482 90 30) = (h442 90 30) ∧ (h482 90 34) = (h442 90 34) ∧ (h442 90 7) ≤ (h482 90 7) ∧ (h482 90 7) ≤ n ∧ (h442 90 8) ≤ (h482 90 8) ∧ (h442 90 7) < (h482 90 7) + (h482 90 8) := f464
              clear f464
              refine ov_goto (tgt := 15) d_234_167 (by decide) ?_
              refine ov_sub (ls2 := [(0, ov_r 90), (1, ov_i x1), (2, ov_i x2), (3, ov_i x3)]) (List.Sublist.subset (by repeat (first | exact List.Sublist.refl _ | apply List.Sublist.cons_cons | apply List.Sublist.cons))) ?_
              have bs : ov_sx (ov_tw (h482 100)) (Int.toNat x1) = ov_sx (ov_tw (h39 100)) (Int.toNat x1) := by rw [show h482 100 = h39 100 from E493]
              have bo : ∀ j : Int, j < 30 → h482 100 j = h 100 j := by rw [show h482 100 = h39 100 from E493]; exact xo
              exact ih35 x1 x2 x3 _ _ I483 E484 E485 E486 E487 E488 E489 E490 E491 E492 E494 E495 E496 E497 E498 E499 bo (by show 0 ≤ x1 ∧ x1 ≤ 13 ∧ 0 ≤ x2 ∧ x2 ≤ 5 ∧ 0 ≤ x3 ∧ x3 ≤ 8 ∧ x2 = ov_sx (ov_tw (h482 100)) (Int.toNat x1) ∧ x3 = x1 - x2 ∧ x2 < (h 96 0) ∧ x3 < (h 96 1) ∧ 0 ≤ (h482 90 7) ∧ (h482 90 7) ≤ n ∧ (h482 90 2) = (h18 90 2) ∧ (h482 90 13) = (h18 90 13) ∧ (h482 90 20) = (h18 90 20) ∧ (h482 90 22) = (h18 90 22) ∧ (h482 90 25) = (h18 90 25) ∧ (h482 90 26) = (h18 90 26) ∧ (h482 90 28) = (h18 90 28) ∧ (h482 90 29) = (h18 90 29) ∧ (h482 90 30) = (h18 90 30) ∧ (h482 90 34) = (h18 90 34); omega) (by omega)
            · omega
  exact L37 1003 0 0 0 _ _ I19 E20 rfl rfl rfl E21 E22 E23 E24 E25 E27 E28 E29 E30 E31 E32 (fun j _ => congrFun E26 j) (by show 0 ≤ 0 ∧ 0 ≤ 13 ∧ 0 ≤ 0 ∧ 0 ≤ 5 ∧ 0 ≤ 0 ∧ 0 ≤ 8 ∧ 0 = ov_sx (ov_tw (h18 100)) (Int.toNat 0) ∧ 0 = 0 - 0 ∧ 0 < (h 96 0) ∧ 0 < (h 96 1) ∧ 0 ≤ (h18 90 7) ∧ (h18 90 7) ≤ n ∧ (h18 90 2) = (h18 90 2) ∧ (h18 90 13) = (h18 90 13) ∧ (h18 90 20) = (h18 90 20) ∧ (h18 90 22) = (h18 90 22) ∧ (h18 90 25) = (h18 90 25) ∧ (h18 90 26) = (h18 90 26) ∧ (h18 90 28) = (h18 90 28) ∧ (h18 90 29) = (h18 90 29) ∧ (h18 90 30) = (h18 90 30) ∧ (h18 90 34) = (h18 90 34); omega) (by omega)

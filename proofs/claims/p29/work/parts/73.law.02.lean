set_option maxHeartbeats 4000000 in
theorem lw_case_15 {u : ov_U} {nm : String} {d : Nat} (hd : 1000 ≤ d) (U : ov_cap u) {L : Nat} {xs : Nat → Int32} (X : ov_SC u L xs) (hL : L ≤ 3584) (x3 j : Int) (z : ov_Z) (h : ov_H) (K : ov_LK (1 + j) (4000 * j) z h) (e0 : h 1 1 = h 90 2) (gb : h (-77) 0 = 1000 * (j + 1)) (s0 : ov_S3 h) (q : 0 ≤ j ∧ x3 = 7 * j ∧ x3 ≤ L - 7) (BK : ∀ (z5 : ov_Z) (h5 : ov_H), ov_LK (1 + (j + 1)) (4000 * (j + 1)) z5 h5 → h5 1 1 = h5 90 2 → h5 (-77) 0 = 1000 * (j + 2) → ov_S3 h5 → ov_R u d (ov_mL nm) 1462 [(0, ov_r (-4)), (1, ov_r 0), (2, ov_r 90), (3, ov_i x3)] [] z5 h5 ov_LQ) : ov_R u d (ov_mL nm) 805 [(0, ov_r (-4)), (1, ov_r 0), (2, ov_r 90), (3, ov_i x3)] [] z h ov_LQ := by
  have I := ov_LK_I (M := 1235521597062110350411825151) K
  have hW := ov_LK_W (M := 1235521597062110350411825151) K
  have hJ0 := K.2.2.1
  have s3 := s103_2 K.2.1
  have hb0 : ov_bd (h, z) = 1000 * (j + 1) := gb
  refine ov_blk (ls2 := [(0, ov_r (-4)), (1, ov_r 0), (2, ov_r 90), (3, ov_i x3)]) (st2 := [ov_i (x3 + 1), ov_r (-4), ov_r 0]) (pc2 := 810) b_313_805_5 rfl rfl ?_
  refine ov_scl X d_313_810 (by omega) ?_
  have g1 := ov_xs_g xs (x3 + 1)
  refine ov_blk (ls2 := [(0, ov_r (-4)), (1, ov_r 0), (2, ov_r 90), (3, ov_i x3)]) (st2 := [ov_i (x3 + 2), ov_r (-4), ov_i (ov_xs xs (x3 + 1)), ov_r 0]) (pc2 := 815) b_313_811_4 rfl rfl ?_
  refine ov_scl X d_313_815 (by omega) ?_
  have g2 := ov_xs_g xs (x3 + 2)
  refine ov_blk (ls2 := [(0, ov_r (-4)), (1, ov_r 0), (2, ov_r 90), (3, ov_i x3)]) (st2 := [ov_i (x3 + 3), ov_r (-4), ov_i (ov_xs xs (x3 + 2)), ov_i (ov_xs xs (x3 + 1)), ov_r 0]) (pc2 := 820) b_313_816_4 rfl rfl ?_
  refine ov_scl X d_313_820 (by omega) ?_
  have g3 := ov_xs_g xs (x3 + 3)
  refine ov_cV (as := [ov_i (ov_xs xs (x3 + 1)), ov_i (ov_xs xs (x3 + 2)), ov_i (ov_xs xs (x3 + 3))]) (st := []) (d2 := d - 1) d_313_821 lk_Law_82 rfl (Nat.le_of_ble_eq_true rfl) (c := 0) (zb_0 I) (zs_0 I) ⟨by decide, rfl⟩ (by omega) (c_OF_gap_0 (d - 1) (by omega) U I (ov_FF_w (by decide +kernel)) (ov_xs xs (x3 + 1)) (ov_xs xs (x3 + 2)) (ov_xs xs (x3 + 3)) (by omega) (by omega) (by omega) (by omega) (by omega)) ?_
  rintro _ z6 h7 ⟨v5, rfl, I8, f4⟩
  show ov_R u d (ov_mL nm) 824 [(0, ov_r (-4)), (1, ov_r 0), (2, ov_r 90), (3, ov_i x3)] [ov_i v5] z6 h7 ov_LQ
  have f9 : ((h7 36 7) = 1 → (h7 36 8) = (h7 0 10)) ∧ (h7 1 1) = (h 1 1) ∧ (h7 90 2) = (h 90 2) ∧ (h7 0 10) = (h 0 10) ∧ (h7 0 11) = (h 0 11) ∧ (h7 0 12) = (h 0 12) ∧ (h7 0 13) = (h 0 13) ∧ (h7 3 1) = (h 3 1) ∧ (h7 46 3) = (h 46 3) ∧ (h7 46 4) = (h 46 4) ∧ (h7 49 4) = (h 49 4) ∧ (h7 49 5) = (h 49 5) ∧ (h7 64 0) = (h 64 0) ∧ (h7 76 0) = (h 76 0) := f4
  clear f4
  have K1 := ov_LK_c (B := (1000 * (j + 2))) K I8 (fun b h0 _ => ov_FF_ge (by omega)) (by omega) (ov_HR_k hW I8 (by omega) (by omega) (by omega) (by omega)) (by omega)
  refine ov_gho (ov_up h7 (-77) 0 (1000 * (j + 2))) (fun a ha => (ov_up77 ha).symm) ?_
  have a1 : (ov_up h7 (-77) 0 (1000 * (j + 2))) 1 1 = h7 1 1 := congrFun (ov_up77 (by decide)) 1
  have a2 : (ov_up h7 (-77) 0 (1000 * (j + 2))) 90 2 = h7 90 2 := congrFun (ov_up77 (by decide)) 2
  have a3 : (ov_up h7 (-77) 0 (1000 * (j + 2))) (-77) 0 = (1000 * (j + 2)) := ov_uj.1 rfl
  have a5 : (ov_up h7 (-77) 0 (1000 * (j + 2))) 2 = h 2 := (ov_up77 (by decide)).trans (ov_FF_k I8 (Or.inl (by decide)) (by decide +kernel))
  have a6 : (ov_up h7 (-77) 0 (1000 * (j + 2))) 91 = h 91 := (ov_up77 (by decide)).trans ((I8.2.1 91 (by decide) (by decide)).trans (ov_FF_ge (by decide)))
  have a7 : (ov_up h7 (-77) 0 (1000 * (j + 2))) 95 = h 95 := (ov_up77 (by decide)).trans ((I8.2.1 95 (by decide) (by decide)).trans (ov_FF_ge (by decide)))
  have a96 : (ov_up h7 (-77) 0 (1000 * (j + 2))) 96 = h 96 := (ov_up77 (by decide)).trans ((I8.2.1 96 (by decide) (by decide)).trans (ov_FF_ge (by decide)))
  have aU : ∀ b : Int, 0 ≤ b → (ov_up h7 (-77) 0 (1000 * (j + 2))) b = h7 b := fun b hb => ov_up77 hb
  have eT0 : h7 0 10 = h 0 10 := by omega
  have aR : ∀ b : Int, 90 ≤ b → b < 115 → (ov_up h7 (-77) 0 (1000 * (j + 2))) b = h b := fun b b0 b1 => (ov_up77 (by omega)).trans ((I8.2.1 b b0 b1).trans (ov_FF_ge (by omega)))
  have a20 : (ov_up h7 (-77) 0 (1000 * (j + 2))) 90 20 = h 90 20 := congrFun (aR 90 (by decide) (by decide)) 20
  have a4 : (ov_up h7 (-77) 0 (1000 * (j + 2))) 103 2 = h 103 2 := (congrFun (ov_up77 (by decide)) 2).trans (congrFun ((I8.2.1 103 (by decide) (by decide)).trans (ov_FF_ge (by decide))) 2)
  generalize (ov_up h7 (-77) 0 (1000 * (j + 2))) = hg at K1 a1 a2 a3 a4 a5 a6 a7 a96 aU aR a20 ⊢
  have N1 := K1.2.1
  have hWT := K1.2.2.2.2.1
  have hCD := K1.2.2.2.2.2.1
  have hWK := K1.2.2.2.2.2.2.1
  have hPM : ov_PM (hg 96) (hg 103) (hg 97) (hg 98) (hg 105) (hg 106) (hg 90 22) (hg 90 25) (hg 90 26) (hg 90 28) (hg 90 29) (hg 90 30) := K1.2.2.2.2.2.2.2.1
  have hq1 := K1.2.2.2.2.2.2.2.2.1
  have hq2 := K1.2.2.2.2.2.2.2.2.2
  have hbd : ov_bd (hg, z6) = (1000 * (j + 2)) := a3
  have g103 := s103_2 N1
  show ov_R u d (ov_mL nm) 824 [(0, ov_r (-4)), (1, ov_r 0), (2, ov_r 90), (3, ov_i x3)] [ov_i v5] z6 hg ov_LQ
  refine ov_blk (ls2 := [(0, ov_r (-4)), (1, ov_r 0), (2, ov_r 90), (3, ov_i x3)]) (st2 := [ov_i (x3 + 1), ov_r (-4), ov_r 90]) (pc2 := 830) b_313_824_6 rfl rfl ?_
  refine ov_scl X d_313_830 (by omega) ?_
  refine ov_blk (ls2 := [(0, ov_r (-4)), (1, ov_r 0), (2, ov_r 90), (3, ov_i x3)]) (st2 := [ov_i (x3 + 2), ov_r (-4), ov_i (ov_xs xs (x3 + 1)), ov_r 90]) (pc2 := 835) b_313_831_4 rfl rfl ?_
  refine ov_scl X d_313_835 (by omega) ?_
  refine ov_blk (ls2 := [(0, ov_r (-4)), (1, ov_r 0), (2, ov_r 90), (3, ov_i x3)]) (st2 := [ov_i (x3 + 3), ov_r (-4), ov_i (ov_xs xs (x3 + 2)), ov_i (ov_xs xs (x3 + 1)), ov_r 90]) (pc2 := 840) b_313_836_4 rfl rfl ?_
  refine ov_scl X d_313_840 (by omega) ?_
  refine ov_cV (as := [ov_i (ov_xs xs (x3 + 1)), ov_i (ov_xs xs (x3 + 2)), ov_i (ov_xs xs (x3 + 3))]) (st := []) (d2 := d - 1) d_313_841 lk_Law_85 rfl (Nat.le_of_ble_eq_true rfl) (c := 1) (zb_90 N1) (zs_90 N1) ⟨by decide, rfl⟩ (by omega) (c_Mo_gap_90 (d - 1) (by omega) U N1 (ov_xs xs (x3 + 1)) (ov_xs xs (x3 + 2)) (ov_xs xs (x3 + 3)) (by omega) (by omega) (by omega) (by show 0 ≤ (hg 90 25) ∧ (hg 90 25) ≤ 1000000000; omega) hWT hCD hPM) ?_
  rintro _ z30 h31 ⟨v14, rfl, I32, f13, e15, e16, e17, e18, e19, e20, e21, e22, e23, e24, e25, e26, e27, e28, y29⟩
  have E33 : h31 91 = hg 91 := e15
  have E34 : h31 92 = hg 92 := e16
  have E35 : h31 93 = hg 93 := e17
  have E36 : h31 94 = hg 94 := e18
  have E37 : h31 95 = hg 95 := e19
  have E38 : h31 96 = hg 96 := e20
  have E39 : h31 97 = hg 97 := e21
  have E40 : h31 98 = hg 98 := e22
  have E41 : h31 99 = hg 99 := e23
  have E42 : h31 100 = hg 100 := e24
  have E43 : h31 103 = hg 103 := e25
  have E44 : h31 104 = hg 104 := e26
  have E45 : h31 109 = hg 109 := e27
  have E46 : h31 114 = hg 114 := e28
  show ov_R u d (ov_mL nm) 844 [(0, ov_r (-4)), (1, ov_r 0), (2, ov_r 90), (3, ov_i x3)] [ov_i v14] z30 h31 ov_LQ
  have f47 : (h31 90 2) = (hg 90 2) ∧ (h31 90 7) = (hg 90 7) ∧ (h31 90 8) = (hg 90 8) ∧ (h31 90 13) = (hg 90 13) ∧ (h31 90 20) = (hg 90 20) ∧ (h31 90 22) = (hg 90 22) ∧ (h31 90 34) = (hg 90 34) ∧ (hg 90 25) ≤ (h31 90 25) ∧ (h31 90 25) ≤ (hg 90 25) + 2 ∧ -1200000 ≤ v14 ∧ v14 ≤ 1200000 := f13
  clear f13
  have y29_ : ov_PM (hg 96) (hg 103) (hg 97) (hg 98) (h31 105) (h31 106) (h31 90 22) (h31 90 25) (h31 90 26) (h31 90 28) (h31 90 29) (h31 90 30) := y29
  have K2 : ov_LK (1 + (j + 1)) (4000 * (j + 1)) z30 h31 := ov_LK_rm (g := 2) K1 I32 E38 E39 E40 E42 E43 y29_ (by omega) (by omega) (by omega)
  have b1 : h31 1 1 = hg 1 1 := congrFun (I32.2.2.2 1 (Or.inl (by decide))) 1
  have b7 : h31 (-77) 0 = hg (-77) 0 := congrFun (I32.2.2.2 (-77) (Or.inl (by decide))) 0
  have c2 : h31 2 = hg 2 := I32.2.2.2 2 (Or.inl (by decide))
  have bL : ∀ b : Int, 0 ≤ b → b < 90 → h31 b = hg b := fun b _ q => I32.2.2.2 b (Or.inl q)
  have S2 : ov_S3 h31 := ⟨by rw [c2, E33, a5, a6]; exact s0.1, by rw [E37, a7]; exact s0.2.1, ov_HT_s s0.2.2.1 I8 (by decide +kernel) eT0 aU bL E38 a96, st_same s0.2.2.2 (fun a a0 a1 a2 => ((bL a (by omega) (by omega)).trans (aU a (by omega))).trans (ov_FF_k I8 (Or.inl (by omega)) ((by decide +kernel : ∀ n, n < 36 → (4 ≤ n ∧ (n < 14 ∨ 15 ≤ n)) → Nat.testBit 1235521597062110350411825151 n = true) a.toNat (by omega) (by omega)))) (E43.trans (aR 103 (by decide) (by decide))) (fun m _ _ => congrFun (E44.trans (aR 104 (by decide) (by decide))) m) (congrFun (E38.trans (aR 96 (by decide) (by decide))) 5) (by omega)⟩
  refine ov_blk (ls2 := [(0, ov_r (-4)), (1, ov_r 0), (2, ov_r 90), (3, ov_i x3)]) (st2 := []) (pc2 := 845) b_313_844_1 rfl rfl ?_
  refine ov_goto (tgt := 1462) d_313_845 (by decide) ?_
  exact BK _ _ K2 (by omega) (by omega) S2
set_option maxHeartbeats 4000000 in
theorem lw_case_16 {u : ov_U} {nm : String} {d : Nat} (hd : 1000 ≤ d) (U : ov_cap u) {L : Nat} {xs : Nat → Int32} (X : ov_SC u L xs) (hL : L ≤ 3584) (x3 j : Int) (z : ov_Z) (h : ov_H) (K : ov_LK (1 + j) (4000 * j) z h) (e0 : h 1 1 = h 90 2) (gb : h (-77) 0 = 1000 * (j + 1)) (s0 : ov_S3 h) (q : 0 ≤ j ∧ x3 = 7 * j ∧ x3 ≤ L - 7) (BK : ∀ (z5 : ov_Z) (h5 : ov_H), ov_LK (1 + (j + 1)) (4000 * (j + 1)) z5 h5 → h5 1 1 = h5 90 2 → h5 (-77) 0 = 1000 * (j + 2) → ov_S3 h5 → ov_R u d (ov_mL nm) 1462 [(0, ov_r (-4)), (1, ov_r 0), (2, ov_r 90), (3, ov_i x3)] [] z5 h5 ov_LQ) : ov_R u d (ov_mL nm) 848 [(0, ov_r (-4)), (1, ov_r 0), (2, ov_r 90), (3, ov_i x3)] [] z h ov_LQ := by
  have I := ov_LK_I (M := 1235521597062110350411825151) K
  have hW := ov_LK_W (M := 1235521597062110350411825151) K
  have hJ0 := K.2.2.1
  have s3 := s103_2 K.2.1
  have hb0 : ov_bd (h, z) = 1000 * (j + 1) := gb
  refine ov_blk (ls2 := [(0, ov_r (-4)), (1, ov_r 0), (2, ov_r 90), (3, ov_i x3)]) (st2 := [ov_i (x3 + 1), ov_r (-4), ov_r 0]) (pc2 := 853) b_313_848_5 rfl rfl ?_
  refine ov_scl X d_313_853 (by omega) ?_
  have g1 := ov_xs_g xs (x3 + 1)
  refine ov_blk (ls2 := [(0, ov_r (-4)), (1, ov_r 0), (2, ov_r 90), (3, ov_i x3)]) (st2 := [ov_i (x3 + 2), ov_r (-4), ov_i (ov_xs xs (x3 + 1)), ov_r 0]) (pc2 := 858) b_313_854_4 rfl rfl ?_
  refine ov_scl X d_313_858 (by omega) ?_
  have g2 := ov_xs_g xs (x3 + 2)
  refine ov_blk (ls2 := [(0, ov_r (-4)), (1, ov_r 0), (2, ov_r 90), (3, ov_i x3)]) (st2 := [ov_i (x3 + 3), ov_r (-4), ov_i (ov_xs xs (x3 + 2)), ov_i (ov_xs xs (x3 + 1)), ov_r 0]) (pc2 := 863) b_313_859_4 rfl rfl ?_
  refine ov_scl X d_313_863 (by omega) ?_
  have g3 := ov_xs_g xs (x3 + 3)
  refine ov_cV (as := [ov_i (ov_xs xs (x3 + 1)), ov_i (ov_xs xs (x3 + 2)), ov_i (ov_xs xs (x3 + 3))]) (st := []) (d2 := d - 1) d_313_864 lk_Law_86 rfl (Nat.le_of_ble_eq_true rfl) (c := 0) (zb_0 I) (zs_0 I) ⟨by decide, rfl⟩ (by omega) (c_OF_watch_0 (d - 1) (by omega) U I (ov_FF_w (by decide +kernel)) (ov_xs xs (x3 + 1)) (ov_xs xs (x3 + 2)) (ov_xs xs (x3 + 3)) (by omega) (by omega) (by omega) (by omega) (by omega)) ?_
  rintro _ z6 h7 ⟨v5, rfl, I8, f4⟩
  show ov_R u d (ov_mL nm) 867 [(0, ov_r (-4)), (1, ov_r 0), (2, ov_r 90), (3, ov_i x3)] [ov_i v5] z6 h7 ov_LQ
  have f9 : ((h7 36 7) = 1 → (h7 36 8) = (h7 0 10)) ∧ (h7 1 1) = (h 1 1) ∧ (h7 90 2) = (h 90 2) ∧ (h7 0 10) = (h 0 10) ∧ (h7 0 11) = (h 0 11) ∧ (h7 0 12) = (h 0 12) ∧ (h7 0 13) = (h 0 13) ∧ (h7 3 1) = (h 3 1) ∧ (h7 46 3) = (h 46 3) ∧ (h7 46 4) = (h 46 4) ∧ (h7 49 4) = (h 49 4) ∧ (h7 49 5) = (h 49 5) ∧ (h7 64 0) = (h 64 0) ∧ (h7 76 0) = (h 76 0) := f4
  clear f4
  have K1 := ov_LK_c (B := (1000 * (j + 2))) K I8 (fun b h0 _ => ov_FF_ge (by omega)) (by omega) (ov_HR_k hW I8 (by omega) (by omega) (by omega) (by omega)) (by omega)
  refine ov_gho (ov_up h7 (-77) 0 (1000 * (j + 2))) (fun a ha => (ov_up77 ha).symm) ?_
  have a1 : (ov_up h7 (-77) 0 (1000 * (j + 2))) 1 1 = h7 1 1 := congrFun (ov_up77 (by decide)) 1
  have a2 : (ov_up h7 (-77) 0 (1000 * (j + 2))) 90 2 = h7 90 2 := congrFun (ov_up77 (by decide)) 2
  have a3 : (ov_up h7 (-77) 0 (1000 * (j + 2))) (-77) 0 = (1000 * (j + 2)) := ov_uj.1 rfl
  have a5 : (ov_up h7 (-77) 0 (1000 * (j + 2))) 2 = h 2 := (ov_up77 (by decide)).trans (ov_FF_k I8 (Or.inl (by decide)) (by decide +kernel))
  have a6 : (ov_up h7 (-77) 0 (1000 * (j + 2))) 91 = h 91 := (ov_up77 (by decide)).trans ((I8.2.1 91 (by decide) (by decide)).trans (ov_FF_ge (by decide)))
  have a7 : (ov_up h7 (-77) 0 (1000 * (j + 2))) 95 = h 95 := (ov_up77 (by decide)).trans ((I8.2.1 95 (by decide) (by decide)).trans (ov_FF_ge (by decide)))
  have a96 : (ov_up h7 (-77) 0 (1000 * (j + 2))) 96 = h 96 := (ov_up77 (by decide)).trans ((I8.2.1 96 (by decide) (by decide)).trans (ov_FF_ge (by decide)))
  have aU : ∀ b : Int, 0 ≤ b → (ov_up h7 (-77) 0 (1000 * (j + 2))) b = h7 b := fun b hb => ov_up77 hb
  have eT0 : h7 0 10 = h 0 10 := by omega
  have aR : ∀ b : Int, 90 ≤ b → b < 115 → (ov_up h7 (-77) 0 (1000 * (j + 2))) b = h b := fun b b0 b1 => (ov_up77 (by omega)).trans ((I8.2.1 b b0 b1).trans (ov_FF_ge (by omega)))
  have a20 : (ov_up h7 (-77) 0 (1000 * (j + 2))) 90 20 = h 90 20 := congrFun (aR 90 (by decide) (by decide)) 20
  have a4 : (ov_up h7 (-77) 0 (1000 * (j + 2))) 103 2 = h 103 2 := (congrFun (ov_up77 (by decide)) 2).trans (congrFun ((I8.2.1 103 (by decide) (by decide)).trans (ov_FF_ge (by decide))) 2)
  generalize (ov_up h7 (-77) 0 (1000 * (j + 2))) = hg at K1 a1 a2 a3 a4 a5 a6 a7 a96 aU aR a20 ⊢
  have N1 := K1.2.1
  have hWT := K1.2.2.2.2.1
  have hCD := K1.2.2.2.2.2.1
  have hWK := K1.2.2.2.2.2.2.1
  have hPM : ov_PM (hg 96) (hg 103) (hg 97) (hg 98) (hg 105) (hg 106) (hg 90 22) (hg 90 25) (hg 90 26) (hg 90 28) (hg 90 29) (hg 90 30) := K1.2.2.2.2.2.2.2.1
  have hq1 := K1.2.2.2.2.2.2.2.2.1
  have hq2 := K1.2.2.2.2.2.2.2.2.2
  have hbd : ov_bd (hg, z6) = (1000 * (j + 2)) := a3
  have g103 := s103_2 N1
  show ov_R u d (ov_mL nm) 867 [(0, ov_r (-4)), (1, ov_r 0), (2, ov_r 90), (3, ov_i x3)] [ov_i v5] z6 hg ov_LQ
  refine ov_blk (ls2 := [(0, ov_r (-4)), (1, ov_r 0), (2, ov_r 90), (3, ov_i x3)]) (st2 := [ov_i (x3 + 1), ov_r (-4), ov_r 90]) (pc2 := 873) b_313_867_6 rfl rfl ?_
  refine ov_scl X d_313_873 (by omega) ?_
  refine ov_blk (ls2 := [(0, ov_r (-4)), (1, ov_r 0), (2, ov_r 90), (3, ov_i x3)]) (st2 := [ov_i (x3 + 2), ov_r (-4), ov_i (ov_xs xs (x3 + 1)), ov_r 90]) (pc2 := 878) b_313_874_4 rfl rfl ?_
  refine ov_scl X d_313_878 (by omega) ?_
  refine ov_blk (ls2 := [(0, ov_r (-4)), (1, ov_r 0), (2, ov_r 90), (3, ov_i x3)]) (st2 := [ov_i (x3 + 3), ov_r (-4), ov_i (ov_xs xs (x3 + 2)), ov_i (ov_xs xs (x3 + 1)), ov_r 90]) (pc2 := 883) b_313_879_4 rfl rfl ?_
  refine ov_scl X d_313_883 (by omega) ?_
  refine ov_cV (as := [ov_i (ov_xs xs (x3 + 1)), ov_i (ov_xs xs (x3 + 2)), ov_i (ov_xs xs (x3 + 3))]) (st := []) (d2 := d - 1) d_313_884 lk_Law_89 rfl (Nat.le_of_ble_eq_true rfl) (c := 1) (zb_90 N1) (zs_90 N1) ⟨by decide, rfl⟩ (by omega) (c_Mo_watch_90 (d - 1) (by omega) U N1 (ov_xs xs (x3 + 1)) (ov_xs xs (x3 + 2)) (ov_xs xs (x3 + 3)) (by omega) (by omega) (by omega) (by show 0 ≤ (hg 90 25) ∧ (hg 90 25) ≤ 1500000000; omega) hWT hCD hPM) ?_
  rintro _ z30 h31 ⟨v14, rfl, I32, f13, e15, e16, e17, e18, e19, e20, e21, e22, e23, e24, e25, e26, e27, e28, y29⟩
  have E33 : h31 91 = hg 91 := e15
  have E34 : h31 92 = hg 92 := e16
  have E35 : h31 93 = hg 93 := e17
  have E36 : h31 94 = hg 94 := e18
  have E37 : h31 95 = hg 95 := e19
  have E38 : h31 96 = hg 96 := e20
  have E39 : h31 97 = hg 97 := e21
  have E40 : h31 98 = hg 98 := e22
  have E41 : h31 99 = hg 99 := e23
  have E42 : h31 100 = hg 100 := e24
  have E43 : h31 103 = hg 103 := e25
  have E44 : h31 104 = hg 104 := e26
  have E45 : h31 109 = hg 109 := e27
  have E46 : h31 114 = hg 114 := e28
  show ov_R u d (ov_mL nm) 887 [(0, ov_r (-4)), (1, ov_r 0), (2, ov_r 90), (3, ov_i x3)] [ov_i v14] z30 h31 ov_LQ
  have f47 : (h31 90 2) = (hg 90 2) ∧ (h31 90 7) = (hg 90 7) ∧ (h31 90 8) = (hg 90 8) ∧ (h31 90 13) = (hg 90 13) ∧ (h31 90 20) = (hg 90 20) ∧ (h31 90 22) = (hg 90 22) ∧ (h31 90 34) = (hg 90 34) ∧ (hg 90 25) ≤ (h31 90 25) ∧ (h31 90 25) ≤ (hg 90 25) + 61 ∧ -2147483648 ≤ v14 ∧ v14 ≤ 2147483647 := f13
  clear f13
  have y29_ : ov_PM (hg 96) (hg 103) (hg 97) (hg 98) (h31 105) (h31 106) (h31 90 22) (h31 90 25) (h31 90 26) (h31 90 28) (h31 90 29) (h31 90 30) := y29
  have K2 : ov_LK (1 + (j + 1)) (4000 * (j + 1)) z30 h31 := ov_LK_rm (g := 61) K1 I32 E38 E39 E40 E42 E43 y29_ (by omega) (by omega) (by omega)
  have b1 : h31 1 1 = hg 1 1 := congrFun (I32.2.2.2 1 (Or.inl (by decide))) 1
  have b7 : h31 (-77) 0 = hg (-77) 0 := congrFun (I32.2.2.2 (-77) (Or.inl (by decide))) 0
  have c2 : h31 2 = hg 2 := I32.2.2.2 2 (Or.inl (by decide))
  have bL : ∀ b : Int, 0 ≤ b → b < 90 → h31 b = hg b := fun b _ q => I32.2.2.2 b (Or.inl q)
  have S2 : ov_S3 h31 := ⟨by rw [c2, E33, a5, a6]; exact s0.1, by rw [E37, a7]; exact s0.2.1, ov_HT_s s0.2.2.1 I8 (by decide +kernel) eT0 aU bL E38 a96, st_same s0.2.2.2 (fun a a0 a1 a2 => ((bL a (by omega) (by omega)).trans (aU a (by omega))).trans (ov_FF_k I8 (Or.inl (by omega)) ((by decide +kernel : ∀ n, n < 36 → (4 ≤ n ∧ (n < 14 ∨ 15 ≤ n)) → Nat.testBit 1235521597062110350411825151 n = true) a.toNat (by omega) (by omega)))) (E43.trans (aR 103 (by decide) (by decide))) (fun m _ _ => congrFun (E44.trans (aR 104 (by decide) (by decide))) m) (congrFun (E38.trans (aR 96 (by decide) (by decide))) 5) (by omega)⟩
  refine ov_blk (ls2 := [(0, ov_r (-4)), (1, ov_r 0), (2, ov_r 90), (3, ov_i x3)]) (st2 := []) (pc2 := 888) b_313_887_1 rfl rfl ?_
  refine ov_goto (tgt := 1462) d_313_888 (by decide) ?_
  exact BK _ _ K2 (by omega) (by omega) S2
set_option maxHeartbeats 4000000 in
theorem lw_case_17 {u : ov_U} {nm : String} {d : Nat} (hd : 1000 ≤ d) (U : ov_cap u) {L : Nat} {xs : Nat → Int32} (X : ov_SC u L xs) (hL : L ≤ 3584) (x3 j : Int) (z : ov_Z) (h : ov_H) (K : ov_LK (1 + j) (4000 * j) z h) (e0 : h 1 1 = h 90 2) (gb : h (-77) 0 = 1000 * (j + 1)) (s0 : ov_S3 h) (q : 0 ≤ j ∧ x3 = 7 * j ∧ x3 ≤ L - 7) (BK : ∀ (z5 : ov_Z) (h5 : ov_H), ov_LK (1 + (j + 1)) (4000 * (j + 1)) z5 h5 → h5 1 1 = h5 90 2 → h5 (-77) 0 = 1000 * (j + 2) → ov_S3 h5 → ov_R u d (ov_mL nm) 1462 [(0, ov_r (-4)), (1, ov_r 0), (2, ov_r 90), (3, ov_i x3)] [] z5 h5 ov_LQ) : ov_R u d (ov_mL nm) 891 [(0, ov_r (-4)), (1, ov_r 0), (2, ov_r 90), (3, ov_i x3)] [] z h ov_LQ := by
  have I := ov_LK_I (M := 1237940038997149967466889215) K
  have hW := ov_LK_W (M := 1237940038997149967466889215) K
  have hJ0 := K.2.2.1
  have s3 := s103_2 K.2.1
  have hb0 : ov_bd (h, z) = 1000 * (j + 1) := gb
  refine ov_blk (ls2 := [(0, ov_r (-4)), (1, ov_r 0), (2, ov_r 90), (3, ov_i x3)]) (st2 := [ov_i (x3 + 1), ov_r (-4), ov_r 0]) (pc2 := 896) b_313_891_5 rfl rfl ?_
  refine ov_scl X d_313_896 (by omega) ?_
  have g1 := ov_xs_g xs (x3 + 1)
  refine ov_blk (ls2 := [(0, ov_r (-4)), (1, ov_r 0), (2, ov_r 90), (3, ov_i x3)]) (st2 := [ov_i (x3 + 2), ov_r (-4), ov_i (ov_xs xs (x3 + 1)), ov_r 0]) (pc2 := 901) b_313_897_4 rfl rfl ?_
  refine ov_scl X d_313_901 (by omega) ?_
  have g2 := ov_xs_g xs (x3 + 2)
  refine ov_blk (ls2 := [(0, ov_r (-4)), (1, ov_r 0), (2, ov_r 90), (3, ov_i x3)]) (st2 := [ov_i (x3 + 3), ov_r (-4), ov_i (ov_xs xs (x3 + 2)), ov_i (ov_xs xs (x3 + 1)), ov_r 0]) (pc2 := 906) b_313_902_4 rfl rfl ?_
  refine ov_scl X d_313_906 (by omega) ?_
  have g3 := ov_xs_g xs (x3 + 3)
  refine ov_cV (as := [ov_i (ov_xs xs (x3 + 1)), ov_i (ov_xs xs (x3 + 2)), ov_i (ov_xs xs (x3 + 3))]) (st := []) (d2 := d - 1) d_313_907 lk_Law_90 rfl (Nat.le_of_ble_eq_true rfl) (c := 0) (zb_0 I) (zs_0 I) ⟨by decide, rfl⟩ (by omega) (c_OF_latest_0 (d - 1) (by omega) U I (ov_xs xs (x3 + 1)) (ov_xs xs (x3 + 2)) (ov_xs xs (x3 + 3)) (by omega) (by omega) (by omega) (by omega)) ?_
  rintro _ z6 h7 ⟨v5, rfl, I8, f4⟩
  show ov_R u d (ov_mL nm) 910 [(0, ov_r (-4)), (1, ov_r 0), (2, ov_r 90), (3, ov_i x3)] [ov_i v5] z6 h7 ov_LQ
  have f9 : (h7 36 7) = (h 36 7) ∧ (h7 1 1) = (h 1 1) ∧ (h7 90 2) = (h 90 2) ∧ (h7 0 10) = (h 0 10) ∧ (h7 0 11) = (h 0 11) ∧ (h7 0 12) = (h 0 12) ∧ (h7 0 13) = (h 0 13) ∧ (h7 3 1) = (h 3 1) ∧ (h7 36 8) = (h 36 8) ∧ (h7 46 4) = (h 46 4) ∧ (h7 49 4) = (h 49 4) ∧ (h7 49 5) = (h 49 5) ∧ (h7 64 0) = (h 64 0) ∧ (h7 76 0) = (h 76 0) := f4
  clear f4
  have K1 := ov_LK_c (B := (1000 * (j + 2))) K I8 (fun b h0 _ => ov_FF_ge (by omega)) (by omega) (ov_HR_k hW I8 (by omega) (by omega) (by omega) (by omega)) (by omega)
  refine ov_gho (ov_up h7 (-77) 0 (1000 * (j + 2))) (fun a ha => (ov_up77 ha).symm) ?_
  have a1 : (ov_up h7 (-77) 0 (1000 * (j + 2))) 1 1 = h7 1 1 := congrFun (ov_up77 (by decide)) 1
  have a2 : (ov_up h7 (-77) 0 (1000 * (j + 2))) 90 2 = h7 90 2 := congrFun (ov_up77 (by decide)) 2
  have a3 : (ov_up h7 (-77) 0 (1000 * (j + 2))) (-77) 0 = (1000 * (j + 2)) := ov_uj.1 rfl
  have a5 : (ov_up h7 (-77) 0 (1000 * (j + 2))) 2 = h 2 := (ov_up77 (by decide)).trans (ov_FF_k I8 (Or.inl (by decide)) (by decide +kernel))
  have a6 : (ov_up h7 (-77) 0 (1000 * (j + 2))) 91 = h 91 := (ov_up77 (by decide)).trans ((I8.2.1 91 (by decide) (by decide)).trans (ov_FF_ge (by decide)))
  have a7 : (ov_up h7 (-77) 0 (1000 * (j + 2))) 95 = h 95 := (ov_up77 (by decide)).trans ((I8.2.1 95 (by decide) (by decide)).trans (ov_FF_ge (by decide)))
  have a96 : (ov_up h7 (-77) 0 (1000 * (j + 2))) 96 = h 96 := (ov_up77 (by decide)).trans ((I8.2.1 96 (by decide) (by decide)).trans (ov_FF_ge (by decide)))
  have aU : ∀ b : Int, 0 ≤ b → (ov_up h7 (-77) 0 (1000 * (j + 2))) b = h7 b := fun b hb => ov_up77 hb
  have eT0 : h7 0 10 = h 0 10 := by omega
  have aR : ∀ b : Int, 90 ≤ b → b < 115 → (ov_up h7 (-77) 0 (1000 * (j + 2))) b = h b := fun b b0 b1 => (ov_up77 (by omega)).trans ((I8.2.1 b b0 b1).trans (ov_FF_ge (by omega)))
  have a20 : (ov_up h7 (-77) 0 (1000 * (j + 2))) 90 20 = h 90 20 := congrFun (aR 90 (by decide) (by decide)) 20
  have a4 : (ov_up h7 (-77) 0 (1000 * (j + 2))) 103 2 = h 103 2 := (congrFun (ov_up77 (by decide)) 2).trans (congrFun ((I8.2.1 103 (by decide) (by decide)).trans (ov_FF_ge (by decide))) 2)
  generalize (ov_up h7 (-77) 0 (1000 * (j + 2))) = hg at K1 a1 a2 a3 a4 a5 a6 a7 a96 aU aR a20 ⊢
  have N1 := K1.2.1
  have hWT := K1.2.2.2.2.1
  have hCD := K1.2.2.2.2.2.1
  have hWK := K1.2.2.2.2.2.2.1
  have hPM : ov_PM (hg 96) (hg 103) (hg 97) (hg 98) (hg 105) (hg 106) (hg 90 22) (hg 90 25) (hg 90 26) (hg 90 28) (hg 90 29) (hg 90 30) := K1.2.2.2.2.2.2.2.1
  have hq1 := K1.2.2.2.2.2.2.2.2.1
  have hq2 := K1.2.2.2.2.2.2.2.2.2
  have hbd : ov_bd (hg, z6) = (1000 * (j + 2)) := a3
  have g103 := s103_2 N1
  show ov_R u d (ov_mL nm) 910 [(0, ov_r (-4)), (1, ov_r 0), (2, ov_r 90), (3, ov_i x3)] [ov_i v5] z6 hg ov_LQ
  refine ov_blk (ls2 := [(0, ov_r (-4)), (1, ov_r 0), (2, ov_r 90), (3, ov_i x3)]) (st2 := [ov_i (x3 + 1), ov_r (-4), ov_r 90]) (pc2 := 916) b_313_910_6 rfl rfl ?_
  refine ov_scl X d_313_916 (by omega) ?_
  refine ov_blk (ls2 := [(0, ov_r (-4)), (1, ov_r 0), (2, ov_r 90), (3, ov_i x3)]) (st2 := [ov_i (x3 + 2), ov_r (-4), ov_i (ov_xs xs (x3 + 1)), ov_r 90]) (pc2 := 921) b_313_917_4 rfl rfl ?_
  refine ov_scl X d_313_921 (by omega) ?_
  refine ov_blk (ls2 := [(0, ov_r (-4)), (1, ov_r 0), (2, ov_r 90), (3, ov_i x3)]) (st2 := [ov_i (x3 + 3), ov_r (-4), ov_i (ov_xs xs (x3 + 2)), ov_i (ov_xs xs (x3 + 1)), ov_r 90]) (pc2 := 926) b_313_922_4 rfl rfl ?_
  refine ov_scl X d_313_926 (by omega) ?_
  refine ov_cV (as := [ov_i (ov_xs xs (x3 + 1)), ov_i (ov_xs xs (x3 + 2)), ov_i (ov_xs xs (x3 + 3))]) (st := []) (d2 := d - 1) d_313_927 lk_Law_93 rfl (Nat.le_of_ble_eq_true rfl) (c := 1) (zb_90 N1) (zs_90 N1) ⟨by decide, rfl⟩ (by omega) (c_Mo_latest_90 (d - 1) (by omega) U N1 (ov_xs xs (x3 + 1)) (ov_xs xs (x3 + 2)) (ov_xs xs (x3 + 3)) (by omega) (by omega) (by omega) hWT) ?_
  rintro _ z31 h32 ⟨v14, rfl, I33, f13, e15, e16, e17, e18, e19, e20, e21, e22, e23, e24, e25, e26, e27, e28, e29, e30⟩
  have E34 : h32 91 = hg 91 := e15
  have E35 : h32 92 = hg 92 := e16
  have E36 : h32 93 = hg 93 := e17
  have E37 : h32 94 = hg 94 := e18
  have E38 : h32 95 = hg 95 := e19
  have E39 : h32 96 = hg 96 := e20
  have E40 : h32 97 = hg 97 := e21
  have E41 : h32 98 = hg 98 := e22
  have E42 : h32 99 = hg 99 := e23
  have E43 : h32 100 = hg 100 := e24
  have E44 : h32 103 = hg 103 := e25
  have E45 : h32 104 = hg 104 := e26
  have E46 : h32 105 = hg 105 := e27
  have E47 : h32 106 = hg 106 := e28
  have E48 : h32 109 = hg 109 := e29
  have E49 : h32 114 = hg 114 := e30
  show ov_R u d (ov_mL nm) 930 [(0, ov_r (-4)), (1, ov_r 0), (2, ov_r 90), (3, ov_i x3)] [ov_i v14] z31 h32 ov_LQ
  have f50 : (h32 90 2) = (hg 90 2) ∧ (h32 90 7) = (hg 90 7) ∧ (h32 90 8) = (hg 90 8) ∧ (h32 90 13) = (hg 90 13) ∧ (h32 90 20) = (hg 90 20) ∧ (h32 90 22) = (hg 90 22) ∧ (h32 90 25) = (hg 90 25) ∧ (h32 90 26) = (hg 90 26) ∧ (h32 90 28) = (hg 90 28) ∧ (h32 90 29) = (hg 90 29) ∧ (h32 90 30) = (hg 90 30) ∧ (h32 90 34) = (hg 90 34) ∧ -2147483648 ≤ v14 ∧ v14 ≤ 2147483647 := f13
  clear f13
  have K2 : ov_LK (1 + (j + 1)) (4000 * (j + 1)) z31 h32 := ov_LK_r0 K1 I33 E39 E40 E41 E43 E44 E46 E47 (by omega) (by omega) (by omega)
  have b1 : h32 1 1 = hg 1 1 := congrFun (I33.2.2.2 1 (Or.inl (by decide))) 1
  have b7 : h32 (-77) 0 = hg (-77) 0 := congrFun (I33.2.2.2 (-77) (Or.inl (by decide))) 0
  have c2 : h32 2 = hg 2 := I33.2.2.2 2 (Or.inl (by decide))
  have bL : ∀ b : Int, 0 ≤ b → b < 90 → h32 b = hg b := fun b _ q => I33.2.2.2 b (Or.inl q)
  have S2 : ov_S3 h32 := ⟨by rw [c2, E34, a5, a6]; exact s0.1, by rw [E38, a7]; exact s0.2.1, ov_HT_s s0.2.2.1 I8 (by decide +kernel) eT0 aU bL E39 a96, st_same s0.2.2.2 (fun a a0 a1 a2 => ((bL a (by omega) (by omega)).trans (aU a (by omega))).trans (ov_FF_k I8 (Or.inl (by omega)) ((by decide +kernel : ∀ n, n < 36 → (4 ≤ n ∧ (n < 14 ∨ 15 ≤ n)) → Nat.testBit 1237940038997149967466889215 n = true) a.toNat (by omega) (by omega)))) (E44.trans (aR 103 (by decide) (by decide))) (fun m _ _ => congrFun (E45.trans (aR 104 (by decide) (by decide))) m) (congrFun (E39.trans (aR 96 (by decide) (by decide))) 5) (by omega)⟩
  refine ov_blk (ls2 := [(0, ov_r (-4)), (1, ov_r 0), (2, ov_r 90), (3, ov_i x3)]) (st2 := []) (pc2 := 931) b_313_930_1 rfl rfl ?_
  refine ov_goto (tgt := 1462) d_313_931 (by decide) ?_
  exact BK _ _ K2 (by omega) (by omega) S2
set_option maxHeartbeats 4000000 in
theorem lw_case_18 {u : ov_U} {nm : String} {d : Nat} (hd : 1000 ≤ d) (U : ov_cap u) {L : Nat} {xs : Nat → Int32} (X : ov_SC u L xs) (hL : L ≤ 3584) (x3 j : Int) (z : ov_Z) (h : ov_H) (K : ov_LK (1 + j) (4000 * j) z h) (e0 : h 1 1 = h 90 2) (gb : h (-77) 0 = 1000 * (j + 1)) (s0 : ov_S3 h) (q : 0 ≤ j ∧ x3 = 7 * j ∧ x3 ≤ L - 7) (BK : ∀ (z5 : ov_Z) (h5 : ov_H), ov_LK (1 + (j + 1)) (4000 * (j + 1)) z5 h5 → h5 1 1 = h5 90 2 → h5 (-77) 0 = 1000 * (j + 2) → ov_S3 h5 → ov_R u d (ov_mL nm) 1462 [(0, ov_r (-4)), (1, ov_r 0), (2, ov_r 90), (3, ov_i x3)] [] z5 h5 ov_LQ) : ov_R u d (ov_mL nm) 934 [(0, ov_r (-4)), (1, ov_r 0), (2, ov_r 90), (3, ov_i x3)] [] z h ov_LQ := by
  have I := ov_LK_I (M := 1237940038997149967466889215) K
  have hW := ov_LK_W (M := 1237940038997149967466889215) K
  have hJ0 := K.2.2.1
  have s3 := s103_2 K.2.1
  have hb0 : ov_bd (h, z) = 1000 * (j + 1) := gb
  refine ov_blk (ls2 := [(0, ov_r (-4)), (1, ov_r 0), (2, ov_r 90), (3, ov_i x3)]) (st2 := [ov_i (x3 + 1), ov_r (-4), ov_r 0]) (pc2 := 939) b_313_934_5 rfl rfl ?_
  refine ov_scl X d_313_939 (by omega) ?_
  have g1 := ov_xs_g xs (x3 + 1)
  refine ov_blk (ls2 := [(0, ov_r (-4)), (1, ov_r 0), (2, ov_r 90), (3, ov_i x3)]) (st2 := [ov_i (x3 + 2), ov_r (-4), ov_i (ov_xs xs (x3 + 1)), ov_r 0]) (pc2 := 944) b_313_940_4 rfl rfl ?_
  refine ov_scl X d_313_944 (by omega) ?_
  have g2 := ov_xs_g xs (x3 + 2)
  refine ov_cV (as := [ov_i (ov_xs xs (x3 + 1)), ov_i (ov_xs xs (x3 + 2))]) (st := []) (d2 := d - 1) d_313_945 lk_Law_94 rfl (Nat.le_of_ble_eq_true rfl) (c := 0) (zb_0 I) (zs_0 I) ⟨by decide, rfl⟩ (by omega) (c_OF_turning_0 (d - 1) (by omega) U I (ov_xs xs (x3 + 1)) (ov_xs xs (x3 + 2)) (by omega) (by omega) (by omega)) ?_
  rintro _ z5 h6 ⟨v4, rfl, I7, f3⟩
  show ov_R u d (ov_mL nm) 948 [(0, ov_r (-4)), (1, ov_r 0), (2, ov_r 90), (3, ov_i x3)] [ov_i v4] z5 h6 ov_LQ
  have f8 : (h6 36 7) = (h 36 7) ∧ (h6 1 1) = (h 1 1) ∧ (h6 90 2) = (h 90 2) ∧ (h6 0 10) = (h 0 10) ∧ (h6 0 11) = (h 0 11) ∧ (h6 0 12) = (h 0 12) ∧ (h6 0 13) = (h 0 13) ∧ (h6 3 1) = (h 3 1) ∧ (h6 36 8) = (h 36 8) ∧ (h6 46 4) = (h 46 4) ∧ (h6 49 4) = (h 49 4) ∧ (h6 49 5) = (h 49 5) ∧ (h6 64 0) = (h 64 0) ∧ (h6 76 0) = (h 76 0) := f3
  clear f3
  have K1 := ov_LK_c (B := (1000 * (j + 2))) K I7 (fun b h0 _ => ov_FF_ge (by omega)) (by omega) (ov_HR_k hW I7 (by omega) (by omega) (by omega) (by omega)) (by omega)
  refine ov_gho (ov_up h6 (-77) 0 (1000 * (j + 2))) (fun a ha => (ov_up77 ha).symm) ?_
  have a1 : (ov_up h6 (-77) 0 (1000 * (j + 2))) 1 1 = h6 1 1 := congrFun (ov_up77 (by decide)) 1
  have a2 : (ov_up h6 (-77) 0 (1000 * (j + 2))) 90 2 = h6 90 2 := congrFun (ov_up77 (by decide)) 2
  have a3 : (ov_up h6 (-77) 0 (1000 * (j + 2))) (-77) 0 = (1000 * (j + 2)) := ov_uj.1 rfl
  have a5 : (ov_up h6 (-77) 0 (1000 * (j + 2))) 2 = h 2 := (ov_up77 (by decide)).trans (ov_FF_k I7 (Or.inl (by decide)) (by decide +kernel))
  have a6 : (ov_up h6 (-77) 0 (1000 * (j + 2))) 91 = h 91 := (ov_up77 (by decide)).trans ((I7.2.1 91 (by decide) (by decide)).trans (ov_FF_ge (by decide)))
  have a7 : (ov_up h6 (-77) 0 (1000 * (j + 2))) 95 = h 95 := (ov_up77 (by decide)).trans ((I7.2.1 95 (by decide) (by decide)).trans (ov_FF_ge (by decide)))
  have a96 : (ov_up h6 (-77) 0 (1000 * (j + 2))) 96 = h 96 := (ov_up77 (by decide)).trans ((I7.2.1 96 (by decide) (by decide)).trans (ov_FF_ge (by decide)))
  have aU : ∀ b : Int, 0 ≤ b → (ov_up h6 (-77) 0 (1000 * (j + 2))) b = h6 b := fun b hb => ov_up77 hb
  have eT0 : h6 0 10 = h 0 10 := by omega
  have aR : ∀ b : Int, 90 ≤ b → b < 115 → (ov_up h6 (-77) 0 (1000 * (j + 2))) b = h b := fun b b0 b1 => (ov_up77 (by omega)).trans ((I7.2.1 b b0 b1).trans (ov_FF_ge (by omega)))
  have a20 : (ov_up h6 (-77) 0 (1000 * (j + 2))) 90 20 = h 90 20 := congrFun (aR 90 (by decide) (by decide)) 20
  have a4 : (ov_up h6 (-77) 0 (1000 * (j + 2))) 103 2 = h 103 2 := (congrFun (ov_up77 (by decide)) 2).trans (congrFun ((I7.2.1 103 (by decide) (by decide)).trans (ov_FF_ge (by decide))) 2)
  generalize (ov_up h6 (-77) 0 (1000 * (j + 2))) = hg at K1 a1 a2 a3 a4 a5 a6 a7 a96 aU aR a20 ⊢
  have N1 := K1.2.1
  have hWT := K1.2.2.2.2.1
  have hCD := K1.2.2.2.2.2.1
  have hWK := K1.2.2.2.2.2.2.1
  have hPM : ov_PM (hg 96) (hg 103) (hg 97) (hg 98) (hg 105) (hg 106) (hg 90 22) (hg 90 25) (hg 90 26) (hg 90 28) (hg 90 29) (hg 90 30) := K1.2.2.2.2.2.2.2.1
  have hq1 := K1.2.2.2.2.2.2.2.2.1
  have hq2 := K1.2.2.2.2.2.2.2.2.2
  have hbd : ov_bd (hg, z5) = (1000 * (j + 2)) := a3
  have g103 := s103_2 N1
  show ov_R u d (ov_mL nm) 948 [(0, ov_r (-4)), (1, ov_r 0), (2, ov_r 90), (3, ov_i x3)] [ov_i v4] z5 hg ov_LQ
  refine ov_blk (ls2 := [(0, ov_r (-4)), (1, ov_r 0), (2, ov_r 90), (3, ov_i x3)]) (st2 := [ov_i (x3 + 1), ov_r (-4), ov_r 90]) (pc2 := 954) b_313_948_6 rfl rfl ?_
  refine ov_scl X d_313_954 (by omega) ?_
  refine ov_blk (ls2 := [(0, ov_r (-4)), (1, ov_r 0), (2, ov_r 90), (3, ov_i x3)]) (st2 := [ov_i (x3 + 2), ov_r (-4), ov_i (ov_xs xs (x3 + 1)), ov_r 90]) (pc2 := 959) b_313_955_4 rfl rfl ?_
  refine ov_scl X d_313_959 (by omega) ?_
  refine ov_cV (as := [ov_i (ov_xs xs (x3 + 1)), ov_i (ov_xs xs (x3 + 2))]) (st := []) (d2 := d - 1) d_313_960 lk_Law_98 rfl (Nat.le_of_ble_eq_true rfl) (c := 1) (zb_90 N1) (zs_90 N1) ⟨by decide, rfl⟩ (by omega) (c_Mo_turning_90 (d - 1) (by omega) U N1 (ov_xs xs (x3 + 1)) (ov_xs xs (x3 + 2)) (by omega) (by omega) hWT) ?_
  rintro _ z29 h30 ⟨v12, rfl, I31, f11, e13, e14, e15, e16, e17, e18, e19, e20, e21, e22, e23, e24, e25, e26, e27, e28⟩
  have E32 : h30 91 = hg 91 := e13
  have E33 : h30 92 = hg 92 := e14
  have E34 : h30 93 = hg 93 := e15
  have E35 : h30 94 = hg 94 := e16
  have E36 : h30 95 = hg 95 := e17
  have E37 : h30 96 = hg 96 := e18
  have E38 : h30 97 = hg 97 := e19
  have E39 : h30 98 = hg 98 := e20
  have E40 : h30 99 = hg 99 := e21
  have E41 : h30 100 = hg 100 := e22
  have E42 : h30 103 = hg 103 := e23
  have E43 : h30 104 = hg 104 := e24
  have E44 : h30 105 = hg 105 := e25
  have E45 : h30 106 = hg 106 := e26
  have E46 : h30 109 = hg 109 := e27
  have E47 : h30 114 = hg 114 := e28
  show ov_R u d (ov_mL nm) 963 [(0, ov_r (-4)), (1, ov_r 0), (2, ov_r 90), (3, ov_i x3)] [ov_i v12] z29 h30 ov_LQ
  have f48 : (h30 90 2) = (hg 90 2) ∧ (h30 90 7) = (hg 90 7) ∧ (h30 90 8) = (hg 90 8) ∧ (h30 90 13) = (hg 90 13) ∧ (h30 90 20) = (hg 90 20) ∧ (h30 90 22) = (hg 90 22) ∧ (h30 90 25) = (hg 90 25) ∧ (h30 90 26) = (hg 90 26) ∧ (h30 90 28) = (hg 90 28) ∧ (h30 90 29) = (hg 90 29) ∧ (h30 90 30) = (hg 90 30) ∧ (h30 90 34) = (hg 90 34) ∧ -2147483648 ≤ v12 ∧ v12 ≤ 2147483647 := f11
  clear f11
  have K2 : ov_LK (1 + (j + 1)) (4000 * (j + 1)) z29 h30 := ov_LK_r0 K1 I31 E37 E38 E39 E41 E42 E44 E45 (by omega) (by omega) (by omega)
  have b1 : h30 1 1 = hg 1 1 := congrFun (I31.2.2.2 1 (Or.inl (by decide))) 1
  have b7 : h30 (-77) 0 = hg (-77) 0 := congrFun (I31.2.2.2 (-77) (Or.inl (by decide))) 0
  have c2 : h30 2 = hg 2 := I31.2.2.2 2 (Or.inl (by decide))
  have bL : ∀ b : Int, 0 ≤ b → b < 90 → h30 b = hg b := fun b _ q => I31.2.2.2 b (Or.inl q)
  have S2 : ov_S3 h30 := ⟨by rw [c2, E32, a5, a6]; exact s0.1, by rw [E36, a7]; exact s0.2.1, ov_HT_s s0.2.2.1 I7 (by decide +kernel) eT0 aU bL E37 a96, st_same s0.2.2.2 (fun a a0 a1 a2 => ((bL a (by omega) (by omega)).trans (aU a (by omega))).trans (ov_FF_k I7 (Or.inl (by omega)) ((by decide +kernel : ∀ n, n < 36 → (4 ≤ n ∧ (n < 14 ∨ 15 ≤ n)) → Nat.testBit 1237940038997149967466889215 n = true) a.toNat (by omega) (by omega)))) (E42.trans (aR 103 (by decide) (by decide))) (fun m _ _ => congrFun (E43.trans (aR 104 (by decide) (by decide))) m) (congrFun (E37.trans (aR 96 (by decide) (by decide))) 5) (by omega)⟩
  refine ov_blk (ls2 := [(0, ov_r (-4)), (1, ov_r 0), (2, ov_r 90), (3, ov_i x3)]) (st2 := []) (pc2 := 964) b_313_963_1 rfl rfl ?_
  refine ov_goto (tgt := 1462) d_313_964 (by decide) ?_
  exact BK _ _ K2 (by omega) (by omega) S2
set_option maxHeartbeats 4000000 in
theorem lw_case_19 {u : ov_U} {nm : String} {d : Nat} (hd : 1000 ≤ d) (U : ov_cap u) {L : Nat} {xs : Nat → Int32} (X : ov_SC u L xs) (hL : L ≤ 3584) (x3 j : Int) (z : ov_Z) (h : ov_H) (K : ov_LK (1 + j) (4000 * j) z h) (e0 : h 1 1 = h 90 2) (gb : h (-77) 0 = 1000 * (j + 1)) (s0 : ov_S3 h) (q : 0 ≤ j ∧ x3 = 7 * j ∧ x3 ≤ L - 7) (BK : ∀ (z5 : ov_Z) (h5 : ov_H), ov_LK (1 + (j + 1)) (4000 * (j + 1)) z5 h5 → h5 1 1 = h5 90 2 → h5 (-77) 0 = 1000 * (j + 2) → ov_S3 h5 → ov_R u d (ov_mL nm) 1462 [(0, ov_r (-4)), (1, ov_r 0), (2, ov_r 90), (3, ov_i x3)] [] z5 h5 ov_LQ) : ov_R u d (ov_mL nm) 967 [(0, ov_r (-4)), (1, ov_r 0), (2, ov_r 90), (3, ov_i x3)] [] z h ov_LQ := by
  have I := ov_LK_I (M := 1235521597062110350411825151) K
  have hW := ov_LK_W (M := 1235521597062110350411825151) K
  have hJ0 := K.2.2.1
  have s3 := s103_2 K.2.1
  have hb0 : ov_bd (h, z) = 1000 * (j + 1) := gb
  refine ov_blk (ls2 := [(0, ov_r (-4)), (1, ov_r 0), (2, ov_r 90), (3, ov_i x3)]) (st2 := [ov_i (x3 + 1), ov_r (-4), ov_r 0]) (pc2 := 972) b_313_967_5 rfl rfl ?_
  refine ov_scl X d_313_972 (by omega) ?_
  have g1 := ov_xs_g xs (x3 + 1)
  refine ov_cV (as := [ov_i (ov_xs xs (x3 + 1))]) (st := []) (d2 := d - 1) d_313_973 lk_Law_99 rfl (Nat.le_of_ble_eq_true rfl) (c := 0) (zb_0 I) (zs_0 I) ⟨by decide, rfl⟩ (by omega) (c_OF_worthiest_0 (d - 1) (by omega) U I (ov_FF_w (by decide +kernel)) (ov_xs xs (x3 + 1)) (by omega) (by omega) (by omega)) ?_
  rintro _ z4 h5 ⟨v3, rfl, I6, f2⟩
  show ov_R u d (ov_mL nm) 976 [(0, ov_r (-4)), (1, ov_r 0), (2, ov_r 90), (3, ov_i x3)] [ov_i v3] z4 h5 ov_LQ
  have f7 : ((h5 36 7) = 1 → (h5 36 8) = (h5 0 10)) ∧ (h5 1 1) = (h 1 1) ∧ (h5 90 2) = (h 90 2) ∧ (h5 0 10) = (h 0 10) ∧ (h5 0 11) = (h 0 11) ∧ (h5 0 12) = (h 0 12) ∧ (h5 0 13) = (h 0 13) ∧ (h5 3 1) = (h 3 1) ∧ (h5 46 3) = (h 46 3) ∧ (h5 46 4) = (h 46 4) ∧ (h5 49 4) = (h 49 4) ∧ (h5 49 5) = (h 49 5) ∧ (h5 64 0) = (h 64 0) ∧ (h5 76 0) = (h 76 0) := f2
  clear f2
  have K1 := ov_LK_c (B := (1000 * (j + 2))) K I6 (fun b h0 _ => ov_FF_ge (by omega)) (by omega) (ov_HR_k hW I6 (by omega) (by omega) (by omega) (by omega)) (by omega)
  refine ov_gho (ov_up h5 (-77) 0 (1000 * (j + 2))) (fun a ha => (ov_up77 ha).symm) ?_
  have a1 : (ov_up h5 (-77) 0 (1000 * (j + 2))) 1 1 = h5 1 1 := congrFun (ov_up77 (by decide)) 1
  have a2 : (ov_up h5 (-77) 0 (1000 * (j + 2))) 90 2 = h5 90 2 := congrFun (ov_up77 (by decide)) 2
  have a3 : (ov_up h5 (-77) 0 (1000 * (j + 2))) (-77) 0 = (1000 * (j + 2)) := ov_uj.1 rfl
  have a5 : (ov_up h5 (-77) 0 (1000 * (j + 2))) 2 = h 2 := (ov_up77 (by decide)).trans (ov_FF_k I6 (Or.inl (by decide)) (by decide +kernel))
  have a6 : (ov_up h5 (-77) 0 (1000 * (j + 2))) 91 = h 91 := (ov_up77 (by decide)).trans ((I6.2.1 91 (by decide) (by decide)).trans (ov_FF_ge (by decide)))
  have a7 : (ov_up h5 (-77) 0 (1000 * (j + 2))) 95 = h 95 := (ov_up77 (by decide)).trans ((I6.2.1 95 (by decide) (by decide)).trans (ov_FF_ge (by decide)))
  have a96 : (ov_up h5 (-77) 0 (1000 * (j + 2))) 96 = h 96 := (ov_up77 (by decide)).trans ((I6.2.1 96 (by decide) (by decide)).trans (ov_FF_ge (by decide)))
  have aU : ∀ b : Int, 0 ≤ b → (ov_up h5 (-77) 0 (1000 * (j + 2))) b = h5 b := fun b hb => ov_up77 hb
  have eT0 : h5 0 10 = h 0 10 := by omega
  have aR : ∀ b : Int, 90 ≤ b → b < 115 → (ov_up h5 (-77) 0 (1000 * (j + 2))) b = h b := fun b b0 b1 => (ov_up77 (by omega)).trans ((I6.2.1 b b0 b1).trans (ov_FF_ge (by omega)))
  have a20 : (ov_up h5 (-77) 0 (1000 * (j + 2))) 90 20 = h 90 20 := congrFun (aR 90 (by decide) (by decide)) 20
  have a4 : (ov_up h5 (-77) 0 (1000 * (j + 2))) 103 2 = h 103 2 := (congrFun (ov_up77 (by decide)) 2).trans (congrFun ((I6.2.1 103 (by decide) (by decide)).trans (ov_FF_ge (by decide))) 2)
  generalize (ov_up h5 (-77) 0 (1000 * (j + 2))) = hg at K1 a1 a2 a3 a4 a5 a6 a7 a96 aU aR a20 ⊢
  have N1 := K1.2.1
  have hWT := K1.2.2.2.2.1
  have hCD := K1.2.2.2.2.2.1
  have hWK := K1.2.2.2.2.2.2.1
  have hPM : ov_PM (hg 96) (hg 103) (hg 97) (hg 98) (hg 105) (hg 106) (hg 90 22) (hg 90 25) (hg 90 26) (hg 90 28) (hg 90 29) (hg 90 30) := K1.2.2.2.2.2.2.2.1
  have hq1 := K1.2.2.2.2.2.2.2.2.1
  have hq2 := K1.2.2.2.2.2.2.2.2.2
  have hbd : ov_bd (hg, z4) = (1000 * (j + 2)) := a3
  have g103 := s103_2 N1
  show ov_R u d (ov_mL nm) 976 [(0, ov_r (-4)), (1, ov_r 0), (2, ov_r 90), (3, ov_i x3)] [ov_i v3] z4 hg ov_LQ
  refine ov_blk (ls2 := [(0, ov_r (-4)), (1, ov_r 0), (2, ov_r 90), (3, ov_i x3)]) (st2 := [ov_i (x3 + 1), ov_r (-4), ov_r 90]) (pc2 := 982) b_313_976_6 rfl rfl ?_
  refine ov_scl X d_313_982 (by omega) ?_
  refine ov_cV (as := [ov_i (ov_xs xs (x3 + 1))]) (st := []) (d2 := d - 1) d_313_983 lk_Law_102 rfl (Nat.le_of_ble_eq_true rfl) (c := 1) (zb_90 N1) (zs_90 N1) ⟨by decide, rfl⟩ (by omega) (c_Mo_worthiest_90 (d - 1) (by omega) U N1 (ov_xs xs (x3 + 1)) (by omega) (by show 0 ≤ (hg 90 25) ∧ (hg 90 25) ≤ 1000000000; omega) hWT hCD hPM) ?_
  rintro _ z26 h27 ⟨v10, rfl, I28, f9, e11, e12, e13, e14, e15, e16, e17, e18, e19, e20, e21, e22, e23, e24, y25⟩
  have E29 : h27 91 = hg 91 := e11
  have E30 : h27 92 = hg 92 := e12
  have E31 : h27 93 = hg 93 := e13
  have E32 : h27 94 = hg 94 := e14
  have E33 : h27 95 = hg 95 := e15
  have E34 : h27 96 = hg 96 := e16
  have E35 : h27 97 = hg 97 := e17
  have E36 : h27 98 = hg 98 := e18
  have E37 : h27 99 = hg 99 := e19
  have E38 : h27 100 = hg 100 := e20
  have E39 : h27 103 = hg 103 := e21
  have E40 : h27 104 = hg 104 := e22
  have E41 : h27 109 = hg 109 := e23
  have E42 : h27 114 = hg 114 := e24
  show ov_R u d (ov_mL nm) 986 [(0, ov_r (-4)), (1, ov_r 0), (2, ov_r 90), (3, ov_i x3)] [ov_i v10] z26 h27 ov_LQ
  have f43 : (h27 90 2) = (hg 90 2) ∧ (h27 90 7) = (hg 90 7) ∧ (h27 90 8) = (hg 90 8) ∧ (h27 90 13) = (hg 90 13) ∧ (h27 90 20) = (hg 90 20) ∧ (h27 90 22) = (hg 90 22) ∧ (h27 90 34) = (hg 90 34) ∧ (hg 90 25) ≤ (h27 90 25) ∧ (h27 90 25) ≤ (hg 90 25) + 3400 ∧ -1 ≤ v10 ∧ v10 ≤ 100 := f9
  clear f9
  have y25_ : ov_PM (hg 96) (hg 103) (hg 97) (hg 98) (h27 105) (h27 106) (h27 90 22) (h27 90 25) (h27 90 26) (h27 90 28) (h27 90 29) (h27 90 30) := y25
  have K2 : ov_LK (1 + (j + 1)) (4000 * (j + 1)) z26 h27 := ov_LK_rm (g := 3400) K1 I28 E34 E35 E36 E38 E39 y25_ (by omega) (by omega) (by omega)
  have b1 : h27 1 1 = hg 1 1 := congrFun (I28.2.2.2 1 (Or.inl (by decide))) 1
  have b7 : h27 (-77) 0 = hg (-77) 0 := congrFun (I28.2.2.2 (-77) (Or.inl (by decide))) 0
  have c2 : h27 2 = hg 2 := I28.2.2.2 2 (Or.inl (by decide))
  have bL : ∀ b : Int, 0 ≤ b → b < 90 → h27 b = hg b := fun b _ q => I28.2.2.2 b (Or.inl q)
  have S2 : ov_S3 h27 := ⟨by rw [c2, E29, a5, a6]; exact s0.1, by rw [E33, a7]; exact s0.2.1, ov_HT_s s0.2.2.1 I6 (by decide +kernel) eT0 aU bL E34 a96, st_same s0.2.2.2 (fun a a0 a1 a2 => ((bL a (by omega) (by omega)).trans (aU a (by omega))).trans (ov_FF_k I6 (Or.inl (by omega)) ((by decide +kernel : ∀ n, n < 36 → (4 ≤ n ∧ (n < 14 ∨ 15 ≤ n)) → Nat.testBit 1235521597062110350411825151 n = true) a.toNat (by omega) (by omega)))) (E39.trans (aR 103 (by decide) (by decide))) (fun m _ _ => congrFun (E40.trans (aR 104 (by decide) (by decide))) m) (congrFun (E34.trans (aR 96 (by decide) (by decide))) 5) (by omega)⟩
  refine ov_blk (ls2 := [(0, ov_r (-4)), (1, ov_r 0), (2, ov_r 90), (3, ov_i x3)]) (st2 := []) (pc2 := 987) b_313_986_1 rfl rfl ?_
  refine ov_goto (tgt := 1462) d_313_987 (by decide) ?_
  exact BK _ _ K2 (by omega) (by omega) S2
set_option maxHeartbeats 4000000 in
theorem lw_case_20 {u : ov_U} {nm : String} {d : Nat} (hd : 1000 ≤ d) (U : ov_cap u) {L : Nat} {xs : Nat → Int32} (X : ov_SC u L xs) (hL : L ≤ 3584) (x3 j : Int) (z : ov_Z) (h : ov_H) (K : ov_LK (1 + j) (4000 * j) z h) (e0 : h 1 1 = h 90 2) (gb : h (-77) 0 = 1000 * (j + 1)) (s0 : ov_S3 h) (q : 0 ≤ j ∧ x3 = 7 * j ∧ x3 ≤ L - 7) (BK : ∀ (z5 : ov_Z) (h5 : ov_H), ov_LK (1 + (j + 1)) (4000 * (j + 1)) z5 h5 → h5 1 1 = h5 90 2 → h5 (-77) 0 = 1000 * (j + 2) → ov_S3 h5 → ov_R u d (ov_mL nm) 1462 [(0, ov_r (-4)), (1, ov_r 0), (2, ov_r 90), (3, ov_i x3)] [] z5 h5 ov_LQ) : ov_R u d (ov_mL nm) 990 [(0, ov_r (-4)), (1, ov_r 0), (2, ov_r 90), (3, ov_i x3)] [] z h ov_LQ := by
  have I := ov_LK_I (M := 1235521597062110350411825151) K
  have hW := ov_LK_W (M := 1235521597062110350411825151) K
  have hJ0 := K.2.2.1
  have s3 := s103_2 K.2.1
  have hb0 : ov_bd (h, z) = 1000 * (j + 1) := gb
  refine ov_blk (ls2 := [(0, ov_r (-4)), (1, ov_r 0), (2, ov_r 90), (3, ov_i x3)]) (st2 := [ov_i (x3 + 1), ov_r (-4), ov_r 0]) (pc2 := 995) b_313_990_5 rfl rfl ?_
  refine ov_scl X d_313_995 (by omega) ?_
  have g1 := ov_xs_g xs (x3 + 1)
  refine ov_blk (ls2 := [(0, ov_r (-4)), (1, ov_r 0), (2, ov_r 90), (3, ov_i x3)]) (st2 := [ov_i (x3 + 2), ov_r (-4), ov_i (ov_xs xs (x3 + 1)), ov_r 0]) (pc2 := 1000) b_313_996_4 rfl rfl ?_
  refine ov_scl X d_313_1000 (by omega) ?_
  have g2 := ov_xs_g xs (x3 + 2)
  refine ov_blk (ls2 := [(0, ov_r (-4)), (1, ov_r 0), (2, ov_r 90), (3, ov_i x3)]) (st2 := [ov_i (x3 + 3), ov_r (-4), ov_i (ov_xs xs (x3 + 2)), ov_i (ov_xs xs (x3 + 1)), ov_r 0]) (pc2 := 1005) b_313_1001_4 rfl rfl ?_
  refine ov_scl X d_313_1005 (by omega) ?_
  have g3 := ov_xs_g xs (x3 + 3)
  refine ov_cV (as := [ov_i (ov_xs xs (x3 + 1)), ov_i (ov_xs xs (x3 + 2)), ov_i (ov_xs xs (x3 + 3))]) (st := []) (d2 := d - 1) d_313_1006 lk_Law_103 rfl (Nat.le_of_ble_eq_true rfl) (c := 0) (zb_0 I) (zs_0 I) ⟨by decide, rfl⟩ (by omega) (c_OF_odds_0 (d - 1) (by omega) U I (ov_FF_w (by decide +kernel)) (ov_xs xs (x3 + 1)) (ov_xs xs (x3 + 2)) (ov_xs xs (x3 + 3)) (by omega) (by omega) (by omega) (by omega) (by omega)) ?_
  rintro _ z6 h7 ⟨v5, rfl, I8, f4⟩
  show ov_R u d (ov_mL nm) 1009 [(0, ov_r (-4)), (1, ov_r 0), (2, ov_r 90), (3, ov_i x3)] [ov_i v5] z6 h7 ov_LQ
  have f9 : ((h7 36 7) = 1 → (h7 36 8) = (h7 0 10)) ∧ (h7 1 1) = (h 1 1) ∧ (h7 90 2) = (h 90 2) ∧ (h7 0 10) = (h 0 10) ∧ (h7 0 11) = (h 0 11) ∧ (h7 0 12) = (h 0 12) ∧ (h7 0 13) = (h 0 13) ∧ (h7 3 1) = (h 3 1) ∧ (h7 46 3) = (h 46 3) ∧ (h7 46 4) = (h 46 4) ∧ (h7 49 4) = (h 49 4) ∧ (h7 49 5) = (h 49 5) ∧ (h7 64 0) = (h 64 0) ∧ (h7 76 0) = (h 76 0) := f4
  clear f4
  have K1 := ov_LK_c (B := (1000 * (j + 2))) K I8 (fun b h0 _ => ov_FF_ge (by omega)) (by omega) (ov_HR_k hW I8 (by omega) (by omega) (by omega) (by omega)) (by omega)
  refine ov_gho (ov_up h7 (-77) 0 (1000 * (j + 2))) (fun a ha => (ov_up77 ha).symm) ?_
  have a1 : (ov_up h7 (-77) 0 (1000 * (j + 2))) 1 1 = h7 1 1 := congrFun (ov_up77 (by decide)) 1
  have a2 : (ov_up h7 (-77) 0 (1000 * (j + 2))) 90 2 = h7 90 2 := congrFun (ov_up77 (by decide)) 2
  have a3 : (ov_up h7 (-77) 0 (1000 * (j + 2))) (-77) 0 = (1000 * (j + 2)) := ov_uj.1 rfl
  have a5 : (ov_up h7 (-77) 0 (1000 * (j + 2))) 2 = h 2 := (ov_up77 (by decide)).trans (ov_FF_k I8 (Or.inl (by decide)) (by decide +kernel))
  have a6 : (ov_up h7 (-77) 0 (1000 * (j + 2))) 91 = h 91 := (ov_up77 (by decide)).trans ((I8.2.1 91 (by decide) (by decide)).trans (ov_FF_ge (by decide)))
  have a7 : (ov_up h7 (-77) 0 (1000 * (j + 2))) 95 = h 95 := (ov_up77 (by decide)).trans ((I8.2.1 95 (by decide) (by decide)).trans (ov_FF_ge (by decide)))
  have a96 : (ov_up h7 (-77) 0 (1000 * (j + 2))) 96 = h 96 := (ov_up77 (by decide)).trans ((I8.2.1 96 (by decide) (by decide)).trans (ov_FF_ge (by decide)))
  have aU : ∀ b : Int, 0 ≤ b → (ov_up h7 (-77) 0 (1000 * (j + 2))) b = h7 b := fun b hb => ov_up77 hb
  have eT0 : h7 0 10 = h 0 10 := by omega
  have aR : ∀ b : Int, 90 ≤ b → b < 115 → (ov_up h7 (-77) 0 (1000 * (j + 2))) b = h b := fun b b0 b1 => (ov_up77 (by omega)).trans ((I8.2.1 b b0 b1).trans (ov_FF_ge (by omega)))
  have a20 : (ov_up h7 (-77) 0 (1000 * (j + 2))) 90 20 = h 90 20 := congrFun (aR 90 (by decide) (by decide)) 20
  have a4 : (ov_up h7 (-77) 0 (1000 * (j + 2))) 103 2 = h 103 2 := (congrFun (ov_up77 (by decide)) 2).trans (congrFun ((I8.2.1 103 (by decide) (by decide)).trans (ov_FF_ge (by decide))) 2)
  generalize (ov_up h7 (-77) 0 (1000 * (j + 2))) = hg at K1 a1 a2 a3 a4 a5 a6 a7 a96 aU aR a20 ⊢
  have N1 := K1.2.1
  have hWT := K1.2.2.2.2.1
  have hCD := K1.2.2.2.2.2.1
  have hWK := K1.2.2.2.2.2.2.1
  have hPM : ov_PM (hg 96) (hg 103) (hg 97) (hg 98) (hg 105) (hg 106) (hg 90 22) (hg 90 25) (hg 90 26) (hg 90 28) (hg 90 29) (hg 90 30) := K1.2.2.2.2.2.2.2.1
  have hq1 := K1.2.2.2.2.2.2.2.2.1
  have hq2 := K1.2.2.2.2.2.2.2.2.2
  have hbd : ov_bd (hg, z6) = (1000 * (j + 2)) := a3
  have g103 := s103_2 N1
  show ov_R u d (ov_mL nm) 1009 [(0, ov_r (-4)), (1, ov_r 0), (2, ov_r 90), (3, ov_i x3)] [ov_i v5] z6 hg ov_LQ
  refine ov_blk (ls2 := [(0, ov_r (-4)), (1, ov_r 0), (2, ov_r 90), (3, ov_i x3)]) (st2 := [ov_i (x3 + 1), ov_r (-4), ov_r 90]) (pc2 := 1015) b_313_1009_6 rfl rfl ?_
  refine ov_scl X d_313_1015 (by omega) ?_
  refine ov_blk (ls2 := [(0, ov_r (-4)), (1, ov_r 0), (2, ov_r 90), (3, ov_i x3)]) (st2 := [ov_i (x3 + 2), ov_r (-4), ov_i (ov_xs xs (x3 + 1)), ov_r 90]) (pc2 := 1020) b_313_1016_4 rfl rfl ?_
  refine ov_scl X d_313_1020 (by omega) ?_
  refine ov_blk (ls2 := [(0, ov_r (-4)), (1, ov_r 0), (2, ov_r 90), (3, ov_i x3)]) (st2 := [ov_i (x3 + 3), ov_r (-4), ov_i (ov_xs xs (x3 + 2)), ov_i (ov_xs xs (x3 + 1)), ov_r 90]) (pc2 := 1025) b_313_1021_4 rfl rfl ?_
  refine ov_scl X d_313_1025 (by omega) ?_
  refine ov_cV (as := [ov_i (ov_xs xs (x3 + 1)), ov_i (ov_xs xs (x3 + 2)), ov_i (ov_xs xs (x3 + 3))]) (st := []) (d2 := d - 1) d_313_1026 lk_Law_106 rfl (Nat.le_of_ble_eq_true rfl) (c := 1) (zb_90 N1) (zs_90 N1) ⟨by decide, rfl⟩ (by omega) (c_Mo_odds_90 (d - 1) (by omega) U N1 (ov_xs xs (x3 + 1)) (ov_xs xs (x3 + 2)) (ov_xs xs (x3 + 3)) (by omega) (by omega) (by omega) (by show 0 ≤ (hg 90 25) ∧ (hg 90 25) ≤ 1000000000; omega) hWT hCD hPM) ?_
  rintro _ z30 h31 ⟨v14, rfl, I32, f13, e15, e16, e17, e18, e19, e20, e21, e22, e23, e24, e25, e26, e27, e28, y29⟩
  have E33 : h31 91 = hg 91 := e15
  have E34 : h31 92 = hg 92 := e16
  have E35 : h31 93 = hg 93 := e17
  have E36 : h31 94 = hg 94 := e18
  have E37 : h31 95 = hg 95 := e19
  have E38 : h31 96 = hg 96 := e20
  have E39 : h31 97 = hg 97 := e21
  have E40 : h31 98 = hg 98 := e22
  have E41 : h31 99 = hg 99 := e23
  have E42 : h31 100 = hg 100 := e24
  have E43 : h31 103 = hg 103 := e25
  have E44 : h31 104 = hg 104 := e26
  have E45 : h31 109 = hg 109 := e27
  have E46 : h31 114 = hg 114 := e28
  show ov_R u d (ov_mL nm) 1029 [(0, ov_r (-4)), (1, ov_r 0), (2, ov_r 90), (3, ov_i x3)] [ov_i v14] z30 h31 ov_LQ
  have f47 : (h31 90 2) = (hg 90 2) ∧ (h31 90 7) = (hg 90 7) ∧ (h31 90 8) = (hg 90 8) ∧ (h31 90 13) = (hg 90 13) ∧ (h31 90 20) = (hg 90 20) ∧ (h31 90 22) = (hg 90 22) ∧ (hg 90 25) ≤ (h31 90 25) ∧ (h31 90 25) ≤ (hg 90 25) + 1 ∧ -2147483648 ≤ v14 ∧ v14 ≤ 2147483647 := f13
  clear f13
  have y29_ : ov_PM (hg 96) (hg 103) (hg 97) (hg 98) (h31 105) (h31 106) (h31 90 22) (h31 90 25) (h31 90 26) (h31 90 28) (h31 90 29) (h31 90 30) := y29
  have K2 : ov_LK (1 + (j + 1)) (4000 * (j + 1)) z30 h31 := ov_LK_rm (g := 1) K1 I32 E38 E39 E40 E42 E43 y29_ (by omega) (by omega) (by omega)
  have b1 : h31 1 1 = hg 1 1 := congrFun (I32.2.2.2 1 (Or.inl (by decide))) 1
  have b7 : h31 (-77) 0 = hg (-77) 0 := congrFun (I32.2.2.2 (-77) (Or.inl (by decide))) 0
  have c2 : h31 2 = hg 2 := I32.2.2.2 2 (Or.inl (by decide))
  have bL : ∀ b : Int, 0 ≤ b → b < 90 → h31 b = hg b := fun b _ q => I32.2.2.2 b (Or.inl q)
  have S2 : ov_S3 h31 := ⟨by rw [c2, E33, a5, a6]; exact s0.1, by rw [E37, a7]; exact s0.2.1, ov_HT_s s0.2.2.1 I8 (by decide +kernel) eT0 aU bL E38 a96, st_same s0.2.2.2 (fun a a0 a1 a2 => ((bL a (by omega) (by omega)).trans (aU a (by omega))).trans (ov_FF_k I8 (Or.inl (by omega)) ((by decide +kernel : ∀ n, n < 36 → (4 ≤ n ∧ (n < 14 ∨ 15 ≤ n)) → Nat.testBit 1235521597062110350411825151 n = true) a.toNat (by omega) (by omega)))) (E43.trans (aR 103 (by decide) (by decide))) (fun m _ _ => congrFun (E44.trans (aR 104 (by decide) (by decide))) m) (congrFun (E38.trans (aR 96 (by decide) (by decide))) 5) (by omega)⟩
  refine ov_blk (ls2 := [(0, ov_r (-4)), (1, ov_r 0), (2, ov_r 90), (3, ov_i x3)]) (st2 := []) (pc2 := 1030) b_313_1029_1 rfl rfl ?_
  refine ov_goto (tgt := 1462) d_313_1030 (by decide) ?_
  exact BK _ _ K2 (by omega) (by omega) S2
set_option maxHeartbeats 4000000 in
theorem lw_case_22 {u : ov_U} {nm : String} {d : Nat} (hd : 1000 ≤ d) (U : ov_cap u) {L : Nat} {xs : Nat → Int32} (X : ov_SC u L xs) (hL : L ≤ 3584) (x3 j : Int) (z : ov_Z) (h : ov_H) (K : ov_LK (1 + j) (4000 * j) z h) (e0 : h 1 1 = h 90 2) (gb : h (-77) 0 = 1000 * (j + 1)) (s0 : ov_S3 h) (q : 0 ≤ j ∧ x3 = 7 * j ∧ x3 ≤ L - 7) (BK : ∀ (z5 : ov_Z) (h5 : ov_H), ov_LK (1 + (j + 1)) (4000 * (j + 1)) z5 h5 → h5 1 1 = h5 90 2 → h5 (-77) 0 = 1000 * (j + 2) → ov_S3 h5 → ov_R u d (ov_mL nm) 1462 [(0, ov_r (-4)), (1, ov_r 0), (2, ov_r 90), (3, ov_i x3)] [] z5 h5 ov_LQ) : ov_R u d (ov_mL nm) 1066 [(0, ov_r (-4)), (1, ov_r 0), (2, ov_r 90), (3, ov_i x3)] [] z h ov_LQ := by
  have I := ov_LK_I (M := 1237940038997149967466889103) K
  have hW := ov_LK_W (M := 1237940038997149967466889103) K
  have hJ0 := K.2.2.1
  have s3 := s103_2 K.2.1
  have hb0 : ov_bd (h, z) = 1000 * (j + 1) := gb
  refine ov_blk (ls2 := [(0, ov_r (-4)), (1, ov_r 0), (2, ov_r 90), (3, ov_i x3)]) (st2 := [ov_i (x3 + 1), ov_r (-4), ov_r 0]) (pc2 := 1071) b_313_1066_5 rfl rfl ?_
  refine ov_scl X d_313_1071 (by omega) ?_
  have g1 := ov_xs_g xs (x3 + 1)
  refine ov_blk (ls2 := [(0, ov_r (-4)), (1, ov_r 0), (2, ov_r 90), (3, ov_i x3)]) (st2 := [ov_i (x3 + 2), ov_r (-4), ov_i (ov_xs xs (x3 + 1)), ov_r 0]) (pc2 := 1076) b_313_1072_4 rfl rfl ?_
  refine ov_scl X d_313_1076 (by omega) ?_
  have g2 := ov_xs_g xs (x3 + 2)
  refine ov_blk (ls2 := [(0, ov_r (-4)), (1, ov_r 0), (2, ov_r 90), (3, ov_i x3)]) (st2 := [ov_i (x3 + 3), ov_r (-4), ov_i (ov_xs xs (x3 + 2)), ov_i (ov_xs xs (x3 + 1)), ov_r 0]) (pc2 := 1081) b_313_1077_4 rfl rfl ?_
  refine ov_scl X d_313_1081 (by omega) ?_
  have g3 := ov_xs_g xs (x3 + 3)
  refine ov_ifeq (tgt := 1089) d_313_1082 (by decide) (by omega) (fun c4 => ?_) (fun c4 => ?_)
  · skip
    refine ov_blk (ls2 := [(0, ov_r (-4)), (1, ov_r 0), (2, ov_r 90), (3, ov_i x3)]) (st2 := [ov_i (x3 + 4), ov_r (-4), ov_i 0, ov_i (ov_xs xs (x3 + 2)), ov_i (ov_xs xs (x3 + 1)), ov_r 0]) (pc2 := 1094) b_313_1089_5 rfl rfl ?_
    refine ov_scl X d_313_1094 (by omega) ?_
    have g5 := ov_xs_g xs (x3 + 4)
    refine ov_cV (as := [ov_i (ov_xs xs (x3 + 1)), ov_i (ov_xs xs (x3 + 2)), ov_i 0, ov_i (ov_xs xs (x3 + 4))]) (st := []) (d2 := d - 1) d_313_1095 lk_Law_111 rfl (Nat.le_of_ble_eq_true rfl) (c := 0) (zb_0 I) (zs_0 I) ⟨by decide, rfl⟩ (by omega) (c_OF_tried_0_t (d - 1) (by omega) U I (ov_FF_w (by decide +kernel)) (ov_xs xs (x3 + 1)) (ov_xs xs (x3 + 2)) 0 (ov_xs xs (x3 + 4)) (by omega) (by omega) (by omega) (by omega)) ?_
    rintro _ z8 h9 ⟨v7, rfl, I10, f6, xc⟩
    show ov_R u d (ov_mL nm) 1098 [(0, ov_r (-4)), (1, ov_r 0), (2, ov_r 90), (3, ov_i x3)] [ov_i v7] z8 h9 ov_LQ
    have f11 : (v7 = 0 ∨ v7 = 1) ∧ (h9 36 7) = (h 36 7) ∧ (h9 1 1) = (h 1 1) ∧ (h9 90 2) = (h 90 2) ∧ (h9 0 10) = (h 0 10) ∧ (h9 0 11) = (h 0 11) ∧ (h9 0 12) = (h 0 12) ∧ (h9 0 13) = (h 0 13) ∧ (h9 3 1) = (h 3 1) ∧ (h9 36 8) = (h 36 8) ∧ (h9 46 3) = (h 46 3) ∧ (h9 46 4) = (h 46 4) ∧ (h9 49 4) = (h 49 4) ∧ (h9 49 5) = (h 49 5) ∧ (h9 64 0) = (h 64 0) ∧ (h9 76 0) = (h 76 0) := f6
    clear f6
    have K1 := ov_LK_c (B := (1000 * (j + 2))) K I10 (fun b h0 _ => ov_FF_ge (by omega)) (by omega) (ov_HR_k hW I10 (by omega) (by omega) (by omega) (by omega)) (by omega)
    refine ov_gho (ov_up h9 (-77) 0 (1000 * (j + 2))) (fun a ha => (ov_up77 ha).symm) ?_
    have a1 : (ov_up h9 (-77) 0 (1000 * (j + 2))) 1 1 = h9 1 1 := congrFun (ov_up77 (by decide)) 1
    have a2 : (ov_up h9 (-77) 0 (1000 * (j + 2))) 90 2 = h9 90 2 := congrFun (ov_up77 (by decide)) 2
    have a3 : (ov_up h9 (-77) 0 (1000 * (j + 2))) (-77) 0 = (1000 * (j + 2)) := ov_uj.1 rfl
    have a5 : (ov_up h9 (-77) 0 (1000 * (j + 2))) 2 = h 2 := (ov_up77 (by decide)).trans (ov_FF_k I10 (Or.inl (by decide)) (by decide +kernel))
    have a6 : (ov_up h9 (-77) 0 (1000 * (j + 2))) 91 = h 91 := (ov_up77 (by decide)).trans ((I10.2.1 91 (by decide) (by decide)).trans (ov_FF_ge (by decide)))
    have a7 : (ov_up h9 (-77) 0 (1000 * (j + 2))) 95 = h 95 := (ov_up77 (by decide)).trans ((I10.2.1 95 (by decide) (by decide)).trans (ov_FF_ge (by decide)))
    have a96 : (ov_up h9 (-77) 0 (1000 * (j + 2))) 96 = h 96 := (ov_up77 (by decide)).trans ((I10.2.1 96 (by decide) (by decide)).trans (ov_FF_ge (by decide)))
    have aU : ∀ b : Int, 0 ≤ b → (ov_up h9 (-77) 0 (1000 * (j + 2))) b = h9 b := fun b hb => ov_up77 hb
    have eT0 : h9 0 10 = h 0 10 := by omega
    have aR : ∀ b : Int, 90 ≤ b → b < 115 → (ov_up h9 (-77) 0 (1000 * (j + 2))) b = h b := fun b b0 b1 => (ov_up77 (by omega)).trans ((I10.2.1 b b0 b1).trans (ov_FF_ge (by omega)))
    have a20 : (ov_up h9 (-77) 0 (1000 * (j + 2))) 90 20 = h 90 20 := congrFun (aR 90 (by decide) (by decide)) 20
    have a4 : (ov_up h9 (-77) 0 (1000 * (j + 2))) 103 2 = h 103 2 := (congrFun (ov_up77 (by decide)) 2).trans (congrFun ((I10.2.1 103 (by decide) (by decide)).trans (ov_FF_ge (by decide))) 2)
    generalize (ov_up h9 (-77) 0 (1000 * (j + 2))) = hg at K1 a1 a2 a3 a4 a5 a6 a7 a96 aU aR a20 ⊢
    have N1 := K1.2.1
    have hWT := K1.2.2.2.2.1
    have hCD := K1.2.2.2.2.2.1
    have hWK := K1.2.2.2.2.2.2.1
    have hPM : ov_PM (hg 96) (hg 103) (hg 97) (hg 98) (hg 105) (hg 106) (hg 90 22) (hg 90 25) (hg 90 26) (hg 90 28) (hg 90 29) (hg 90 30) := K1.2.2.2.2.2.2.2.1
    have hq1 := K1.2.2.2.2.2.2.2.2.1
    have hq2 := K1.2.2.2.2.2.2.2.2.2
    have hbd : ov_bd (hg, z8) = (1000 * (j + 2)) := a3
    have g103 := s103_2 N1
    show ov_R u d (ov_mL nm) 1098 [(0, ov_r (-4)), (1, ov_r 0), (2, ov_r 90), (3, ov_i x3)] [ov_i v7] z8 hg ov_LQ
    refine ov_blk (ls2 := [(0, ov_r (-4)), (1, ov_r 0), (2, ov_r 90), (3, ov_i x3)]) (st2 := [ov_i (x3 + 1), ov_r (-4), ov_r 90]) (pc2 := 1104) b_313_1098_6 rfl rfl ?_
    refine ov_scl X d_313_1104 (by omega) ?_
    refine ov_blk (ls2 := [(0, ov_r (-4)), (1, ov_r 0), (2, ov_r 90), (3, ov_i x3)]) (st2 := [ov_i (x3 + 2), ov_r (-4), ov_i (ov_xs xs (x3 + 1)), ov_r 90]) (pc2 := 1109) b_313_1105_4 rfl rfl ?_
    refine ov_scl X d_313_1109 (by omega) ?_
    refine ov_blk (ls2 := [(0, ov_r (-4)), (1, ov_r 0), (2, ov_r 90), (3, ov_i x3)]) (st2 := [ov_i (x3 + 3), ov_r (-4), ov_i (ov_xs xs (x3 + 2)), ov_i (ov_xs xs (x3 + 1)), ov_r 90]) (pc2 := 1114) b_313_1110_4 rfl rfl ?_
    refine ov_scl X d_313_1114 (by omega) ?_
    refine ov_ifeq (tgt := 1122) d_313_1115 (by decide) (by omega) (fun c15 => ?_) (fun c15 => ?_)
    · skip
      refine ov_blk (ls2 := [(0, ov_r (-4)), (1, ov_r 0), (2, ov_r 90), (3, ov_i x3)]) (st2 := [ov_i (x3 + 4), ov_r (-4), ov_i 0, ov_i (ov_xs xs (x3 + 2)), ov_i (ov_xs xs (x3 + 1)), ov_r 90]) (pc2 := 1127) b_313_1122_5 rfl rfl ?_
      refine ov_scl X d_313_1127 (by omega) ?_
      refine ov_cV (as := [ov_i (ov_xs xs (x3 + 1)), ov_i (ov_xs xs (x3 + 2)), ov_i 0, ov_i (ov_xs xs (x3 + 4))]) (st := []) (d2 := d - 1) d_313_1128 lk_Law_115 rfl (Nat.le_of_ble_eq_true rfl) (c := 1) (zb_90 N1) (zs_90 N1) ⟨by decide, rfl⟩ (by omega) (c_Mo_tried_90_t (d - 1) (by omega) U N1 (ov_xs xs (x3 + 1)) (ov_xs xs (x3 + 2)) 0 (ov_xs xs (x3 + 4)) (by omega) (by omega) (by omega) (by omega)) ?_
      rintro _ z36 h37 ⟨v18, rfl, I38, f17, e19, e20, e21, e22, e23, e24, e25, e26, e27, e28, e29, e30, e31, e32, e33, y34, y35⟩
      have E39 : h37 91 = hg 91 := e19
      have E40 : h37 92 = hg 92 := e20
      have E41 : h37 93 = hg 93 := e21
      have E42 : h37 94 = hg 94 := e22
      have E43 : h37 95 = hg 95 := e23
      have E44 : h37 96 = hg 96 := e24
      have E45 : h37 97 = hg 97 := e25
      have E46 : h37 98 = hg 98 := e26
      have E47 : h37 99 = hg 99 := e27
      have E48 : h37 100 = hg 100 := e28
      have E49 : h37 104 = hg 104 := e29
      have E50 : h37 105 = hg 105 := e30
      have E51 : h37 106 = hg 106 := e31
      have E52 : h37 109 = hg 109 := e32
      have E53 : h37 114 = hg 114 := e33
      show ov_R u d (ov_mL nm) 1131 [(0, ov_r (-4)), (1, ov_r 0), (2, ov_r 90), (3, ov_i x3)] [ov_i v18] z36 h37 ov_LQ
      have f54 : (h37 90 2) = (hg 90 2) ∧ (h37 90 7) = (hg 90 7) ∧ (h37 90 8) = (hg 90 8) ∧ (h37 90 13) = (hg 90 13) ∧ (h37 90 20) = (hg 90 20) ∧ (h37 90 22) = (hg 90 22) ∧ (h37 90 25) = (hg 90 25) ∧ (h37 90 26) = (hg 90 26) ∧ (h37 90 28) = (hg 90 28) ∧ (h37 90 29) = (hg 90 29) ∧ (h37 90 30) = (hg 90 30) ∧ (h37 90 34) = (hg 90 34) ∧ (v18 = 0 ∨ v18 = 1) := f17
      clear f17
      have y34_ : ∀ j : Int, 4 ≤ j → j ≤ 57 → (h37 103) j = (hg 103) j := y34
      have y35_ : (v18 = 0 ∧ ¬ (0 ≤ (ov_xs xs (x3 + 1)) ∧ (ov_xs xs (x3 + 1)) < (hg 96 0) ∧ 0 ≤ (ov_xs xs (x3 + 2)) ∧ (ov_xs xs (x3 + 2)) < (hg 96 1) ∧ (hg 96 (10 + 4 * (6 * (ov_xs xs (x3 + 2)) + (ov_xs xs (x3 + 1))))) = 3 ∧ 0 ≤ (ov_xs xs (x3 + 4)) ∧ (ov_xs xs (x3 + 4)) ≤ 59 ∧ ¬ (hg 103 58) = 10) ∧ (h37 103) = (hg 103)) ∨ (v18 = 1 ∧ (0 ≤ (ov_xs xs (x3 + 1)) ∧ (ov_xs xs (x3 + 1)) < (hg 96 0) ∧ 0 ≤ (ov_xs xs (x3 + 2)) ∧ (ov_xs xs (x3 + 2)) < (hg 96 1) ∧ (hg 96 (10 + 4 * (6 * (ov_xs xs (x3 + 2)) + (ov_xs xs (x3 + 1))))) = 3 ∧ 0 ≤ (ov_xs xs (x3 + 4)) ∧ (ov_xs xs (x3 + 4)) ≤ 59 ∧ ¬ (hg 103 58) = 10) ∧ (h37 103) = ov_rs (ov_rs (ov_rs (ov_rs ((hg 103)) (60 + 3 * (hg 103 58)) (6 * (ov_xs xs (x3 + 2)) + (ov_xs xs (x3 + 1)))) (60 + 3 * (hg 103 58) + 1) (0 : Int)) (60 + 3 * (hg 103 58) + 2) (ov_xs xs (x3 + 4))) 58 ((hg 103 58) + 1)) := y35
      have K2 : ov_LK (1 + (j + 1)) (4000 * (j + 1)) z36 h37 := ov_LK_r4 K1 I38 E44 E45 E46 E48 y34_ E50 E51 (by omega) (by omega) (by omega)
      have b1 : h37 1 1 = hg 1 1 := congrFun (I38.2.2.2 1 (Or.inl (by decide))) 1
      have b7 : h37 (-77) 0 = hg (-77) 0 := congrFun (I38.2.2.2 (-77) (Or.inl (by decide))) 0
      have c2 : h37 2 = hg 2 := I38.2.2.2 2 (Or.inl (by decide))
      have bL : ∀ b : Int, 0 ≤ b → b < 90 → h37 b = hg b := fun b _ q => I38.2.2.2 b (Or.inl q)
      have sx : v7 = v18 ∧ st_R h37 := st_tried_t s0.2.2.2 (st_G_of I) s0.2.2.1 (rg_0_10 I) xc y35_ (fun a a0 a1 => (bL a a0 a1).trans (aU a a0)) (fun a a0 a1 a2 => ov_FF_k I10 (Or.inl (by omega)) ((by decide +kernel : ∀ n, n < 36 → (7 ≤ n ∧ (n < 14 ∨ 15 ≤ n)) → Nat.testBit 1237940038997149967466889103 n = true) a.toNat (by omega) (by omega))) aR E44 E49 (by omega)
      have er := sx.1
      have S2 : ov_S3 h37 := ⟨by rw [c2, E39, a5, a6]; exact s0.1, by rw [E43, a7]; exact s0.2.1, ov_HT_s s0.2.2.1 I10 (by decide +kernel) eT0 aU bL E44 a96, sx.2⟩
      refine ov_blk (ls2 := [(0, ov_r (-4)), (1, ov_r 0), (2, ov_r 90), (3, ov_i x3)]) (st2 := []) (pc2 := 1132) b_313_1131_1 rfl rfl ?_
      refine ov_goto (tgt := 1462) d_313_1132 (by decide) ?_
      exact BK _ _ K2 (by omega) (by omega) S2
    · omega
  · skip
    refine ov_blk (ls2 := [(0, ov_r (-4)), (1, ov_r 0), (2, ov_r 90), (3, ov_i x3)]) (st2 := [ov_i 1, ov_i (ov_xs xs (x3 + 2)), ov_i (ov_xs xs (x3 + 1)), ov_r 0]) (pc2 := 1086) b_313_1085_1 rfl rfl ?_
    refine ov_goto (tgt := 1090) d_313_1086 (by decide) ?_
    refine ov_blk (ls2 := [(0, ov_r (-4)), (1, ov_r 0), (2, ov_r 90), (3, ov_i x3)]) (st2 := [ov_i (x3 + 4), ov_r (-4), ov_i 1, ov_i (ov_xs xs (x3 + 2)), ov_i (ov_xs xs (x3 + 1)), ov_r 0]) (pc2 := 1094) b_313_1090_4 rfl rfl ?_
    refine ov_scl X d_313_1094 (by omega) ?_
    have g55 := ov_xs_g xs (x3 + 4)
    refine ov_cV (as := [ov_i (ov_xs xs (x3 + 1)), ov_i (ov_xs xs (x3 + 2)), ov_i 1, ov_i (ov_xs xs (x3 + 4))]) (st := []) (d2 := d - 1) d_313_1095 lk_Law_111 rfl (Nat.le_of_ble_eq_true rfl) (c := 0) (zb_0 I) (zs_0 I) ⟨by decide, rfl⟩ (by omega) (c_OF_tried_0_t (d - 1) (by omega) U I (ov_FF_w (by decide +kernel)) (ov_xs xs (x3 + 1)) (ov_xs xs (x3 + 2)) 1 (ov_xs xs (x3 + 4)) (by omega) (by omega) (by omega) (by omega)) ?_
    rintro _ z58 h59 ⟨v57, rfl, I60, f56, xc⟩
    show ov_R u d (ov_mL nm) 1098 [(0, ov_r (-4)), (1, ov_r 0), (2, ov_r 90), (3, ov_i x3)] [ov_i v57] z58 h59 ov_LQ
    have f61 : (v57 = 0 ∨ v57 = 1) ∧ (h59 36 7) = (h 36 7) ∧ (h59 1 1) = (h 1 1) ∧ (h59 90 2) = (h 90 2) ∧ (h59 0 10) = (h 0 10) ∧ (h59 0 11) = (h 0 11) ∧ (h59 0 12) = (h 0 12) ∧ (h59 0 13) = (h 0 13) ∧ (h59 3 1) = (h 3 1) ∧ (h59 36 8) = (h 36 8) ∧ (h59 46 3) = (h 46 3) ∧ (h59 46 4) = (h 46 4) ∧ (h59 49 4) = (h 49 4) ∧ (h59 49 5) = (h 49 5) ∧ (h59 64 0) = (h 64 0) ∧ (h59 76 0) = (h 76 0) := f56
    clear f56
    have K1 := ov_LK_c (B := (1000 * (j + 2))) K I60 (fun b h0 _ => ov_FF_ge (by omega)) (by omega) (ov_HR_k hW I60 (by omega) (by omega) (by omega) (by omega)) (by omega)
    refine ov_gho (ov_up h59 (-77) 0 (1000 * (j + 2))) (fun a ha => (ov_up77 ha).symm) ?_
    have a1 : (ov_up h59 (-77) 0 (1000 * (j + 2))) 1 1 = h59 1 1 := congrFun (ov_up77 (by decide)) 1
    have a2 : (ov_up h59 (-77) 0 (1000 * (j + 2))) 90 2 = h59 90 2 := congrFun (ov_up77 (by decide)) 2
    have a3 : (ov_up h59 (-77) 0 (1000 * (j + 2))) (-77) 0 = (1000 * (j + 2)) := ov_uj.1 rfl
    have a5 : (ov_up h59 (-77) 0 (1000 * (j + 2))) 2 = h 2 := (ov_up77 (by decide)).trans (ov_FF_k I60 (Or.inl (by decide)) (by decide +kernel))
    have a6 : (ov_up h59 (-77) 0 (1000 * (j + 2))) 91 = h 91 := (ov_up77 (by decide)).trans ((I60.2.1 91 (by decide) (by decide)).trans (ov_FF_ge (by decide)))
    have a7 : (ov_up h59 (-77) 0 (1000 * (j + 2))) 95 = h 95 := (ov_up77 (by decide)).trans ((I60.2.1 95 (by decide) (by decide)).trans (ov_FF_ge (by decide)))
    have a96 : (ov_up h59 (-77) 0 (1000 * (j + 2))) 96 = h 96 := (ov_up77 (by decide)).trans ((I60.2.1 96 (by decide) (by decide)).trans (ov_FF_ge (by decide)))
    have aU : ∀ b : Int, 0 ≤ b → (ov_up h59 (-77) 0 (1000 * (j + 2))) b = h59 b := fun b hb => ov_up77 hb
    have eT0 : h59 0 10 = h 0 10 := by omega
    have aR : ∀ b : Int, 90 ≤ b → b < 115 → (ov_up h59 (-77) 0 (1000 * (j + 2))) b = h b := fun b b0 b1 => (ov_up77 (by omega)).trans ((I60.2.1 b b0 b1).trans (ov_FF_ge (by omega)))
    have a20 : (ov_up h59 (-77) 0 (1000 * (j + 2))) 90 20 = h 90 20 := congrFun (aR 90 (by decide) (by decide)) 20
    have a4 : (ov_up h59 (-77) 0 (1000 * (j + 2))) 103 2 = h 103 2 := (congrFun (ov_up77 (by decide)) 2).trans (congrFun ((I60.2.1 103 (by decide) (by decide)).trans (ov_FF_ge (by decide))) 2)
    generalize (ov_up h59 (-77) 0 (1000 * (j + 2))) = hg at K1 a1 a2 a3 a4 a5 a6 a7 a96 aU aR a20 ⊢
    have N1 := K1.2.1
    have hWT := K1.2.2.2.2.1
    have hCD := K1.2.2.2.2.2.1
    have hWK := K1.2.2.2.2.2.2.1
    have hPM : ov_PM (hg 96) (hg 103) (hg 97) (hg 98) (hg 105) (hg 106) (hg 90 22) (hg 90 25) (hg 90 26) (hg 90 28) (hg 90 29) (hg 90 30) := K1.2.2.2.2.2.2.2.1
    have hq1 := K1.2.2.2.2.2.2.2.2.1
    have hq2 := K1.2.2.2.2.2.2.2.2.2
    have hbd : ov_bd (hg, z58) = (1000 * (j + 2)) := a3
    have g103 := s103_2 N1
    show ov_R u d (ov_mL nm) 1098 [(0, ov_r (-4)), (1, ov_r 0), (2, ov_r 90), (3, ov_i x3)] [ov_i v57] z58 hg ov_LQ
    refine ov_blk (ls2 := [(0, ov_r (-4)), (1, ov_r 0), (2, ov_r 90), (3, ov_i x3)]) (st2 := [ov_i (x3 + 1), ov_r (-4), ov_r 90]) (pc2 := 1104) b_313_1098_6 rfl rfl ?_
    refine ov_scl X d_313_1104 (by omega) ?_
    refine ov_blk (ls2 := [(0, ov_r (-4)), (1, ov_r 0), (2, ov_r 90), (3, ov_i x3)]) (st2 := [ov_i (x3 + 2), ov_r (-4), ov_i (ov_xs xs (x3 + 1)), ov_r 90]) (pc2 := 1109) b_313_1105_4 rfl rfl ?_
    refine ov_scl X d_313_1109 (by omega) ?_
    refine ov_blk (ls2 := [(0, ov_r (-4)), (1, ov_r 0), (2, ov_r 90), (3, ov_i x3)]) (st2 := [ov_i (x3 + 3), ov_r (-4), ov_i (ov_xs xs (x3 + 2)), ov_i (ov_xs xs (x3 + 1)), ov_r 90]) (pc2 := 1114) b_313_1110_4 rfl rfl ?_
    refine ov_scl X d_313_1114 (by omega) ?_
    refine ov_ifeq (tgt := 1122) d_313_1115 (by decide) (by omega) (fun c65 => ?_) (fun c65 => ?_)
    · omega
    · skip
      refine ov_blk (ls2 := [(0, ov_r (-4)), (1, ov_r 0), (2, ov_r 90), (3, ov_i x3)]) (st2 := [ov_i 1, ov_i (ov_xs xs (x3 + 2)), ov_i (ov_xs xs (x3 + 1)), ov_r 90]) (pc2 := 1119) b_313_1118_1 rfl rfl ?_
      refine ov_goto (tgt := 1123) d_313_1119 (by decide) ?_
      refine ov_blk (ls2 := [(0, ov_r (-4)), (1, ov_r 0), (2, ov_r 90), (3, ov_i x3)]) (st2 := [ov_i (x3 + 4), ov_r (-4), ov_i 1, ov_i (ov_xs xs (x3 + 2)), ov_i (ov_xs xs (x3 + 1)), ov_r 90]) (pc2 := 1127) b_313_1123_4 rfl rfl ?_
      refine ov_scl X d_313_1127 (by omega) ?_
      refine ov_cV (as := [ov_i (ov_xs xs (x3 + 1)), ov_i (ov_xs xs (x3 + 2)), ov_i 1, ov_i (ov_xs xs (x3 + 4))]) (st := []) (d2 := d - 1) d_313_1128 lk_Law_115 rfl (Nat.le_of_ble_eq_true rfl) (c := 1) (zb_90 N1) (zs_90 N1) ⟨by decide, rfl⟩ (by omega) (c_Mo_tried_90_t (d - 1) (by omega) U N1 (ov_xs xs (x3 + 1)) (ov_xs xs (x3 + 2)) 1 (ov_xs xs (x3 + 4)) (by omega) (by omega) (by omega) (by omega)) ?_
      rintro _ z86 h87 ⟨v68, rfl, I88, f67, e69, e70, e71, e72, e73, e74, e75, e76, e77, e78, e79, e80, e81, e82, e83, y84, y85⟩
      have E89 : h87 91 = hg 91 := e69
      have E90 : h87 92 = hg 92 := e70
      have E91 : h87 93 = hg 93 := e71
      have E92 : h87 94 = hg 94 := e72
      have E93 : h87 95 = hg 95 := e73
      have E94 : h87 96 = hg 96 := e74
      have E95 : h87 97 = hg 97 := e75
      have E96 : h87 98 = hg 98 := e76
      have E97 : h87 99 = hg 99 := e77
      have E98 : h87 100 = hg 100 := e78
      have E99 : h87 104 = hg 104 := e79
      have E100 : h87 105 = hg 105 := e80
      have E101 : h87 106 = hg 106 := e81
      have E102 : h87 109 = hg 109 := e82
      have E103 : h87 114 = hg 114 := e83
      show ov_R u d (ov_mL nm) 1131 [(0, ov_r (-4)), (1, ov_r 0), (2, ov_r 90), (3, ov_i x3)] [ov_i v68] z86 h87 ov_LQ
      have f104 : (h87 90 2) = (hg 90 2) ∧ (h87 90 7) = (hg 90 7) ∧ (h87 90 8) = (hg 90 8) ∧ (h87 90 13) = (hg 90 13) ∧ (h87 90 20) = (hg 90 20) ∧ (h87 90 22) = (hg 90 22) ∧ (h87 90 25) = (hg 90 25) ∧ (h87 90 26) = (hg 90 26) ∧ (h87 90 28) = (hg 90 28) ∧ (h87 90 29) = (hg 90 29) ∧ (h87 90 30) = (hg 90 30) ∧ (h87 90 34) = (hg 90 34) ∧ (v68 = 0 ∨ v68 = 1) := f67
      clear f67
      have y84_ : ∀ j : Int, 4 ≤ j → j ≤ 57 → (h87 103) j = (hg 103) j := y84
      have y85_ : (v68 = 0 ∧ ¬ (0 ≤ (ov_xs xs (x3 + 1)) ∧ (ov_xs xs (x3 + 1)) < (hg 96 0) ∧ 0 ≤ (ov_xs xs (x3 + 2)) ∧ (ov_xs xs (x3 + 2)) < (hg 96 1) ∧ (hg 96 (10 + 4 * (6 * (ov_xs xs (x3 + 2)) + (ov_xs xs (x3 + 1))))) = 3 ∧ 0 ≤ (ov_xs xs (x3 + 4)) ∧ (ov_xs xs (x3 + 4)) ≤ 59 ∧ ¬ (hg 103 58) = 10) ∧ (h87 103) = (hg 103)) ∨ (v68 = 1 ∧ (0 ≤ (ov_xs xs (x3 + 1)) ∧ (ov_xs xs (x3 + 1)) < (hg 96 0) ∧ 0 ≤ (ov_xs xs (x3 + 2)) ∧ (ov_xs xs (x3 + 2)) < (hg 96 1) ∧ (hg 96 (10 + 4 * (6 * (ov_xs xs (x3 + 2)) + (ov_xs xs (x3 + 1))))) = 3 ∧ 0 ≤ (ov_xs xs (x3 + 4)) ∧ (ov_xs xs (x3 + 4)) ≤ 59 ∧ ¬ (hg 103 58) = 10) ∧ (h87 103) = ov_rs (ov_rs (ov_rs (ov_rs ((hg 103)) (60 + 3 * (hg 103 58)) (6 * (ov_xs xs (x3 + 2)) + (ov_xs xs (x3 + 1)))) (60 + 3 * (hg 103 58) + 1) (1 : Int)) (60 + 3 * (hg 103 58) + 2) (ov_xs xs (x3 + 4))) 58 ((hg 103 58) + 1)) := y85
      have K2 : ov_LK (1 + (j + 1)) (4000 * (j + 1)) z86 h87 := ov_LK_r4 K1 I88 E94 E95 E96 E98 y84_ E100 E101 (by omega) (by omega) (by omega)
      have b1 : h87 1 1 = hg 1 1 := congrFun (I88.2.2.2 1 (Or.inl (by decide))) 1
      have b7 : h87 (-77) 0 = hg (-77) 0 := congrFun (I88.2.2.2 (-77) (Or.inl (by decide))) 0
      have c2 : h87 2 = hg 2 := I88.2.2.2 2 (Or.inl (by decide))
      have bL : ∀ b : Int, 0 ≤ b → b < 90 → h87 b = hg b := fun b _ q => I88.2.2.2 b (Or.inl q)
      have sx : v57 = v68 ∧ st_R h87 := st_tried_t s0.2.2.2 (st_G_of I) s0.2.2.1 (rg_0_10 I) xc y85_ (fun a a0 a1 => (bL a a0 a1).trans (aU a a0)) (fun a a0 a1 a2 => ov_FF_k I60 (Or.inl (by omega)) ((by decide +kernel : ∀ n, n < 36 → (7 ≤ n ∧ (n < 14 ∨ 15 ≤ n)) → Nat.testBit 1237940038997149967466889103 n = true) a.toNat (by omega) (by omega))) aR E94 E99 (by omega)
      have er := sx.1
      have S2 : ov_S3 h87 := ⟨by rw [c2, E89, a5, a6]; exact s0.1, by rw [E93, a7]; exact s0.2.1, ov_HT_s s0.2.2.1 I60 (by decide +kernel) eT0 aU bL E94 a96, sx.2⟩
      refine ov_blk (ls2 := [(0, ov_r (-4)), (1, ov_r 0), (2, ov_r 90), (3, ov_i x3)]) (st2 := []) (pc2 := 1132) b_313_1131_1 rfl rfl ?_
      refine ov_goto (tgt := 1462) d_313_1132 (by decide) ?_
      exact BK _ _ K2 (by omega) (by omega) S2
set_option maxHeartbeats 4000000 in
theorem lw_case_23 {u : ov_U} {nm : String} {d : Nat} (hd : 1000 ≤ d) (U : ov_cap u) {L : Nat} {xs : Nat → Int32} (X : ov_SC u L xs) (hL : L ≤ 3584) (x3 j : Int) (z : ov_Z) (h : ov_H) (K : ov_LK (1 + j) (4000 * j) z h) (e0 : h 1 1 = h 90 2) (gb : h (-77) 0 = 1000 * (j + 1)) (s0 : ov_S3 h) (q : 0 ≤ j ∧ x3 = 7 * j ∧ x3 ≤ L - 7) (BK : ∀ (z5 : ov_Z) (h5 : ov_H), ov_LK (1 + (j + 1)) (4000 * (j + 1)) z5 h5 → h5 1 1 = h5 90 2 → h5 (-77) 0 = 1000 * (j + 2) → ov_S3 h5 → ov_R u d (ov_mL nm) 1462 [(0, ov_r (-4)), (1, ov_r 0), (2, ov_r 90), (3, ov_i x3)] [] z5 h5 ov_LQ) : ov_R u d (ov_mL nm) 1135 [(0, ov_r (-4)), (1, ov_r 0), (2, ov_r 90), (3, ov_i x3)] [] z h ov_LQ := by
  have I := ov_LK_I (M := 1237940038997149967466889215) K
  have hW := ov_LK_W (M := 1237940038997149967466889215) K
  have hJ0 := K.2.2.1
  have s3 := s103_2 K.2.1
  have hb0 : ov_bd (h, z) = 1000 * (j + 1) := gb
  refine ov_blk (ls2 := [(0, ov_r (-4)), (1, ov_r 0), (2, ov_r 90), (3, ov_i x3)]) (st2 := [ov_i (x3 + 1), ov_r (-4), ov_r 0]) (pc2 := 1140) b_313_1135_5 rfl rfl ?_
  refine ov_scl X d_313_1140 (by omega) ?_
  have g1 := ov_xs_g xs (x3 + 1)
  refine ov_blk (ls2 := [(0, ov_r (-4)), (1, ov_r 0), (2, ov_r 90), (3, ov_i x3)]) (st2 := [ov_i (x3 + 2), ov_r (-4), ov_i (ov_xs xs (x3 + 1)), ov_r 0]) (pc2 := 1145) b_313_1141_4 rfl rfl ?_
  refine ov_scl X d_313_1145 (by omega) ?_
  have g2 := ov_xs_g xs (x3 + 2)
  refine ov_blk (ls2 := [(0, ov_r (-4)), (1, ov_r 0), (2, ov_r 90), (3, ov_i x3)]) (st2 := [ov_i (x3 + 3), ov_r (-4), ov_i (ov_xs xs (x3 + 2)), ov_i (ov_xs xs (x3 + 1)), ov_r 0]) (pc2 := 1150) b_313_1146_4 rfl rfl ?_
  refine ov_scl X d_313_1150 (by omega) ?_
  have g3 := ov_xs_g xs (x3 + 3)
  refine ov_cV (as := [ov_i (ov_xs xs (x3 + 1)), ov_i (ov_xs xs (x3 + 2)), ov_i (ov_xs xs (x3 + 3))]) (st := []) (d2 := d - 1) d_313_1151 lk_Law_116 rfl (Nat.le_of_ble_eq_true rfl) (c := 0) (zb_0 I) (zs_0 I) ⟨by decide, rfl⟩ (by omega) (c_OF_does_0 (d - 1) (by omega) U I (ov_xs xs (x3 + 1)) (ov_xs xs (x3 + 2)) (ov_xs xs (x3 + 3)) (by omega) (by omega) (by omega)) ?_
  rintro _ _ _ ⟨v5, rfl, rfl, rfl, f4⟩
  show ov_R u d (ov_mL nm) 1154 [(0, ov_r (-4)), (1, ov_r 0), (2, ov_r 90), (3, ov_i x3)] [ov_l v5] z h ov_LQ
  clear f4
  have K1 := ov_LK_c (B := (1000 * (j + 2))) K I (fun b h0 _ => ov_FF_ge (by omega)) (by omega) K.2.2.2.1 (by omega)
  refine ov_gho (ov_up h (-77) 0 (1000 * (j + 2))) (fun a ha => (ov_up77 ha).symm) ?_
  have a1 : (ov_up h (-77) 0 (1000 * (j + 2))) 1 1 = h 1 1 := congrFun (ov_up77 (by decide)) 1
  have a2 : (ov_up h (-77) 0 (1000 * (j + 2))) 90 2 = h 90 2 := congrFun (ov_up77 (by decide)) 2
  have a3 : (ov_up h (-77) 0 (1000 * (j + 2))) (-77) 0 = (1000 * (j + 2)) := ov_uj.1 rfl
  have a5 : (ov_up h (-77) 0 (1000 * (j + 2))) 2 = h 2 := (ov_up77 (by decide)).trans (ov_FF_k I (Or.inl (by decide)) (by decide +kernel))
  have a6 : (ov_up h (-77) 0 (1000 * (j + 2))) 91 = h 91 := (ov_up77 (by decide)).trans ((I.2.1 91 (by decide) (by decide)).trans (ov_FF_ge (by decide)))
  have a7 : (ov_up h (-77) 0 (1000 * (j + 2))) 95 = h 95 := (ov_up77 (by decide)).trans ((I.2.1 95 (by decide) (by decide)).trans (ov_FF_ge (by decide)))
  have a96 : (ov_up h (-77) 0 (1000 * (j + 2))) 96 = h 96 := (ov_up77 (by decide)).trans ((I.2.1 96 (by decide) (by decide)).trans (ov_FF_ge (by decide)))
  have aU : ∀ b : Int, 0 ≤ b → (ov_up h (-77) 0 (1000 * (j + 2))) b = h b := fun b hb => ov_up77 hb
  have eT0 : h 0 10 = h 0 10 := by omega
  have aR : ∀ b : Int, 90 ≤ b → b < 115 → (ov_up h (-77) 0 (1000 * (j + 2))) b = h b := fun b b0 b1 => (ov_up77 (by omega)).trans ((I.2.1 b b0 b1).trans (ov_FF_ge (by omega)))
  have a20 : (ov_up h (-77) 0 (1000 * (j + 2))) 90 20 = h 90 20 := congrFun (aR 90 (by decide) (by decide)) 20
  have a4 : (ov_up h (-77) 0 (1000 * (j + 2))) 103 2 = h 103 2 := (congrFun (ov_up77 (by decide)) 2).trans (congrFun ((I.2.1 103 (by decide) (by decide)).trans (ov_FF_ge (by decide))) 2)
  generalize (ov_up h (-77) 0 (1000 * (j + 2))) = hg at K1 a1 a2 a3 a4 a5 a6 a7 a96 aU aR a20 ⊢
  have N1 := K1.2.1
  have hWT := K1.2.2.2.2.1
  have hCD := K1.2.2.2.2.2.1
  have hWK := K1.2.2.2.2.2.2.1
  have hPM : ov_PM (hg 96) (hg 103) (hg 97) (hg 98) (hg 105) (hg 106) (hg 90 22) (hg 90 25) (hg 90 26) (hg 90 28) (hg 90 29) (hg 90 30) := K1.2.2.2.2.2.2.2.1
  have hq1 := K1.2.2.2.2.2.2.2.2.1
  have hq2 := K1.2.2.2.2.2.2.2.2.2
  have hbd : ov_bd (hg, z) = (1000 * (j + 2)) := a3
  have g103 := s103_2 N1
  show ov_R u d (ov_mL nm) 1154 [(0, ov_r (-4)), (1, ov_r 0), (2, ov_r 90), (3, ov_i x3)] [ov_l v5] z hg ov_LQ
  refine ov_blk (ls2 := [(0, ov_r (-4)), (1, ov_r 0), (2, ov_r 90), (3, ov_i x3)]) (st2 := [ov_i (x3 + 1), ov_r (-4), ov_r 90]) (pc2 := 1160) b_313_1154_6 rfl rfl ?_
  refine ov_scl X d_313_1160 (by omega) ?_
  refine ov_blk (ls2 := [(0, ov_r (-4)), (1, ov_r 0), (2, ov_r 90), (3, ov_i x3)]) (st2 := [ov_i (x3 + 2), ov_r (-4), ov_i (ov_xs xs (x3 + 1)), ov_r 90]) (pc2 := 1165) b_313_1161_4 rfl rfl ?_
  refine ov_scl X d_313_1165 (by omega) ?_
  refine ov_blk (ls2 := [(0, ov_r (-4)), (1, ov_r 0), (2, ov_r 90), (3, ov_i x3)]) (st2 := [ov_i (x3 + 3), ov_r (-4), ov_i (ov_xs xs (x3 + 2)), ov_i (ov_xs xs (x3 + 1)), ov_r 90]) (pc2 := 1170) b_313_1166_4 rfl rfl ?_
  refine ov_scl X d_313_1170 (by omega) ?_
  refine ov_cV (as := [ov_i (ov_xs xs (x3 + 1)), ov_i (ov_xs xs (x3 + 2)), ov_i (ov_xs xs (x3 + 3))]) (st := []) (d2 := d - 1) d_313_1171 lk_Law_120 rfl (Nat.le_of_ble_eq_true rfl) (c := 1) (zb_90 N1) (zs_90 N1) ⟨by decide, rfl⟩ (by omega) (c_Mo_does_90 (d - 1) (by omega) U N1 (ov_xs xs (x3 + 1)) (ov_xs xs (x3 + 2)) (ov_xs xs (x3 + 3)) (by omega) (by omega) (by omega) hWT) ?_
  rintro _ z27 h28 ⟨v10, rfl, I29, f9, e11, e12, e13, e14, e15, e16, e17, e18, e19, e20, e21, e22, e23, e24, e25, e26⟩
  have E30 : h28 91 = hg 91 := e11
  have E31 : h28 92 = hg 92 := e12
  have E32 : h28 93 = hg 93 := e13
  have E33 : h28 94 = hg 94 := e14
  have E34 : h28 95 = hg 95 := e15
  have E35 : h28 96 = hg 96 := e16
  have E36 : h28 97 = hg 97 := e17
  have E37 : h28 98 = hg 98 := e18
  have E38 : h28 99 = hg 99 := e19
  have E39 : h28 100 = hg 100 := e20
  have E40 : h28 103 = hg 103 := e21
  have E41 : h28 104 = hg 104 := e22
  have E42 : h28 105 = hg 105 := e23
  have E43 : h28 106 = hg 106 := e24
  have E44 : h28 109 = hg 109 := e25
  have E45 : h28 114 = hg 114 := e26
  show ov_R u d (ov_mL nm) 1174 [(0, ov_r (-4)), (1, ov_r 0), (2, ov_r 90), (3, ov_i x3)] [ov_l v10] z27 h28 ov_LQ
  have f46 : (h28 90 2) = (hg 90 2) ∧ (h28 90 7) = (hg 90 7) ∧ (h28 90 8) = (hg 90 8) ∧ (h28 90 13) = (hg 90 13) ∧ (h28 90 20) = (hg 90 20) ∧ (h28 90 22) = (hg 90 22) ∧ (h28 90 25) = (hg 90 25) ∧ (h28 90 26) = (hg 90 26) ∧ (h28 90 28) = (hg 90 28) ∧ (h28 90 29) = (hg 90 29) ∧ (h28 90 30) = (hg 90 30) ∧ (h28 90 34) = (hg 90 34) := f9
  clear f9
  have K2 : ov_LK (1 + (j + 1)) (4000 * (j + 1)) z27 h28 := ov_LK_r0 K1 I29 E35 E36 E37 E39 E40 E42 E43 (by omega) (by omega) (by omega)
  have b1 : h28 1 1 = hg 1 1 := congrFun (I29.2.2.2 1 (Or.inl (by decide))) 1
  have b7 : h28 (-77) 0 = hg (-77) 0 := congrFun (I29.2.2.2 (-77) (Or.inl (by decide))) 0
  have c2 : h28 2 = hg 2 := I29.2.2.2 2 (Or.inl (by decide))
  have bL : ∀ b : Int, 0 ≤ b → b < 90 → h28 b = hg b := fun b _ q => I29.2.2.2 b (Or.inl q)
  have S2 : ov_S3 h28 := ⟨by rw [c2, E30, a5, a6]; exact s0.1, by rw [E34, a7]; exact s0.2.1, ov_HT_s s0.2.2.1 I (by decide +kernel) eT0 aU bL E35 a96, st_same s0.2.2.2 (fun a a0 a1 a2 => ((bL a (by omega) (by omega)).trans (aU a (by omega))).trans (ov_FF_k I (Or.inl (by omega)) ((by decide +kernel : ∀ n, n < 36 → (4 ≤ n ∧ (n < 14 ∨ 15 ≤ n)) → Nat.testBit 1237940038997149967466889215 n = true) a.toNat (by omega) (by omega)))) (E40.trans (aR 103 (by decide) (by decide))) (fun m _ _ => congrFun (E41.trans (aR 104 (by decide) (by decide))) m) (congrFun (E35.trans (aR 96 (by decide) (by decide))) 5) (by omega)⟩
  refine ov_blk (ls2 := [(0, ov_r (-4)), (1, ov_r 0), (2, ov_r 90), (3, ov_i x3)]) (st2 := []) (pc2 := 1175) b_313_1174_1 rfl rfl ?_
  refine ov_goto (tgt := 1462) d_313_1175 (by decide) ?_
  exact BK _ _ K2 (by omega) (by omega) S2
set_option maxHeartbeats 4000000 in
theorem lw_case_24 {u : ov_U} {nm : String} {d : Nat} (hd : 1000 ≤ d) (U : ov_cap u) {L : Nat} {xs : Nat → Int32} (X : ov_SC u L xs) (hL : L ≤ 3584) (x3 j : Int) (z : ov_Z) (h : ov_H) (K : ov_LK (1 + j) (4000 * j) z h) (e0 : h 1 1 = h 90 2) (gb : h (-77) 0 = 1000 * (j + 1)) (s0 : ov_S3 h) (q : 0 ≤ j ∧ x3 = 7 * j ∧ x3 ≤ L - 7) (BK : ∀ (z5 : ov_Z) (h5 : ov_H), ov_LK (1 + (j + 1)) (4000 * (j + 1)) z5 h5 → h5 1 1 = h5 90 2 → h5 (-77) 0 = 1000 * (j + 2) → ov_S3 h5 → ov_R u d (ov_mL nm) 1462 [(0, ov_r (-4)), (1, ov_r 0), (2, ov_r 90), (3, ov_i x3)] [] z5 h5 ov_LQ) : ov_R u d (ov_mL nm) 1178 [(0, ov_r (-4)), (1, ov_r 0), (2, ov_r 90), (3, ov_i x3)] [] z h ov_LQ := by
  have I := ov_LK_I (M := 1237940038997149967466889215) K
  have hW := ov_LK_W (M := 1237940038997149967466889215) K
  have hJ0 := K.2.2.1
  have s3 := s103_2 K.2.1
  have hb0 : ov_bd (h, z) = 1000 * (j + 1) := gb
  refine ov_blk (ls2 := [(0, ov_r (-4)), (1, ov_r 0), (2, ov_r 90), (3, ov_i x3)]) (st2 := [ov_i (x3 + 1), ov_r (-4), ov_r 0]) (pc2 := 1183) b_313_1178_5 rfl rfl ?_
  refine ov_scl X d_313_1183 (by omega) ?_
  have g1 := ov_xs_g xs (x3 + 1)
  refine ov_blk (ls2 := [(0, ov_r (-4)), (1, ov_r 0), (2, ov_r 90), (3, ov_i x3)]) (st2 := [ov_i (x3 + 2), ov_r (-4), ov_i (ov_xs xs (x3 + 1)), ov_r 0]) (pc2 := 1188) b_313_1184_4 rfl rfl ?_
  refine ov_scl X d_313_1188 (by omega) ?_
  have g2 := ov_xs_g xs (x3 + 2)
  refine ov_blk (ls2 := [(0, ov_r (-4)), (1, ov_r 0), (2, ov_r 90), (3, ov_i x3)]) (st2 := [ov_i (x3 + 3), ov_r (-4), ov_i (ov_xs xs (x3 + 2)), ov_i (ov_xs xs (x3 + 1)), ov_r 0]) (pc2 := 1193) b_313_1189_4 rfl rfl ?_
  refine ov_scl X d_313_1193 (by omega) ?_
  have g3 := ov_xs_g xs (x3 + 3)
  refine ov_blk (ls2 := [(0, ov_r (-4)), (1, ov_r 0), (2, ov_r 90), (3, ov_i x3)]) (st2 := [ov_i (x3 + 4), ov_r (-4), ov_i (ov_xs xs (x3 + 3)), ov_i (ov_xs xs (x3 + 2)), ov_i (ov_xs xs (x3 + 1)), ov_r 0]) (pc2 := 1198) b_313_1194_4 rfl rfl ?_
  refine ov_scl X d_313_1198 (by omega) ?_
  have g4 := ov_xs_g xs (x3 + 4)
  refine ov_ifeq (tgt := 1206) d_313_1199 (by decide) (by omega) (fun c5 => ?_) (fun c5 => ?_)
  · skip
    refine ov_blk (ls2 := [(0, ov_r (-4)), (1, ov_r 0), (2, ov_r 90), (3, ov_i x3)]) (st2 := [ov_i (x3 + 5), ov_r (-4), ov_i 0, ov_i (ov_xs xs (x3 + 3)), ov_i (ov_xs xs (x3 + 2)), ov_i (ov_xs xs (x3 + 1)), ov_r 0]) (pc2 := 1211) b_313_1206_5 rfl rfl ?_
    refine ov_scl X d_313_1211 (by omega) ?_
    have g6 := ov_xs_g xs (x3 + 5)
    refine ov_cV (as := [ov_i (ov_xs xs (x3 + 1)), ov_i (ov_xs xs (x3 + 2)), ov_i (ov_xs xs (x3 + 3)), ov_i 0, ov_i (ov_xs xs (x3 + 5))]) (st := []) (d2 := d - 1) d_313_1212 lk_Law_121 rfl (Nat.le_of_ble_eq_true rfl) (c := 0) (zb_0 I) (zs_0 I) ⟨by decide, rfl⟩ (by omega) (c_OF_wave_0 (d - 1) (by omega) U I (ov_xs xs (x3 + 1)) (ov_xs xs (x3 + 2)) (ov_xs xs (x3 + 3)) 0 (ov_xs xs (x3 + 5)) (by omega) (by omega) (by omega) (by omega) (by omega)) ?_
    rintro _ z9 h10 ⟨v8, rfl, I11, f7⟩
    show ov_R u d (ov_mL nm) 1215 [(0, ov_r (-4)), (1, ov_r 0), (2, ov_r 90), (3, ov_i x3)] [ov_i v8] z9 h10 ov_LQ
    have f12 : (h10 36 7) = (h 36 7) ∧ (h10 1 1) = (h 1 1) ∧ (h10 90 2) = (h 90 2) ∧ (h10 0 10) = (h 0 10) ∧ (h10 0 11) = (h 0 11) ∧ (h10 0 12) = (h 0 12) ∧ (h10 0 13) = (h 0 13) ∧ (h10 3 1) = (h 3 1) ∧ (h10 36 8) = (h 36 8) ∧ (h10 46 3) = (h 46 3) ∧ (h10 46 4) = (h 46 4) ∧ (h10 49 4) = (h 49 4) ∧ (h10 49 5) = (h 49 5) ∧ (h10 64 0) = (h 64 0) ∧ (h10 76 0) = (h 76 0) := f7
    clear f7
    have K1 := ov_LK_c (B := (1000 * (j + 2))) K I11 (fun b h0 _ => ov_FF_ge (by omega)) (by omega) (ov_HR_k hW I11 (by omega) (by omega) (by omega) (by omega)) (by omega)
    refine ov_gho (ov_up h10 (-77) 0 (1000 * (j + 2))) (fun a ha => (ov_up77 ha).symm) ?_
    have a1 : (ov_up h10 (-77) 0 (1000 * (j + 2))) 1 1 = h10 1 1 := congrFun (ov_up77 (by decide)) 1
    have a2 : (ov_up h10 (-77) 0 (1000 * (j + 2))) 90 2 = h10 90 2 := congrFun (ov_up77 (by decide)) 2
    have a3 : (ov_up h10 (-77) 0 (1000 * (j + 2))) (-77) 0 = (1000 * (j + 2)) := ov_uj.1 rfl
    have a5 : (ov_up h10 (-77) 0 (1000 * (j + 2))) 2 = h 2 := (ov_up77 (by decide)).trans (ov_FF_k I11 (Or.inl (by decide)) (by decide +kernel))
    have a6 : (ov_up h10 (-77) 0 (1000 * (j + 2))) 91 = h 91 := (ov_up77 (by decide)).trans ((I11.2.1 91 (by decide) (by decide)).trans (ov_FF_ge (by decide)))
    have a7 : (ov_up h10 (-77) 0 (1000 * (j + 2))) 95 = h 95 := (ov_up77 (by decide)).trans ((I11.2.1 95 (by decide) (by decide)).trans (ov_FF_ge (by decide)))
    have a96 : (ov_up h10 (-77) 0 (1000 * (j + 2))) 96 = h 96 := (ov_up77 (by decide)).trans ((I11.2.1 96 (by decide) (by decide)).trans (ov_FF_ge (by decide)))
    have aU : ∀ b : Int, 0 ≤ b → (ov_up h10 (-77) 0 (1000 * (j + 2))) b = h10 b := fun b hb => ov_up77 hb
    have eT0 : h10 0 10 = h 0 10 := by omega
    have aR : ∀ b : Int, 90 ≤ b → b < 115 → (ov_up h10 (-77) 0 (1000 * (j + 2))) b = h b := fun b b0 b1 => (ov_up77 (by omega)).trans ((I11.2.1 b b0 b1).trans (ov_FF_ge (by omega)))
    have a20 : (ov_up h10 (-77) 0 (1000 * (j + 2))) 90 20 = h 90 20 := congrFun (aR 90 (by decide) (by decide)) 20
    have a4 : (ov_up h10 (-77) 0 (1000 * (j + 2))) 103 2 = h 103 2 := (congrFun (ov_up77 (by decide)) 2).trans (congrFun ((I11.2.1 103 (by decide) (by decide)).trans (ov_FF_ge (by decide))) 2)
    generalize (ov_up h10 (-77) 0 (1000 * (j + 2))) = hg at K1 a1 a2 a3 a4 a5 a6 a7 a96 aU aR a20 ⊢
    have N1 := K1.2.1
    have hWT := K1.2.2.2.2.1
    have hCD := K1.2.2.2.2.2.1
    have hWK := K1.2.2.2.2.2.2.1
    have hPM : ov_PM (hg 96) (hg 103) (hg 97) (hg 98) (hg 105) (hg 106) (hg 90 22) (hg 90 25) (hg 90 26) (hg 90 28) (hg 90 29) (hg 90 30) := K1.2.2.2.2.2.2.2.1
    have hq1 := K1.2.2.2.2.2.2.2.2.1
    have hq2 := K1.2.2.2.2.2.2.2.2.2
    have hbd : ov_bd (hg, z9) = (1000 * (j + 2)) := a3
    have g103 := s103_2 N1
    show ov_R u d (ov_mL nm) 1215 [(0, ov_r (-4)), (1, ov_r 0), (2, ov_r 90), (3, ov_i x3)] [ov_i v8] z9 hg ov_LQ
    refine ov_blk (ls2 := [(0, ov_r (-4)), (1, ov_r 0), (2, ov_r 90), (3, ov_i x3)]) (st2 := [ov_i (x3 + 1), ov_r (-4), ov_r 90]) (pc2 := 1221) b_313_1215_6 rfl rfl ?_
    refine ov_scl X d_313_1221 (by omega) ?_
    refine ov_blk (ls2 := [(0, ov_r (-4)), (1, ov_r 0), (2, ov_r 90), (3, ov_i x3)]) (st2 := [ov_i (x3 + 2), ov_r (-4), ov_i (ov_xs xs (x3 + 1)), ov_r 90]) (pc2 := 1226) b_313_1222_4 rfl rfl ?_
    refine ov_scl X d_313_1226 (by omega) ?_
    refine ov_blk (ls2 := [(0, ov_r (-4)), (1, ov_r 0), (2, ov_r 90), (3, ov_i x3)]) (st2 := [ov_i (x3 + 3), ov_r (-4), ov_i (ov_xs xs (x3 + 2)), ov_i (ov_xs xs (x3 + 1)), ov_r 90]) (pc2 := 1231) b_313_1227_4 rfl rfl ?_
    refine ov_scl X d_313_1231 (by omega) ?_
    refine ov_blk (ls2 := [(0, ov_r (-4)), (1, ov_r 0), (2, ov_r 90), (3, ov_i x3)]) (st2 := [ov_i (x3 + 4), ov_r (-4), ov_i (ov_xs xs (x3 + 3)), ov_i (ov_xs xs (x3 + 2)), ov_i (ov_xs xs (x3 + 1)), ov_r 90]) (pc2 := 1236) b_313_1232_4 rfl rfl ?_
    refine ov_scl X d_313_1236 (by omega) ?_
    refine ov_ifeq (tgt := 1244) d_313_1237 (by decide) (by omega) (fun c17 => ?_) (fun c17 => ?_)
    · skip
      refine ov_blk (ls2 := [(0, ov_r (-4)), (1, ov_r 0), (2, ov_r 90), (3, ov_i x3)]) (st2 := [ov_i (x3 + 5), ov_r (-4), ov_i 0, ov_i (ov_xs xs (x3 + 3)), ov_i (ov_xs xs (x3 + 2)), ov_i (ov_xs xs (x3 + 1)), ov_r 90]) (pc2 := 1249) b_313_1244_5 rfl rfl ?_
      refine ov_scl X d_313_1249 (by omega) ?_
      refine ov_cV (as := [ov_i (ov_xs xs (x3 + 1)), ov_i (ov_xs xs (x3 + 2)), ov_i (ov_xs xs (x3 + 3)), ov_i 0, ov_i (ov_xs xs (x3 + 5))]) (st := []) (d2 := d - 1) d_313_1250 lk_Law_125 rfl (Nat.le_of_ble_eq_true rfl) (c := 1) (zb_90 N1) (zs_90 N1) ⟨by decide, rfl⟩ (by omega) (c_Mo_wave_90 (d - 1) (by omega) U N1 (ov_xs xs (x3 + 1)) (ov_xs xs (x3 + 2)) (ov_xs xs (x3 + 3)) 0 (ov_xs xs (x3 + 5)) (by omega) (by omega) (by omega) (by omega) (by omega) hWT) ?_
      rintro _ z37 h38 ⟨v20, rfl, I39, f19, e21, e22, e23, e24, e25, e26, e27, e28, e29, e30, e31, e32, e33, e34, e35, e36⟩
      have E40 : h38 91 = hg 91 := e21
      have E41 : h38 92 = hg 92 := e22
      have E42 : h38 93 = hg 93 := e23
      have E43 : h38 94 = hg 94 := e24
      have E44 : h38 95 = hg 95 := e25
      have E45 : h38 96 = hg 96 := e26
      have E46 : h38 97 = hg 97 := e27
      have E47 : h38 98 = hg 98 := e28
      have E48 : h38 99 = hg 99 := e29
      have E49 : h38 100 = hg 100 := e30
      have E50 : h38 103 = hg 103 := e31
      have E51 : h38 104 = hg 104 := e32
      have E52 : h38 105 = hg 105 := e33
      have E53 : h38 106 = hg 106 := e34
      have E54 : h38 109 = hg 109 := e35
      have E55 : h38 114 = hg 114 := e36
      show ov_R u d (ov_mL nm) 1253 [(0, ov_r (-4)), (1, ov_r 0), (2, ov_r 90), (3, ov_i x3)] [ov_i v20] z37 h38 ov_LQ
      have f56 : (h38 90 2) = (hg 90 2) ∧ (h38 90 7) = (hg 90 7) ∧ (h38 90 8) = (hg 90 8) ∧ (h38 90 13) = (hg 90 13) ∧ (h38 90 20) = (hg 90 20) ∧ (h38 90 22) = (hg 90 22) ∧ (h38 90 25) = (hg 90 25) ∧ (h38 90 26) = (hg 90 26) ∧ (h38 90 28) = (hg 90 28) ∧ (h38 90 29) = (hg 90 29) ∧ (h38 90 30) = (hg 90 30) ∧ (h38 90 34) = (hg 90 34) ∧ -2147483648 ≤ v20 ∧ v20 ≤ 2147483647 := f19
      clear f19
      have K2 : ov_LK (1 + (j + 1)) (4000 * (j + 1)) z37 h38 := ov_LK_r0 K1 I39 E45 E46 E47 E49 E50 E52 E53 (by omega) (by omega) (by omega)
      have b1 : h38 1 1 = hg 1 1 := congrFun (I39.2.2.2 1 (Or.inl (by decide))) 1
      have b7 : h38 (-77) 0 = hg (-77) 0 := congrFun (I39.2.2.2 (-77) (Or.inl (by decide))) 0
      have c2 : h38 2 = hg 2 := I39.2.2.2 2 (Or.inl (by decide))
      have bL : ∀ b : Int, 0 ≤ b → b < 90 → h38 b = hg b := fun b _ q => I39.2.2.2 b (Or.inl q)
      have S2 : ov_S3 h38 := ⟨by rw [c2, E40, a5, a6]; exact s0.1, by rw [E44, a7]; exact s0.2.1, ov_HT_s s0.2.2.1 I11 (by decide +kernel) eT0 aU bL E45 a96, st_same s0.2.2.2 (fun a a0 a1 a2 => ((bL a (by omega) (by omega)).trans (aU a (by omega))).trans (ov_FF_k I11 (Or.inl (by omega)) ((by decide +kernel : ∀ n, n < 36 → (4 ≤ n ∧ (n < 14 ∨ 15 ≤ n)) → Nat.testBit 1237940038997149967466889215 n = true) a.toNat (by omega) (by omega)))) (E50.trans (aR 103 (by decide) (by decide))) (fun m _ _ => congrFun (E51.trans (aR 104 (by decide) (by decide))) m) (congrFun (E45.trans (aR 96 (by decide) (by decide))) 5) (by omega)⟩
      refine ov_blk (ls2 := [(0, ov_r (-4)), (1, ov_r 0), (2, ov_r 90), (3, ov_i x3)]) (st2 := []) (pc2 := 1254) b_313_1253_1 rfl rfl ?_
      refine ov_goto (tgt := 1462) d_313_1254 (by decide) ?_
      exact BK _ _ K2 (by omega) (by omega) S2
    · omega
  · skip
    refine ov_blk (ls2 := [(0, ov_r (-4)), (1, ov_r 0), (2, ov_r 90), (3, ov_i x3)]) (st2 := [ov_i 1, ov_i (ov_xs xs (x3 + 3)), ov_i (ov_xs xs (x3 + 2)), ov_i (ov_xs xs (x3 + 1)), ov_r 0]) (pc2 := 1203) b_313_1202_1 rfl rfl ?_
    refine ov_goto (tgt := 1207) d_313_1203 (by decide) ?_
    refine ov_blk (ls2 := [(0, ov_r (-4)), (1, ov_r 0), (2, ov_r 90), (3, ov_i x3)]) (st2 := [ov_i (x3 + 5), ov_r (-4), ov_i 1, ov_i (ov_xs xs (x3 + 3)), ov_i (ov_xs xs (x3 + 2)), ov_i (ov_xs xs (x3 + 1)), ov_r 0]) (pc2 := 1211) b_313_1207_4 rfl rfl ?_
    refine ov_scl X d_313_1211 (by omega) ?_
    have g57 := ov_xs_g xs (x3 + 5)
    refine ov_cV (as := [ov_i (ov_xs xs (x3 + 1)), ov_i (ov_xs xs (x3 + 2)), ov_i (ov_xs xs (x3 + 3)), ov_i 1, ov_i (ov_xs xs (x3 + 5))]) (st := []) (d2 := d - 1) d_313_1212 lk_Law_121 rfl (Nat.le_of_ble_eq_true rfl) (c := 0) (zb_0 I) (zs_0 I) ⟨by decide, rfl⟩ (by omega) (c_OF_wave_0 (d - 1) (by omega) U I (ov_xs xs (x3 + 1)) (ov_xs xs (x3 + 2)) (ov_xs xs (x3 + 3)) 1 (ov_xs xs (x3 + 5)) (by omega) (by omega) (by omega) (by omega) (by omega)) ?_
    rintro _ z60 h61 ⟨v59, rfl, I62, f58⟩
    show ov_R u d (ov_mL nm) 1215 [(0, ov_r (-4)), (1, ov_r 0), (2, ov_r 90), (3, ov_i x3)] [ov_i v59] z60 h61 ov_LQ
    have f63 : (h61 36 7) = (h 36 7) ∧ (h61 1 1) = (h 1 1) ∧ (h61 90 2) = (h 90 2) ∧ (h61 0 10) = (h 0 10) ∧ (h61 0 11) = (h 0 11) ∧ (h61 0 12) = (h 0 12) ∧ (h61 0 13) = (h 0 13) ∧ (h61 3 1) = (h 3 1) ∧ (h61 36 8) = (h 36 8) ∧ (h61 46 3) = (h 46 3) ∧ (h61 46 4) = (h 46 4) ∧ (h61 49 4) = (h 49 4) ∧ (h61 49 5) = (h 49 5) ∧ (h61 64 0) = (h 64 0) ∧ (h61 76 0) = (h 76 0) := f58
    clear f58
    have K1 := ov_LK_c (B := (1000 * (j + 2))) K I62 (fun b h0 _ => ov_FF_ge (by omega)) (by omega) (ov_HR_k hW I62 (by omega) (by omega) (by omega) (by omega)) (by omega)
    refine ov_gho (ov_up h61 (-77) 0 (1000 * (j + 2))) (fun a ha => (ov_up77 ha).symm) ?_
    have a1 : (ov_up h61 (-77) 0 (1000 * (j + 2))) 1 1 = h61 1 1 := congrFun (ov_up77 (by decide)) 1
    have a2 : (ov_up h61 (-77) 0 (1000 * (j + 2))) 90 2 = h61 90 2 := congrFun (ov_up77 (by decide)) 2
    have a3 : (ov_up h61 (-77) 0 (1000 * (j + 2))) (-77) 0 = (1000 * (j + 2)) := ov_uj.1 rfl
    have a5 : (ov_up h61 (-77) 0 (1000 * (j + 2))) 2 = h 2 := (ov_up77 (by decide)).trans (ov_FF_k I62 (Or.inl (by decide)) (by decide +kernel))
    have a6 : (ov_up h61 (-77) 0 (1000 * (j + 2))) 91 = h 91 := (ov_up77 (by decide)).trans ((I62.2.1 91 (by decide) (by decide)).trans (ov_FF_ge (by decide)))
    have a7 : (ov_up h61 (-77) 0 (1000 * (j + 2))) 95 = h 95 := (ov_up77 (by decide)).trans ((I62.2.1 95 (by decide) (by decide)).trans (ov_FF_ge (by decide)))
    have a96 : (ov_up h61 (-77) 0 (1000 * (j + 2))) 96 = h 96 := (ov_up77 (by decide)).trans ((I62.2.1 96 (by decide) (by decide)).trans (ov_FF_ge (by decide)))
    have aU : ∀ b : Int, 0 ≤ b → (ov_up h61 (-77) 0 (1000 * (j + 2))) b = h61 b := fun b hb => ov_up77 hb
    have eT0 : h61 0 10 = h 0 10 := by omega
    have aR : ∀ b : Int, 90 ≤ b → b < 115 → (ov_up h61 (-77) 0 (1000 * (j + 2))) b = h b := fun b b0 b1 => (ov_up77 (by omega)).trans ((I62.2.1 b b0 b1).trans (ov_FF_ge (by omega)))
    have a20 : (ov_up h61 (-77) 0 (1000 * (j + 2))) 90 20 = h 90 20 := congrFun (aR 90 (by decide) (by decide)) 20
    have a4 : (ov_up h61 (-77) 0 (1000 * (j + 2))) 103 2 = h 103 2 := (congrFun (ov_up77 (by decide)) 2).trans (congrFun ((I62.2.1 103 (by decide) (by decide)).trans (ov_FF_ge (by decide))) 2)
    generalize (ov_up h61 (-77) 0 (1000 * (j + 2))) = hg at K1 a1 a2 a3 a4 a5 a6 a7 a96 aU aR a20 ⊢
    have N1 := K1.2.1
    have hWT := K1.2.2.2.2.1
    have hCD := K1.2.2.2.2.2.1
    have hWK := K1.2.2.2.2.2.2.1
    have hPM : ov_PM (hg 96) (hg 103) (hg 97) (hg 98) (hg 105) (hg 106) (hg 90 22) (hg 90 25) (hg 90 26) (hg 90 28) (hg 90 29) (hg 90 30) := K1.2.2.2.2.2.2.2.1
    have hq1 := K1.2.2.2.2.2.2.2.2.1
    have hq2 := K1.2.2.2.2.2.2.2.2.2
    have hbd : ov_bd (hg, z60) = (1000 * (j + 2)) := a3
    have g103 := s103_2 N1
    show ov_R u d (ov_mL nm) 1215 [(0, ov_r (-4)), (1, ov_r 0), (2, ov_r 90), (3, ov_i x3)] [ov_i v59] z60 hg ov_LQ
    refine ov_blk (ls2 := [(0, ov_r (-4)), (1, ov_r 0), (2, ov_r 90), (3, ov_i x3)]) (st2 := [ov_i (x3 + 1), ov_r (-4), ov_r 90]) (pc2 := 1221) b_313_1215_6 rfl rfl ?_
    refine ov_scl X d_313_1221 (by omega) ?_
    refine ov_blk (ls2 := [(0, ov_r (-4)), (1, ov_r 0), (2, ov_r 90), (3, ov_i x3)]) (st2 := [ov_i (x3 + 2), ov_r (-4), ov_i (ov_xs xs (x3 + 1)), ov_r 90]) (pc2 := 1226) b_313_1222_4 rfl rfl ?_
    refine ov_scl X d_313_1226 (by omega) ?_
    refine ov_blk (ls2 := [(0, ov_r (-4)), (1, ov_r 0), (2, ov_r 90), (3, ov_i x3)]) (st2 := [ov_i (x3 + 3), ov_r (-4), ov_i (ov_xs xs (x3 + 2)), ov_i (ov_xs xs (x3 + 1)), ov_r 90]) (pc2 := 1231) b_313_1227_4 rfl rfl ?_
    refine ov_scl X d_313_1231 (by omega) ?_
    refine ov_blk (ls2 := [(0, ov_r (-4)), (1, ov_r 0), (2, ov_r 90), (3, ov_i x3)]) (st2 := [ov_i (x3 + 4), ov_r (-4), ov_i (ov_xs xs (x3 + 3)), ov_i (ov_xs xs (x3 + 2)), ov_i (ov_xs xs (x3 + 1)), ov_r 90]) (pc2 := 1236) b_313_1232_4 rfl rfl ?_
    refine ov_scl X d_313_1236 (by omega) ?_
    refine ov_ifeq (tgt := 1244) d_313_1237 (by decide) (by omega) (fun c68 => ?_) (fun c68 => ?_)
    · omega
    · skip
      refine ov_blk (ls2 := [(0, ov_r (-4)), (1, ov_r 0), (2, ov_r 90), (3, ov_i x3)]) (st2 := [ov_i 1, ov_i (ov_xs xs (x3 + 3)), ov_i (ov_xs xs (x3 + 2)), ov_i (ov_xs xs (x3 + 1)), ov_r 90]) (pc2 := 1241) b_313_1240_1 rfl rfl ?_
      refine ov_goto (tgt := 1245) d_313_1241 (by decide) ?_
      refine ov_blk (ls2 := [(0, ov_r (-4)), (1, ov_r 0), (2, ov_r 90), (3, ov_i x3)]) (st2 := [ov_i (x3 + 5), ov_r (-4), ov_i 1, ov_i (ov_xs xs (x3 + 3)), ov_i (ov_xs xs (x3 + 2)), ov_i (ov_xs xs (x3 + 1)), ov_r 90]) (pc2 := 1249) b_313_1245_4 rfl rfl ?_
      refine ov_scl X d_313_1249 (by omega) ?_
      refine ov_cV (as := [ov_i (ov_xs xs (x3 + 1)), ov_i (ov_xs xs (x3 + 2)), ov_i (ov_xs xs (x3 + 3)), ov_i 1, ov_i (ov_xs xs (x3 + 5))]) (st := []) (d2 := d - 1) d_313_1250 lk_Law_125 rfl (Nat.le_of_ble_eq_true rfl) (c := 1) (zb_90 N1) (zs_90 N1) ⟨by decide, rfl⟩ (by omega) (c_Mo_wave_90 (d - 1) (by omega) U N1 (ov_xs xs (x3 + 1)) (ov_xs xs (x3 + 2)) (ov_xs xs (x3 + 3)) 1 (ov_xs xs (x3 + 5)) (by omega) (by omega) (by omega) (by omega) (by omega) hWT) ?_
      rintro _ z88 h89 ⟨v71, rfl, I90, f70, e72, e73, e74, e75, e76, e77, e78, e79, e80, e81, e82, e83, e84, e85, e86, e87⟩
      have E91 : h89 91 = hg 91 := e72
      have E92 : h89 92 = hg 92 := e73
      have E93 : h89 93 = hg 93 := e74
      have E94 : h89 94 = hg 94 := e75
      have E95 : h89 95 = hg 95 := e76
      have E96 : h89 96 = hg 96 := e77
      have E97 : h89 97 = hg 97 := e78
      have E98 : h89 98 = hg 98 := e79
      have E99 : h89 99 = hg 99 := e80
      have E100 : h89 100 = hg 100 := e81
      have E101 : h89 103 = hg 103 := e82
      have E102 : h89 104 = hg 104 := e83
      have E103 : h89 105 = hg 105 := e84
      have E104 : h89 106 = hg 106 := e85
      have E105 : h89 109 = hg 109 := e86
      have E106 : h89 114 = hg 114 := e87
      show ov_R u d (ov_mL nm) 1253 [(0, ov_r (-4)), (1, ov_r 0), (2, ov_r 90), (3, ov_i x3)] [ov_i v71] z88 h89 ov_LQ
      have f107 : (h89 90 2) = (hg 90 2) ∧ (h89 90 7) = (hg 90 7) ∧ (h89 90 8) = (hg 90 8) ∧ (h89 90 13) = (hg 90 13) ∧ (h89 90 20) = (hg 90 20) ∧ (h89 90 22) = (hg 90 22) ∧ (h89 90 25) = (hg 90 25) ∧ (h89 90 26) = (hg 90 26) ∧ (h89 90 28) = (hg 90 28) ∧ (h89 90 29) = (hg 90 29) ∧ (h89 90 30) = (hg 90 30) ∧ (h89 90 34) = (hg 90 34) ∧ -2147483648 ≤ v71 ∧ v71 ≤ 2147483647 := f70
      clear f70
      have K2 : ov_LK (1 + (j + 1)) (4000 * (j + 1)) z88 h89 := ov_LK_r0 K1 I90 E96 E97 E98 E100 E101 E103 E104 (by omega) (by omega) (by omega)
      have b1 : h89 1 1 = hg 1 1 := congrFun (I90.2.2.2 1 (Or.inl (by decide))) 1
      have b7 : h89 (-77) 0 = hg (-77) 0 := congrFun (I90.2.2.2 (-77) (Or.inl (by decide))) 0
      have c2 : h89 2 = hg 2 := I90.2.2.2 2 (Or.inl (by decide))
      have bL : ∀ b : Int, 0 ≤ b → b < 90 → h89 b = hg b := fun b _ q => I90.2.2.2 b (Or.inl q)
      have S2 : ov_S3 h89 := ⟨by rw [c2, E91, a5, a6]; exact s0.1, by rw [E95, a7]; exact s0.2.1, ov_HT_s s0.2.2.1 I62 (by decide +kernel) eT0 aU bL E96 a96, st_same s0.2.2.2 (fun a a0 a1 a2 => ((bL a (by omega) (by omega)).trans (aU a (by omega))).trans (ov_FF_k I62 (Or.inl (by omega)) ((by decide +kernel : ∀ n, n < 36 → (4 ≤ n ∧ (n < 14 ∨ 15 ≤ n)) → Nat.testBit 1237940038997149967466889215 n = true) a.toNat (by omega) (by omega)))) (E101.trans (aR 103 (by decide) (by decide))) (fun m _ _ => congrFun (E102.trans (aR 104 (by decide) (by decide))) m) (congrFun (E96.trans (aR 96 (by decide) (by decide))) 5) (by omega)⟩
      refine ov_blk (ls2 := [(0, ov_r (-4)), (1, ov_r 0), (2, ov_r 90), (3, ov_i x3)]) (st2 := []) (pc2 := 1254) b_313_1253_1 rfl rfl ?_
      refine ov_goto (tgt := 1462) d_313_1254 (by decide) ?_
      exact BK _ _ K2 (by omega) (by omega) S2
set_option maxHeartbeats 4000000 in
theorem lw_case_25 {u : ov_U} {nm : String} {d : Nat} (hd : 1000 ≤ d) (U : ov_cap u) {L : Nat} {xs : Nat → Int32} (X : ov_SC u L xs) (hL : L ≤ 3584) (x3 j : Int) (z : ov_Z) (h : ov_H) (K : ov_LK (1 + j) (4000 * j) z h) (e0 : h 1 1 = h 90 2) (gb : h (-77) 0 = 1000 * (j + 1)) (s0 : ov_S3 h) (q : 0 ≤ j ∧ x3 = 7 * j ∧ x3 ≤ L - 7) (BK : ∀ (z5 : ov_Z) (h5 : ov_H), ov_LK (1 + (j + 1)) (4000 * (j + 1)) z5 h5 → h5 1 1 = h5 90 2 → h5 (-77) 0 = 1000 * (j + 2) → ov_S3 h5 → ov_R u d (ov_mL nm) 1462 [(0, ov_r (-4)), (1, ov_r 0), (2, ov_r 90), (3, ov_i x3)] [] z5 h5 ov_LQ) : ov_R u d (ov_mL nm) 1257 [(0, ov_r (-4)), (1, ov_r 0), (2, ov_r 90), (3, ov_i x3)] [] z h ov_LQ := by
  have I := ov_LK_I (M := 1235521597062110350411825151) K
  have hW := ov_LK_W (M := 1235521597062110350411825151) K
  have hJ0 := K.2.2.1
  have s3 := s103_2 K.2.1
  have hb0 : ov_bd (h, z) = 1000 * (j + 1) := gb
  refine ov_blk (ls2 := [(0, ov_r (-4)), (1, ov_r 0), (2, ov_r 90), (3, ov_i x3)]) (st2 := [ov_r 0]) (pc2 := 1258) b_313_1257_1 rfl rfl ?_
  refine ov_cV (as := []) (st := []) (d2 := d - 1) d_313_1258 lk_Law_126 rfl (Nat.le_of_ble_eq_true rfl) (c := 0) (zb_0 I) (zs_0 I) ⟨by decide, rfl⟩ (by omega) (c_OF_rules_0 (d - 1) (by omega) U I (ov_FF_w (by decide +kernel)) (by omega) (by omega)) ?_
  rintro _ z3 h4 ⟨v2, rfl, I5, f1⟩
  show ov_R u d (ov_mL nm) 1261 [(0, ov_r (-4)), (1, ov_r 0), (2, ov_r 90), (3, ov_i x3)] [ov_i v2] z3 h4 ov_LQ
  have f6 : ((h4 36 7) = 1 → (h4 36 8) = (h4 0 10)) ∧ (h4 1 1) = (h 1 1) ∧ (h4 90 2) = (h 90 2) ∧ (h4 0 10) = (h 0 10) ∧ (h4 0 11) = (h 0 11) ∧ (h4 0 12) = (h 0 12) ∧ (h4 0 13) = (h 0 13) ∧ (h4 3 1) = (h 3 1) ∧ (h4 46 3) = (h 46 3) ∧ (h4 46 4) = (h 46 4) ∧ (h4 49 4) = (h 49 4) ∧ (h4 49 5) = (h 49 5) ∧ (h4 64 0) = (h 64 0) ∧ (h4 76 0) = (h 76 0) := f1
  clear f1
  have K1 := ov_LK_c (B := (1000 * (j + 2))) K I5 (fun b h0 _ => ov_FF_ge (by omega)) (by omega) (ov_HR_k hW I5 (by omega) (by omega) (by omega) (by omega)) (by omega)
  refine ov_gho (ov_up h4 (-77) 0 (1000 * (j + 2))) (fun a ha => (ov_up77 ha).symm) ?_
  have a1 : (ov_up h4 (-77) 0 (1000 * (j + 2))) 1 1 = h4 1 1 := congrFun (ov_up77 (by decide)) 1
  have a2 : (ov_up h4 (-77) 0 (1000 * (j + 2))) 90 2 = h4 90 2 := congrFun (ov_up77 (by decide)) 2
  have a3 : (ov_up h4 (-77) 0 (1000 * (j + 2))) (-77) 0 = (1000 * (j + 2)) := ov_uj.1 rfl
  have a5 : (ov_up h4 (-77) 0 (1000 * (j + 2))) 2 = h 2 := (ov_up77 (by decide)).trans (ov_FF_k I5 (Or.inl (by decide)) (by decide +kernel))
  have a6 : (ov_up h4 (-77) 0 (1000 * (j + 2))) 91 = h 91 := (ov_up77 (by decide)).trans ((I5.2.1 91 (by decide) (by decide)).trans (ov_FF_ge (by decide)))
  have a7 : (ov_up h4 (-77) 0 (1000 * (j + 2))) 95 = h 95 := (ov_up77 (by decide)).trans ((I5.2.1 95 (by decide) (by decide)).trans (ov_FF_ge (by decide)))
  have a96 : (ov_up h4 (-77) 0 (1000 * (j + 2))) 96 = h 96 := (ov_up77 (by decide)).trans ((I5.2.1 96 (by decide) (by decide)).trans (ov_FF_ge (by decide)))
  have aU : ∀ b : Int, 0 ≤ b → (ov_up h4 (-77) 0 (1000 * (j + 2))) b = h4 b := fun b hb => ov_up77 hb
  have eT0 : h4 0 10 = h 0 10 := by omega
  have aR : ∀ b : Int, 90 ≤ b → b < 115 → (ov_up h4 (-77) 0 (1000 * (j + 2))) b = h b := fun b b0 b1 => (ov_up77 (by omega)).trans ((I5.2.1 b b0 b1).trans (ov_FF_ge (by omega)))
  have a20 : (ov_up h4 (-77) 0 (1000 * (j + 2))) 90 20 = h 90 20 := congrFun (aR 90 (by decide) (by decide)) 20
  have a4 : (ov_up h4 (-77) 0 (1000 * (j + 2))) 103 2 = h 103 2 := (congrFun (ov_up77 (by decide)) 2).trans (congrFun ((I5.2.1 103 (by decide) (by decide)).trans (ov_FF_ge (by decide))) 2)
  generalize (ov_up h4 (-77) 0 (1000 * (j + 2))) = hg at K1 a1 a2 a3 a4 a5 a6 a7 a96 aU aR a20 ⊢
  have N1 := K1.2.1
  have hWT := K1.2.2.2.2.1
  have hCD := K1.2.2.2.2.2.1
  have hWK := K1.2.2.2.2.2.2.1
  have hPM : ov_PM (hg 96) (hg 103) (hg 97) (hg 98) (hg 105) (hg 106) (hg 90 22) (hg 90 25) (hg 90 26) (hg 90 28) (hg 90 29) (hg 90 30) := K1.2.2.2.2.2.2.2.1
  have hq1 := K1.2.2.2.2.2.2.2.2.1
  have hq2 := K1.2.2.2.2.2.2.2.2.2
  have hbd : ov_bd (hg, z3) = (1000 * (j + 2)) := a3
  have g103 := s103_2 N1
  show ov_R u d (ov_mL nm) 1261 [(0, ov_r (-4)), (1, ov_r 0), (2, ov_r 90), (3, ov_i x3)] [ov_i v2] z3 hg ov_LQ
  refine ov_blk (ls2 := [(0, ov_r (-4)), (1, ov_r 0), (2, ov_r 90), (3, ov_i x3)]) (st2 := [ov_r 90]) (pc2 := 1263) b_313_1261_2 rfl rfl ?_
  refine ov_cV (as := []) (st := []) (d2 := d - 1) d_313_1263 lk_Law_129 rfl (Nat.le_of_ble_eq_true rfl) (c := 1) (zb_90 N1) (zs_90 N1) ⟨by decide, rfl⟩ (by omega) (c_Mo_rules_90 (d - 1) (by omega) U N1 (by show 0 ≤ (hg 90 25) ∧ (hg 90 25) ≤ 1000000000; omega) hWT hCD hPM) ?_
  rintro _ z24 h25 ⟨v8, rfl, I26, f7, e9, e10, e11, e12, e13, e14, e15, e16, e17, e18, e19, e20, e21, e22, y23⟩
  have E27 : h25 91 = hg 91 := e9
  have E28 : h25 92 = hg 92 := e10
  have E29 : h25 93 = hg 93 := e11
  have E30 : h25 94 = hg 94 := e12
  have E31 : h25 95 = hg 95 := e13
  have E32 : h25 96 = hg 96 := e14
  have E33 : h25 97 = hg 97 := e15
  have E34 : h25 98 = hg 98 := e16
  have E35 : h25 99 = hg 99 := e17
  have E36 : h25 100 = hg 100 := e18
  have E37 : h25 103 = hg 103 := e19
  have E38 : h25 104 = hg 104 := e20
  have E39 : h25 109 = hg 109 := e21
  have E40 : h25 114 = hg 114 := e22
  show ov_R u d (ov_mL nm) 1266 [(0, ov_r (-4)), (1, ov_r 0), (2, ov_r 90), (3, ov_i x3)] [ov_i v8] z24 h25 ov_LQ
  have f41 : (h25 90 2) = (hg 90 2) ∧ (h25 90 7) = (hg 90 7) ∧ (h25 90 8) = (hg 90 8) ∧ (h25 90 13) = (hg 90 13) ∧ (h25 90 20) = (hg 90 20) ∧ (h25 90 22) = (hg 90 22) ∧ (h25 90 34) = (hg 90 34) ∧ (hg 90 25) ≤ (h25 90 25) ∧ (h25 90 25) ≤ (hg 90 25) + 4 ∧ -1 ≤ v8 ∧ v8 ≤ 4 := f7
  clear f7
  have y23_ : ov_PM (hg 96) (hg 103) (hg 97) (hg 98) (h25 105) (h25 106) (h25 90 22) (h25 90 25) (h25 90 26) (h25 90 28) (h25 90 29) (h25 90 30) := y23
  have K2 : ov_LK (1 + (j + 1)) (4000 * (j + 1)) z24 h25 := ov_LK_rm (g := 4) K1 I26 E32 E33 E34 E36 E37 y23_ (by omega) (by omega) (by omega)
  have b1 : h25 1 1 = hg 1 1 := congrFun (I26.2.2.2 1 (Or.inl (by decide))) 1
  have b7 : h25 (-77) 0 = hg (-77) 0 := congrFun (I26.2.2.2 (-77) (Or.inl (by decide))) 0
  have c2 : h25 2 = hg 2 := I26.2.2.2 2 (Or.inl (by decide))
  have bL : ∀ b : Int, 0 ≤ b → b < 90 → h25 b = hg b := fun b _ q => I26.2.2.2 b (Or.inl q)
  have S2 : ov_S3 h25 := ⟨by rw [c2, E27, a5, a6]; exact s0.1, by rw [E31, a7]; exact s0.2.1, ov_HT_s s0.2.2.1 I5 (by decide +kernel) eT0 aU bL E32 a96, st_same s0.2.2.2 (fun a a0 a1 a2 => ((bL a (by omega) (by omega)).trans (aU a (by omega))).trans (ov_FF_k I5 (Or.inl (by omega)) ((by decide +kernel : ∀ n, n < 36 → (4 ≤ n ∧ (n < 14 ∨ 15 ≤ n)) → Nat.testBit 1235521597062110350411825151 n = true) a.toNat (by omega) (by omega)))) (E37.trans (aR 103 (by decide) (by decide))) (fun m _ _ => congrFun (E38.trans (aR 104 (by decide) (by decide))) m) (congrFun (E32.trans (aR 96 (by decide) (by decide))) 5) (by omega)⟩
  refine ov_blk (ls2 := [(0, ov_r (-4)), (1, ov_r 0), (2, ov_r 90), (3, ov_i x3)]) (st2 := []) (pc2 := 1267) b_313_1266_1 rfl rfl ?_
  refine ov_goto (tgt := 1462) d_313_1267 (by decide) ?_
  exact BK _ _ K2 (by omega) (by omega) S2
set_option maxHeartbeats 4000000 in
theorem lw_case_26 {u : ov_U} {nm : String} {d : Nat} (hd : 1000 ≤ d) (U : ov_cap u) {L : Nat} {xs : Nat → Int32} (X : ov_SC u L xs) (hL : L ≤ 3584) (x3 j : Int) (z : ov_Z) (h : ov_H) (K : ov_LK (1 + j) (4000 * j) z h) (e0 : h 1 1 = h 90 2) (gb : h (-77) 0 = 1000 * (j + 1)) (s0 : ov_S3 h) (q : 0 ≤ j ∧ x3 = 7 * j ∧ x3 ≤ L - 7) (BK : ∀ (z5 : ov_Z) (h5 : ov_H), ov_LK (1 + (j + 1)) (4000 * (j + 1)) z5 h5 → h5 1 1 = h5 90 2 → h5 (-77) 0 = 1000 * (j + 2) → ov_S3 h5 → ov_R u d (ov_mL nm) 1462 [(0, ov_r (-4)), (1, ov_r 0), (2, ov_r 90), (3, ov_i x3)] [] z5 h5 ov_LQ) : ov_R u d (ov_mL nm) 1270 [(0, ov_r (-4)), (1, ov_r 0), (2, ov_r 90), (3, ov_i x3)] [] z h ov_LQ := by
  have I := ov_LK_I (M := 1237940038997149967466888815) K
  have hW := ov_LK_W (M := 1237940038997149967466888815) K
  have hJ0 := K.2.2.1
  have s3 := s103_2 K.2.1
  have hb0 : ov_bd (h, z) = 1000 * (j + 1) := gb
  refine ov_blk (ls2 := [(0, ov_r (-4)), (1, ov_r 0), (2, ov_r 90), (3, ov_i x3)]) (st2 := [ov_i (x3 + 1), ov_r (-4), ov_r 0]) (pc2 := 1275) b_313_1270_5 rfl rfl ?_
  refine ov_scl X d_313_1275 (by omega) ?_
  have g1 := ov_xs_g xs (x3 + 1)
  refine ov_blk (ls2 := [(0, ov_r (-4)), (1, ov_r 0), (2, ov_r 90), (3, ov_i x3)]) (st2 := [ov_i (x3 + 2), ov_r (-4), ov_i (ov_xs xs (x3 + 1)), ov_r 0]) (pc2 := 1280) b_313_1276_4 rfl rfl ?_
  refine ov_scl X d_313_1280 (by omega) ?_
  have g2 := ov_xs_g xs (x3 + 2)
  refine ov_blk (ls2 := [(0, ov_r (-4)), (1, ov_r 0), (2, ov_r 90), (3, ov_i x3)]) (st2 := [ov_i (x3 + 3), ov_r (-4), ov_i (ov_xs xs (x3 + 2)), ov_i (ov_xs xs (x3 + 1)), ov_r 0]) (pc2 := 1285) b_313_1281_4 rfl rfl ?_
  refine ov_scl X d_313_1285 (by omega) ?_
  have g3 := ov_xs_g xs (x3 + 3)
  refine ov_cV (as := [ov_i (ov_xs xs (x3 + 1)), ov_i (ov_xs xs (x3 + 2)), ov_i (ov_xs xs (x3 + 3))]) (st := []) (d2 := d - 1) d_313_1286 lk_Law_130 rfl (Nat.le_of_ble_eq_true rfl) (c := 0) (zb_0 I) (zs_0 I) ⟨by decide, rfl⟩ (by omega) (c_OF_was_0_t (d - 1) (by omega) U I (ov_FF_w (by decide +kernel)) (ov_xs xs (x3 + 1)) (ov_xs xs (x3 + 2)) (ov_xs xs (x3 + 3)) (by omega) (by omega) (by omega)) ?_
  rintro _ z6 h7 ⟨v5, rfl, I8, f4, xc⟩
  show ov_R u d (ov_mL nm) 1289 [(0, ov_r (-4)), (1, ov_r 0), (2, ov_r 90), (3, ov_i x3)] [ov_i v5] z6 h7 ov_LQ
  have f9 : (v5 = 0 ∨ v5 = 1) ∧ (h7 36 7) = (h 36 7) ∧ (h7 1 1) = (h 1 1) ∧ (h7 90 2) = (h 90 2) ∧ (h7 0 10) = (h 0 10) ∧ (h7 0 11) = (h 0 11) ∧ (h7 0 12) = (h 0 12) ∧ (h7 0 13) = (h 0 13) ∧ (h7 3 1) = (h 3 1) ∧ (h7 36 8) = (h 36 8) ∧ (h7 46 3) = (h 46 3) ∧ (h7 46 4) = (h 46 4) ∧ (h7 49 4) = (h 49 4) ∧ (h7 49 5) = (h 49 5) ∧ (h7 64 0) = (h 64 0) ∧ (h7 76 0) = (h 76 0) := f4
  clear f4
  have K1 := ov_LK_c (B := (1000 * (j + 2))) K I8 (fun b h0 _ => ov_FF_ge (by omega)) (by omega) (ov_HR_k hW I8 (by omega) (by omega) (by omega) (by omega)) (by omega)
  refine ov_gho (ov_up h7 (-77) 0 (1000 * (j + 2))) (fun a ha => (ov_up77 ha).symm) ?_
  have a1 : (ov_up h7 (-77) 0 (1000 * (j + 2))) 1 1 = h7 1 1 := congrFun (ov_up77 (by decide)) 1
  have a2 : (ov_up h7 (-77) 0 (1000 * (j + 2))) 90 2 = h7 90 2 := congrFun (ov_up77 (by decide)) 2
  have a3 : (ov_up h7 (-77) 0 (1000 * (j + 2))) (-77) 0 = (1000 * (j + 2)) := ov_uj.1 rfl
  have a5 : (ov_up h7 (-77) 0 (1000 * (j + 2))) 2 = h 2 := (ov_up77 (by decide)).trans (ov_FF_k I8 (Or.inl (by decide)) (by decide +kernel))
  have a6 : (ov_up h7 (-77) 0 (1000 * (j + 2))) 91 = h 91 := (ov_up77 (by decide)).trans ((I8.2.1 91 (by decide) (by decide)).trans (ov_FF_ge (by decide)))
  have a7 : (ov_up h7 (-77) 0 (1000 * (j + 2))) 95 = h 95 := (ov_up77 (by decide)).trans ((I8.2.1 95 (by decide) (by decide)).trans (ov_FF_ge (by decide)))
  have a96 : (ov_up h7 (-77) 0 (1000 * (j + 2))) 96 = h 96 := (ov_up77 (by decide)).trans ((I8.2.1 96 (by decide) (by decide)).trans (ov_FF_ge (by decide)))
  have aU : ∀ b : Int, 0 ≤ b → (ov_up h7 (-77) 0 (1000 * (j + 2))) b = h7 b := fun b hb => ov_up77 hb
  have eT0 : h7 0 10 = h 0 10 := by omega
  have aR : ∀ b : Int, 90 ≤ b → b < 115 → (ov_up h7 (-77) 0 (1000 * (j + 2))) b = h b := fun b b0 b1 => (ov_up77 (by omega)).trans ((I8.2.1 b b0 b1).trans (ov_FF_ge (by omega)))
  have a20 : (ov_up h7 (-77) 0 (1000 * (j + 2))) 90 20 = h 90 20 := congrFun (aR 90 (by decide) (by decide)) 20
  have a4 : (ov_up h7 (-77) 0 (1000 * (j + 2))) 103 2 = h 103 2 := (congrFun (ov_up77 (by decide)) 2).trans (congrFun ((I8.2.1 103 (by decide) (by decide)).trans (ov_FF_ge (by decide))) 2)
  generalize (ov_up h7 (-77) 0 (1000 * (j + 2))) = hg at K1 a1 a2 a3 a4 a5 a6 a7 a96 aU aR a20 ⊢
  have N1 := K1.2.1
  have hWT := K1.2.2.2.2.1
  have hCD := K1.2.2.2.2.2.1
  have hWK := K1.2.2.2.2.2.2.1
  have hPM : ov_PM (hg 96) (hg 103) (hg 97) (hg 98) (hg 105) (hg 106) (hg 90 22) (hg 90 25) (hg 90 26) (hg 90 28) (hg 90 29) (hg 90 30) := K1.2.2.2.2.2.2.2.1
  have hq1 := K1.2.2.2.2.2.2.2.2.1
  have hq2 := K1.2.2.2.2.2.2.2.2.2
  have hbd : ov_bd (hg, z6) = (1000 * (j + 2)) := a3
  have g103 := s103_2 N1
  show ov_R u d (ov_mL nm) 1289 [(0, ov_r (-4)), (1, ov_r 0), (2, ov_r 90), (3, ov_i x3)] [ov_i v5] z6 hg ov_LQ
  refine ov_blk (ls2 := [(0, ov_r (-4)), (1, ov_r 0), (2, ov_r 90), (3, ov_i x3)]) (st2 := [ov_i (x3 + 1), ov_r (-4), ov_r 90]) (pc2 := 1295) b_313_1289_6 rfl rfl ?_
  refine ov_scl X d_313_1295 (by omega) ?_
  refine ov_blk (ls2 := [(0, ov_r (-4)), (1, ov_r 0), (2, ov_r 90), (3, ov_i x3)]) (st2 := [ov_i (x3 + 2), ov_r (-4), ov_i (ov_xs xs (x3 + 1)), ov_r 90]) (pc2 := 1300) b_313_1296_4 rfl rfl ?_
  refine ov_scl X d_313_1300 (by omega) ?_
  refine ov_blk (ls2 := [(0, ov_r (-4)), (1, ov_r 0), (2, ov_r 90), (3, ov_i x3)]) (st2 := [ov_i (x3 + 3), ov_r (-4), ov_i (ov_xs xs (x3 + 2)), ov_i (ov_xs xs (x3 + 1)), ov_r 90]) (pc2 := 1305) b_313_1301_4 rfl rfl ?_
  refine ov_scl X d_313_1305 (by omega) ?_
  refine ov_cV (as := [ov_i (ov_xs xs (x3 + 1)), ov_i (ov_xs xs (x3 + 2)), ov_i (ov_xs xs (x3 + 3))]) (st := []) (d2 := d - 1) d_313_1306 lk_Law_134 rfl (Nat.le_of_ble_eq_true rfl) (c := 1) (zb_90 N1) (zs_90 N1) ⟨by decide, rfl⟩ (by omega) (c_Mo_was_90_t (d - 1) (by omega) U N1 (ov_xs xs (x3 + 1)) (ov_xs xs (x3 + 2)) (ov_xs xs (x3 + 3)) (by omega) (by omega) (by omega)) ?_
  rintro _ z32 h33 ⟨v14, rfl, I34, f13, e15, e16, e17, e18, e19, e20, e21, e22, e23, e24, e25, e26, e27, e28, e29, y30, y31⟩
  have E35 : h33 91 = hg 91 := e15
  have E36 : h33 92 = hg 92 := e16
  have E37 : h33 93 = hg 93 := e17
  have E38 : h33 94 = hg 94 := e18
  have E39 : h33 95 = hg 95 := e19
  have E40 : h33 96 = hg 96 := e20
  have E41 : h33 97 = hg 97 := e21
  have E42 : h33 98 = hg 98 := e22
  have E43 : h33 99 = hg 99 := e23
  have E44 : h33 100 = hg 100 := e24
  have E45 : h33 104 = hg 104 := e25
  have E46 : h33 105 = hg 105 := e26
  have E47 : h33 106 = hg 106 := e27
  have E48 : h33 109 = hg 109 := e28
  have E49 : h33 114 = hg 114 := e29
  show ov_R u d (ov_mL nm) 1309 [(0, ov_r (-4)), (1, ov_r 0), (2, ov_r 90), (3, ov_i x3)] [ov_i v14] z32 h33 ov_LQ
  have f50 : (h33 90 2) = (hg 90 2) ∧ (h33 90 7) = (hg 90 7) ∧ (h33 90 8) = (hg 90 8) ∧ (h33 90 13) = (hg 90 13) ∧ (h33 90 20) = (hg 90 20) ∧ (h33 90 22) = (hg 90 22) ∧ (h33 90 25) = (hg 90 25) ∧ (h33 90 26) = (hg 90 26) ∧ (h33 90 28) = (hg 90 28) ∧ (h33 90 29) = (hg 90 29) ∧ (h33 90 30) = (hg 90 30) ∧ (h33 90 34) = (hg 90 34) ∧ (v14 = 0 ∨ v14 = 1) := f13
  clear f13
  have y30_ : ∀ j : Int, 4 ≤ j → j ≤ 57 → (h33 103) j = (hg 103) j := y30
  have y31_ : (v14 = 0 ∧ ¬ (0 ≤ (ov_xs xs (x3 + 1)) ∧ (ov_xs xs (x3 + 1)) < (hg 96 0) ∧ 0 ≤ (ov_xs xs (x3 + 2)) ∧ (ov_xs xs (x3 + 2)) < (hg 96 1) ∧ 0 ≤ (ov_xs xs (x3 + 3)) ∧ (ov_xs xs (x3 + 3)) ≤ 9999 ∧ ¬ (hg 103 59) = 8) ∧ (h33 103) = (hg 103)) ∨ (v14 = 1 ∧ (0 ≤ (ov_xs xs (x3 + 1)) ∧ (ov_xs xs (x3 + 1)) < (hg 96 0) ∧ 0 ≤ (ov_xs xs (x3 + 2)) ∧ (ov_xs xs (x3 + 2)) < (hg 96 1) ∧ 0 ≤ (ov_xs xs (x3 + 3)) ∧ (ov_xs xs (x3 + 3)) ≤ 9999 ∧ ¬ (hg 103 59) = 8) ∧ (h33 103) = ov_rs (ov_rs (ov_rs (ov_rs ((hg 103)) (92 + 3 * (hg 103 59)) (ov_xs xs (x3 + 1))) (92 + 3 * (hg 103 59) + 1) (ov_xs xs (x3 + 2))) (92 + 3 * (hg 103 59) + 2) (ov_xs xs (x3 + 3))) 59 ((hg 103 59) + 1)) := y31
  have K2 : ov_LK (1 + (j + 1)) (4000 * (j + 1)) z32 h33 := ov_LK_r4 K1 I34 E40 E41 E42 E44 y30_ E46 E47 (by omega) (by omega) (by omega)
  have b1 : h33 1 1 = hg 1 1 := congrFun (I34.2.2.2 1 (Or.inl (by decide))) 1
  have b7 : h33 (-77) 0 = hg (-77) 0 := congrFun (I34.2.2.2 (-77) (Or.inl (by decide))) 0
  have c2 : h33 2 = hg 2 := I34.2.2.2 2 (Or.inl (by decide))
  have bL : ∀ b : Int, 0 ≤ b → b < 90 → h33 b = hg b := fun b _ q => I34.2.2.2 b (Or.inl q)
  have sx : v5 = v14 ∧ st_R h33 := st_was_t s0.2.2.2 (st_G_of I) s0.2.2.1 (rg_0_10 I) xc y31_ (fun a a0 a1 => (bL a a0 a1).trans (aU a a0)) (fun a a0 a1 a2 a3 => ov_FF_k I8 (Or.inl (by omega)) ((by decide +kernel : ∀ n, n < 36 → (5 ≤ n ∧ (n < 7 ∨ 9 ≤ n) ∧ (n < 14 ∨ 15 ≤ n)) → Nat.testBit 1237940038997149967466888815 n = true) a.toNat (by omega) (by omega))) aR E40 E45 (by omega)
  have er := sx.1
  have S2 : ov_S3 h33 := ⟨by rw [c2, E35, a5, a6]; exact s0.1, by rw [E39, a7]; exact s0.2.1, ov_HT_s s0.2.2.1 I8 (by decide +kernel) eT0 aU bL E40 a96, sx.2⟩
  refine ov_blk (ls2 := [(0, ov_r (-4)), (1, ov_r 0), (2, ov_r 90), (3, ov_i x3)]) (st2 := []) (pc2 := 1310) b_313_1309_1 rfl rfl ?_
  refine ov_goto (tgt := 1462) d_313_1310 (by decide) ?_
  exact BK _ _ K2 (by omega) (by omega) S2
set_option maxHeartbeats 4000000 in
theorem lw_case_27 {u : ov_U} {nm : String} {d : Nat} (hd : 1000 ≤ d) (U : ov_cap u) {L : Nat} {xs : Nat → Int32} (X : ov_SC u L xs) (hL : L ≤ 3584) (x3 j : Int) (z : ov_Z) (h : ov_H) (K : ov_LK (1 + j) (4000 * j) z h) (e0 : h 1 1 = h 90 2) (gb : h (-77) 0 = 1000 * (j + 1)) (s0 : ov_S3 h) (q : 0 ≤ j ∧ x3 = 7 * j ∧ x3 ≤ L - 7) (BK : ∀ (z5 : ov_Z) (h5 : ov_H), ov_LK (1 + (j + 1)) (4000 * (j + 1)) z5 h5 → h5 1 1 = h5 90 2 → h5 (-77) 0 = 1000 * (j + 2) → ov_S3 h5 → ov_R u d (ov_mL nm) 1462 [(0, ov_r (-4)), (1, ov_r 0), (2, ov_r 90), (3, ov_i x3)] [] z5 h5 ov_LQ) : ov_R u d (ov_mL nm) 1313 [(0, ov_r (-4)), (1, ov_r 0), (2, ov_r 90), (3, ov_i x3)] [] z h ov_LQ := by
  have I := ov_LK_I (M := 1237940038997149967466889215) K
  have hW := ov_LK_W (M := 1237940038997149967466889215) K
  have hJ0 := K.2.2.1
  have s3 := s103_2 K.2.1
  have hb0 : ov_bd (h, z) = 1000 * (j + 1) := gb
  refine ov_blk (ls2 := [(0, ov_r (-4)), (1, ov_r 0), (2, ov_r 90), (3, ov_i x3)]) (st2 := [ov_i (x3 + 1), ov_r (-4), ov_r 0]) (pc2 := 1318) b_313_1313_5 rfl rfl ?_
  refine ov_scl X d_313_1318 (by omega) ?_
  have g1 := ov_xs_g xs (x3 + 1)
  refine ov_cV (as := [ov_i (ov_xs xs (x3 + 1))]) (st := []) (d2 := d - 1) d_313_1319 lk_Law_135 rfl (Nat.le_of_ble_eq_true rfl) (c := 0) (zb_0 I) (zs_0 I) ⟨by decide, rfl⟩ (by omega) (c_OF_fits_0_t (ov_FF_fT (Or.inl rfl) (by decide +kernel)) (ov_FF_fT (Or.inr rfl) (by decide +kernel)) (d - 1) (by omega) U I (ov_xs xs (x3 + 1)) (by omega) (by omega)) ?_
  rintro _ z4 h5 ⟨v3, rfl, I6, f2, xc⟩
  show ov_R u d (ov_mL nm) 1322 [(0, ov_r (-4)), (1, ov_r 0), (2, ov_r 90), (3, ov_i x3)] [ov_l v3] z4 h5 ov_LQ
  have f7 : (h5 36 7) = (h 36 7) ∧ (h5 1 1) = (h 1 1) ∧ (h5 90 2) = (h 90 2) ∧ (h5 0 10) = (h 0 10) ∧ (h5 0 11) = (h 0 11) ∧ (h5 0 12) = (h 0 12) ∧ (h5 0 13) = (h 0 13) ∧ (h5 3 1) = (h 3 1) ∧ (h5 36 8) = (h 36 8) ∧ (h5 49 4) = (h 49 4) ∧ (h5 49 5) = (h 49 5) ∧ (h5 64 0) = (h 64 0) ∧ (h5 76 0) = (h 76 0) := f2
  clear f2
  have K1 := ov_LK_c (B := (1000 * (j + 2))) K I6 (fun b h0 _ => ov_FF_ge (by omega)) (by omega) (ov_HR_k hW I6 (by omega) (by omega) (by omega) (by omega)) (by omega)
  refine ov_gho (ov_up h5 (-77) 0 (1000 * (j + 2))) (fun a ha => (ov_up77 ha).symm) ?_
  have a1 : (ov_up h5 (-77) 0 (1000 * (j + 2))) 1 1 = h5 1 1 := congrFun (ov_up77 (by decide)) 1
  have a2 : (ov_up h5 (-77) 0 (1000 * (j + 2))) 90 2 = h5 90 2 := congrFun (ov_up77 (by decide)) 2
  have a3 : (ov_up h5 (-77) 0 (1000 * (j + 2))) (-77) 0 = (1000 * (j + 2)) := ov_uj.1 rfl
  have a5 : (ov_up h5 (-77) 0 (1000 * (j + 2))) 2 = h 2 := (ov_up77 (by decide)).trans (ov_FF_k I6 (Or.inl (by decide)) (by decide +kernel))
  have a6 : (ov_up h5 (-77) 0 (1000 * (j + 2))) 91 = h 91 := (ov_up77 (by decide)).trans ((I6.2.1 91 (by decide) (by decide)).trans (ov_FF_ge (by decide)))
  have a7 : (ov_up h5 (-77) 0 (1000 * (j + 2))) 95 = h 95 := (ov_up77 (by decide)).trans ((I6.2.1 95 (by decide) (by decide)).trans (ov_FF_ge (by decide)))
  have a96 : (ov_up h5 (-77) 0 (1000 * (j + 2))) 96 = h 96 := (ov_up77 (by decide)).trans ((I6.2.1 96 (by decide) (by decide)).trans (ov_FF_ge (by decide)))
  have aU : ∀ b : Int, 0 ≤ b → (ov_up h5 (-77) 0 (1000 * (j + 2))) b = h5 b := fun b hb => ov_up77 hb
  have eT0 : h5 0 10 = h 0 10 := by omega
  have aR : ∀ b : Int, 90 ≤ b → b < 115 → (ov_up h5 (-77) 0 (1000 * (j + 2))) b = h b := fun b b0 b1 => (ov_up77 (by omega)).trans ((I6.2.1 b b0 b1).trans (ov_FF_ge (by omega)))
  have a20 : (ov_up h5 (-77) 0 (1000 * (j + 2))) 90 20 = h 90 20 := congrFun (aR 90 (by decide) (by decide)) 20
  have a4 : (ov_up h5 (-77) 0 (1000 * (j + 2))) 103 2 = h 103 2 := (congrFun (ov_up77 (by decide)) 2).trans (congrFun ((I6.2.1 103 (by decide) (by decide)).trans (ov_FF_ge (by decide))) 2)
  generalize (ov_up h5 (-77) 0 (1000 * (j + 2))) = hg at K1 a1 a2 a3 a4 a5 a6 a7 a96 aU aR a20 ⊢
  have N1 := K1.2.1
  have hWT := K1.2.2.2.2.1
  have hCD := K1.2.2.2.2.2.1
  have hWK := K1.2.2.2.2.2.2.1
  have hPM : ov_PM (hg 96) (hg 103) (hg 97) (hg 98) (hg 105) (hg 106) (hg 90 22) (hg 90 25) (hg 90 26) (hg 90 28) (hg 90 29) (hg 90 30) := K1.2.2.2.2.2.2.2.1
  have hq1 := K1.2.2.2.2.2.2.2.2.1
  have hq2 := K1.2.2.2.2.2.2.2.2.2
  have hbd : ov_bd (hg, z4) = (1000 * (j + 2)) := a3
  have g103 := s103_2 N1
  show ov_R u d (ov_mL nm) 1322 [(0, ov_r (-4)), (1, ov_r 0), (2, ov_r 90), (3, ov_i x3)] [ov_l v3] z4 hg ov_LQ
  refine ov_blk (ls2 := [(0, ov_r (-4)), (1, ov_r 0), (2, ov_r 90), (3, ov_i x3)]) (st2 := [ov_i (x3 + 1), ov_r (-4), ov_r 90, ov_l v3]) (pc2 := 1327) b_313_1322_5 rfl rfl ?_
  refine ov_scl X d_313_1327 (by omega) ?_
  refine ov_cV (as := [ov_i (ov_xs xs (x3 + 1))]) (st := [ov_l v3]) (d2 := d - 1) d_313_1328 lk_Law_139 rfl (Nat.le_of_ble_eq_true rfl) (c := 1) (zb_90 N1) (zs_90 N1) ⟨by decide, rfl⟩ (by omega) (c_Mo_fits_90_t (d - 1) (by omega) U N1 (ov_xs xs (x3 + 1)) (by omega) hWT) ?_
  rintro _ z27 h28 ⟨v10, rfl, I29, f9, e11, e12, e13, e14, e15, e16, e17, e18, e19, e20, e21, e22, e23, e24, e25, e26⟩
  have E30 : h28 91 = hg 91 := e11
  have E31 : h28 92 = hg 92 := e12
  have E32 : h28 93 = hg 93 := e13
  have E33 : h28 94 = hg 94 := e14
  have E34 : h28 95 = hg 95 := e15
  have E35 : h28 96 = hg 96 := e16
  have E36 : h28 97 = hg 97 := e17
  have E37 : h28 98 = hg 98 := e18
  have E38 : h28 99 = hg 99 := e19
  have E39 : h28 100 = hg 100 := e20
  have E40 : h28 103 = hg 103 := e21
  have E41 : h28 104 = hg 104 := e22
  have E42 : h28 105 = hg 105 := e23
  have E43 : h28 106 = hg 106 := e24
  have E44 : h28 109 = hg 109 := e25
  have E45 : h28 114 = hg 114 := e26
  show ov_R u d (ov_mL nm) 1331 [(0, ov_r (-4)), (1, ov_r 0), (2, ov_r 90), (3, ov_i x3)] [ov_l v10, ov_l v3] z27 h28 ov_LQ
  have f46 : (h28 90 2) = (hg 90 2) ∧ (h28 90 7) = (hg 90 7) ∧ (h28 90 8) = (hg 90 8) ∧ (h28 90 13) = (hg 90 13) ∧ (h28 90 20) = (hg 90 20) ∧ (h28 90 22) = (hg 90 22) ∧ (h28 90 25) = (hg 90 25) ∧ (h28 90 26) = (hg 90 26) ∧ (h28 90 28) = (hg 90 28) ∧ (h28 90 29) = (hg 90 29) ∧ (h28 90 30) = (hg 90 30) ∧ (h28 90 34) = (hg 90 34) ∧ v10 = ft_ff (hg 96) (hg 103) (hg 103 59) (hg 90 44) (hg 90 45) (ov_xs xs (x3 + 1)) := f9
  clear f9
  have K2 : ov_LK (1 + (j + 1)) (4000 * (j + 1)) z27 h28 := ov_LK_r0 K1 I29 E35 E36 E37 E39 E40 E42 E43 (by omega) (by omega) (by omega)
  have b1 : h28 1 1 = hg 1 1 := congrFun (I29.2.2.2 1 (Or.inl (by decide))) 1
  have b7 : h28 (-77) 0 = hg (-77) 0 := congrFun (I29.2.2.2 (-77) (Or.inl (by decide))) 0
  have c2 : h28 2 = hg 2 := I29.2.2.2 2 (Or.inl (by decide))
  have bL : ∀ b : Int, 0 ≤ b → b < 90 → h28 b = hg b := fun b _ q => I29.2.2.2 b (Or.inl q)
  have er : v3 = v10 := by
    have q := ov_FIT_eq (a := hg 90 44) (b := hg 90 45) s0.2.2.2 s0.2.2.1 K.2.2.2.2.1 I hW xc
    rw [← a96, ← aR 103 (by decide) (by decide)] at q
    omega
  have lz : ov_lcmp v3 v10 = 0 := by rw [er]; exact ft_lc _
  have S2 : ov_S3 h28 := ⟨by rw [c2, E30, a5, a6]; exact s0.1, by rw [E34, a7]; exact s0.2.1, ov_HT_s s0.2.2.1 I6 (by decide +kernel) eT0 aU bL E35 a96, st_same s0.2.2.2 (fun a a0 a1 a2 => ((bL a (by omega) (by omega)).trans (aU a (by omega))).trans (ov_FF_k I6 (Or.inl (by omega)) ((by decide +kernel : ∀ n, n < 36 → (4 ≤ n ∧ (n < 14 ∨ 15 ≤ n)) → Nat.testBit 1237940038997149967466889215 n = true) a.toNat (by omega) (by omega)))) (E40.trans (aR 103 (by decide) (by decide))) (fun m _ _ => congrFun (E41.trans (aR 104 (by decide) (by decide))) m) (congrFun (E35.trans (aR 96 (by decide) (by decide))) 5) (by omega)⟩
  refine ov_blk (ls2 := [(0, ov_r (-4)), (1, ov_r 0), (2, ov_r 90), (3, ov_i x3)]) (st2 := [ov_i (ov_lcmp v3 v10)]) (pc2 := 1332) b_313_1331_1 rfl rfl ?_
  have g47 := ov_lcg v3 v10
  refine ov_ifeq (tgt := 1462) d_313_1332 (by decide) (by omega) (fun c48 => ?_) (fun c48 => ?_)
  · skip
    exact BK _ _ K2 (by omega) (by omega) S2
  · omega
set_option maxHeartbeats 4000000 in
theorem lw_case_28 {u : ov_U} {nm : String} {d : Nat} (hd : 1000 ≤ d) (U : ov_cap u) {L : Nat} {xs : Nat → Int32} (X : ov_SC u L xs) (hL : L ≤ 3584) (x3 j : Int) (z : ov_Z) (h : ov_H) (K : ov_LK (1 + j) (4000 * j) z h) (e0 : h 1 1 = h 90 2) (gb : h (-77) 0 = 1000 * (j + 1)) (s0 : ov_S3 h) (q : 0 ≤ j ∧ x3 = 7 * j ∧ x3 ≤ L - 7) (BK : ∀ (z5 : ov_Z) (h5 : ov_H), ov_LK (1 + (j + 1)) (4000 * (j + 1)) z5 h5 → h5 1 1 = h5 90 2 → h5 (-77) 0 = 1000 * (j + 2) → ov_S3 h5 → ov_R u d (ov_mL nm) 1462 [(0, ov_r (-4)), (1, ov_r 0), (2, ov_r 90), (3, ov_i x3)] [] z5 h5 ov_LQ) : ov_R u d (ov_mL nm) 1337 [(0, ov_r (-4)), (1, ov_r 0), (2, ov_r 90), (3, ov_i x3)] [] z h ov_LQ := by
  have I := ov_LK_I (M := 1235521597062110350411825151) K
  have hW := ov_LK_W (M := 1235521597062110350411825151) K
  have hJ0 := K.2.2.1
  have s3 := s103_2 K.2.1
  have hb0 : ov_bd (h, z) = 1000 * (j + 1) := gb
  refine ov_blk (ls2 := [(0, ov_r (-4)), (1, ov_r 0), (2, ov_r 90), (3, ov_i x3)]) (st2 := [ov_i (x3 + 1), ov_r (-4), ov_r 0]) (pc2 := 1342) b_313_1337_5 rfl rfl ?_
  refine ov_scl X d_313_1342 (by omega) ?_
  have g1 := ov_xs_g xs (x3 + 1)
  refine ov_blk (ls2 := [(0, ov_r (-4)), (1, ov_r 0), (2, ov_r 90), (3, ov_i x3)]) (st2 := [ov_i (x3 + 2), ov_r (-4), ov_i (ov_xs xs (x3 + 1)), ov_r 0]) (pc2 := 1347) b_313_1343_4 rfl rfl ?_
  refine ov_scl X d_313_1347 (by omega) ?_
  have g2 := ov_xs_g xs (x3 + 2)
  refine ov_blk (ls2 := [(0, ov_r (-4)), (1, ov_r 0), (2, ov_r 90), (3, ov_i x3)]) (st2 := [ov_i (x3 + 3), ov_r (-4), ov_i (ov_xs xs (x3 + 2)), ov_i (ov_xs xs (x3 + 1)), ov_r 0]) (pc2 := 1352) b_313_1348_4 rfl rfl ?_
  refine ov_scl X d_313_1352 (by omega) ?_
  have g3 := ov_xs_g xs (x3 + 3)
  refine ov_blk (ls2 := [(0, ov_r (-4)), (1, ov_r 0), (2, ov_r 90), (3, ov_i x3)]) (st2 := [ov_i (x3 + 4), ov_r (-4), ov_i (ov_xs xs (x3 + 3)), ov_i (ov_xs xs (x3 + 2)), ov_i (ov_xs xs (x3 + 1)), ov_r 0]) (pc2 := 1357) b_313_1353_4 rfl rfl ?_
  refine ov_scl X d_313_1357 (by omega) ?_
  have g4 := ov_xs_g xs (x3 + 4)
  refine ov_cV (as := [ov_i (ov_xs xs (x3 + 1)), ov_i (ov_xs xs (x3 + 2)), ov_i (ov_xs xs (x3 + 3)), ov_i (ov_xs xs (x3 + 4))]) (st := []) (d2 := d - 1) d_313_1358 lk_Law_140 rfl (Nat.le_of_ble_eq_true rfl) (c := 0) (zb_0 I) (zs_0 I) ⟨by decide, rfl⟩ (by omega) (c_OF_nights_0 (d - 1) (by omega) U I (ov_FF_w (by decide +kernel)) (ov_xs xs (x3 + 1)) (ov_xs xs (x3 + 2)) (ov_xs xs (x3 + 3)) (ov_xs xs (x3 + 4)) (by omega) (by omega) (by omega) (by omega) (by omega) (by omega)) ?_
  rintro _ z7 h8 ⟨v6, rfl, I9, f5⟩
  show ov_R u d (ov_mL nm) 1361 [(0, ov_r (-4)), (1, ov_r 0), (2, ov_r 90), (3, ov_i x3)] [ov_i v6] z7 h8 ov_LQ
  have f10 : ((h8 36 7) = 1 → (h8 36 8) = (h8 0 10)) ∧ (h8 1 1) = (h 1 1) ∧ (h8 90 2) = (h 90 2) ∧ (h8 0 10) = (h 0 10) ∧ (h8 0 11) = (h 0 11) ∧ (h8 0 12) = (h 0 12) ∧ (h8 0 13) = (h 0 13) ∧ (h8 3 1) = (h 3 1) ∧ (h8 46 3) = (h 46 3) ∧ (h8 46 4) = (h 46 4) ∧ (h8 49 4) = (h 49 4) ∧ (h8 49 5) = (h 49 5) ∧ (h8 64 0) = (h 64 0) ∧ (h8 76 0) = (h 76 0) := f5
  clear f5
  have K1 := ov_LK_c (B := (1000 * (j + 2))) K I9 (fun b h0 _ => ov_FF_ge (by omega)) (by omega) (ov_HR_k hW I9 (by omega) (by omega) (by omega) (by omega)) (by omega)
  refine ov_gho (ov_up h8 (-77) 0 (1000 * (j + 2))) (fun a ha => (ov_up77 ha).symm) ?_
  have a1 : (ov_up h8 (-77) 0 (1000 * (j + 2))) 1 1 = h8 1 1 := congrFun (ov_up77 (by decide)) 1
  have a2 : (ov_up h8 (-77) 0 (1000 * (j + 2))) 90 2 = h8 90 2 := congrFun (ov_up77 (by decide)) 2
  have a3 : (ov_up h8 (-77) 0 (1000 * (j + 2))) (-77) 0 = (1000 * (j + 2)) := ov_uj.1 rfl
  have a5 : (ov_up h8 (-77) 0 (1000 * (j + 2))) 2 = h 2 := (ov_up77 (by decide)).trans (ov_FF_k I9 (Or.inl (by decide)) (by decide +kernel))
  have a6 : (ov_up h8 (-77) 0 (1000 * (j + 2))) 91 = h 91 := (ov_up77 (by decide)).trans ((I9.2.1 91 (by decide) (by decide)).trans (ov_FF_ge (by decide)))
  have a7 : (ov_up h8 (-77) 0 (1000 * (j + 2))) 95 = h 95 := (ov_up77 (by decide)).trans ((I9.2.1 95 (by decide) (by decide)).trans (ov_FF_ge (by decide)))
  have a96 : (ov_up h8 (-77) 0 (1000 * (j + 2))) 96 = h 96 := (ov_up77 (by decide)).trans ((I9.2.1 96 (by decide) (by decide)).trans (ov_FF_ge (by decide)))
  have aU : ∀ b : Int, 0 ≤ b → (ov_up h8 (-77) 0 (1000 * (j + 2))) b = h8 b := fun b hb => ov_up77 hb
  have eT0 : h8 0 10 = h 0 10 := by omega
  have aR : ∀ b : Int, 90 ≤ b → b < 115 → (ov_up h8 (-77) 0 (1000 * (j + 2))) b = h b := fun b b0 b1 => (ov_up77 (by omega)).trans ((I9.2.1 b b0 b1).trans (ov_FF_ge (by omega)))
  have a20 : (ov_up h8 (-77) 0 (1000 * (j + 2))) 90 20 = h 90 20 := congrFun (aR 90 (by decide) (by decide)) 20
  have a4 : (ov_up h8 (-77) 0 (1000 * (j + 2))) 103 2 = h 103 2 := (congrFun (ov_up77 (by decide)) 2).trans (congrFun ((I9.2.1 103 (by decide) (by decide)).trans (ov_FF_ge (by decide))) 2)
  generalize (ov_up h8 (-77) 0 (1000 * (j + 2))) = hg at K1 a1 a2 a3 a4 a5 a6 a7 a96 aU aR a20 ⊢
  have N1 := K1.2.1
  have hWT := K1.2.2.2.2.1
  have hCD := K1.2.2.2.2.2.1
  have hWK := K1.2.2.2.2.2.2.1
  have hPM : ov_PM (hg 96) (hg 103) (hg 97) (hg 98) (hg 105) (hg 106) (hg 90 22) (hg 90 25) (hg 90 26) (hg 90 28) (hg 90 29) (hg 90 30) := K1.2.2.2.2.2.2.2.1
  have hq1 := K1.2.2.2.2.2.2.2.2.1
  have hq2 := K1.2.2.2.2.2.2.2.2.2
  have hbd : ov_bd (hg, z7) = (1000 * (j + 2)) := a3
  have g103 := s103_2 N1
  show ov_R u d (ov_mL nm) 1361 [(0, ov_r (-4)), (1, ov_r 0), (2, ov_r 90), (3, ov_i x3)] [ov_i v6] z7 hg ov_LQ
  refine ov_blk (ls2 := [(0, ov_r (-4)), (1, ov_r 0), (2, ov_r 90), (3, ov_i x3)]) (st2 := [ov_i (x3 + 1), ov_r (-4), ov_r 90]) (pc2 := 1367) b_313_1361_6 rfl rfl ?_
  refine ov_scl X d_313_1367 (by omega) ?_
  refine ov_blk (ls2 := [(0, ov_r (-4)), (1, ov_r 0), (2, ov_r 90), (3, ov_i x3)]) (st2 := [ov_i (x3 + 2), ov_r (-4), ov_i (ov_xs xs (x3 + 1)), ov_r 90]) (pc2 := 1372) b_313_1368_4 rfl rfl ?_
  refine ov_scl X d_313_1372 (by omega) ?_
  refine ov_blk (ls2 := [(0, ov_r (-4)), (1, ov_r 0), (2, ov_r 90), (3, ov_i x3)]) (st2 := [ov_i (x3 + 3), ov_r (-4), ov_i (ov_xs xs (x3 + 2)), ov_i (ov_xs xs (x3 + 1)), ov_r 90]) (pc2 := 1377) b_313_1373_4 rfl rfl ?_
  refine ov_scl X d_313_1377 (by omega) ?_
  refine ov_blk (ls2 := [(0, ov_r (-4)), (1, ov_r 0), (2, ov_r 90), (3, ov_i x3)]) (st2 := [ov_i (x3 + 4), ov_r (-4), ov_i (ov_xs xs (x3 + 3)), ov_i (ov_xs xs (x3 + 2)), ov_i (ov_xs xs (x3 + 1)), ov_r 90]) (pc2 := 1382) b_313_1378_4 rfl rfl ?_
  refine ov_scl X d_313_1382 (by omega) ?_
  refine ov_cV (as := [ov_i (ov_xs xs (x3 + 1)), ov_i (ov_xs xs (x3 + 2)), ov_i (ov_xs xs (x3 + 3)), ov_i (ov_xs xs (x3 + 4))]) (st := []) (d2 := d - 1) d_313_1383 lk_Law_143 rfl (Nat.le_of_ble_eq_true rfl) (c := 1) (zb_90 N1) (zs_90 N1) ⟨by decide, rfl⟩ (by omega) (c_Mo_nights_90 (d - 1) (by omega) U N1 (ov_xs xs (x3 + 1)) (ov_xs xs (x3 + 2)) (ov_xs xs (x3 + 3)) (ov_xs xs (x3 + 4)) (by omega) (by omega) (by omega) (by omega) (by show 0 ≤ (hg 90 25) ∧ (hg 90 25) ≤ 1000000000; omega) hWT hCD hPM) ?_
  rintro _ z31 h32 ⟨v16, rfl, I33, f15, e17, e18, e19, e20, e21, e22, e23, e24, e25, e26, e27, e28, e29, y30⟩
  have E34 : h32 91 = hg 91 := e17
  have E35 : h32 92 = hg 92 := e18
  have E36 : h32 93 = hg 93 := e19
  have E37 : h32 94 = hg 94 := e20
  have E38 : h32 95 = hg 95 := e21
  have E39 : h32 96 = hg 96 := e22
  have E40 : h32 97 = hg 97 := e23
  have E41 : h32 98 = hg 98 := e24
  have E42 : h32 99 = hg 99 := e25
  have E43 : h32 100 = hg 100 := e26
  have E44 : h32 103 = hg 103 := e27
  have E45 : h32 104 = hg 104 := e28
  have E46 : h32 109 = hg 109 := e29
  show ov_R u d (ov_mL nm) 1386 [(0, ov_r (-4)), (1, ov_r 0), (2, ov_r 90), (3, ov_i x3)] [ov_i v16] z31 h32 ov_LQ
  have f47 : (h32 90 2) = (hg 90 2) ∧ (h32 90 7) = (hg 90 7) ∧ (h32 90 8) = (hg 90 8) ∧ (h32 90 13) = (hg 90 13) ∧ (h32 90 20) = (hg 90 20) ∧ (h32 90 22) = (hg 90 22) ∧ (h32 90 34) = (hg 90 34) ∧ (hg 90 25) ≤ (h32 90 25) ∧ (h32 90 25) ≤ (hg 90 25) + 1 ∧ -2147483648 ≤ v16 ∧ v16 ≤ 2147483647 := f15
  clear f15
  have y30_ : ov_PM (hg 96) (hg 103) (hg 97) (hg 98) (h32 105) (h32 106) (h32 90 22) (h32 90 25) (h32 90 26) (h32 90 28) (h32 90 29) (h32 90 30) := y30
  have K2 : ov_LK (1 + (j + 1)) (4000 * (j + 1)) z31 h32 := ov_LK_rm (g := 1) K1 I33 E39 E40 E41 E43 E44 y30_ (by omega) (by omega) (by omega)
  have b1 : h32 1 1 = hg 1 1 := congrFun (I33.2.2.2 1 (Or.inl (by decide))) 1
  have b7 : h32 (-77) 0 = hg (-77) 0 := congrFun (I33.2.2.2 (-77) (Or.inl (by decide))) 0
  have c2 : h32 2 = hg 2 := I33.2.2.2 2 (Or.inl (by decide))
  have bL : ∀ b : Int, 0 ≤ b → b < 90 → h32 b = hg b := fun b _ q => I33.2.2.2 b (Or.inl q)
  have S2 : ov_S3 h32 := ⟨by rw [c2, E34, a5, a6]; exact s0.1, by rw [E38, a7]; exact s0.2.1, ov_HT_s s0.2.2.1 I9 (by decide +kernel) eT0 aU bL E39 a96, st_same s0.2.2.2 (fun a a0 a1 a2 => ((bL a (by omega) (by omega)).trans (aU a (by omega))).trans (ov_FF_k I9 (Or.inl (by omega)) ((by decide +kernel : ∀ n, n < 36 → (4 ≤ n ∧ (n < 14 ∨ 15 ≤ n)) → Nat.testBit 1235521597062110350411825151 n = true) a.toNat (by omega) (by omega)))) (E44.trans (aR 103 (by decide) (by decide))) (fun m _ _ => congrFun (E45.trans (aR 104 (by decide) (by decide))) m) (congrFun (E39.trans (aR 96 (by decide) (by decide))) 5) (by omega)⟩
  refine ov_blk (ls2 := [(0, ov_r (-4)), (1, ov_r 0), (2, ov_r 90), (3, ov_i x3)]) (st2 := []) (pc2 := 1387) b_313_1386_1 rfl rfl ?_
  refine ov_goto (tgt := 1462) d_313_1387 (by decide) ?_
  exact BK _ _ K2 (by omega) (by omega) S2
set_option maxHeartbeats 4000000 in
theorem lw_case_29 {u : ov_U} {nm : String} {d : Nat} (hd : 1000 ≤ d) (U : ov_cap u) {L : Nat} {xs : Nat → Int32} (X : ov_SC u L xs) (hL : L ≤ 3584) (x3 j : Int) (z : ov_Z) (h : ov_H) (K : ov_LK (1 + j) (4000 * j) z h) (e0 : h 1 1 = h 90 2) (gb : h (-77) 0 = 1000 * (j + 1)) (s0 : ov_S3 h) (q : 0 ≤ j ∧ x3 = 7 * j ∧ x3 ≤ L - 7) (BK : ∀ (z5 : ov_Z) (h5 : ov_H), ov_LK (1 + (j + 1)) (4000 * (j + 1)) z5 h5 → h5 1 1 = h5 90 2 → h5 (-77) 0 = 1000 * (j + 2) → ov_S3 h5 → ov_R u d (ov_mL nm) 1462 [(0, ov_r (-4)), (1, ov_r 0), (2, ov_r 90), (3, ov_i x3)] [] z5 h5 ov_LQ) : ov_R u d (ov_mL nm) 1390 [(0, ov_r (-4)), (1, ov_r 0), (2, ov_r 90), (3, ov_i x3)] [] z h ov_LQ := by
  have I := ov_LK_I (M := 1237940038997149898747444239) K
  have hW := ov_LK_W (M := 1237940038997149898747444239) K
  have hJ0 := K.2.2.1
  have s3 := s103_2 K.2.1
  have hb0 : ov_bd (h, z) = 1000 * (j + 1) := gb
  refine ov_blk (ls2 := [(0, ov_r (-4)), (1, ov_r 0), (2, ov_r 90), (3, ov_i x3)]) (st2 := [ov_i (x3 + 1), ov_r (-4), ov_r 0]) (pc2 := 1395) b_313_1390_5 rfl rfl ?_
  refine ov_scl X d_313_1395 (by omega) ?_
  have g1 := ov_xs_g xs (x3 + 1)
  refine ov_blk (ls2 := [(0, ov_r (-4)), (1, ov_r 0), (2, ov_r 90), (3, ov_i x3)]) (st2 := [ov_i (x3 + 2), ov_r (-4), ov_i (ov_xs xs (x3 + 1)), ov_r 0]) (pc2 := 1400) b_313_1396_4 rfl rfl ?_
  refine ov_scl X d_313_1400 (by omega) ?_
  have g2 := ov_xs_g xs (x3 + 2)
  refine ov_ifeq (tgt := 1408) d_313_1401 (by decide) (by omega) (fun c3 => ?_) (fun c3 => ?_)
  · skip
    refine ov_blk (ls2 := [(0, ov_r (-4)), (1, ov_r 0), (2, ov_r 90), (3, ov_i x3)]) (st2 := [ov_i 0, ov_i (ov_xs xs (x3 + 1)), ov_r 0]) (pc2 := 1409) b_313_1408_1 rfl rfl ?_
    refine ov_cV (as := [ov_i (ov_xs xs (x3 + 1)), ov_i 0]) (st := []) (d2 := d - 1) d_313_1409 lk_Law_144 rfl (Nat.le_of_ble_eq_true rfl) (c := 0) (zb_0 I) (zs_0 I) ⟨by decide, rfl⟩ (by omega) (c_OF_mark_0_t (d - 1) (by omega) U I (ov_FF_w (by decide +kernel)) (ov_xs xs (x3 + 1)) 0 (by omega) (by omega)) ?_
    rintro _ z6 h7 ⟨v5, rfl, I8, f4, xc⟩
    show ov_R u d (ov_mL nm) 1412 [(0, ov_r (-4)), (1, ov_r 0), (2, ov_r 90), (3, ov_i x3)] [ov_i v5] z6 h7 ov_LQ
    have f9 : (v5 = 0 ∨ v5 = 1) ∧ (h7 36 7) = (h 36 7) ∧ (h7 1 1) = (h 1 1) ∧ (h7 90 2) = (h 90 2) ∧ (h7 0 10) = (h 0 10) ∧ (h7 0 11) = (h 0 11) ∧ (h7 0 12) = (h 0 12) ∧ (h7 0 13) = (h 0 13) ∧ (h7 3 1) = (h 3 1) ∧ (h7 36 8) = (h 36 8) ∧ (h7 46 3) = (h 46 3) ∧ (h7 46 4) = (h 46 4) ∧ (h7 49 4) = (h 49 4) ∧ (h7 49 5) = (h 49 5) ∧ (h7 64 0) = (h 64 0) ∧ (h7 76 0) = (h 76 0) := f4
    clear f4
    have K1 := ov_LK_c (B := (1000 * (j + 2))) K I8 (fun b h0 _ => ov_FF_ge (by omega)) (by omega) (ov_HR_k hW I8 (by omega) (by omega) (by omega) (by omega)) (by omega)
    refine ov_gho (ov_up h7 (-77) 0 (1000 * (j + 2))) (fun a ha => (ov_up77 ha).symm) ?_
    have a1 : (ov_up h7 (-77) 0 (1000 * (j + 2))) 1 1 = h7 1 1 := congrFun (ov_up77 (by decide)) 1
    have a2 : (ov_up h7 (-77) 0 (1000 * (j + 2))) 90 2 = h7 90 2 := congrFun (ov_up77 (by decide)) 2
    have a3 : (ov_up h7 (-77) 0 (1000 * (j + 2))) (-77) 0 = (1000 * (j + 2)) := ov_uj.1 rfl
    have a5 : (ov_up h7 (-77) 0 (1000 * (j + 2))) 2 = h 2 := (ov_up77 (by decide)).trans (ov_FF_k I8 (Or.inl (by decide)) (by decide +kernel))
    have a6 : (ov_up h7 (-77) 0 (1000 * (j + 2))) 91 = h 91 := (ov_up77 (by decide)).trans ((I8.2.1 91 (by decide) (by decide)).trans (ov_FF_ge (by decide)))
    have a7 : (ov_up h7 (-77) 0 (1000 * (j + 2))) 95 = h 95 := (ov_up77 (by decide)).trans ((I8.2.1 95 (by decide) (by decide)).trans (ov_FF_ge (by decide)))
    have a96 : (ov_up h7 (-77) 0 (1000 * (j + 2))) 96 = h 96 := (ov_up77 (by decide)).trans ((I8.2.1 96 (by decide) (by decide)).trans (ov_FF_ge (by decide)))
    have aU : ∀ b : Int, 0 ≤ b → (ov_up h7 (-77) 0 (1000 * (j + 2))) b = h7 b := fun b hb => ov_up77 hb
    have eT0 : h7 0 10 = h 0 10 := by omega
    have aR : ∀ b : Int, 90 ≤ b → b < 115 → (ov_up h7 (-77) 0 (1000 * (j + 2))) b = h b := fun b b0 b1 => (ov_up77 (by omega)).trans ((I8.2.1 b b0 b1).trans (ov_FF_ge (by omega)))
    have a20 : (ov_up h7 (-77) 0 (1000 * (j + 2))) 90 20 = h 90 20 := congrFun (aR 90 (by decide) (by decide)) 20
    have a4 : (ov_up h7 (-77) 0 (1000 * (j + 2))) 103 2 = h 103 2 := (congrFun (ov_up77 (by decide)) 2).trans (congrFun ((I8.2.1 103 (by decide) (by decide)).trans (ov_FF_ge (by decide))) 2)
    generalize (ov_up h7 (-77) 0 (1000 * (j + 2))) = hg at K1 a1 a2 a3 a4 a5 a6 a7 a96 aU aR a20 ⊢
    have N1 := K1.2.1
    have hWT := K1.2.2.2.2.1
    have hCD := K1.2.2.2.2.2.1
    have hWK := K1.2.2.2.2.2.2.1
    have hPM : ov_PM (hg 96) (hg 103) (hg 97) (hg 98) (hg 105) (hg 106) (hg 90 22) (hg 90 25) (hg 90 26) (hg 90 28) (hg 90 29) (hg 90 30) := K1.2.2.2.2.2.2.2.1
    have hq1 := K1.2.2.2.2.2.2.2.2.1
    have hq2 := K1.2.2.2.2.2.2.2.2.2
    have hbd : ov_bd (hg, z6) = (1000 * (j + 2)) := a3
    have g103 := s103_2 N1
    show ov_R u d (ov_mL nm) 1412 [(0, ov_r (-4)), (1, ov_r 0), (2, ov_r 90), (3, ov_i x3)] [ov_i v5] z6 hg ov_LQ
    refine ov_blk (ls2 := [(0, ov_r (-4)), (1, ov_r 0), (2, ov_r 90), (3, ov_i x3)]) (st2 := [ov_i (x3 + 1), ov_r (-4), ov_r 90]) (pc2 := 1418) b_313_1412_6 rfl rfl ?_
    refine ov_scl X d_313_1418 (by omega) ?_
    refine ov_blk (ls2 := [(0, ov_r (-4)), (1, ov_r 0), (2, ov_r 90), (3, ov_i x3)]) (st2 := [ov_i (x3 + 2), ov_r (-4), ov_i (ov_xs xs (x3 + 1)), ov_r 90]) (pc2 := 1423) b_313_1419_4 rfl rfl ?_
    refine ov_scl X d_313_1423 (by omega) ?_
    refine ov_ifeq (tgt := 1431) d_313_1424 (by decide) (by omega) (fun c12 => ?_) (fun c12 => ?_)
    · skip
      refine ov_blk (ls2 := [(0, ov_r (-4)), (1, ov_r 0), (2, ov_r 90), (3, ov_i x3)]) (st2 := [ov_i 0, ov_i (ov_xs xs (x3 + 1)), ov_r 90]) (pc2 := 1432) b_313_1431_1 rfl rfl ?_
      refine ov_cV (as := [ov_i (ov_xs xs (x3 + 1)), ov_i 0]) (st := []) (d2 := d - 1) d_313_1432 lk_Law_148 rfl (Nat.le_of_ble_eq_true rfl) (c := 1) (zb_90 N1) (zs_90 N1) ⟨by decide, rfl⟩ (by omega) (c_Mo_mark_90_t (d - 1) (by omega) U N1 (ov_xs xs (x3 + 1)) 0 (by omega) (by omega) (by show 0 ≤ (hg 90 22) ∧ (hg 90 22) ≤ 2000000000; omega)) ?_
      rintro _ z31 h32 ⟨v14, rfl, I33, f13, e15, e16, e17, e18, e19, e20, e21, e22, e23, e24, e25, e26, e27, e28, y29, y30⟩
      have E34 : h32 91 = hg 91 := e15
      have E35 : h32 92 = hg 92 := e16
      have E36 : h32 93 = hg 93 := e17
      have E37 : h32 94 = hg 94 := e18
      have E38 : h32 95 = hg 95 := e19
      have E39 : h32 96 = hg 96 := e20
      have E40 : h32 97 = hg 97 := e21
      have E41 : h32 98 = hg 98 := e22
      have E42 : h32 99 = hg 99 := e23
      have E43 : h32 100 = hg 100 := e24
      have E44 : h32 105 = hg 105 := e25
      have E45 : h32 106 = hg 106 := e26
      have E46 : h32 109 = hg 109 := e27
      have E47 : h32 114 = hg 114 := e28
      show ov_R u d (ov_mL nm) 1435 [(0, ov_r (-4)), (1, ov_r 0), (2, ov_r 90), (3, ov_i x3)] [ov_i v14] z31 h32 ov_LQ
      have f48 : (h32 90 2) = (hg 90 2) ∧ (h32 90 7) = (hg 90 7) ∧ (h32 90 8) = (hg 90 8) ∧ (h32 90 13) = (hg 90 13) ∧ (h32 90 25) = (hg 90 25) ∧ (h32 90 26) = (hg 90 26) ∧ (h32 90 28) = (hg 90 28) ∧ (h32 90 29) = (hg 90 29) ∧ (h32 90 30) = (hg 90 30) ∧ (h32 90 34) = (hg 90 34) ∧ (v14 = 0 ∨ v14 = 1) ∧ (hg 90 22) ≤ (h32 90 22) ∧ (h32 90 22) ≤ (hg 90 22) + 1 := f13
      clear f13
      have y29_ : ((h32 90 22) = (hg 90 22) ∧ (h32 103) = (hg 103)) ∨ (h32 90 22) = (hg 90 22) + 1 := y29
      have y30_ : (v14 = 0 ∧ ¬ (0 ≤ (ov_xs xs (x3 + 1)) ∧ (ov_xs xs (x3 + 1)) ≤ 3 ∧ ((0 : Int) = 0 ∨ (hg 104 ((ov_xs xs (x3 + 1)))) = 1)) ∧ (h32 103) = (hg 103) ∧ (h32 104) = (hg 104) ∧ (h32 90 20) = (hg 90 20)) ∨ (v14 = 1 ∧ (0 ≤ (ov_xs xs (x3 + 1)) ∧ (ov_xs xs (x3 + 1)) ≤ 3 ∧ ((0 : Int) = 0 ∨ (hg 104 ((ov_xs xs (x3 + 1)))) = 1)) ∧ (h32 104) = ov_rs (hg 104) (ov_xs xs (x3 + 1)) 1 ∧ ((0 : Int) = 0 ∧ (h32 103) = cp_f (hg 103) 0 (1 + (ov_xs xs (x3 + 1))) 120 ∧ (h32 90 20) = (hg 90 20) ∨ (0 : Int) = 1 ∧ (h32 103) = cp_f (hg 103) (1 + (ov_xs xs (x3 + 1))) 0 120 ∧ (h32 90 20) = 0)) := y30
      have K2 : ov_LK (1 + (j + 1)) (4000 * (j + 1)) z31 h32 := ov_LK_rv K1 I33 E39 E40 E41 E43 y29_ E44 E45 (by omega) (by omega) (by omega)
      have b1 : h32 1 1 = hg 1 1 := congrFun (I33.2.2.2 1 (Or.inl (by decide))) 1
      have b7 : h32 (-77) 0 = hg (-77) 0 := congrFun (I33.2.2.2 (-77) (Or.inl (by decide))) 0
      have c2 : h32 2 = hg 2 := I33.2.2.2 2 (Or.inl (by decide))
      have bL : ∀ b : Int, 0 ≤ b → b < 90 → h32 b = hg b := fun b _ q => I33.2.2.2 b (Or.inl q)
      have sx : v5 = v14 ∧ st_R h32 := st_mark_e s0.2.2.2 (st_G_of I) xc y30_ (fun a a0 a1 => (bL a a0 a1).trans (aU a a0)) aR E39
      have er := sx.1
      have S2 : ov_S3 h32 := ⟨by rw [c2, E34, a5, a6]; exact s0.1, by rw [E38, a7]; exact s0.2.1, ov_HT_s s0.2.2.1 I8 (by decide +kernel) eT0 aU bL E39 a96, sx.2⟩
      refine ov_blk (ls2 := [(0, ov_r (-4)), (1, ov_r 0), (2, ov_r 90), (3, ov_i x3)]) (st2 := []) (pc2 := 1436) b_313_1435_1 rfl rfl ?_
      refine ov_goto (tgt := 1462) d_313_1436 (by decide) ?_
      exact BK _ _ K2 (by omega) (by omega) S2
    · omega
  · skip
    refine ov_blk (ls2 := [(0, ov_r (-4)), (1, ov_r 0), (2, ov_r 90), (3, ov_i x3)]) (st2 := [ov_i 1, ov_i (ov_xs xs (x3 + 1)), ov_r 0]) (pc2 := 1405) b_313_1404_1 rfl rfl ?_
    refine ov_goto (tgt := 1409) d_313_1405 (by decide) ?_
    refine ov_cV (as := [ov_i (ov_xs xs (x3 + 1)), ov_i 1]) (st := []) (d2 := d - 1) d_313_1409 lk_Law_144 rfl (Nat.le_of_ble_eq_true rfl) (c := 0) (zb_0 I) (zs_0 I) ⟨by decide, rfl⟩ (by omega) (c_OF_mark_0_t (d - 1) (by omega) U I (ov_FF_w (by decide +kernel)) (ov_xs xs (x3 + 1)) 1 (by omega) (by omega)) ?_
    rintro _ z51 h52 ⟨v50, rfl, I53, f49, xc⟩
    show ov_R u d (ov_mL nm) 1412 [(0, ov_r (-4)), (1, ov_r 0), (2, ov_r 90), (3, ov_i x3)] [ov_i v50] z51 h52 ov_LQ
    have f54 : (v50 = 0 ∨ v50 = 1) ∧ (h52 36 7) = (h 36 7) ∧ (h52 1 1) = (h 1 1) ∧ (h52 90 2) = (h 90 2) ∧ (h52 0 10) = (h 0 10) ∧ (h52 0 11) = (h 0 11) ∧ (h52 0 12) = (h 0 12) ∧ (h52 0 13) = (h 0 13) ∧ (h52 3 1) = (h 3 1) ∧ (h52 36 8) = (h 36 8) ∧ (h52 46 3) = (h 46 3) ∧ (h52 46 4) = (h 46 4) ∧ (h52 49 4) = (h 49 4) ∧ (h52 49 5) = (h 49 5) ∧ (h52 64 0) = (h 64 0) ∧ (h52 76 0) = (h 76 0) := f49
    clear f49
    have K1 := ov_LK_c (B := (1000 * (j + 2))) K I53 (fun b h0 _ => ov_FF_ge (by omega)) (by omega) (ov_HR_k hW I53 (by omega) (by omega) (by omega) (by omega)) (by omega)
    refine ov_gho (ov_up h52 (-77) 0 (1000 * (j + 2))) (fun a ha => (ov_up77 ha).symm) ?_
    have a1 : (ov_up h52 (-77) 0 (1000 * (j + 2))) 1 1 = h52 1 1 := congrFun (ov_up77 (by decide)) 1
    have a2 : (ov_up h52 (-77) 0 (1000 * (j + 2))) 90 2 = h52 90 2 := congrFun (ov_up77 (by decide)) 2
    have a3 : (ov_up h52 (-77) 0 (1000 * (j + 2))) (-77) 0 = (1000 * (j + 2)) := ov_uj.1 rfl
    have a5 : (ov_up h52 (-77) 0 (1000 * (j + 2))) 2 = h 2 := (ov_up77 (by decide)).trans (ov_FF_k I53 (Or.inl (by decide)) (by decide +kernel))
    have a6 : (ov_up h52 (-77) 0 (1000 * (j + 2))) 91 = h 91 := (ov_up77 (by decide)).trans ((I53.2.1 91 (by decide) (by decide)).trans (ov_FF_ge (by decide)))
    have a7 : (ov_up h52 (-77) 0 (1000 * (j + 2))) 95 = h 95 := (ov_up77 (by decide)).trans ((I53.2.1 95 (by decide) (by decide)).trans (ov_FF_ge (by decide)))
    have a96 : (ov_up h52 (-77) 0 (1000 * (j + 2))) 96 = h 96 := (ov_up77 (by decide)).trans ((I53.2.1 96 (by decide) (by decide)).trans (ov_FF_ge (by decide)))
    have aU : ∀ b : Int, 0 ≤ b → (ov_up h52 (-77) 0 (1000 * (j + 2))) b = h52 b := fun b hb => ov_up77 hb
    have eT0 : h52 0 10 = h 0 10 := by omega
    have aR : ∀ b : Int, 90 ≤ b → b < 115 → (ov_up h52 (-77) 0 (1000 * (j + 2))) b = h b := fun b b0 b1 => (ov_up77 (by omega)).trans ((I53.2.1 b b0 b1).trans (ov_FF_ge (by omega)))
    have a20 : (ov_up h52 (-77) 0 (1000 * (j + 2))) 90 20 = h 90 20 := congrFun (aR 90 (by decide) (by decide)) 20
    have a4 : (ov_up h52 (-77) 0 (1000 * (j + 2))) 103 2 = h 103 2 := (congrFun (ov_up77 (by decide)) 2).trans (congrFun ((I53.2.1 103 (by decide) (by decide)).trans (ov_FF_ge (by decide))) 2)
    generalize (ov_up h52 (-77) 0 (1000 * (j + 2))) = hg at K1 a1 a2 a3 a4 a5 a6 a7 a96 aU aR a20 ⊢
    have N1 := K1.2.1
    have hWT := K1.2.2.2.2.1
    have hCD := K1.2.2.2.2.2.1
    have hWK := K1.2.2.2.2.2.2.1
    have hPM : ov_PM (hg 96) (hg 103) (hg 97) (hg 98) (hg 105) (hg 106) (hg 90 22) (hg 90 25) (hg 90 26) (hg 90 28) (hg 90 29) (hg 90 30) := K1.2.2.2.2.2.2.2.1
    have hq1 := K1.2.2.2.2.2.2.2.2.1
    have hq2 := K1.2.2.2.2.2.2.2.2.2
    have hbd : ov_bd (hg, z51) = (1000 * (j + 2)) := a3
    have g103 := s103_2 N1
    show ov_R u d (ov_mL nm) 1412 [(0, ov_r (-4)), (1, ov_r 0), (2, ov_r 90), (3, ov_i x3)] [ov_i v50] z51 hg ov_LQ
    refine ov_blk (ls2 := [(0, ov_r (-4)), (1, ov_r 0), (2, ov_r 90), (3, ov_i x3)]) (st2 := [ov_i (x3 + 1), ov_r (-4), ov_r 90]) (pc2 := 1418) b_313_1412_6 rfl rfl ?_
    refine ov_scl X d_313_1418 (by omega) ?_
    refine ov_blk (ls2 := [(0, ov_r (-4)), (1, ov_r 0), (2, ov_r 90), (3, ov_i x3)]) (st2 := [ov_i (x3 + 2), ov_r (-4), ov_i (ov_xs xs (x3 + 1)), ov_r 90]) (pc2 := 1423) b_313_1419_4 rfl rfl ?_
    refine ov_scl X d_313_1423 (by omega) ?_
    refine ov_ifeq (tgt := 1431) d_313_1424 (by decide) (by omega) (fun c57 => ?_) (fun c57 => ?_)
    · omega
    · skip
      refine ov_blk (ls2 := [(0, ov_r (-4)), (1, ov_r 0), (2, ov_r 90), (3, ov_i x3)]) (st2 := [ov_i 1, ov_i (ov_xs xs (x3 + 1)), ov_r 90]) (pc2 := 1428) b_313_1427_1 rfl rfl ?_
      refine ov_goto (tgt := 1432) d_313_1428 (by decide) ?_
      refine ov_cV (as := [ov_i (ov_xs xs (x3 + 1)), ov_i 1]) (st := []) (d2 := d - 1) d_313_1432 lk_Law_148 rfl (Nat.le_of_ble_eq_true rfl) (c := 1) (zb_90 N1) (zs_90 N1) ⟨by decide, rfl⟩ (by omega) (c_Mo_mark_90_t (d - 1) (by omega) U N1 (ov_xs xs (x3 + 1)) 1 (by omega) (by omega) (by show 0 ≤ (hg 90 22) ∧ (hg 90 22) ≤ 2000000000; omega)) ?_
      rintro _ z76 h77 ⟨v59, rfl, I78, f58, e60, e61, e62, e63, e64, e65, e66, e67, e68, e69, e70, e71, e72, e73, y74, y75⟩
      have E79 : h77 91 = hg 91 := e60
      have E80 : h77 92 = hg 92 := e61
      have E81 : h77 93 = hg 93 := e62
      have E82 : h77 94 = hg 94 := e63
      have E83 : h77 95 = hg 95 := e64
      have E84 : h77 96 = hg 96 := e65
      have E85 : h77 97 = hg 97 := e66
      have E86 : h77 98 = hg 98 := e67
      have E87 : h77 99 = hg 99 := e68
      have E88 : h77 100 = hg 100 := e69
      have E89 : h77 105 = hg 105 := e70
      have E90 : h77 106 = hg 106 := e71
      have E91 : h77 109 = hg 109 := e72
      have E92 : h77 114 = hg 114 := e73
      show ov_R u d (ov_mL nm) 1435 [(0, ov_r (-4)), (1, ov_r 0), (2, ov_r 90), (3, ov_i x3)] [ov_i v59] z76 h77 ov_LQ
      have f93 : (h77 90 2) = (hg 90 2) ∧ (h77 90 7) = (hg 90 7) ∧ (h77 90 8) = (hg 90 8) ∧ (h77 90 13) = (hg 90 13) ∧ (h77 90 25) = (hg 90 25) ∧ (h77 90 26) = (hg 90 26) ∧ (h77 90 28) = (hg 90 28) ∧ (h77 90 29) = (hg 90 29) ∧ (h77 90 30) = (hg 90 30) ∧ (h77 90 34) = (hg 90 34) ∧ (v59 = 0 ∨ v59 = 1) ∧ (hg 90 22) ≤ (h77 90 22) ∧ (h77 90 22) ≤ (hg 90 22) + 1 := f58
      clear f58
      have y74_ : ((h77 90 22) = (hg 90 22) ∧ (h77 103) = (hg 103)) ∨ (h77 90 22) = (hg 90 22) + 1 := y74
      have y75_ : (v59 = 0 ∧ ¬ (0 ≤ (ov_xs xs (x3 + 1)) ∧ (ov_xs xs (x3 + 1)) ≤ 3 ∧ ((1 : Int) = 0 ∨ (hg 104 ((ov_xs xs (x3 + 1)))) = 1)) ∧ (h77 103) = (hg 103) ∧ (h77 104) = (hg 104) ∧ (h77 90 20) = (hg 90 20)) ∨ (v59 = 1 ∧ (0 ≤ (ov_xs xs (x3 + 1)) ∧ (ov_xs xs (x3 + 1)) ≤ 3 ∧ ((1 : Int) = 0 ∨ (hg 104 ((ov_xs xs (x3 + 1)))) = 1)) ∧ (h77 104) = ov_rs (hg 104) (ov_xs xs (x3 + 1)) 1 ∧ ((1 : Int) = 0 ∧ (h77 103) = cp_f (hg 103) 0 (1 + (ov_xs xs (x3 + 1))) 120 ∧ (h77 90 20) = (hg 90 20) ∨ (1 : Int) = 1 ∧ (h77 103) = cp_f (hg 103) (1 + (ov_xs xs (x3 + 1))) 0 120 ∧ (h77 90 20) = 0)) := y75
      have K2 : ov_LK (1 + (j + 1)) (4000 * (j + 1)) z76 h77 := ov_LK_rv K1 I78 E84 E85 E86 E88 y74_ E89 E90 (by omega) (by omega) (by omega)
      have b1 : h77 1 1 = hg 1 1 := congrFun (I78.2.2.2 1 (Or.inl (by decide))) 1
      have b7 : h77 (-77) 0 = hg (-77) 0 := congrFun (I78.2.2.2 (-77) (Or.inl (by decide))) 0
      have c2 : h77 2 = hg 2 := I78.2.2.2 2 (Or.inl (by decide))
      have bL : ∀ b : Int, 0 ≤ b → b < 90 → h77 b = hg b := fun b _ q => I78.2.2.2 b (Or.inl q)
      have sx : v50 = v59 ∧ st_R h77 := st_mark_e s0.2.2.2 (st_G_of I) xc y75_ (fun a a0 a1 => (bL a a0 a1).trans (aU a a0)) aR E84
      have er := sx.1
      have S2 : ov_S3 h77 := ⟨by rw [c2, E79, a5, a6]; exact s0.1, by rw [E83, a7]; exact s0.2.1, ov_HT_s s0.2.2.1 I53 (by decide +kernel) eT0 aU bL E84 a96, sx.2⟩
      refine ov_blk (ls2 := [(0, ov_r (-4)), (1, ov_r 0), (2, ov_r 90), (3, ov_i x3)]) (st2 := []) (pc2 := 1436) b_313_1435_1 rfl rfl ?_
      refine ov_goto (tgt := 1462) d_313_1436 (by decide) ?_
      exact BK _ _ K2 (by omega) (by omega) S2
set_option maxHeartbeats 4000000 in
theorem lw_case_30 {u : ov_U} {nm : String} {d : Nat} (hd : 1000 ≤ d) (U : ov_cap u) {L : Nat} {xs : Nat → Int32} (X : ov_SC u L xs) (hL : L ≤ 3584) (x3 j : Int) (z : ov_Z) (h : ov_H) (K : ov_LK (1 + j) (4000 * j) z h) (e0 : h 1 1 = h 90 2) (gb : h (-77) 0 = 1000 * (j + 1)) (s0 : ov_S3 h) (q : 0 ≤ j ∧ x3 = 7 * j ∧ x3 ≤ L - 7) (BK : ∀ (z5 : ov_Z) (h5 : ov_H), ov_LK (1 + (j + 1)) (4000 * (j + 1)) z5 h5 → h5 1 1 = h5 90 2 → h5 (-77) 0 = 1000 * (j + 2) → ov_S3 h5 → ov_R u d (ov_mL nm) 1462 [(0, ov_r (-4)), (1, ov_r 0), (2, ov_r 90), (3, ov_i x3)] [] z5 h5 ov_LQ) : ov_R u d (ov_mL nm) 1439 [(0, ov_r (-4)), (1, ov_r 0), (2, ov_r 90), (3, ov_i x3)] [] z h ov_LQ := by
  have I := ov_LK_I (M := 1237940038997149967466889215) K
  have hW := ov_LK_W (M := 1237940038997149967466889215) K
  have hJ0 := K.2.2.1
  have s3 := s103_2 K.2.1
  have hb0 : ov_bd (h, z) = 1000 * (j + 1) := gb
  refine ov_blk (ls2 := [(0, ov_r (-4)), (1, ov_r 0), (2, ov_r 90), (3, ov_i x3)]) (st2 := [ov_i (x3 + 1), ov_r (-4), ov_r 0]) (pc2 := 1444) b_313_1439_5 rfl rfl ?_
  refine ov_scl X d_313_1444 (by omega) ?_
  have g1 := ov_xs_g xs (x3 + 1)
  refine ov_cV (as := [ov_i (ov_xs xs (x3 + 1))]) (st := []) (d2 := d - 1) d_313_1445 lk_Law_149 rfl (Nat.le_of_ble_eq_true rfl) (c := 0) (zb_0 I) (zs_0 I) ⟨by decide, rfl⟩ (by omega) (c_OF_count_0 (d - 1) (by omega) U I (ov_xs xs (x3 + 1)) (by omega)) ?_
  rintro _ _ _ ⟨v3, rfl, rfl, rfl, f2⟩
  show ov_R u d (ov_mL nm) 1448 [(0, ov_r (-4)), (1, ov_r 0), (2, ov_r 90), (3, ov_i x3)] [ov_i v3] z h ov_LQ
  clear f2
  have K1 := ov_LK_c (B := (1000 * (j + 2))) K I (fun b h0 _ => ov_FF_ge (by omega)) (by omega) K.2.2.2.1 (by omega)
  refine ov_gho (ov_up h (-77) 0 (1000 * (j + 2))) (fun a ha => (ov_up77 ha).symm) ?_
  have a1 : (ov_up h (-77) 0 (1000 * (j + 2))) 1 1 = h 1 1 := congrFun (ov_up77 (by decide)) 1
  have a2 : (ov_up h (-77) 0 (1000 * (j + 2))) 90 2 = h 90 2 := congrFun (ov_up77 (by decide)) 2
  have a3 : (ov_up h (-77) 0 (1000 * (j + 2))) (-77) 0 = (1000 * (j + 2)) := ov_uj.1 rfl
  have a5 : (ov_up h (-77) 0 (1000 * (j + 2))) 2 = h 2 := (ov_up77 (by decide)).trans (ov_FF_k I (Or.inl (by decide)) (by decide +kernel))
  have a6 : (ov_up h (-77) 0 (1000 * (j + 2))) 91 = h 91 := (ov_up77 (by decide)).trans ((I.2.1 91 (by decide) (by decide)).trans (ov_FF_ge (by decide)))
  have a7 : (ov_up h (-77) 0 (1000 * (j + 2))) 95 = h 95 := (ov_up77 (by decide)).trans ((I.2.1 95 (by decide) (by decide)).trans (ov_FF_ge (by decide)))
  have a96 : (ov_up h (-77) 0 (1000 * (j + 2))) 96 = h 96 := (ov_up77 (by decide)).trans ((I.2.1 96 (by decide) (by decide)).trans (ov_FF_ge (by decide)))
  have aU : ∀ b : Int, 0 ≤ b → (ov_up h (-77) 0 (1000 * (j + 2))) b = h b := fun b hb => ov_up77 hb
  have eT0 : h 0 10 = h 0 10 := by omega
  have aR : ∀ b : Int, 90 ≤ b → b < 115 → (ov_up h (-77) 0 (1000 * (j + 2))) b = h b := fun b b0 b1 => (ov_up77 (by omega)).trans ((I.2.1 b b0 b1).trans (ov_FF_ge (by omega)))
  have a20 : (ov_up h (-77) 0 (1000 * (j + 2))) 90 20 = h 90 20 := congrFun (aR 90 (by decide) (by decide)) 20
  have a4 : (ov_up h (-77) 0 (1000 * (j + 2))) 103 2 = h 103 2 := (congrFun (ov_up77 (by decide)) 2).trans (congrFun ((I.2.1 103 (by decide) (by decide)).trans (ov_FF_ge (by decide))) 2)
  generalize (ov_up h (-77) 0 (1000 * (j + 2))) = hg at K1 a1 a2 a3 a4 a5 a6 a7 a96 aU aR a20 ⊢
  have N1 := K1.2.1
  have hWT := K1.2.2.2.2.1
  have hCD := K1.2.2.2.2.2.1
  have hWK := K1.2.2.2.2.2.2.1
  have hPM : ov_PM (hg 96) (hg 103) (hg 97) (hg 98) (hg 105) (hg 106) (hg 90 22) (hg 90 25) (hg 90 26) (hg 90 28) (hg 90 29) (hg 90 30) := K1.2.2.2.2.2.2.2.1
  have hq1 := K1.2.2.2.2.2.2.2.2.1
  have hq2 := K1.2.2.2.2.2.2.2.2.2
  have hbd : ov_bd (hg, z) = (1000 * (j + 2)) := a3
  have g103 := s103_2 N1
  show ov_R u d (ov_mL nm) 1448 [(0, ov_r (-4)), (1, ov_r 0), (2, ov_r 90), (3, ov_i x3)] [ov_i v3] z hg ov_LQ
  refine ov_blk (ls2 := [(0, ov_r (-4)), (1, ov_r 0), (2, ov_r 90), (3, ov_i x3)]) (st2 := [ov_i (x3 + 1), ov_r (-4), ov_r 90]) (pc2 := 1454) b_313_1448_6 rfl rfl ?_
  refine ov_scl X d_313_1454 (by omega) ?_
  refine ov_cV (as := [ov_i (ov_xs xs (x3 + 1))]) (st := []) (d2 := d - 1) d_313_1455 lk_Law_152 rfl (Nat.le_of_ble_eq_true rfl) (c := 1) (zb_90 N1) (zs_90 N1) ⟨by decide, rfl⟩ (by omega) (c_Mo_count_90 (d - 1) (by omega) U N1 (ov_xs xs (x3 + 1)) (by omega) (by omega)) ?_
  rintro _ z23 h24 ⟨v6, rfl, I25, f5, e7, e8, e9, e10, e11, e12, e13, e14, e15, e16, e17, e18, e19, e20, e21, e22⟩
  have E26 : h24 91 = hg 91 := e7
  have E27 : h24 92 = hg 92 := e8
  have E28 : h24 93 = hg 93 := e9
  have E29 : h24 94 = hg 94 := e10
  have E30 : h24 95 = hg 95 := e11
  have E31 : h24 96 = hg 96 := e12
  have E32 : h24 97 = hg 97 := e13
  have E33 : h24 98 = hg 98 := e14
  have E34 : h24 99 = hg 99 := e15
  have E35 : h24 100 = hg 100 := e16
  have E36 : h24 103 = hg 103 := e17
  have E37 : h24 104 = hg 104 := e18
  have E38 : h24 105 = hg 105 := e19
  have E39 : h24 106 = hg 106 := e20
  have E40 : h24 109 = hg 109 := e21
  have E41 : h24 114 = hg 114 := e22
  show ov_R u d (ov_mL nm) 1458 [(0, ov_r (-4)), (1, ov_r 0), (2, ov_r 90), (3, ov_i x3)] [ov_i v6] z23 h24 ov_LQ
  have f42 : (h24 90 2) = (hg 90 2) ∧ (h24 90 7) = (hg 90 7) ∧ (h24 90 8) = (hg 90 8) ∧ (h24 90 13) = (hg 90 13) ∧ (h24 90 20) = (hg 90 20) ∧ (h24 90 22) = (hg 90 22) ∧ (h24 90 25) = (hg 90 25) ∧ (h24 90 26) = (hg 90 26) ∧ (h24 90 28) = (hg 90 28) ∧ (h24 90 29) = (hg 90 29) ∧ (h24 90 30) = (hg 90 30) ∧ (h24 90 34) = (hg 90 34) ∧ -2147483648 ≤ v6 ∧ v6 ≤ 2147483647 := f5
  clear f5
  have K2 : ov_LK (1 + (j + 1)) (4000 * (j + 1)) z23 h24 := ov_LK_r0 K1 I25 E31 E32 E33 E35 E36 E38 E39 (by omega) (by omega) (by omega)
  have b1 : h24 1 1 = hg 1 1 := congrFun (I25.2.2.2 1 (Or.inl (by decide))) 1
  have b7 : h24 (-77) 0 = hg (-77) 0 := congrFun (I25.2.2.2 (-77) (Or.inl (by decide))) 0
  have c2 : h24 2 = hg 2 := I25.2.2.2 2 (Or.inl (by decide))
  have bL : ∀ b : Int, 0 ≤ b → b < 90 → h24 b = hg b := fun b _ q => I25.2.2.2 b (Or.inl q)
  have S2 : ov_S3 h24 := ⟨by rw [c2, E26, a5, a6]; exact s0.1, by rw [E30, a7]; exact s0.2.1, ov_HT_s s0.2.2.1 I (by decide +kernel) eT0 aU bL E31 a96, st_same s0.2.2.2 (fun a a0 a1 a2 => ((bL a (by omega) (by omega)).trans (aU a (by omega))).trans (ov_FF_k I (Or.inl (by omega)) ((by decide +kernel : ∀ n, n < 36 → (4 ≤ n ∧ (n < 14 ∨ 15 ≤ n)) → Nat.testBit 1237940038997149967466889215 n = true) a.toNat (by omega) (by omega)))) (E36.trans (aR 103 (by decide) (by decide))) (fun m _ _ => congrFun (E37.trans (aR 104 (by decide) (by decide))) m) (congrFun (E31.trans (aR 96 (by decide) (by decide))) 5) (by omega)⟩
  refine ov_blk (ls2 := [(0, ov_r (-4)), (1, ov_r 0), (2, ov_r 90), (3, ov_i x3)]) (st2 := []) (pc2 := 1459) b_313_1458_1 rfl rfl ?_
  refine ov_goto (tgt := 1462) d_313_1459 (by decide) ?_
  exact BK _ _ K2 (by omega) (by omega) S2

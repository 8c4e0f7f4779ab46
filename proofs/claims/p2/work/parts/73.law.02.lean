set_option maxHeartbeats 4000000 in
theorem lw_case_15 {u : ov_U} {nm : String} {d : Nat} (hd : 1000 ≤ d) (U : ov_cap u) {L : Nat} {xs : Nat → Int32} (X : ov_SC u L xs) (hL : L ≤ 3584) (x3 j : Int) (z : ov_Z) (h : ov_H) (K : ov_LK (1 + j) (4000 * j) z h) (e0 : h 1 1 = h 90 2) (gb : h (-77) 0 = 1000 * (j + 1)) (q : 0 ≤ j ∧ x3 = 7 * j ∧ x3 ≤ L - 7) (BK : ∀ (z5 : ov_Z) (h5 : ov_H), ov_LK (1 + (j + 1)) (4000 * (j + 1)) z5 h5 → h5 1 1 = h5 90 2 → h5 (-77) 0 = 1000 * (j + 2) → ov_R u d (ov_mL nm) 1461 [(0, ov_r (-4)), (1, ov_r 0), (2, ov_r 90), (3, ov_i x3)] [] z5 h5 ov_LQ) : ov_R u d (ov_mL nm) 805 [(0, ov_r (-4)), (1, ov_r 0), (2, ov_r 90), (3, ov_i x3)] [] z h ov_LQ := by
  have I := ov_LK_I K
  have hW := ov_LK_W K
  have hJ0 := K.2.2.1
  have s3 := s103_2 K.2.1
  have hb0 : ov_bd (h, z) = 1000 * (j + 1) := gb
  refine ov_blk (ls2 := [(0, ov_r (-4)), (1, ov_r 0), (2, ov_r 90), (3, ov_i x3)]) (st2 := [ov_i (x3 + 1), ov_r (-4), ov_r 0]) (pc2 := 810) b_313_805_5 rfl rfl ?_
  refine ov_scl X d_313_810 (by omega) ?_
  have g1 := ov_xs_g xs (x3 + 1)
  refine ov_blk (ls2 := [(0, ov_r (-4)), (1, ov_r 0), (2, ov_r 90), (3, ov_i x3)]) (st2 := [ov_i (x3 + 2), ov_r (-4), ov_i (ov_xs xs (x3 + 1)), ov_r 0]) (pc2 := 815) b_313_811_4 rfl rfl ?_
  refine ov_scl X d_313_815 (by omega) ?_
  have g2 := ov_xs_g xs (x3 + 2)
  refine ov_blk (ls2 := [(0, ov_r (-4)), (1, ov_r 0), (2, ov_r 90), (3, ov_i x3)]) (st2 := [ov_i (x3 + 3), ov_r (-4), ov_i (ov_xs xs (x3 + 2)), ov_i (ov_xs xs (x3 + 1)), ov_r 0]) (pc2 := 820) b_313_816_4 rfl rfl ?_
  refine ov_scl X d_313_820 (by omega) ?_
  have g3 := ov_xs_g xs (x3 + 3)
  refine ov_cV (as := [ov_i (ov_xs xs (x3 + 1)), ov_i (ov_xs xs (x3 + 2)), ov_i (ov_xs xs (x3 + 3))]) (st := []) (d2 := d - 1) d_313_821 lk_Law_82 rfl (Nat.le_of_ble_eq_true rfl) (c := 0) (zb_0 I) (zs_0 I) ⟨by decide, rfl⟩ (by omega) (c_OF_gap_0 (d - 1) (by omega) U I (ov_xs xs (x3 + 1)) (ov_xs xs (x3 + 2)) (ov_xs xs (x3 + 3)) (by omega) (by omega) (by omega) (by omega) (by omega)) ?_
  rintro _ z6 h7 ⟨v5, rfl, I8, f4⟩
  show ov_R u d (ov_mL nm) 824 [(0, ov_r (-4)), (1, ov_r 0), (2, ov_r 90), (3, ov_i x3)] [ov_i v5] z6 h7 ov_LQ
  have f9 : ((h7 36 7) = 1 → (h7 36 8) = (h7 0 10)) ∧ (h7 1 1) = (h 1 1) ∧ (h7 90 2) = (h 90 2) ∧ (h7 0 10) = (h 0 10) ∧ (h7 0 11) = (h 0 11) ∧ (h7 0 12) = (h 0 12) ∧ (h7 0 13) = (h 0 13) ∧ (h7 3 1) = (h 3 1) ∧ (h7 46 3) = (h 46 3) ∧ (h7 46 4) = (h 46 4) ∧ (h7 49 4) = (h 49 4) ∧ (h7 49 5) = (h 49 5) ∧ (h7 64 0) = (h 64 0) ∧ (h7 76 0) = (h 76 0) := f4
  clear f4
  have K1 := ov_LK_c (B := (1000 * (j + 2))) K I8 (fun b h0 _ => ov_FF_ge h0) (by omega) (ov_HR_k hW I8 (by omega) (by omega) (by omega) (by omega)) (by omega)
  refine ov_gho (ov_up h7 (-77) 0 (1000 * (j + 2))) (fun a ha => (ov_up77 ha).symm) ?_
  have a1 : (ov_up h7 (-77) 0 (1000 * (j + 2))) 1 1 = h7 1 1 := congrFun (ov_up77 (by decide)) 1
  have a2 : (ov_up h7 (-77) 0 (1000 * (j + 2))) 90 2 = h7 90 2 := congrFun (ov_up77 (by decide)) 2
  have a3 : (ov_up h7 (-77) 0 (1000 * (j + 2))) (-77) 0 = (1000 * (j + 2)) := ov_uj.1 rfl
  have a4 : (ov_up h7 (-77) 0 (1000 * (j + 2))) 103 2 = h 103 2 := (congrFun (ov_up77 (by decide)) 2).trans (congrFun ((I8.2.1 103 (by decide) (by decide)).trans (ov_FF_ge (by decide))) 2)
  generalize (ov_up h7 (-77) 0 (1000 * (j + 2))) = hg at K1 a1 a2 a3 a4 ⊢
  have N1 := K1.2.1
  have hWT := K1.2.2.2.2.1
  have hCD := K1.2.2.2.2.2.1
  have hWK := K1.2.2.2.2.2.2.1
  have hPM : ov_PM (hg 96) (hg 103) (hg 97) (hg 98) (hg 105) (hg 106) (hg 90 22) (hg 90 25) (hg 90 26) (hg 90 28) (hg 90 29) (hg 90 30) := K1.2.2.2.2.2.2.2.1
  have hq1 := K1.2.2.2.2.2.2.2.2.1
  have hq2 := K1.2.2.2.2.2.2.2.2.2
  have hbd : ov_bd (hg, z6) = (1000 * (j + 2)) := a3
  have g103 := s103_2 N1
  show ov_R u d (ov_mL nm) 824 [(0, ov_r (-4)), (1, ov_r 0), (2, ov_r 90), (3, ov_i x3)] [ov_i v5] z6 hg ov_LQ
  refine ov_blk (ls2 := [(0, ov_r (-4)), (1, ov_r 0), (2, ov_r 90), (3, ov_i x3)]) (st2 := [ov_i (x3 + 1), ov_r (-4), ov_r 90]) (pc2 := 830) b_313_824_6 rfl rfl ?_
  refine ov_scl X d_313_830 (by omega) ?_
  refine ov_blk (ls2 := [(0, ov_r (-4)), (1, ov_r 0), (2, ov_r 90), (3, ov_i x3)]) (st2 := [ov_i (x3 + 2), ov_r (-4), ov_i (ov_xs xs (x3 + 1)), ov_r 90]) (pc2 := 835) b_313_831_4 rfl rfl ?_
  refine ov_scl X d_313_835 (by omega) ?_
  refine ov_blk (ls2 := [(0, ov_r (-4)), (1, ov_r 0), (2, ov_r 90), (3, ov_i x3)]) (st2 := [ov_i (x3 + 3), ov_r (-4), ov_i (ov_xs xs (x3 + 2)), ov_i (ov_xs xs (x3 + 1)), ov_r 90]) (pc2 := 840) b_313_836_4 rfl rfl ?_
  refine ov_scl X d_313_840 (by omega) ?_
  refine ov_cV (as := [ov_i (ov_xs xs (x3 + 1)), ov_i (ov_xs xs (x3 + 2)), ov_i (ov_xs xs (x3 + 3))]) (st := []) (d2 := d - 1) d_313_841 lk_Law_85 rfl (Nat.le_of_ble_eq_true rfl) (c := 1) (zb_90 N1) (zs_90 N1) ⟨by decide, rfl⟩ (by omega) (c_Mo_gap_90 (d - 1) (by omega) U N1 (ov_xs xs (x3 + 1)) (ov_xs xs (x3 + 2)) (ov_xs xs (x3 + 3)) (by omega) (by omega) (by omega) (by show 0 ≤ (hg 90 25) ∧ (hg 90 25) ≤ 1000000000; omega) hWT hCD hPM) ?_
  rintro _ z28 h29 ⟨v14, rfl, I30, f13, e15, e16, e17, e18, e19, e20, e21, e22, e23, e24, e25, e26, y27⟩
  have E31 : h29 92 = hg 92 := e15
  have E32 : h29 93 = hg 93 := e16
  have E33 : h29 94 = hg 94 := e17
  have E34 : h29 95 = hg 95 := e18
  have E35 : h29 96 = hg 96 := e19
  have E36 : h29 97 = hg 97 := e20
  have E37 : h29 98 = hg 98 := e21
  have E38 : h29 99 = hg 99 := e22
  have E39 : h29 100 = hg 100 := e23
  have E40 : h29 103 = hg 103 := e24
  have E41 : h29 109 = hg 109 := e25
  have E42 : h29 114 = hg 114 := e26
  show ov_R u d (ov_mL nm) 844 [(0, ov_r (-4)), (1, ov_r 0), (2, ov_r 90), (3, ov_i x3)] [ov_i v14] z28 h29 ov_LQ
  have f43 : (h29 90 2) = (hg 90 2) ∧ (h29 90 7) = (hg 90 7) ∧ (h29 90 8) = (hg 90 8) ∧ (h29 90 13) = (hg 90 13) ∧ (h29 90 20) = (hg 90 20) ∧ (h29 90 22) = (hg 90 22) ∧ (h29 90 34) = (hg 90 34) ∧ (hg 90 25) ≤ (h29 90 25) ∧ (h29 90 25) ≤ (hg 90 25) + 2 ∧ -1200000 ≤ v14 ∧ v14 ≤ 1200000 := f13
  clear f13
  have y27_ : ov_PM (hg 96) (hg 103) (hg 97) (hg 98) (h29 105) (h29 106) (h29 90 22) (h29 90 25) (h29 90 26) (h29 90 28) (h29 90 29) (h29 90 30) := y27
  have K2 : ov_LK (1 + (j + 1)) (4000 * (j + 1)) z28 h29 := ov_LK_rm (g := 2) K1 I30 E35 E36 E37 E39 E40 y27_ (by omega) (by omega) (by omega)
  have b1 : h29 1 1 = hg 1 1 := congrFun (I30.2.2.2 1 (Or.inl (by decide))) 1
  have b7 : h29 (-77) 0 = hg (-77) 0 := congrFun (I30.2.2.2 (-77) (Or.inl (by decide))) 0
  refine ov_blk (ls2 := [(0, ov_r (-4)), (1, ov_r 0), (2, ov_r 90), (3, ov_i x3)]) (st2 := []) (pc2 := 845) b_313_844_1 rfl rfl ?_
  refine ov_goto (tgt := 1461) d_313_845 (by decide) ?_
  exact BK _ _ K2 (by omega) (by omega)
set_option maxHeartbeats 4000000 in
theorem lw_case_16 {u : ov_U} {nm : String} {d : Nat} (hd : 1000 ≤ d) (U : ov_cap u) {L : Nat} {xs : Nat → Int32} (X : ov_SC u L xs) (hL : L ≤ 3584) (x3 j : Int) (z : ov_Z) (h : ov_H) (K : ov_LK (1 + j) (4000 * j) z h) (e0 : h 1 1 = h 90 2) (gb : h (-77) 0 = 1000 * (j + 1)) (q : 0 ≤ j ∧ x3 = 7 * j ∧ x3 ≤ L - 7) (BK : ∀ (z5 : ov_Z) (h5 : ov_H), ov_LK (1 + (j + 1)) (4000 * (j + 1)) z5 h5 → h5 1 1 = h5 90 2 → h5 (-77) 0 = 1000 * (j + 2) → ov_R u d (ov_mL nm) 1461 [(0, ov_r (-4)), (1, ov_r 0), (2, ov_r 90), (3, ov_i x3)] [] z5 h5 ov_LQ) : ov_R u d (ov_mL nm) 848 [(0, ov_r (-4)), (1, ov_r 0), (2, ov_r 90), (3, ov_i x3)] [] z h ov_LQ := by
  have I := ov_LK_I K
  have hW := ov_LK_W K
  have hJ0 := K.2.2.1
  have s3 := s103_2 K.2.1
  have hb0 : ov_bd (h, z) = 1000 * (j + 1) := gb
  refine ov_blk (ls2 := [(0, ov_r (-4)), (1, ov_r 0), (2, ov_r 90), (3, ov_i x3)]) (st2 := [ov_i (x3 + 1), ov_r (-4), ov_r 0]) (pc2 := 853) b_313_848_5 rfl rfl ?_
  refine ov_scl X d_313_853 (by omega) ?_
  have g1 := ov_xs_g xs (x3 + 1)
  refine ov_blk (ls2 := [(0, ov_r (-4)), (1, ov_r 0), (2, ov_r 90), (3, ov_i x3)]) (st2 := [ov_i (x3 + 2), ov_r (-4), ov_i (ov_xs xs (x3 + 1)), ov_r 0]) (pc2 := 858) b_313_854_4 rfl rfl ?_
  refine ov_scl X d_313_858 (by omega) ?_
  have g2 := ov_xs_g xs (x3 + 2)
  refine ov_blk (ls2 := [(0, ov_r (-4)), (1, ov_r 0), (2, ov_r 90), (3, ov_i x3)]) (st2 := [ov_i (x3 + 3), ov_r (-4), ov_i (ov_xs xs (x3 + 2)), ov_i (ov_xs xs (x3 + 1)), ov_r 0]) (pc2 := 863) b_313_859_4 rfl rfl ?_
  refine ov_scl X d_313_863 (by omega) ?_
  have g3 := ov_xs_g xs (x3 + 3)
  refine ov_cV (as := [ov_i (ov_xs xs (x3 + 1)), ov_i (ov_xs xs (x3 + 2)), ov_i (ov_xs xs (x3 + 3))]) (st := []) (d2 := d - 1) d_313_864 lk_Law_86 rfl (Nat.le_of_ble_eq_true rfl) (c := 0) (zb_0 I) (zs_0 I) ⟨by decide, rfl⟩ (by omega) (c_OF_watch_0 (d - 1) (by omega) U I (ov_xs xs (x3 + 1)) (ov_xs xs (x3 + 2)) (ov_xs xs (x3 + 3)) (by omega) (by omega) (by omega) (by omega) (by omega)) ?_
  rintro _ z6 h7 ⟨v5, rfl, I8, f4⟩
  show ov_R u d (ov_mL nm) 867 [(0, ov_r (-4)), (1, ov_r 0), (2, ov_r 90), (3, ov_i x3)] [ov_i v5] z6 h7 ov_LQ
  have f9 : ((h7 36 7) = 1 → (h7 36 8) = (h7 0 10)) ∧ (h7 1 1) = (h 1 1) ∧ (h7 90 2) = (h 90 2) ∧ (h7 0 10) = (h 0 10) ∧ (h7 0 11) = (h 0 11) ∧ (h7 0 12) = (h 0 12) ∧ (h7 0 13) = (h 0 13) ∧ (h7 3 1) = (h 3 1) ∧ (h7 46 3) = (h 46 3) ∧ (h7 46 4) = (h 46 4) ∧ (h7 49 4) = (h 49 4) ∧ (h7 49 5) = (h 49 5) ∧ (h7 64 0) = (h 64 0) ∧ (h7 76 0) = (h 76 0) := f4
  clear f4
  have K1 := ov_LK_c (B := (1000 * (j + 2))) K I8 (fun b h0 _ => ov_FF_ge h0) (by omega) (ov_HR_k hW I8 (by omega) (by omega) (by omega) (by omega)) (by omega)
  refine ov_gho (ov_up h7 (-77) 0 (1000 * (j + 2))) (fun a ha => (ov_up77 ha).symm) ?_
  have a1 : (ov_up h7 (-77) 0 (1000 * (j + 2))) 1 1 = h7 1 1 := congrFun (ov_up77 (by decide)) 1
  have a2 : (ov_up h7 (-77) 0 (1000 * (j + 2))) 90 2 = h7 90 2 := congrFun (ov_up77 (by decide)) 2
  have a3 : (ov_up h7 (-77) 0 (1000 * (j + 2))) (-77) 0 = (1000 * (j + 2)) := ov_uj.1 rfl
  have a4 : (ov_up h7 (-77) 0 (1000 * (j + 2))) 103 2 = h 103 2 := (congrFun (ov_up77 (by decide)) 2).trans (congrFun ((I8.2.1 103 (by decide) (by decide)).trans (ov_FF_ge (by decide))) 2)
  generalize (ov_up h7 (-77) 0 (1000 * (j + 2))) = hg at K1 a1 a2 a3 a4 ⊢
  have N1 := K1.2.1
  have hWT := K1.2.2.2.2.1
  have hCD := K1.2.2.2.2.2.1
  have hWK := K1.2.2.2.2.2.2.1
  have hPM : ov_PM (hg 96) (hg 103) (hg 97) (hg 98) (hg 105) (hg 106) (hg 90 22) (hg 90 25) (hg 90 26) (hg 90 28) (hg 90 29) (hg 90 30) := K1.2.2.2.2.2.2.2.1
  have hq1 := K1.2.2.2.2.2.2.2.2.1
  have hq2 := K1.2.2.2.2.2.2.2.2.2
  have hbd : ov_bd (hg, z6) = (1000 * (j + 2)) := a3
  have g103 := s103_2 N1
  show ov_R u d (ov_mL nm) 867 [(0, ov_r (-4)), (1, ov_r 0), (2, ov_r 90), (3, ov_i x3)] [ov_i v5] z6 hg ov_LQ
  refine ov_blk (ls2 := [(0, ov_r (-4)), (1, ov_r 0), (2, ov_r 90), (3, ov_i x3)]) (st2 := [ov_i (x3 + 1), ov_r (-4), ov_r 90]) (pc2 := 873) b_313_867_6 rfl rfl ?_
  refine ov_scl X d_313_873 (by omega) ?_
  refine ov_blk (ls2 := [(0, ov_r (-4)), (1, ov_r 0), (2, ov_r 90), (3, ov_i x3)]) (st2 := [ov_i (x3 + 2), ov_r (-4), ov_i (ov_xs xs (x3 + 1)), ov_r 90]) (pc2 := 878) b_313_874_4 rfl rfl ?_
  refine ov_scl X d_313_878 (by omega) ?_
  refine ov_blk (ls2 := [(0, ov_r (-4)), (1, ov_r 0), (2, ov_r 90), (3, ov_i x3)]) (st2 := [ov_i (x3 + 3), ov_r (-4), ov_i (ov_xs xs (x3 + 2)), ov_i (ov_xs xs (x3 + 1)), ov_r 90]) (pc2 := 883) b_313_879_4 rfl rfl ?_
  refine ov_scl X d_313_883 (by omega) ?_
  refine ov_cV (as := [ov_i (ov_xs xs (x3 + 1)), ov_i (ov_xs xs (x3 + 2)), ov_i (ov_xs xs (x3 + 3))]) (st := []) (d2 := d - 1) d_313_884 lk_Law_89 rfl (Nat.le_of_ble_eq_true rfl) (c := 1) (zb_90 N1) (zs_90 N1) ⟨by decide, rfl⟩ (by omega) (c_Mo_watch_90 (d - 1) (by omega) U N1 (ov_xs xs (x3 + 1)) (ov_xs xs (x3 + 2)) (ov_xs xs (x3 + 3)) (by omega) (by omega) (by omega) (by show 0 ≤ (hg 90 25) ∧ (hg 90 25) ≤ 1500000000; omega) hWT hCD hPM) ?_
  rintro _ z28 h29 ⟨v14, rfl, I30, f13, e15, e16, e17, e18, e19, e20, e21, e22, e23, e24, e25, e26, y27⟩
  have E31 : h29 92 = hg 92 := e15
  have E32 : h29 93 = hg 93 := e16
  have E33 : h29 94 = hg 94 := e17
  have E34 : h29 95 = hg 95 := e18
  have E35 : h29 96 = hg 96 := e19
  have E36 : h29 97 = hg 97 := e20
  have E37 : h29 98 = hg 98 := e21
  have E38 : h29 99 = hg 99 := e22
  have E39 : h29 100 = hg 100 := e23
  have E40 : h29 103 = hg 103 := e24
  have E41 : h29 109 = hg 109 := e25
  have E42 : h29 114 = hg 114 := e26
  show ov_R u d (ov_mL nm) 887 [(0, ov_r (-4)), (1, ov_r 0), (2, ov_r 90), (3, ov_i x3)] [ov_i v14] z28 h29 ov_LQ
  have f43 : (h29 90 2) = (hg 90 2) ∧ (h29 90 7) = (hg 90 7) ∧ (h29 90 8) = (hg 90 8) ∧ (h29 90 13) = (hg 90 13) ∧ (h29 90 20) = (hg 90 20) ∧ (h29 90 22) = (hg 90 22) ∧ (h29 90 34) = (hg 90 34) ∧ (hg 90 25) ≤ (h29 90 25) ∧ (h29 90 25) ≤ (hg 90 25) + 61 ∧ -2147483648 ≤ v14 ∧ v14 ≤ 2147483647 := f13
  clear f13
  have y27_ : ov_PM (hg 96) (hg 103) (hg 97) (hg 98) (h29 105) (h29 106) (h29 90 22) (h29 90 25) (h29 90 26) (h29 90 28) (h29 90 29) (h29 90 30) := y27
  have K2 : ov_LK (1 + (j + 1)) (4000 * (j + 1)) z28 h29 := ov_LK_rm (g := 61) K1 I30 E35 E36 E37 E39 E40 y27_ (by omega) (by omega) (by omega)
  have b1 : h29 1 1 = hg 1 1 := congrFun (I30.2.2.2 1 (Or.inl (by decide))) 1
  have b7 : h29 (-77) 0 = hg (-77) 0 := congrFun (I30.2.2.2 (-77) (Or.inl (by decide))) 0
  refine ov_blk (ls2 := [(0, ov_r (-4)), (1, ov_r 0), (2, ov_r 90), (3, ov_i x3)]) (st2 := []) (pc2 := 888) b_313_887_1 rfl rfl ?_
  refine ov_goto (tgt := 1461) d_313_888 (by decide) ?_
  exact BK _ _ K2 (by omega) (by omega)
set_option maxHeartbeats 4000000 in
theorem lw_case_17 {u : ov_U} {nm : String} {d : Nat} (hd : 1000 ≤ d) (U : ov_cap u) {L : Nat} {xs : Nat → Int32} (X : ov_SC u L xs) (hL : L ≤ 3584) (x3 j : Int) (z : ov_Z) (h : ov_H) (K : ov_LK (1 + j) (4000 * j) z h) (e0 : h 1 1 = h 90 2) (gb : h (-77) 0 = 1000 * (j + 1)) (q : 0 ≤ j ∧ x3 = 7 * j ∧ x3 ≤ L - 7) (BK : ∀ (z5 : ov_Z) (h5 : ov_H), ov_LK (1 + (j + 1)) (4000 * (j + 1)) z5 h5 → h5 1 1 = h5 90 2 → h5 (-77) 0 = 1000 * (j + 2) → ov_R u d (ov_mL nm) 1461 [(0, ov_r (-4)), (1, ov_r 0), (2, ov_r 90), (3, ov_i x3)] [] z5 h5 ov_LQ) : ov_R u d (ov_mL nm) 891 [(0, ov_r (-4)), (1, ov_r 0), (2, ov_r 90), (3, ov_i x3)] [] z h ov_LQ := by
  have I := ov_LK_I K
  have hW := ov_LK_W K
  have hJ0 := K.2.2.1
  have s3 := s103_2 K.2.1
  have hb0 : ov_bd (h, z) = 1000 * (j + 1) := gb
  refine ov_blk (ls2 := [(0, ov_r (-4)), (1, ov_r 0), (2, ov_r 90), (3, ov_i x3)]) (st2 := [ov_i (x3 + 1), ov_r (-4), ov_r 0]) (pc2 := 896) b_313_891_5 rfl rfl ?_
  refine ov_scl X d_313_896 (by omega) ?_
  have g1 := ov_xs_g xs (x3 + 1)
  refine ov_blk (ls2 := [(0, ov_r (-4)), (1, ov_r 0), (2, ov_r 90), (3, ov_i x3)]) (st2 := [ov_i (x3 + 2), ov_r (-4), ov_i (ov_xs xs (x3 + 1)), ov_r 0]) (pc2 := 901) b_313_897_4 rfl rfl ?_
  refine ov_scl X d_313_901 (by omega) ?_
  have g2 := ov_xs_g xs (x3 + 2)
  refine ov_blk (ls2 := [(0, ov_r (-4)), (1, ov_r 0), (2, ov_r 90), (3, ov_i x3)]) (st2 := [ov_i (x3 + 3), ov_r (-4), ov_i (ov_xs xs (x3 + 2)), ov_i (ov_xs xs (x3 + 1)), ov_r 0]) (pc2 := 906) b_313_902_4 rfl rfl ?_
  refine ov_scl X d_313_906 (by omega) ?_
  have g3 := ov_xs_g xs (x3 + 3)
  refine ov_cV (as := [ov_i (ov_xs xs (x3 + 1)), ov_i (ov_xs xs (x3 + 2)), ov_i (ov_xs xs (x3 + 3))]) (st := []) (d2 := d - 1) d_313_907 lk_Law_90 rfl (Nat.le_of_ble_eq_true rfl) (c := 0) (zb_0 I) (zs_0 I) ⟨by decide, rfl⟩ (by omega) (c_OF_latest_0 (d - 1) (by omega) U I (ov_xs xs (x3 + 1)) (ov_xs xs (x3 + 2)) (ov_xs xs (x3 + 3)) (by omega) (by omega) (by omega) (by omega)) ?_
  rintro _ z6 h7 ⟨v5, rfl, I8, f4⟩
  show ov_R u d (ov_mL nm) 910 [(0, ov_r (-4)), (1, ov_r 0), (2, ov_r 90), (3, ov_i x3)] [ov_i v5] z6 h7 ov_LQ
  have f9 : (h7 36 7) = (h 36 7) ∧ (h7 1 1) = (h 1 1) ∧ (h7 90 2) = (h 90 2) ∧ (h7 0 10) = (h 0 10) ∧ (h7 0 11) = (h 0 11) ∧ (h7 0 12) = (h 0 12) ∧ (h7 0 13) = (h 0 13) ∧ (h7 3 1) = (h 3 1) ∧ (h7 36 8) = (h 36 8) ∧ (h7 46 4) = (h 46 4) ∧ (h7 49 4) = (h 49 4) ∧ (h7 49 5) = (h 49 5) ∧ (h7 64 0) = (h 64 0) ∧ (h7 76 0) = (h 76 0) := f4
  clear f4
  have K1 := ov_LK_c (B := (1000 * (j + 2))) K I8 (fun b h0 _ => ov_FF_ge h0) (by omega) (ov_HR_k hW I8 (by omega) (by omega) (by omega) (by omega)) (by omega)
  refine ov_gho (ov_up h7 (-77) 0 (1000 * (j + 2))) (fun a ha => (ov_up77 ha).symm) ?_
  have a1 : (ov_up h7 (-77) 0 (1000 * (j + 2))) 1 1 = h7 1 1 := congrFun (ov_up77 (by decide)) 1
  have a2 : (ov_up h7 (-77) 0 (1000 * (j + 2))) 90 2 = h7 90 2 := congrFun (ov_up77 (by decide)) 2
  have a3 : (ov_up h7 (-77) 0 (1000 * (j + 2))) (-77) 0 = (1000 * (j + 2)) := ov_uj.1 rfl
  have a4 : (ov_up h7 (-77) 0 (1000 * (j + 2))) 103 2 = h 103 2 := (congrFun (ov_up77 (by decide)) 2).trans (congrFun ((I8.2.1 103 (by decide) (by decide)).trans (ov_FF_ge (by decide))) 2)
  generalize (ov_up h7 (-77) 0 (1000 * (j + 2))) = hg at K1 a1 a2 a3 a4 ⊢
  have N1 := K1.2.1
  have hWT := K1.2.2.2.2.1
  have hCD := K1.2.2.2.2.2.1
  have hWK := K1.2.2.2.2.2.2.1
  have hPM : ov_PM (hg 96) (hg 103) (hg 97) (hg 98) (hg 105) (hg 106) (hg 90 22) (hg 90 25) (hg 90 26) (hg 90 28) (hg 90 29) (hg 90 30) := K1.2.2.2.2.2.2.2.1
  have hq1 := K1.2.2.2.2.2.2.2.2.1
  have hq2 := K1.2.2.2.2.2.2.2.2.2
  have hbd : ov_bd (hg, z6) = (1000 * (j + 2)) := a3
  have g103 := s103_2 N1
  show ov_R u d (ov_mL nm) 910 [(0, ov_r (-4)), (1, ov_r 0), (2, ov_r 90), (3, ov_i x3)] [ov_i v5] z6 hg ov_LQ
  refine ov_blk (ls2 := [(0, ov_r (-4)), (1, ov_r 0), (2, ov_r 90), (3, ov_i x3)]) (st2 := [ov_i (x3 + 1), ov_r (-4), ov_r 90]) (pc2 := 916) b_313_910_6 rfl rfl ?_
  refine ov_scl X d_313_916 (by omega) ?_
  refine ov_blk (ls2 := [(0, ov_r (-4)), (1, ov_r 0), (2, ov_r 90), (3, ov_i x3)]) (st2 := [ov_i (x3 + 2), ov_r (-4), ov_i (ov_xs xs (x3 + 1)), ov_r 90]) (pc2 := 921) b_313_917_4 rfl rfl ?_
  refine ov_scl X d_313_921 (by omega) ?_
  refine ov_blk (ls2 := [(0, ov_r (-4)), (1, ov_r 0), (2, ov_r 90), (3, ov_i x3)]) (st2 := [ov_i (x3 + 3), ov_r (-4), ov_i (ov_xs xs (x3 + 2)), ov_i (ov_xs xs (x3 + 1)), ov_r 90]) (pc2 := 926) b_313_922_4 rfl rfl ?_
  refine ov_scl X d_313_926 (by omega) ?_
  refine ov_cV (as := [ov_i (ov_xs xs (x3 + 1)), ov_i (ov_xs xs (x3 + 2)), ov_i (ov_xs xs (x3 + 3))]) (st := []) (d2 := d - 1) d_313_927 lk_Law_93 rfl (Nat.le_of_ble_eq_true rfl) (c := 1) (zb_90 N1) (zs_90 N1) ⟨by decide, rfl⟩ (by omega) (c_Mo_latest_90 (d - 1) (by omega) U N1 (ov_xs xs (x3 + 1)) (ov_xs xs (x3 + 2)) (ov_xs xs (x3 + 3)) (by omega) (by omega) (by omega) hWT) ?_
  rintro _ z29 h30 ⟨v14, rfl, I31, f13, e15, e16, e17, e18, e19, e20, e21, e22, e23, e24, e25, e26, e27, e28⟩
  have E32 : h30 92 = hg 92 := e15
  have E33 : h30 93 = hg 93 := e16
  have E34 : h30 94 = hg 94 := e17
  have E35 : h30 95 = hg 95 := e18
  have E36 : h30 96 = hg 96 := e19
  have E37 : h30 97 = hg 97 := e20
  have E38 : h30 98 = hg 98 := e21
  have E39 : h30 99 = hg 99 := e22
  have E40 : h30 100 = hg 100 := e23
  have E41 : h30 103 = hg 103 := e24
  have E42 : h30 105 = hg 105 := e25
  have E43 : h30 106 = hg 106 := e26
  have E44 : h30 109 = hg 109 := e27
  have E45 : h30 114 = hg 114 := e28
  show ov_R u d (ov_mL nm) 930 [(0, ov_r (-4)), (1, ov_r 0), (2, ov_r 90), (3, ov_i x3)] [ov_i v14] z29 h30 ov_LQ
  have f46 : (h30 90 2) = (hg 90 2) ∧ (h30 90 7) = (hg 90 7) ∧ (h30 90 8) = (hg 90 8) ∧ (h30 90 13) = (hg 90 13) ∧ (h30 90 20) = (hg 90 20) ∧ (h30 90 22) = (hg 90 22) ∧ (h30 90 25) = (hg 90 25) ∧ (h30 90 26) = (hg 90 26) ∧ (h30 90 28) = (hg 90 28) ∧ (h30 90 29) = (hg 90 29) ∧ (h30 90 30) = (hg 90 30) ∧ (h30 90 34) = (hg 90 34) ∧ -2147483648 ≤ v14 ∧ v14 ≤ 2147483647 := f13
  clear f13
  have K2 : ov_LK (1 + (j + 1)) (4000 * (j + 1)) z29 h30 := ov_LK_r0 K1 I31 E36 E37 E38 E40 E41 E42 E43 (by omega) (by omega) (by omega)
  have b1 : h30 1 1 = hg 1 1 := congrFun (I31.2.2.2 1 (Or.inl (by decide))) 1
  have b7 : h30 (-77) 0 = hg (-77) 0 := congrFun (I31.2.2.2 (-77) (Or.inl (by decide))) 0
  refine ov_blk (ls2 := [(0, ov_r (-4)), (1, ov_r 0), (2, ov_r 90), (3, ov_i x3)]) (st2 := []) (pc2 := 931) b_313_930_1 rfl rfl ?_
  refine ov_goto (tgt := 1461) d_313_931 (by decide) ?_
  exact BK _ _ K2 (by omega) (by omega)
set_option maxHeartbeats 4000000 in
theorem lw_case_18 {u : ov_U} {nm : String} {d : Nat} (hd : 1000 ≤ d) (U : ov_cap u) {L : Nat} {xs : Nat → Int32} (X : ov_SC u L xs) (hL : L ≤ 3584) (x3 j : Int) (z : ov_Z) (h : ov_H) (K : ov_LK (1 + j) (4000 * j) z h) (e0 : h 1 1 = h 90 2) (gb : h (-77) 0 = 1000 * (j + 1)) (q : 0 ≤ j ∧ x3 = 7 * j ∧ x3 ≤ L - 7) (BK : ∀ (z5 : ov_Z) (h5 : ov_H), ov_LK (1 + (j + 1)) (4000 * (j + 1)) z5 h5 → h5 1 1 = h5 90 2 → h5 (-77) 0 = 1000 * (j + 2) → ov_R u d (ov_mL nm) 1461 [(0, ov_r (-4)), (1, ov_r 0), (2, ov_r 90), (3, ov_i x3)] [] z5 h5 ov_LQ) : ov_R u d (ov_mL nm) 934 [(0, ov_r (-4)), (1, ov_r 0), (2, ov_r 90), (3, ov_i x3)] [] z h ov_LQ := by
  have I := ov_LK_I K
  have hW := ov_LK_W K
  have hJ0 := K.2.2.1
  have s3 := s103_2 K.2.1
  have hb0 : ov_bd (h, z) = 1000 * (j + 1) := gb
  refine ov_blk (ls2 := [(0, ov_r (-4)), (1, ov_r 0), (2, ov_r 90), (3, ov_i x3)]) (st2 := [ov_i (x3 + 1), ov_r (-4), ov_r 0]) (pc2 := 939) b_313_934_5 rfl rfl ?_
  refine ov_scl X d_313_939 (by omega) ?_
  have g1 := ov_xs_g xs (x3 + 1)
  refine ov_blk (ls2 := [(0, ov_r (-4)), (1, ov_r 0), (2, ov_r 90), (3, ov_i x3)]) (st2 := [ov_i (x3 + 2), ov_r (-4), ov_i (ov_xs xs (x3 + 1)), ov_r 0]) (pc2 := 944) b_313_940_4 rfl rfl ?_
  refine ov_scl X d_313_944 (by omega) ?_
  have g2 := ov_xs_g xs (x3 + 2)
  refine ov_cV (as := [ov_i (ov_xs xs (x3 + 1)), ov_i (ov_xs xs (x3 + 2))]) (st := []) (d2 := d - 1) d_313_945 lk_Law_94 rfl (Nat.le_of_ble_eq_true rfl) (c := 0) (zb_0 I) (zs_0 I) ⟨by decide, rfl⟩ (by omega) (c_OF_turning_0 (d - 1) (by omega) U I (ov_xs xs (x3 + 1)) (ov_xs xs (x3 + 2)) (by omega) (by omega) (by omega)) ?_
  rintro _ z5 h6 ⟨v4, rfl, I7, f3⟩
  show ov_R u d (ov_mL nm) 948 [(0, ov_r (-4)), (1, ov_r 0), (2, ov_r 90), (3, ov_i x3)] [ov_i v4] z5 h6 ov_LQ
  have f8 : (h6 36 7) = (h 36 7) ∧ (h6 1 1) = (h 1 1) ∧ (h6 90 2) = (h 90 2) ∧ (h6 0 10) = (h 0 10) ∧ (h6 0 11) = (h 0 11) ∧ (h6 0 12) = (h 0 12) ∧ (h6 0 13) = (h 0 13) ∧ (h6 3 1) = (h 3 1) ∧ (h6 36 8) = (h 36 8) ∧ (h6 46 4) = (h 46 4) ∧ (h6 49 4) = (h 49 4) ∧ (h6 49 5) = (h 49 5) ∧ (h6 64 0) = (h 64 0) ∧ (h6 76 0) = (h 76 0) := f3
  clear f3
  have K1 := ov_LK_c (B := (1000 * (j + 2))) K I7 (fun b h0 _ => ov_FF_ge h0) (by omega) (ov_HR_k hW I7 (by omega) (by omega) (by omega) (by omega)) (by omega)
  refine ov_gho (ov_up h6 (-77) 0 (1000 * (j + 2))) (fun a ha => (ov_up77 ha).symm) ?_
  have a1 : (ov_up h6 (-77) 0 (1000 * (j + 2))) 1 1 = h6 1 1 := congrFun (ov_up77 (by decide)) 1
  have a2 : (ov_up h6 (-77) 0 (1000 * (j + 2))) 90 2 = h6 90 2 := congrFun (ov_up77 (by decide)) 2
  have a3 : (ov_up h6 (-77) 0 (1000 * (j + 2))) (-77) 0 = (1000 * (j + 2)) := ov_uj.1 rfl
  have a4 : (ov_up h6 (-77) 0 (1000 * (j + 2))) 103 2 = h 103 2 := (congrFun (ov_up77 (by decide)) 2).trans (congrFun ((I7.2.1 103 (by decide) (by decide)).trans (ov_FF_ge (by decide))) 2)
  generalize (ov_up h6 (-77) 0 (1000 * (j + 2))) = hg at K1 a1 a2 a3 a4 ⊢
  have N1 := K1.2.1
  have hWT := K1.2.2.2.2.1
  have hCD := K1.2.2.2.2.2.1
  have hWK := K1.2.2.2.2.2.2.1
  have hPM : ov_PM (hg 96) (hg 103) (hg 97) (hg 98) (hg 105) (hg 106) (hg 90 22) (hg 90 25) (hg 90 26) (hg 90 28) (hg 90 29) (hg 90 30) := K1.2.2.2.2.2.2.2.1
  have hq1 := K1.2.2.2.2.2.2.2.2.1
  have hq2 := K1.2.2.2.2.2.2.2.2.2
  have hbd : ov_bd (hg, z5) = (1000 * (j + 2)) := a3
  have g103 := s103_2 N1
  show ov_R u d (ov_mL nm) 948 [(0, ov_r (-4)), (1, ov_r 0), (2, ov_r 90), (3, ov_i x3)] [ov_i v4] z5 hg ov_LQ
  refine ov_blk (ls2 := [(0, ov_r (-4)), (1, ov_r 0), (2, ov_r 90), (3, ov_i x3)]) (st2 := [ov_i (x3 + 1), ov_r (-4), ov_r 90]) (pc2 := 954) b_313_948_6 rfl rfl ?_
  refine ov_scl X d_313_954 (by omega) ?_
  refine ov_blk (ls2 := [(0, ov_r (-4)), (1, ov_r 0), (2, ov_r 90), (3, ov_i x3)]) (st2 := [ov_i (x3 + 2), ov_r (-4), ov_i (ov_xs xs (x3 + 1)), ov_r 90]) (pc2 := 959) b_313_955_4 rfl rfl ?_
  refine ov_scl X d_313_959 (by omega) ?_
  refine ov_cV (as := [ov_i (ov_xs xs (x3 + 1)), ov_i (ov_xs xs (x3 + 2))]) (st := []) (d2 := d - 1) d_313_960 lk_Law_98 rfl (Nat.le_of_ble_eq_true rfl) (c := 1) (zb_90 N1) (zs_90 N1) ⟨by decide, rfl⟩ (by omega) (c_Mo_turning_90 (d - 1) (by omega) U N1 (ov_xs xs (x3 + 1)) (ov_xs xs (x3 + 2)) (by omega) (by omega) hWT) ?_
  rintro _ z27 h28 ⟨v12, rfl, I29, f11, e13, e14, e15, e16, e17, e18, e19, e20, e21, e22, e23, e24, e25, e26⟩
  have E30 : h28 92 = hg 92 := e13
  have E31 : h28 93 = hg 93 := e14
  have E32 : h28 94 = hg 94 := e15
  have E33 : h28 95 = hg 95 := e16
  have E34 : h28 96 = hg 96 := e17
  have E35 : h28 97 = hg 97 := e18
  have E36 : h28 98 = hg 98 := e19
  have E37 : h28 99 = hg 99 := e20
  have E38 : h28 100 = hg 100 := e21
  have E39 : h28 103 = hg 103 := e22
  have E40 : h28 105 = hg 105 := e23
  have E41 : h28 106 = hg 106 := e24
  have E42 : h28 109 = hg 109 := e25
  have E43 : h28 114 = hg 114 := e26
  show ov_R u d (ov_mL nm) 963 [(0, ov_r (-4)), (1, ov_r 0), (2, ov_r 90), (3, ov_i x3)] [ov_i v12] z27 h28 ov_LQ
  have f44 : (h28 90 2) = (hg 90 2) ∧ (h28 90 7) = (hg 90 7) ∧ (h28 90 8) = (hg 90 8) ∧ (h28 90 13) = (hg 90 13) ∧ (h28 90 20) = (hg 90 20) ∧ (h28 90 22) = (hg 90 22) ∧ (h28 90 25) = (hg 90 25) ∧ (h28 90 26) = (hg 90 26) ∧ (h28 90 28) = (hg 90 28) ∧ (h28 90 29) = (hg 90 29) ∧ (h28 90 30) = (hg 90 30) ∧ (h28 90 34) = (hg 90 34) ∧ -2147483648 ≤ v12 ∧ v12 ≤ 2147483647 := f11
  clear f11
  have K2 : ov_LK (1 + (j + 1)) (4000 * (j + 1)) z27 h28 := ov_LK_r0 K1 I29 E34 E35 E36 E38 E39 E40 E41 (by omega) (by omega) (by omega)
  have b1 : h28 1 1 = hg 1 1 := congrFun (I29.2.2.2 1 (Or.inl (by decide))) 1
  have b7 : h28 (-77) 0 = hg (-77) 0 := congrFun (I29.2.2.2 (-77) (Or.inl (by decide))) 0
  refine ov_blk (ls2 := [(0, ov_r (-4)), (1, ov_r 0), (2, ov_r 90), (3, ov_i x3)]) (st2 := []) (pc2 := 964) b_313_963_1 rfl rfl ?_
  refine ov_goto (tgt := 1461) d_313_964 (by decide) ?_
  exact BK _ _ K2 (by omega) (by omega)
set_option maxHeartbeats 4000000 in
theorem lw_case_19 {u : ov_U} {nm : String} {d : Nat} (hd : 1000 ≤ d) (U : ov_cap u) {L : Nat} {xs : Nat → Int32} (X : ov_SC u L xs) (hL : L ≤ 3584) (x3 j : Int) (z : ov_Z) (h : ov_H) (K : ov_LK (1 + j) (4000 * j) z h) (e0 : h 1 1 = h 90 2) (gb : h (-77) 0 = 1000 * (j + 1)) (q : 0 ≤ j ∧ x3 = 7 * j ∧ x3 ≤ L - 7) (BK : ∀ (z5 : ov_Z) (h5 : ov_H), ov_LK (1 + (j + 1)) (4000 * (j + 1)) z5 h5 → h5 1 1 = h5 90 2 → h5 (-77) 0 = 1000 * (j + 2) → ov_R u d (ov_mL nm) 1461 [(0, ov_r (-4)), (1, ov_r 0), (2, ov_r 90), (3, ov_i x3)] [] z5 h5 ov_LQ) : ov_R u d (ov_mL nm) 967 [(0, ov_r (-4)), (1, ov_r 0), (2, ov_r 90), (3, ov_i x3)] [] z h ov_LQ := by
  have I := ov_LK_I K
  have hW := ov_LK_W K
  have hJ0 := K.2.2.1
  have s3 := s103_2 K.2.1
  have hb0 : ov_bd (h, z) = 1000 * (j + 1) := gb
  refine ov_blk (ls2 := [(0, ov_r (-4)), (1, ov_r 0), (2, ov_r 90), (3, ov_i x3)]) (st2 := [ov_i (x3 + 1), ov_r (-4), ov_r 0]) (pc2 := 972) b_313_967_5 rfl rfl ?_
  refine ov_scl X d_313_972 (by omega) ?_
  have g1 := ov_xs_g xs (x3 + 1)
  refine ov_cV (as := [ov_i (ov_xs xs (x3 + 1))]) (st := []) (d2 := d - 1) d_313_973 lk_Law_99 rfl (Nat.le_of_ble_eq_true rfl) (c := 0) (zb_0 I) (zs_0 I) ⟨by decide, rfl⟩ (by omega) (c_OF_worthiest_0 (d - 1) (by omega) U I (ov_xs xs (x3 + 1)) (by omega) (by omega) (by omega)) ?_
  rintro _ z4 h5 ⟨v3, rfl, I6, f2⟩
  show ov_R u d (ov_mL nm) 976 [(0, ov_r (-4)), (1, ov_r 0), (2, ov_r 90), (3, ov_i x3)] [ov_i v3] z4 h5 ov_LQ
  have f7 : ((h5 36 7) = 1 → (h5 36 8) = (h5 0 10)) ∧ (h5 1 1) = (h 1 1) ∧ (h5 90 2) = (h 90 2) ∧ (h5 0 10) = (h 0 10) ∧ (h5 0 11) = (h 0 11) ∧ (h5 0 12) = (h 0 12) ∧ (h5 0 13) = (h 0 13) ∧ (h5 3 1) = (h 3 1) ∧ (h5 46 3) = (h 46 3) ∧ (h5 46 4) = (h 46 4) ∧ (h5 49 4) = (h 49 4) ∧ (h5 49 5) = (h 49 5) ∧ (h5 64 0) = (h 64 0) ∧ (h5 76 0) = (h 76 0) := f2
  clear f2
  have K1 := ov_LK_c (B := (1000 * (j + 2))) K I6 (fun b h0 _ => ov_FF_ge h0) (by omega) (ov_HR_k hW I6 (by omega) (by omega) (by omega) (by omega)) (by omega)
  refine ov_gho (ov_up h5 (-77) 0 (1000 * (j + 2))) (fun a ha => (ov_up77 ha).symm) ?_
  have a1 : (ov_up h5 (-77) 0 (1000 * (j + 2))) 1 1 = h5 1 1 := congrFun (ov_up77 (by decide)) 1
  have a2 : (ov_up h5 (-77) 0 (1000 * (j + 2))) 90 2 = h5 90 2 := congrFun (ov_up77 (by decide)) 2
  have a3 : (ov_up h5 (-77) 0 (1000 * (j + 2))) (-77) 0 = (1000 * (j + 2)) := ov_uj.1 rfl
  have a4 : (ov_up h5 (-77) 0 (1000 * (j + 2))) 103 2 = h 103 2 := (congrFun (ov_up77 (by decide)) 2).trans (congrFun ((I6.2.1 103 (by decide) (by decide)).trans (ov_FF_ge (by decide))) 2)
  generalize (ov_up h5 (-77) 0 (1000 * (j + 2))) = hg at K1 a1 a2 a3 a4 ⊢
  have N1 := K1.2.1
  have hWT := K1.2.2.2.2.1
  have hCD := K1.2.2.2.2.2.1
  have hWK := K1.2.2.2.2.2.2.1
  have hPM : ov_PM (hg 96) (hg 103) (hg 97) (hg 98) (hg 105) (hg 106) (hg 90 22) (hg 90 25) (hg 90 26) (hg 90 28) (hg 90 29) (hg 90 30) := K1.2.2.2.2.2.2.2.1
  have hq1 := K1.2.2.2.2.2.2.2.2.1
  have hq2 := K1.2.2.2.2.2.2.2.2.2
  have hbd : ov_bd (hg, z4) = (1000 * (j + 2)) := a3
  have g103 := s103_2 N1
  show ov_R u d (ov_mL nm) 976 [(0, ov_r (-4)), (1, ov_r 0), (2, ov_r 90), (3, ov_i x3)] [ov_i v3] z4 hg ov_LQ
  refine ov_blk (ls2 := [(0, ov_r (-4)), (1, ov_r 0), (2, ov_r 90), (3, ov_i x3)]) (st2 := [ov_i (x3 + 1), ov_r (-4), ov_r 90]) (pc2 := 982) b_313_976_6 rfl rfl ?_
  refine ov_scl X d_313_982 (by omega) ?_
  refine ov_cV (as := [ov_i (ov_xs xs (x3 + 1))]) (st := []) (d2 := d - 1) d_313_983 lk_Law_102 rfl (Nat.le_of_ble_eq_true rfl) (c := 1) (zb_90 N1) (zs_90 N1) ⟨by decide, rfl⟩ (by omega) (c_Mo_worthiest_90 (d - 1) (by omega) U N1 (ov_xs xs (x3 + 1)) (by omega) (by show 0 ≤ (hg 90 25) ∧ (hg 90 25) ≤ 1000000000; omega) hWT hCD hPM) ?_
  rintro _ z24 h25 ⟨v10, rfl, I26, f9, e11, e12, e13, e14, e15, e16, e17, e18, e19, e20, e21, e22, y23⟩
  have E27 : h25 92 = hg 92 := e11
  have E28 : h25 93 = hg 93 := e12
  have E29 : h25 94 = hg 94 := e13
  have E30 : h25 95 = hg 95 := e14
  have E31 : h25 96 = hg 96 := e15
  have E32 : h25 97 = hg 97 := e16
  have E33 : h25 98 = hg 98 := e17
  have E34 : h25 99 = hg 99 := e18
  have E35 : h25 100 = hg 100 := e19
  have E36 : h25 103 = hg 103 := e20
  have E37 : h25 109 = hg 109 := e21
  have E38 : h25 114 = hg 114 := e22
  show ov_R u d (ov_mL nm) 986 [(0, ov_r (-4)), (1, ov_r 0), (2, ov_r 90), (3, ov_i x3)] [ov_i v10] z24 h25 ov_LQ
  have f39 : (h25 90 2) = (hg 90 2) ∧ (h25 90 7) = (hg 90 7) ∧ (h25 90 8) = (hg 90 8) ∧ (h25 90 13) = (hg 90 13) ∧ (h25 90 20) = (hg 90 20) ∧ (h25 90 22) = (hg 90 22) ∧ (h25 90 34) = (hg 90 34) ∧ (hg 90 25) ≤ (h25 90 25) ∧ (h25 90 25) ≤ (hg 90 25) + 3400 ∧ -1 ≤ v10 ∧ v10 ≤ 100 := f9
  clear f9
  have y23_ : ov_PM (hg 96) (hg 103) (hg 97) (hg 98) (h25 105) (h25 106) (h25 90 22) (h25 90 25) (h25 90 26) (h25 90 28) (h25 90 29) (h25 90 30) := y23
  have K2 : ov_LK (1 + (j + 1)) (4000 * (j + 1)) z24 h25 := ov_LK_rm (g := 3400) K1 I26 E31 E32 E33 E35 E36 y23_ (by omega) (by omega) (by omega)
  have b1 : h25 1 1 = hg 1 1 := congrFun (I26.2.2.2 1 (Or.inl (by decide))) 1
  have b7 : h25 (-77) 0 = hg (-77) 0 := congrFun (I26.2.2.2 (-77) (Or.inl (by decide))) 0
  refine ov_blk (ls2 := [(0, ov_r (-4)), (1, ov_r 0), (2, ov_r 90), (3, ov_i x3)]) (st2 := []) (pc2 := 987) b_313_986_1 rfl rfl ?_
  refine ov_goto (tgt := 1461) d_313_987 (by decide) ?_
  exact BK _ _ K2 (by omega) (by omega)
set_option maxHeartbeats 4000000 in
theorem lw_case_20 {u : ov_U} {nm : String} {d : Nat} (hd : 1000 ≤ d) (U : ov_cap u) {L : Nat} {xs : Nat → Int32} (X : ov_SC u L xs) (hL : L ≤ 3584) (x3 j : Int) (z : ov_Z) (h : ov_H) (K : ov_LK (1 + j) (4000 * j) z h) (e0 : h 1 1 = h 90 2) (gb : h (-77) 0 = 1000 * (j + 1)) (q : 0 ≤ j ∧ x3 = 7 * j ∧ x3 ≤ L - 7) (BK : ∀ (z5 : ov_Z) (h5 : ov_H), ov_LK (1 + (j + 1)) (4000 * (j + 1)) z5 h5 → h5 1 1 = h5 90 2 → h5 (-77) 0 = 1000 * (j + 2) → ov_R u d (ov_mL nm) 1461 [(0, ov_r (-4)), (1, ov_r 0), (2, ov_r 90), (3, ov_i x3)] [] z5 h5 ov_LQ) : ov_R u d (ov_mL nm) 990 [(0, ov_r (-4)), (1, ov_r 0), (2, ov_r 90), (3, ov_i x3)] [] z h ov_LQ := by
  have I := ov_LK_I K
  have hW := ov_LK_W K
  have hJ0 := K.2.2.1
  have s3 := s103_2 K.2.1
  have hb0 : ov_bd (h, z) = 1000 * (j + 1) := gb
  refine ov_blk (ls2 := [(0, ov_r (-4)), (1, ov_r 0), (2, ov_r 90), (3, ov_i x3)]) (st2 := [ov_i (x3 + 1), ov_r (-4), ov_r 0]) (pc2 := 995) b_313_990_5 rfl rfl ?_
  refine ov_scl X d_313_995 (by omega) ?_
  have g1 := ov_xs_g xs (x3 + 1)
  refine ov_blk (ls2 := [(0, ov_r (-4)), (1, ov_r 0), (2, ov_r 90), (3, ov_i x3)]) (st2 := [ov_i (x3 + 2), ov_r (-4), ov_i (ov_xs xs (x3 + 1)), ov_r 0]) (pc2 := 1000) b_313_996_4 rfl rfl ?_
  refine ov_scl X d_313_1000 (by omega) ?_
  have g2 := ov_xs_g xs (x3 + 2)
  refine ov_blk (ls2 := [(0, ov_r (-4)), (1, ov_r 0), (2, ov_r 90), (3, ov_i x3)]) (st2 := [ov_i (x3 + 3), ov_r (-4), ov_i (ov_xs xs (x3 + 2)), ov_i (ov_xs xs (x3 + 1)), ov_r 0]) (pc2 := 1005) b_313_1001_4 rfl rfl ?_
  refine ov_scl X d_313_1005 (by omega) ?_
  have g3 := ov_xs_g xs (x3 + 3)
  refine ov_cV (as := [ov_i (ov_xs xs (x3 + 1)), ov_i (ov_xs xs (x3 + 2)), ov_i (ov_xs xs (x3 + 3))]) (st := []) (d2 := d - 1) d_313_1006 lk_Law_103 rfl (Nat.le_of_ble_eq_true rfl) (c := 0) (zb_0 I) (zs_0 I) ⟨by decide, rfl⟩ (by omega) (c_OF_odds_0 (d - 1) (by omega) U I (ov_xs xs (x3 + 1)) (ov_xs xs (x3 + 2)) (ov_xs xs (x3 + 3)) (by omega) (by omega) (by omega) (by omega) (by omega)) ?_
  rintro _ z6 h7 ⟨v5, rfl, I8, f4⟩
  show ov_R u d (ov_mL nm) 1009 [(0, ov_r (-4)), (1, ov_r 0), (2, ov_r 90), (3, ov_i x3)] [ov_i v5] z6 h7 ov_LQ
  have f9 : ((h7 36 7) = 1 → (h7 36 8) = (h7 0 10)) ∧ (h7 1 1) = (h 1 1) ∧ (h7 90 2) = (h 90 2) ∧ (h7 0 10) = (h 0 10) ∧ (h7 0 11) = (h 0 11) ∧ (h7 0 12) = (h 0 12) ∧ (h7 0 13) = (h 0 13) ∧ (h7 3 1) = (h 3 1) ∧ (h7 46 3) = (h 46 3) ∧ (h7 46 4) = (h 46 4) ∧ (h7 49 4) = (h 49 4) ∧ (h7 49 5) = (h 49 5) ∧ (h7 64 0) = (h 64 0) ∧ (h7 76 0) = (h 76 0) := f4
  clear f4
  have K1 := ov_LK_c (B := (1000 * (j + 2))) K I8 (fun b h0 _ => ov_FF_ge h0) (by omega) (ov_HR_k hW I8 (by omega) (by omega) (by omega) (by omega)) (by omega)
  refine ov_gho (ov_up h7 (-77) 0 (1000 * (j + 2))) (fun a ha => (ov_up77 ha).symm) ?_
  have a1 : (ov_up h7 (-77) 0 (1000 * (j + 2))) 1 1 = h7 1 1 := congrFun (ov_up77 (by decide)) 1
  have a2 : (ov_up h7 (-77) 0 (1000 * (j + 2))) 90 2 = h7 90 2 := congrFun (ov_up77 (by decide)) 2
  have a3 : (ov_up h7 (-77) 0 (1000 * (j + 2))) (-77) 0 = (1000 * (j + 2)) := ov_uj.1 rfl
  have a4 : (ov_up h7 (-77) 0 (1000 * (j + 2))) 103 2 = h 103 2 := (congrFun (ov_up77 (by decide)) 2).trans (congrFun ((I8.2.1 103 (by decide) (by decide)).trans (ov_FF_ge (by decide))) 2)
  generalize (ov_up h7 (-77) 0 (1000 * (j + 2))) = hg at K1 a1 a2 a3 a4 ⊢
  have N1 := K1.2.1
  have hWT := K1.2.2.2.2.1
  have hCD := K1.2.2.2.2.2.1
  have hWK := K1.2.2.2.2.2.2.1
  have hPM : ov_PM (hg 96) (hg 103) (hg 97) (hg 98) (hg 105) (hg 106) (hg 90 22) (hg 90 25) (hg 90 26) (hg 90 28) (hg 90 29) (hg 90 30) := K1.2.2.2.2.2.2.2.1
  have hq1 := K1.2.2.2.2.2.2.2.2.1
  have hq2 := K1.2.2.2.2.2.2.2.2.2
  have hbd : ov_bd (hg, z6) = (1000 * (j + 2)) := a3
  have g103 := s103_2 N1
  show ov_R u d (ov_mL nm) 1009 [(0, ov_r (-4)), (1, ov_r 0), (2, ov_r 90), (3, ov_i x3)] [ov_i v5] z6 hg ov_LQ
  refine ov_blk (ls2 := [(0, ov_r (-4)), (1, ov_r 0), (2, ov_r 90), (3, ov_i x3)]) (st2 := [ov_i (x3 + 1), ov_r (-4), ov_r 90]) (pc2 := 1015) b_313_1009_6 rfl rfl ?_
  refine ov_scl X d_313_1015 (by omega) ?_
  refine ov_blk (ls2 := [(0, ov_r (-4)), (1, ov_r 0), (2, ov_r 90), (3, ov_i x3)]) (st2 := [ov_i (x3 + 2), ov_r (-4), ov_i (ov_xs xs (x3 + 1)), ov_r 90]) (pc2 := 1020) b_313_1016_4 rfl rfl ?_
  refine ov_scl X d_313_1020 (by omega) ?_
  refine ov_blk (ls2 := [(0, ov_r (-4)), (1, ov_r 0), (2, ov_r 90), (3, ov_i x3)]) (st2 := [ov_i (x3 + 3), ov_r (-4), ov_i (ov_xs xs (x3 + 2)), ov_i (ov_xs xs (x3 + 1)), ov_r 90]) (pc2 := 1025) b_313_1021_4 rfl rfl ?_
  refine ov_scl X d_313_1025 (by omega) ?_
  refine ov_cV (as := [ov_i (ov_xs xs (x3 + 1)), ov_i (ov_xs xs (x3 + 2)), ov_i (ov_xs xs (x3 + 3))]) (st := []) (d2 := d - 1) d_313_1026 lk_Law_106 rfl (Nat.le_of_ble_eq_true rfl) (c := 1) (zb_90 N1) (zs_90 N1) ⟨by decide, rfl⟩ (by omega) (c_Mo_odds_90 (d - 1) (by omega) U N1 (ov_xs xs (x3 + 1)) (ov_xs xs (x3 + 2)) (ov_xs xs (x3 + 3)) (by omega) (by omega) (by omega) (by show 0 ≤ (hg 90 25) ∧ (hg 90 25) ≤ 1000000000; omega) hWT hCD hPM) ?_
  rintro _ z28 h29 ⟨v14, rfl, I30, f13, e15, e16, e17, e18, e19, e20, e21, e22, e23, e24, e25, e26, y27⟩
  have E31 : h29 92 = hg 92 := e15
  have E32 : h29 93 = hg 93 := e16
  have E33 : h29 94 = hg 94 := e17
  have E34 : h29 95 = hg 95 := e18
  have E35 : h29 96 = hg 96 := e19
  have E36 : h29 97 = hg 97 := e20
  have E37 : h29 98 = hg 98 := e21
  have E38 : h29 99 = hg 99 := e22
  have E39 : h29 100 = hg 100 := e23
  have E40 : h29 103 = hg 103 := e24
  have E41 : h29 109 = hg 109 := e25
  have E42 : h29 114 = hg 114 := e26
  show ov_R u d (ov_mL nm) 1029 [(0, ov_r (-4)), (1, ov_r 0), (2, ov_r 90), (3, ov_i x3)] [ov_i v14] z28 h29 ov_LQ
  have f43 : (h29 90 2) = (hg 90 2) ∧ (h29 90 7) = (hg 90 7) ∧ (h29 90 8) = (hg 90 8) ∧ (h29 90 13) = (hg 90 13) ∧ (h29 90 20) = (hg 90 20) ∧ (h29 90 22) = (hg 90 22) ∧ (hg 90 25) ≤ (h29 90 25) ∧ (h29 90 25) ≤ (hg 90 25) + 1 ∧ -2147483648 ≤ v14 ∧ v14 ≤ 2147483647 := f13
  clear f13
  have y27_ : ov_PM (hg 96) (hg 103) (hg 97) (hg 98) (h29 105) (h29 106) (h29 90 22) (h29 90 25) (h29 90 26) (h29 90 28) (h29 90 29) (h29 90 30) := y27
  have K2 : ov_LK (1 + (j + 1)) (4000 * (j + 1)) z28 h29 := ov_LK_rm (g := 1) K1 I30 E35 E36 E37 E39 E40 y27_ (by omega) (by omega) (by omega)
  have b1 : h29 1 1 = hg 1 1 := congrFun (I30.2.2.2 1 (Or.inl (by decide))) 1
  have b7 : h29 (-77) 0 = hg (-77) 0 := congrFun (I30.2.2.2 (-77) (Or.inl (by decide))) 0
  refine ov_blk (ls2 := [(0, ov_r (-4)), (1, ov_r 0), (2, ov_r 90), (3, ov_i x3)]) (st2 := []) (pc2 := 1030) b_313_1029_1 rfl rfl ?_
  refine ov_goto (tgt := 1461) d_313_1030 (by decide) ?_
  exact BK _ _ K2 (by omega) (by omega)
set_option maxHeartbeats 4000000 in
theorem lw_case_22 {u : ov_U} {nm : String} {d : Nat} (hd : 1000 ≤ d) (U : ov_cap u) {L : Nat} {xs : Nat → Int32} (X : ov_SC u L xs) (hL : L ≤ 3584) (x3 j : Int) (z : ov_Z) (h : ov_H) (K : ov_LK (1 + j) (4000 * j) z h) (e0 : h 1 1 = h 90 2) (gb : h (-77) 0 = 1000 * (j + 1)) (q : 0 ≤ j ∧ x3 = 7 * j ∧ x3 ≤ L - 7) (BK : ∀ (z5 : ov_Z) (h5 : ov_H), ov_LK (1 + (j + 1)) (4000 * (j + 1)) z5 h5 → h5 1 1 = h5 90 2 → h5 (-77) 0 = 1000 * (j + 2) → ov_R u d (ov_mL nm) 1461 [(0, ov_r (-4)), (1, ov_r 0), (2, ov_r 90), (3, ov_i x3)] [] z5 h5 ov_LQ) : ov_R u d (ov_mL nm) 1066 [(0, ov_r (-4)), (1, ov_r 0), (2, ov_r 90), (3, ov_i x3)] [] z h ov_LQ := by
  have I := ov_LK_I K
  have hW := ov_LK_W K
  have hJ0 := K.2.2.1
  have s3 := s103_2 K.2.1
  have hb0 : ov_bd (h, z) = 1000 * (j + 1) := gb
  refine ov_blk (ls2 := [(0, ov_r (-4)), (1, ov_r 0), (2, ov_r 90), (3, ov_i x3)]) (st2 := [ov_i (x3 + 1), ov_r (-4), ov_r 0]) (pc2 := 1071) b_313_1066_5 rfl rfl ?_
  refine ov_scl X d_313_1071 (by omega) ?_
  have g1 := ov_xs_g xs (x3 + 1)
  refine ov_blk (ls2 := [(0, ov_r (-4)), (1, ov_r 0), (2, ov_r 90), (3, ov_i x3)]) (st2 := [ov_i (x3 + 2), ov_r (-4), ov_i (ov_xs xs (x3 + 1)), ov_r 0]) (pc2 := 1076) b_313_1072_4 rfl rfl ?_
  refine ov_scl X d_313_1076 (by omega) ?_
  have g2 := ov_xs_g xs (x3 + 2)
  refine ov_blk (ls2 := [(0, ov_r (-4)), (1, ov_r 0), (2, ov_r 90), (3, ov_i x3)]) (st2 := [ov_i (x3 + 3), ov_r (-4), ov_i (ov_xs xs (x3 + 2)), ov_i (ov_xs xs (x3 + 1)), ov_r 0]) (pc2 := 1081) b_313_1077_4 rfl rfl ?_
  refine ov_scl X d_313_1081 (by omega) ?_
  have g3 := ov_xs_g xs (x3 + 3)
  refine ov_ifeq (tgt := 1089) d_313_1082 (by decide) (by omega) (fun c4 => ?_) (fun c4 => ?_)
  · skip
    refine ov_blk (ls2 := [(0, ov_r (-4)), (1, ov_r 0), (2, ov_r 90), (3, ov_i x3)]) (st2 := [ov_i (x3 + 4), ov_r (-4), ov_i 0, ov_i (ov_xs xs (x3 + 2)), ov_i (ov_xs xs (x3 + 1)), ov_r 0]) (pc2 := 1094) b_313_1089_5 rfl rfl ?_
    refine ov_scl X d_313_1094 (by omega) ?_
    have g5 := ov_xs_g xs (x3 + 4)
    refine ov_cV (as := [ov_i (ov_xs xs (x3 + 1)), ov_i (ov_xs xs (x3 + 2)), ov_i 0, ov_i (ov_xs xs (x3 + 4))]) (st := []) (d2 := d - 1) d_313_1095 lk_Law_111 rfl (Nat.le_of_ble_eq_true rfl) (c := 0) (zb_0 I) (zs_0 I) ⟨by decide, rfl⟩ (by omega) (c_OF_tried_0 (d - 1) (by omega) U I (ov_xs xs (x3 + 1)) (ov_xs xs (x3 + 2)) 0 (ov_xs xs (x3 + 4)) (by omega) (by omega) (by omega) (by omega)) ?_
    rintro _ z8 h9 ⟨v7, rfl, I10, f6⟩
    show ov_R u d (ov_mL nm) 1098 [(0, ov_r (-4)), (1, ov_r 0), (2, ov_r 90), (3, ov_i x3)] [ov_i v7] z8 h9 ov_LQ
    have f11 : (v7 = 0 ∨ v7 = 1) ∧ (h9 36 7) = (h 36 7) ∧ (h9 1 1) = (h 1 1) ∧ (h9 90 2) = (h 90 2) ∧ (h9 0 10) = (h 0 10) ∧ (h9 0 11) = (h 0 11) ∧ (h9 0 12) = (h 0 12) ∧ (h9 0 13) = (h 0 13) ∧ (h9 3 1) = (h 3 1) ∧ (h9 36 8) = (h 36 8) ∧ (h9 46 3) = (h 46 3) ∧ (h9 46 4) = (h 46 4) ∧ (h9 49 4) = (h 49 4) ∧ (h9 49 5) = (h 49 5) ∧ (h9 64 0) = (h 64 0) ∧ (h9 76 0) = (h 76 0) := f6
    clear f6
    have K1 := ov_LK_c (B := (1000 * (j + 2))) K I10 (fun b h0 _ => ov_FF_ge h0) (by omega) (ov_HR_k hW I10 (by omega) (by omega) (by omega) (by omega)) (by omega)
    refine ov_gho (ov_up h9 (-77) 0 (1000 * (j + 2))) (fun a ha => (ov_up77 ha).symm) ?_
    have a1 : (ov_up h9 (-77) 0 (1000 * (j + 2))) 1 1 = h9 1 1 := congrFun (ov_up77 (by decide)) 1
    have a2 : (ov_up h9 (-77) 0 (1000 * (j + 2))) 90 2 = h9 90 2 := congrFun (ov_up77 (by decide)) 2
    have a3 : (ov_up h9 (-77) 0 (1000 * (j + 2))) (-77) 0 = (1000 * (j + 2)) := ov_uj.1 rfl
    have a4 : (ov_up h9 (-77) 0 (1000 * (j + 2))) 103 2 = h 103 2 := (congrFun (ov_up77 (by decide)) 2).trans (congrFun ((I10.2.1 103 (by decide) (by decide)).trans (ov_FF_ge (by decide))) 2)
    generalize (ov_up h9 (-77) 0 (1000 * (j + 2))) = hg at K1 a1 a2 a3 a4 ⊢
    have N1 := K1.2.1
    have hWT := K1.2.2.2.2.1
    have hCD := K1.2.2.2.2.2.1
    have hWK := K1.2.2.2.2.2.2.1
    have hPM : ov_PM (hg 96) (hg 103) (hg 97) (hg 98) (hg 105) (hg 106) (hg 90 22) (hg 90 25) (hg 90 26) (hg 90 28) (hg 90 29) (hg 90 30) := K1.2.2.2.2.2.2.2.1
    have hq1 := K1.2.2.2.2.2.2.2.2.1
    have hq2 := K1.2.2.2.2.2.2.2.2.2
    have hbd : ov_bd (hg, z8) = (1000 * (j + 2)) := a3
    have g103 := s103_2 N1
    show ov_R u d (ov_mL nm) 1098 [(0, ov_r (-4)), (1, ov_r 0), (2, ov_r 90), (3, ov_i x3)] [ov_i v7] z8 hg ov_LQ
    refine ov_blk (ls2 := [(0, ov_r (-4)), (1, ov_r 0), (2, ov_r 90), (3, ov_i x3)]) (st2 := [ov_i (x3 + 1), ov_r (-4), ov_r 90]) (pc2 := 1104) b_313_1098_6 rfl rfl ?_
    refine ov_scl X d_313_1104 (by omega) ?_
    refine ov_blk (ls2 := [(0, ov_r (-4)), (1, ov_r 0), (2, ov_r 90), (3, ov_i x3)]) (st2 := [ov_i (x3 + 2), ov_r (-4), ov_i (ov_xs xs (x3 + 1)), ov_r 90]) (pc2 := 1109) b_313_1105_4 rfl rfl ?_
    refine ov_scl X d_313_1109 (by omega) ?_
    refine ov_blk (ls2 := [(0, ov_r (-4)), (1, ov_r 0), (2, ov_r 90), (3, ov_i x3)]) (st2 := [ov_i (x3 + 3), ov_r (-4), ov_i (ov_xs xs (x3 + 2)), ov_i (ov_xs xs (x3 + 1)), ov_r 90]) (pc2 := 1114) b_313_1110_4 rfl rfl ?_
    refine ov_scl X d_313_1114 (by omega) ?_
    refine ov_ifeq (tgt := 1122) d_313_1115 (by decide) (by omega) (fun c15 => ?_) (fun c15 => ?_)
    · skip
      refine ov_blk (ls2 := [(0, ov_r (-4)), (1, ov_r 0), (2, ov_r 90), (3, ov_i x3)]) (st2 := [ov_i (x3 + 4), ov_r (-4), ov_i 0, ov_i (ov_xs xs (x3 + 2)), ov_i (ov_xs xs (x3 + 1)), ov_r 90]) (pc2 := 1127) b_313_1122_5 rfl rfl ?_
      refine ov_scl X d_313_1127 (by omega) ?_
      refine ov_cV (as := [ov_i (ov_xs xs (x3 + 1)), ov_i (ov_xs xs (x3 + 2)), ov_i 0, ov_i (ov_xs xs (x3 + 4))]) (st := []) (d2 := d - 1) d_313_1128 lk_Law_115 rfl (Nat.le_of_ble_eq_true rfl) (c := 1) (zb_90 N1) (zs_90 N1) ⟨by decide, rfl⟩ (by omega) (c_Mo_tried_90 (d - 1) (by omega) U N1 (ov_xs xs (x3 + 1)) (ov_xs xs (x3 + 2)) 0 (ov_xs xs (x3 + 4)) (by omega) (by omega) (by omega) (by omega)) ?_
      rintro _ z33 h34 ⟨v18, rfl, I35, f17, e19, e20, e21, e22, e23, e24, e25, e26, e27, e28, e29, e30, e31, y32⟩
      have E36 : h34 92 = hg 92 := e19
      have E37 : h34 93 = hg 93 := e20
      have E38 : h34 94 = hg 94 := e21
      have E39 : h34 95 = hg 95 := e22
      have E40 : h34 96 = hg 96 := e23
      have E41 : h34 97 = hg 97 := e24
      have E42 : h34 98 = hg 98 := e25
      have E43 : h34 99 = hg 99 := e26
      have E44 : h34 100 = hg 100 := e27
      have E45 : h34 105 = hg 105 := e28
      have E46 : h34 106 = hg 106 := e29
      have E47 : h34 109 = hg 109 := e30
      have E48 : h34 114 = hg 114 := e31
      show ov_R u d (ov_mL nm) 1131 [(0, ov_r (-4)), (1, ov_r 0), (2, ov_r 90), (3, ov_i x3)] [ov_i v18] z33 h34 ov_LQ
      have f49 : (h34 90 2) = (hg 90 2) ∧ (h34 90 7) = (hg 90 7) ∧ (h34 90 8) = (hg 90 8) ∧ (h34 90 13) = (hg 90 13) ∧ (h34 90 20) = (hg 90 20) ∧ (h34 90 22) = (hg 90 22) ∧ (h34 90 25) = (hg 90 25) ∧ (h34 90 26) = (hg 90 26) ∧ (h34 90 28) = (hg 90 28) ∧ (h34 90 29) = (hg 90 29) ∧ (h34 90 30) = (hg 90 30) ∧ (h34 90 34) = (hg 90 34) ∧ (v18 = 0 ∨ v18 = 1) := f17
      clear f17
      have y32_ : ∀ j : Int, 4 ≤ j → j ≤ 57 → (h34 103) j = (hg 103) j := y32
      have K2 : ov_LK (1 + (j + 1)) (4000 * (j + 1)) z33 h34 := ov_LK_r4 K1 I35 E40 E41 E42 E44 y32_ E45 E46 (by omega) (by omega) (by omega)
      have b1 : h34 1 1 = hg 1 1 := congrFun (I35.2.2.2 1 (Or.inl (by decide))) 1
      have b7 : h34 (-77) 0 = hg (-77) 0 := congrFun (I35.2.2.2 (-77) (Or.inl (by decide))) 0
      refine ov_blk (ls2 := [(0, ov_r (-4)), (1, ov_r 0), (2, ov_r 90), (3, ov_i x3)]) (st2 := []) (pc2 := 1132) b_313_1131_1 rfl rfl ?_
      refine ov_goto (tgt := 1461) d_313_1132 (by decide) ?_
      exact BK _ _ K2 (by omega) (by omega)
    · omega
  · skip
    refine ov_blk (ls2 := [(0, ov_r (-4)), (1, ov_r 0), (2, ov_r 90), (3, ov_i x3)]) (st2 := [ov_i 1, ov_i (ov_xs xs (x3 + 2)), ov_i (ov_xs xs (x3 + 1)), ov_r 0]) (pc2 := 1086) b_313_1085_1 rfl rfl ?_
    refine ov_goto (tgt := 1090) d_313_1086 (by decide) ?_
    refine ov_blk (ls2 := [(0, ov_r (-4)), (1, ov_r 0), (2, ov_r 90), (3, ov_i x3)]) (st2 := [ov_i (x3 + 4), ov_r (-4), ov_i 1, ov_i (ov_xs xs (x3 + 2)), ov_i (ov_xs xs (x3 + 1)), ov_r 0]) (pc2 := 1094) b_313_1090_4 rfl rfl ?_
    refine ov_scl X d_313_1094 (by omega) ?_
    have g50 := ov_xs_g xs (x3 + 4)
    refine ov_cV (as := [ov_i (ov_xs xs (x3 + 1)), ov_i (ov_xs xs (x3 + 2)), ov_i 1, ov_i (ov_xs xs (x3 + 4))]) (st := []) (d2 := d - 1) d_313_1095 lk_Law_111 rfl (Nat.le_of_ble_eq_true rfl) (c := 0) (zb_0 I) (zs_0 I) ⟨by decide, rfl⟩ (by omega) (c_OF_tried_0 (d - 1) (by omega) U I (ov_xs xs (x3 + 1)) (ov_xs xs (x3 + 2)) 1 (ov_xs xs (x3 + 4)) (by omega) (by omega) (by omega) (by omega)) ?_
    rintro _ z53 h54 ⟨v52, rfl, I55, f51⟩
    show ov_R u d (ov_mL nm) 1098 [(0, ov_r (-4)), (1, ov_r 0), (2, ov_r 90), (3, ov_i x3)] [ov_i v52] z53 h54 ov_LQ
    have f56 : (v52 = 0 ∨ v52 = 1) ∧ (h54 36 7) = (h 36 7) ∧ (h54 1 1) = (h 1 1) ∧ (h54 90 2) = (h 90 2) ∧ (h54 0 10) = (h 0 10) ∧ (h54 0 11) = (h 0 11) ∧ (h54 0 12) = (h 0 12) ∧ (h54 0 13) = (h 0 13) ∧ (h54 3 1) = (h 3 1) ∧ (h54 36 8) = (h 36 8) ∧ (h54 46 3) = (h 46 3) ∧ (h54 46 4) = (h 46 4) ∧ (h54 49 4) = (h 49 4) ∧ (h54 49 5) = (h 49 5) ∧ (h54 64 0) = (h 64 0) ∧ (h54 76 0) = (h 76 0) := f51
    clear f51
    have K1 := ov_LK_c (B := (1000 * (j + 2))) K I55 (fun b h0 _ => ov_FF_ge h0) (by omega) (ov_HR_k hW I55 (by omega) (by omega) (by omega) (by omega)) (by omega)
    refine ov_gho (ov_up h54 (-77) 0 (1000 * (j + 2))) (fun a ha => (ov_up77 ha).symm) ?_
    have a1 : (ov_up h54 (-77) 0 (1000 * (j + 2))) 1 1 = h54 1 1 := congrFun (ov_up77 (by decide)) 1
    have a2 : (ov_up h54 (-77) 0 (1000 * (j + 2))) 90 2 = h54 90 2 := congrFun (ov_up77 (by decide)) 2
    have a3 : (ov_up h54 (-77) 0 (1000 * (j + 2))) (-77) 0 = (1000 * (j + 2)) := ov_uj.1 rfl
    have a4 : (ov_up h54 (-77) 0 (1000 * (j + 2))) 103 2 = h 103 2 := (congrFun (ov_up77 (by decide)) 2).trans (congrFun ((I55.2.1 103 (by decide) (by decide)).trans (ov_FF_ge (by decide))) 2)
    generalize (ov_up h54 (-77) 0 (1000 * (j + 2))) = hg at K1 a1 a2 a3 a4 ⊢
    have N1 := K1.2.1
    have hWT := K1.2.2.2.2.1
    have hCD := K1.2.2.2.2.2.1
    have hWK := K1.2.2.2.2.2.2.1
    have hPM : ov_PM (hg 96) (hg 103) (hg 97) (hg 98) (hg 105) (hg 106) (hg 90 22) (hg 90 25) (hg 90 26) (hg 90 28) (hg 90 29) (hg 90 30) := K1.2.2.2.2.2.2.2.1
    have hq1 := K1.2.2.2.2.2.2.2.2.1
    have hq2 := K1.2.2.2.2.2.2.2.2.2
    have hbd : ov_bd (hg, z53) = (1000 * (j + 2)) := a3
    have g103 := s103_2 N1
    show ov_R u d (ov_mL nm) 1098 [(0, ov_r (-4)), (1, ov_r 0), (2, ov_r 90), (3, ov_i x3)] [ov_i v52] z53 hg ov_LQ
    refine ov_blk (ls2 := [(0, ov_r (-4)), (1, ov_r 0), (2, ov_r 90), (3, ov_i x3)]) (st2 := [ov_i (x3 + 1), ov_r (-4), ov_r 90]) (pc2 := 1104) b_313_1098_6 rfl rfl ?_
    refine ov_scl X d_313_1104 (by omega) ?_
    refine ov_blk (ls2 := [(0, ov_r (-4)), (1, ov_r 0), (2, ov_r 90), (3, ov_i x3)]) (st2 := [ov_i (x3 + 2), ov_r (-4), ov_i (ov_xs xs (x3 + 1)), ov_r 90]) (pc2 := 1109) b_313_1105_4 rfl rfl ?_
    refine ov_scl X d_313_1109 (by omega) ?_
    refine ov_blk (ls2 := [(0, ov_r (-4)), (1, ov_r 0), (2, ov_r 90), (3, ov_i x3)]) (st2 := [ov_i (x3 + 3), ov_r (-4), ov_i (ov_xs xs (x3 + 2)), ov_i (ov_xs xs (x3 + 1)), ov_r 90]) (pc2 := 1114) b_313_1110_4 rfl rfl ?_
    refine ov_scl X d_313_1114 (by omega) ?_
    refine ov_ifeq (tgt := 1122) d_313_1115 (by decide) (by omega) (fun c60 => ?_) (fun c60 => ?_)
    · omega
    · skip
      refine ov_blk (ls2 := [(0, ov_r (-4)), (1, ov_r 0), (2, ov_r 90), (3, ov_i x3)]) (st2 := [ov_i 1, ov_i (ov_xs xs (x3 + 2)), ov_i (ov_xs xs (x3 + 1)), ov_r 90]) (pc2 := 1119) b_313_1118_1 rfl rfl ?_
      refine ov_goto (tgt := 1123) d_313_1119 (by decide) ?_
      refine ov_blk (ls2 := [(0, ov_r (-4)), (1, ov_r 0), (2, ov_r 90), (3, ov_i x3)]) (st2 := [ov_i (x3 + 4), ov_r (-4), ov_i 1, ov_i (ov_xs xs (x3 + 2)), ov_i (ov_xs xs (x3 + 1)), ov_r 90]) (pc2 := 1127) b_313_1123_4 rfl rfl ?_
      refine ov_scl X d_313_1127 (by omega) ?_
      refine ov_cV (as := [ov_i (ov_xs xs (x3 + 1)), ov_i (ov_xs xs (x3 + 2)), ov_i 1, ov_i (ov_xs xs (x3 + 4))]) (st := []) (d2 := d - 1) d_313_1128 lk_Law_115 rfl (Nat.le_of_ble_eq_true rfl) (c := 1) (zb_90 N1) (zs_90 N1) ⟨by decide, rfl⟩ (by omega) (c_Mo_tried_90 (d - 1) (by omega) U N1 (ov_xs xs (x3 + 1)) (ov_xs xs (x3 + 2)) 1 (ov_xs xs (x3 + 4)) (by omega) (by omega) (by omega) (by omega)) ?_
      rintro _ z78 h79 ⟨v63, rfl, I80, f62, e64, e65, e66, e67, e68, e69, e70, e71, e72, e73, e74, e75, e76, y77⟩
      have E81 : h79 92 = hg 92 := e64
      have E82 : h79 93 = hg 93 := e65
      have E83 : h79 94 = hg 94 := e66
      have E84 : h79 95 = hg 95 := e67
      have E85 : h79 96 = hg 96 := e68
      have E86 : h79 97 = hg 97 := e69
      have E87 : h79 98 = hg 98 := e70
      have E88 : h79 99 = hg 99 := e71
      have E89 : h79 100 = hg 100 := e72
      have E90 : h79 105 = hg 105 := e73
      have E91 : h79 106 = hg 106 := e74
      have E92 : h79 109 = hg 109 := e75
      have E93 : h79 114 = hg 114 := e76
      show ov_R u d (ov_mL nm) 1131 [(0, ov_r (-4)), (1, ov_r 0), (2, ov_r 90), (3, ov_i x3)] [ov_i v63] z78 h79 ov_LQ
      have f94 : (h79 90 2) = (hg 90 2) ∧ (h79 90 7) = (hg 90 7) ∧ (h79 90 8) = (hg 90 8) ∧ (h79 90 13) = (hg 90 13) ∧ (h79 90 20) = (hg 90 20) ∧ (h79 90 22) = (hg 90 22) ∧ (h79 90 25) = (hg 90 25) ∧ (h79 90 26) = (hg 90 26) ∧ (h79 90 28) = (hg 90 28) ∧ (h79 90 29) = (hg 90 29) ∧ (h79 90 30) = (hg 90 30) ∧ (h79 90 34) = (hg 90 34) ∧ (v63 = 0 ∨ v63 = 1) := f62
      clear f62
      have y77_ : ∀ j : Int, 4 ≤ j → j ≤ 57 → (h79 103) j = (hg 103) j := y77
      have K2 : ov_LK (1 + (j + 1)) (4000 * (j + 1)) z78 h79 := ov_LK_r4 K1 I80 E85 E86 E87 E89 y77_ E90 E91 (by omega) (by omega) (by omega)
      have b1 : h79 1 1 = hg 1 1 := congrFun (I80.2.2.2 1 (Or.inl (by decide))) 1
      have b7 : h79 (-77) 0 = hg (-77) 0 := congrFun (I80.2.2.2 (-77) (Or.inl (by decide))) 0
      refine ov_blk (ls2 := [(0, ov_r (-4)), (1, ov_r 0), (2, ov_r 90), (3, ov_i x3)]) (st2 := []) (pc2 := 1132) b_313_1131_1 rfl rfl ?_
      refine ov_goto (tgt := 1461) d_313_1132 (by decide) ?_
      exact BK _ _ K2 (by omega) (by omega)
set_option maxHeartbeats 4000000 in
theorem lw_case_23 {u : ov_U} {nm : String} {d : Nat} (hd : 1000 ≤ d) (U : ov_cap u) {L : Nat} {xs : Nat → Int32} (X : ov_SC u L xs) (hL : L ≤ 3584) (x3 j : Int) (z : ov_Z) (h : ov_H) (K : ov_LK (1 + j) (4000 * j) z h) (e0 : h 1 1 = h 90 2) (gb : h (-77) 0 = 1000 * (j + 1)) (q : 0 ≤ j ∧ x3 = 7 * j ∧ x3 ≤ L - 7) (BK : ∀ (z5 : ov_Z) (h5 : ov_H), ov_LK (1 + (j + 1)) (4000 * (j + 1)) z5 h5 → h5 1 1 = h5 90 2 → h5 (-77) 0 = 1000 * (j + 2) → ov_R u d (ov_mL nm) 1461 [(0, ov_r (-4)), (1, ov_r 0), (2, ov_r 90), (3, ov_i x3)] [] z5 h5 ov_LQ) : ov_R u d (ov_mL nm) 1135 [(0, ov_r (-4)), (1, ov_r 0), (2, ov_r 90), (3, ov_i x3)] [] z h ov_LQ := by
  have I := ov_LK_I K
  have hW := ov_LK_W K
  have hJ0 := K.2.2.1
  have s3 := s103_2 K.2.1
  have hb0 : ov_bd (h, z) = 1000 * (j + 1) := gb
  refine ov_blk (ls2 := [(0, ov_r (-4)), (1, ov_r 0), (2, ov_r 90), (3, ov_i x3)]) (st2 := [ov_i (x3 + 1), ov_r (-4), ov_r 0]) (pc2 := 1140) b_313_1135_5 rfl rfl ?_
  refine ov_scl X d_313_1140 (by omega) ?_
  have g1 := ov_xs_g xs (x3 + 1)
  refine ov_blk (ls2 := [(0, ov_r (-4)), (1, ov_r 0), (2, ov_r 90), (3, ov_i x3)]) (st2 := [ov_i (x3 + 2), ov_r (-4), ov_i (ov_xs xs (x3 + 1)), ov_r 0]) (pc2 := 1145) b_313_1141_4 rfl rfl ?_
  refine ov_scl X d_313_1145 (by omega) ?_
  have g2 := ov_xs_g xs (x3 + 2)
  refine ov_blk (ls2 := [(0, ov_r (-4)), (1, ov_r 0), (2, ov_r 90), (3, ov_i x3)]) (st2 := [ov_i (x3 + 3), ov_r (-4), ov_i (ov_xs xs (x3 + 2)), ov_i (ov_xs xs (x3 + 1)), ov_r 0]) (pc2 := 1150) b_313_1146_4 rfl rfl ?_
  refine ov_scl X d_313_1150 (by omega) ?_
  have g3 := ov_xs_g xs (x3 + 3)
  refine ov_cV (as := [ov_i (ov_xs xs (x3 + 1)), ov_i (ov_xs xs (x3 + 2)), ov_i (ov_xs xs (x3 + 3))]) (st := []) (d2 := d - 1) d_313_1151 lk_Law_116 rfl (Nat.le_of_ble_eq_true rfl) (c := 0) (zb_0 I) (zs_0 I) ⟨by decide, rfl⟩ (by omega) (c_OF_does_0 (d - 1) (by omega) U I (ov_xs xs (x3 + 1)) (ov_xs xs (x3 + 2)) (ov_xs xs (x3 + 3)) (by omega) (by omega) (by omega)) ?_
  rintro _ _ _ ⟨v5, rfl, rfl, rfl, f4⟩
  show ov_R u d (ov_mL nm) 1154 [(0, ov_r (-4)), (1, ov_r 0), (2, ov_r 90), (3, ov_i x3)] [ov_l v5] z h ov_LQ
  clear f4
  have K1 := ov_LK_c (B := (1000 * (j + 2))) K I (fun b h0 _ => ov_FF_ge h0) (by omega) K.2.2.2.1 (by omega)
  refine ov_gho (ov_up h (-77) 0 (1000 * (j + 2))) (fun a ha => (ov_up77 ha).symm) ?_
  have a1 : (ov_up h (-77) 0 (1000 * (j + 2))) 1 1 = h 1 1 := congrFun (ov_up77 (by decide)) 1
  have a2 : (ov_up h (-77) 0 (1000 * (j + 2))) 90 2 = h 90 2 := congrFun (ov_up77 (by decide)) 2
  have a3 : (ov_up h (-77) 0 (1000 * (j + 2))) (-77) 0 = (1000 * (j + 2)) := ov_uj.1 rfl
  have a4 : (ov_up h (-77) 0 (1000 * (j + 2))) 103 2 = h 103 2 := (congrFun (ov_up77 (by decide)) 2).trans (congrFun ((I.2.1 103 (by decide) (by decide)).trans (ov_FF_ge (by decide))) 2)
  generalize (ov_up h (-77) 0 (1000 * (j + 2))) = hg at K1 a1 a2 a3 a4 ⊢
  have N1 := K1.2.1
  have hWT := K1.2.2.2.2.1
  have hCD := K1.2.2.2.2.2.1
  have hWK := K1.2.2.2.2.2.2.1
  have hPM : ov_PM (hg 96) (hg 103) (hg 97) (hg 98) (hg 105) (hg 106) (hg 90 22) (hg 90 25) (hg 90 26) (hg 90 28) (hg 90 29) (hg 90 30) := K1.2.2.2.2.2.2.2.1
  have hq1 := K1.2.2.2.2.2.2.2.2.1
  have hq2 := K1.2.2.2.2.2.2.2.2.2
  have hbd : ov_bd (hg, z) = (1000 * (j + 2)) := a3
  have g103 := s103_2 N1
  show ov_R u d (ov_mL nm) 1154 [(0, ov_r (-4)), (1, ov_r 0), (2, ov_r 90), (3, ov_i x3)] [ov_l v5] z hg ov_LQ
  refine ov_blk (ls2 := [(0, ov_r (-4)), (1, ov_r 0), (2, ov_r 90), (3, ov_i x3)]) (st2 := [ov_i (x3 + 1), ov_r (-4), ov_r 90]) (pc2 := 1160) b_313_1154_6 rfl rfl ?_
  refine ov_scl X d_313_1160 (by omega) ?_
  refine ov_blk (ls2 := [(0, ov_r (-4)), (1, ov_r 0), (2, ov_r 90), (3, ov_i x3)]) (st2 := [ov_i (x3 + 2), ov_r (-4), ov_i (ov_xs xs (x3 + 1)), ov_r 90]) (pc2 := 1165) b_313_1161_4 rfl rfl ?_
  refine ov_scl X d_313_1165 (by omega) ?_
  refine ov_blk (ls2 := [(0, ov_r (-4)), (1, ov_r 0), (2, ov_r 90), (3, ov_i x3)]) (st2 := [ov_i (x3 + 3), ov_r (-4), ov_i (ov_xs xs (x3 + 2)), ov_i (ov_xs xs (x3 + 1)), ov_r 90]) (pc2 := 1170) b_313_1166_4 rfl rfl ?_
  refine ov_scl X d_313_1170 (by omega) ?_
  refine ov_cV (as := [ov_i (ov_xs xs (x3 + 1)), ov_i (ov_xs xs (x3 + 2)), ov_i (ov_xs xs (x3 + 3))]) (st := []) (d2 := d - 1) d_313_1171 lk_Law_120 rfl (Nat.le_of_ble_eq_true rfl) (c := 1) (zb_90 N1) (zs_90 N1) ⟨by decide, rfl⟩ (by omega) (c_Mo_does_90 (d - 1) (by omega) U N1 (ov_xs xs (x3 + 1)) (ov_xs xs (x3 + 2)) (ov_xs xs (x3 + 3)) (by omega) (by omega) (by omega) hWT) ?_
  rintro _ z25 h26 ⟨v10, rfl, I27, f9, e11, e12, e13, e14, e15, e16, e17, e18, e19, e20, e21, e22, e23, e24⟩
  have E28 : h26 92 = hg 92 := e11
  have E29 : h26 93 = hg 93 := e12
  have E30 : h26 94 = hg 94 := e13
  have E31 : h26 95 = hg 95 := e14
  have E32 : h26 96 = hg 96 := e15
  have E33 : h26 97 = hg 97 := e16
  have E34 : h26 98 = hg 98 := e17
  have E35 : h26 99 = hg 99 := e18
  have E36 : h26 100 = hg 100 := e19
  have E37 : h26 103 = hg 103 := e20
  have E38 : h26 105 = hg 105 := e21
  have E39 : h26 106 = hg 106 := e22
  have E40 : h26 109 = hg 109 := e23
  have E41 : h26 114 = hg 114 := e24
  show ov_R u d (ov_mL nm) 1174 [(0, ov_r (-4)), (1, ov_r 0), (2, ov_r 90), (3, ov_i x3)] [ov_l v10] z25 h26 ov_LQ
  have f42 : (h26 90 2) = (hg 90 2) ∧ (h26 90 7) = (hg 90 7) ∧ (h26 90 8) = (hg 90 8) ∧ (h26 90 13) = (hg 90 13) ∧ (h26 90 20) = (hg 90 20) ∧ (h26 90 22) = (hg 90 22) ∧ (h26 90 25) = (hg 90 25) ∧ (h26 90 26) = (hg 90 26) ∧ (h26 90 28) = (hg 90 28) ∧ (h26 90 29) = (hg 90 29) ∧ (h26 90 30) = (hg 90 30) ∧ (h26 90 34) = (hg 90 34) := f9
  clear f9
  have K2 : ov_LK (1 + (j + 1)) (4000 * (j + 1)) z25 h26 := ov_LK_r0 K1 I27 E32 E33 E34 E36 E37 E38 E39 (by omega) (by omega) (by omega)
  have b1 : h26 1 1 = hg 1 1 := congrFun (I27.2.2.2 1 (Or.inl (by decide))) 1
  have b7 : h26 (-77) 0 = hg (-77) 0 := congrFun (I27.2.2.2 (-77) (Or.inl (by decide))) 0
  refine ov_blk (ls2 := [(0, ov_r (-4)), (1, ov_r 0), (2, ov_r 90), (3, ov_i x3)]) (st2 := []) (pc2 := 1175) b_313_1174_1 rfl rfl ?_
  refine ov_goto (tgt := 1461) d_313_1175 (by decide) ?_
  exact BK _ _ K2 (by omega) (by omega)
set_option maxHeartbeats 4000000 in
theorem lw_case_24 {u : ov_U} {nm : String} {d : Nat} (hd : 1000 ≤ d) (U : ov_cap u) {L : Nat} {xs : Nat → Int32} (X : ov_SC u L xs) (hL : L ≤ 3584) (x3 j : Int) (z : ov_Z) (h : ov_H) (K : ov_LK (1 + j) (4000 * j) z h) (e0 : h 1 1 = h 90 2) (gb : h (-77) 0 = 1000 * (j + 1)) (q : 0 ≤ j ∧ x3 = 7 * j ∧ x3 ≤ L - 7) (BK : ∀ (z5 : ov_Z) (h5 : ov_H), ov_LK (1 + (j + 1)) (4000 * (j + 1)) z5 h5 → h5 1 1 = h5 90 2 → h5 (-77) 0 = 1000 * (j + 2) → ov_R u d (ov_mL nm) 1461 [(0, ov_r (-4)), (1, ov_r 0), (2, ov_r 90), (3, ov_i x3)] [] z5 h5 ov_LQ) : ov_R u d (ov_mL nm) 1178 [(0, ov_r (-4)), (1, ov_r 0), (2, ov_r 90), (3, ov_i x3)] [] z h ov_LQ := by
  have I := ov_LK_I K
  have hW := ov_LK_W K
  have hJ0 := K.2.2.1
  have s3 := s103_2 K.2.1
  have hb0 : ov_bd (h, z) = 1000 * (j + 1) := gb
  refine ov_blk (ls2 := [(0, ov_r (-4)), (1, ov_r 0), (2, ov_r 90), (3, ov_i x3)]) (st2 := [ov_i (x3 + 1), ov_r (-4), ov_r 0]) (pc2 := 1183) b_313_1178_5 rfl rfl ?_
  refine ov_scl X d_313_1183 (by omega) ?_
  have g1 := ov_xs_g xs (x3 + 1)
  refine ov_blk (ls2 := [(0, ov_r (-4)), (1, ov_r 0), (2, ov_r 90), (3, ov_i x3)]) (st2 := [ov_i (x3 + 2), ov_r (-4), ov_i (ov_xs xs (x3 + 1)), ov_r 0]) (pc2 := 1188) b_313_1184_4 rfl rfl ?_
  refine ov_scl X d_313_1188 (by omega) ?_
  have g2 := ov_xs_g xs (x3 + 2)
  refine ov_blk (ls2 := [(0, ov_r (-4)), (1, ov_r 0), (2, ov_r 90), (3, ov_i x3)]) (st2 := [ov_i (x3 + 3), ov_r (-4), ov_i (ov_xs xs (x3 + 2)), ov_i (ov_xs xs (x3 + 1)), ov_r 0]) (pc2 := 1193) b_313_1189_4 rfl rfl ?_
  refine ov_scl X d_313_1193 (by omega) ?_
  have g3 := ov_xs_g xs (x3 + 3)
  refine ov_blk (ls2 := [(0, ov_r (-4)), (1, ov_r 0), (2, ov_r 90), (3, ov_i x3)]) (st2 := [ov_i (x3 + 4), ov_r (-4), ov_i (ov_xs xs (x3 + 3)), ov_i (ov_xs xs (x3 + 2)), ov_i (ov_xs xs (x3 + 1)), ov_r 0]) (pc2 := 1198) b_313_1194_4 rfl rfl ?_
  refine ov_scl X d_313_1198 (by omega) ?_
  have g4 := ov_xs_g xs (x3 + 4)
  refine ov_ifeq (tgt := 1206) d_313_1199 (by decide) (by omega) (fun c5 => ?_) (fun c5 => ?_)
  · skip
    refine ov_blk (ls2 := [(0, ov_r (-4)), (1, ov_r 0), (2, ov_r 90), (3, ov_i x3)]) (st2 := [ov_i (x3 + 5), ov_r (-4), ov_i 0, ov_i (ov_xs xs (x3 + 3)), ov_i (ov_xs xs (x3 + 2)), ov_i (ov_xs xs (x3 + 1)), ov_r 0]) (pc2 := 1211) b_313_1206_5 rfl rfl ?_
    refine ov_scl X d_313_1211 (by omega) ?_
    have g6 := ov_xs_g xs (x3 + 5)
    refine ov_cV (as := [ov_i (ov_xs xs (x3 + 1)), ov_i (ov_xs xs (x3 + 2)), ov_i (ov_xs xs (x3 + 3)), ov_i 0, ov_i (ov_xs xs (x3 + 5))]) (st := []) (d2 := d - 1) d_313_1212 lk_Law_121 rfl (Nat.le_of_ble_eq_true rfl) (c := 0) (zb_0 I) (zs_0 I) ⟨by decide, rfl⟩ (by omega) (c_OF_wave_0 (d - 1) (by omega) U I (ov_xs xs (x3 + 1)) (ov_xs xs (x3 + 2)) (ov_xs xs (x3 + 3)) 0 (ov_xs xs (x3 + 5)) (by omega) (by omega) (by omega) (by omega) (by omega)) ?_
    rintro _ z9 h10 ⟨v8, rfl, I11, f7⟩
    show ov_R u d (ov_mL nm) 1215 [(0, ov_r (-4)), (1, ov_r 0), (2, ov_r 90), (3, ov_i x3)] [ov_i v8] z9 h10 ov_LQ
    have f12 : (h10 36 7) = (h 36 7) ∧ (h10 1 1) = (h 1 1) ∧ (h10 90 2) = (h 90 2) ∧ (h10 0 10) = (h 0 10) ∧ (h10 0 11) = (h 0 11) ∧ (h10 0 12) = (h 0 12) ∧ (h10 0 13) = (h 0 13) ∧ (h10 3 1) = (h 3 1) ∧ (h10 36 8) = (h 36 8) ∧ (h10 46 3) = (h 46 3) ∧ (h10 46 4) = (h 46 4) ∧ (h10 49 4) = (h 49 4) ∧ (h10 49 5) = (h 49 5) ∧ (h10 64 0) = (h 64 0) ∧ (h10 76 0) = (h 76 0) := f7
    clear f7
    have K1 := ov_LK_c (B := (1000 * (j + 2))) K I11 (fun b h0 _ => ov_FF_ge h0) (by omega) (ov_HR_k hW I11 (by omega) (by omega) (by omega) (by omega)) (by omega)
    refine ov_gho (ov_up h10 (-77) 0 (1000 * (j + 2))) (fun a ha => (ov_up77 ha).symm) ?_
    have a1 : (ov_up h10 (-77) 0 (1000 * (j + 2))) 1 1 = h10 1 1 := congrFun (ov_up77 (by decide)) 1
    have a2 : (ov_up h10 (-77) 0 (1000 * (j + 2))) 90 2 = h10 90 2 := congrFun (ov_up77 (by decide)) 2
    have a3 : (ov_up h10 (-77) 0 (1000 * (j + 2))) (-77) 0 = (1000 * (j + 2)) := ov_uj.1 rfl
    have a4 : (ov_up h10 (-77) 0 (1000 * (j + 2))) 103 2 = h 103 2 := (congrFun (ov_up77 (by decide)) 2).trans (congrFun ((I11.2.1 103 (by decide) (by decide)).trans (ov_FF_ge (by decide))) 2)
    generalize (ov_up h10 (-77) 0 (1000 * (j + 2))) = hg at K1 a1 a2 a3 a4 ⊢
    have N1 := K1.2.1
    have hWT := K1.2.2.2.2.1
    have hCD := K1.2.2.2.2.2.1
    have hWK := K1.2.2.2.2.2.2.1
    have hPM : ov_PM (hg 96) (hg 103) (hg 97) (hg 98) (hg 105) (hg 106) (hg 90 22) (hg 90 25) (hg 90 26) (hg 90 28) (hg 90 29) (hg 90 30) := K1.2.2.2.2.2.2.2.1
    have hq1 := K1.2.2.2.2.2.2.2.2.1
    have hq2 := K1.2.2.2.2.2.2.2.2.2
    have hbd : ov_bd (hg, z9) = (1000 * (j + 2)) := a3
    have g103 := s103_2 N1
    show ov_R u d (ov_mL nm) 1215 [(0, ov_r (-4)), (1, ov_r 0), (2, ov_r 90), (3, ov_i x3)] [ov_i v8] z9 hg ov_LQ
    refine ov_blk (ls2 := [(0, ov_r (-4)), (1, ov_r 0), (2, ov_r 90), (3, ov_i x3)]) (st2 := [ov_i (x3 + 1), ov_r (-4), ov_r 90]) (pc2 := 1221) b_313_1215_6 rfl rfl ?_
    refine ov_scl X d_313_1221 (by omega) ?_
    refine ov_blk (ls2 := [(0, ov_r (-4)), (1, ov_r 0), (2, ov_r 90), (3, ov_i x3)]) (st2 := [ov_i (x3 + 2), ov_r (-4), ov_i (ov_xs xs (x3 + 1)), ov_r 90]) (pc2 := 1226) b_313_1222_4 rfl rfl ?_
    refine ov_scl X d_313_1226 (by omega) ?_
    refine ov_blk (ls2 := [(0, ov_r (-4)), (1, ov_r 0), (2, ov_r 90), (3, ov_i x3)]) (st2 := [ov_i (x3 + 3), ov_r (-4), ov_i (ov_xs xs (x3 + 2)), ov_i (ov_xs xs (x3 + 1)), ov_r 90]) (pc2 := 1231) b_313_1227_4 rfl rfl ?_
    refine ov_scl X d_313_1231 (by omega) ?_
    refine ov_blk (ls2 := [(0, ov_r (-4)), (1, ov_r 0), (2, ov_r 90), (3, ov_i x3)]) (st2 := [ov_i (x3 + 4), ov_r (-4), ov_i (ov_xs xs (x3 + 3)), ov_i (ov_xs xs (x3 + 2)), ov_i (ov_xs xs (x3 + 1)), ov_r 90]) (pc2 := 1236) b_313_1232_4 rfl rfl ?_
    refine ov_scl X d_313_1236 (by omega) ?_
    refine ov_ifeq (tgt := 1244) d_313_1237 (by decide) (by omega) (fun c17 => ?_) (fun c17 => ?_)
    · skip
      refine ov_blk (ls2 := [(0, ov_r (-4)), (1, ov_r 0), (2, ov_r 90), (3, ov_i x3)]) (st2 := [ov_i (x3 + 5), ov_r (-4), ov_i 0, ov_i (ov_xs xs (x3 + 3)), ov_i (ov_xs xs (x3 + 2)), ov_i (ov_xs xs (x3 + 1)), ov_r 90]) (pc2 := 1249) b_313_1244_5 rfl rfl ?_
      refine ov_scl X d_313_1249 (by omega) ?_
      refine ov_cV (as := [ov_i (ov_xs xs (x3 + 1)), ov_i (ov_xs xs (x3 + 2)), ov_i (ov_xs xs (x3 + 3)), ov_i 0, ov_i (ov_xs xs (x3 + 5))]) (st := []) (d2 := d - 1) d_313_1250 lk_Law_125 rfl (Nat.le_of_ble_eq_true rfl) (c := 1) (zb_90 N1) (zs_90 N1) ⟨by decide, rfl⟩ (by omega) (c_Mo_wave_90 (d - 1) (by omega) U N1 (ov_xs xs (x3 + 1)) (ov_xs xs (x3 + 2)) (ov_xs xs (x3 + 3)) 0 (ov_xs xs (x3 + 5)) (by omega) (by omega) (by omega) (by omega) (by omega) hWT) ?_
      rintro _ z35 h36 ⟨v20, rfl, I37, f19, e21, e22, e23, e24, e25, e26, e27, e28, e29, e30, e31, e32, e33, e34⟩
      have E38 : h36 92 = hg 92 := e21
      have E39 : h36 93 = hg 93 := e22
      have E40 : h36 94 = hg 94 := e23
      have E41 : h36 95 = hg 95 := e24
      have E42 : h36 96 = hg 96 := e25
      have E43 : h36 97 = hg 97 := e26
      have E44 : h36 98 = hg 98 := e27
      have E45 : h36 99 = hg 99 := e28
      have E46 : h36 100 = hg 100 := e29
      have E47 : h36 103 = hg 103 := e30
      have E48 : h36 105 = hg 105 := e31
      have E49 : h36 106 = hg 106 := e32
      have E50 : h36 109 = hg 109 := e33
      have E51 : h36 114 = hg 114 := e34
      show ov_R u d (ov_mL nm) 1253 [(0, ov_r (-4)), (1, ov_r 0), (2, ov_r 90), (3, ov_i x3)] [ov_i v20] z35 h36 ov_LQ
      have f52 : (h36 90 2) = (hg 90 2) ∧ (h36 90 7) = (hg 90 7) ∧ (h36 90 8) = (hg 90 8) ∧ (h36 90 13) = (hg 90 13) ∧ (h36 90 20) = (hg 90 20) ∧ (h36 90 22) = (hg 90 22) ∧ (h36 90 25) = (hg 90 25) ∧ (h36 90 26) = (hg 90 26) ∧ (h36 90 28) = (hg 90 28) ∧ (h36 90 29) = (hg 90 29) ∧ (h36 90 30) = (hg 90 30) ∧ (h36 90 34) = (hg 90 34) ∧ -2147483648 ≤ v20 ∧ v20 ≤ 2147483647 := f19
      clear f19
      have K2 : ov_LK (1 + (j + 1)) (4000 * (j + 1)) z35 h36 := ov_LK_r0 K1 I37 E42 E43 E44 E46 E47 E48 E49 (by omega) (by omega) (by omega)
      have b1 : h36 1 1 = hg 1 1 := congrFun (I37.2.2.2 1 (Or.inl (by decide))) 1
      have b7 : h36 (-77) 0 = hg (-77) 0 := congrFun (I37.2.2.2 (-77) (Or.inl (by decide))) 0
      refine ov_blk (ls2 := [(0, ov_r (-4)), (1, ov_r 0), (2, ov_r 90), (3, ov_i x3)]) (st2 := []) (pc2 := 1254) b_313_1253_1 rfl rfl ?_
      refine ov_goto (tgt := 1461) d_313_1254 (by decide) ?_
      exact BK _ _ K2 (by omega) (by omega)
    · omega
  · skip
    refine ov_blk (ls2 := [(0, ov_r (-4)), (1, ov_r 0), (2, ov_r 90), (3, ov_i x3)]) (st2 := [ov_i 1, ov_i (ov_xs xs (x3 + 3)), ov_i (ov_xs xs (x3 + 2)), ov_i (ov_xs xs (x3 + 1)), ov_r 0]) (pc2 := 1203) b_313_1202_1 rfl rfl ?_
    refine ov_goto (tgt := 1207) d_313_1203 (by decide) ?_
    refine ov_blk (ls2 := [(0, ov_r (-4)), (1, ov_r 0), (2, ov_r 90), (3, ov_i x3)]) (st2 := [ov_i (x3 + 5), ov_r (-4), ov_i 1, ov_i (ov_xs xs (x3 + 3)), ov_i (ov_xs xs (x3 + 2)), ov_i (ov_xs xs (x3 + 1)), ov_r 0]) (pc2 := 1211) b_313_1207_4 rfl rfl ?_
    refine ov_scl X d_313_1211 (by omega) ?_
    have g53 := ov_xs_g xs (x3 + 5)
    refine ov_cV (as := [ov_i (ov_xs xs (x3 + 1)), ov_i (ov_xs xs (x3 + 2)), ov_i (ov_xs xs (x3 + 3)), ov_i 1, ov_i (ov_xs xs (x3 + 5))]) (st := []) (d2 := d - 1) d_313_1212 lk_Law_121 rfl (Nat.le_of_ble_eq_true rfl) (c := 0) (zb_0 I) (zs_0 I) ⟨by decide, rfl⟩ (by omega) (c_OF_wave_0 (d - 1) (by omega) U I (ov_xs xs (x3 + 1)) (ov_xs xs (x3 + 2)) (ov_xs xs (x3 + 3)) 1 (ov_xs xs (x3 + 5)) (by omega) (by omega) (by omega) (by omega) (by omega)) ?_
    rintro _ z56 h57 ⟨v55, rfl, I58, f54⟩
    show ov_R u d (ov_mL nm) 1215 [(0, ov_r (-4)), (1, ov_r 0), (2, ov_r 90), (3, ov_i x3)] [ov_i v55] z56 h57 ov_LQ
    have f59 : (h57 36 7) = (h 36 7) ∧ (h57 1 1) = (h 1 1) ∧ (h57 90 2) = (h 90 2) ∧ (h57 0 10) = (h 0 10) ∧ (h57 0 11) = (h 0 11) ∧ (h57 0 12) = (h 0 12) ∧ (h57 0 13) = (h 0 13) ∧ (h57 3 1) = (h 3 1) ∧ (h57 36 8) = (h 36 8) ∧ (h57 46 3) = (h 46 3) ∧ (h57 46 4) = (h 46 4) ∧ (h57 49 4) = (h 49 4) ∧ (h57 49 5) = (h 49 5) ∧ (h57 64 0) = (h 64 0) ∧ (h57 76 0) = (h 76 0) := f54
    clear f54
    have K1 := ov_LK_c (B := (1000 * (j + 2))) K I58 (fun b h0 _ => ov_FF_ge h0) (by omega) (ov_HR_k hW I58 (by omega) (by omega) (by omega) (by omega)) (by omega)
    refine ov_gho (ov_up h57 (-77) 0 (1000 * (j + 2))) (fun a ha => (ov_up77 ha).symm) ?_
    have a1 : (ov_up h57 (-77) 0 (1000 * (j + 2))) 1 1 = h57 1 1 := congrFun (ov_up77 (by decide)) 1
    have a2 : (ov_up h57 (-77) 0 (1000 * (j + 2))) 90 2 = h57 90 2 := congrFun (ov_up77 (by decide)) 2
    have a3 : (ov_up h57 (-77) 0 (1000 * (j + 2))) (-77) 0 = (1000 * (j + 2)) := ov_uj.1 rfl
    have a4 : (ov_up h57 (-77) 0 (1000 * (j + 2))) 103 2 = h 103 2 := (congrFun (ov_up77 (by decide)) 2).trans (congrFun ((I58.2.1 103 (by decide) (by decide)).trans (ov_FF_ge (by decide))) 2)
    generalize (ov_up h57 (-77) 0 (1000 * (j + 2))) = hg at K1 a1 a2 a3 a4 ⊢
    have N1 := K1.2.1
    have hWT := K1.2.2.2.2.1
    have hCD := K1.2.2.2.2.2.1
    have hWK := K1.2.2.2.2.2.2.1
    have hPM : ov_PM (hg 96) (hg 103) (hg 97) (hg 98) (hg 105) (hg 106) (hg 90 22) (hg 90 25) (hg 90 26) (hg 90 28) (hg 90 29) (hg 90 30) := K1.2.2.2.2.2.2.2.1
    have hq1 := K1.2.2.2.2.2.2.2.2.1
    have hq2 := K1.2.2.2.2.2.2.2.2.2
    have hbd : ov_bd (hg, z56) = (1000 * (j + 2)) := a3
    have g103 := s103_2 N1
    show ov_R u d (ov_mL nm) 1215 [(0, ov_r (-4)), (1, ov_r 0), (2, ov_r 90), (3, ov_i x3)] [ov_i v55] z56 hg ov_LQ
    refine ov_blk (ls2 := [(0, ov_r (-4)), (1, ov_r 0), (2, ov_r 90), (3, ov_i x3)]) (st2 := [ov_i (x3 + 1), ov_r (-4), ov_r 90]) (pc2 := 1221) b_313_1215_6 rfl rfl ?_
    refine ov_scl X d_313_1221 (by omega) ?_
    refine ov_blk (ls2 := [(0, ov_r (-4)), (1, ov_r 0), (2, ov_r 90), (3, ov_i x3)]) (st2 := [ov_i (x3 + 2), ov_r (-4), ov_i (ov_xs xs (x3 + 1)), ov_r 90]) (pc2 := 1226) b_313_1222_4 rfl rfl ?_
    refine ov_scl X d_313_1226 (by omega) ?_
    refine ov_blk (ls2 := [(0, ov_r (-4)), (1, ov_r 0), (2, ov_r 90), (3, ov_i x3)]) (st2 := [ov_i (x3 + 3), ov_r (-4), ov_i (ov_xs xs (x3 + 2)), ov_i (ov_xs xs (x3 + 1)), ov_r 90]) (pc2 := 1231) b_313_1227_4 rfl rfl ?_
    refine ov_scl X d_313_1231 (by omega) ?_
    refine ov_blk (ls2 := [(0, ov_r (-4)), (1, ov_r 0), (2, ov_r 90), (3, ov_i x3)]) (st2 := [ov_i (x3 + 4), ov_r (-4), ov_i (ov_xs xs (x3 + 3)), ov_i (ov_xs xs (x3 + 2)), ov_i (ov_xs xs (x3 + 1)), ov_r 90]) (pc2 := 1236) b_313_1232_4 rfl rfl ?_
    refine ov_scl X d_313_1236 (by omega) ?_
    refine ov_ifeq (tgt := 1244) d_313_1237 (by decide) (by omega) (fun c64 => ?_) (fun c64 => ?_)
    · omega
    · skip
      refine ov_blk (ls2 := [(0, ov_r (-4)), (1, ov_r 0), (2, ov_r 90), (3, ov_i x3)]) (st2 := [ov_i 1, ov_i (ov_xs xs (x3 + 3)), ov_i (ov_xs xs (x3 + 2)), ov_i (ov_xs xs (x3 + 1)), ov_r 90]) (pc2 := 1241) b_313_1240_1 rfl rfl ?_
      refine ov_goto (tgt := 1245) d_313_1241 (by decide) ?_
      refine ov_blk (ls2 := [(0, ov_r (-4)), (1, ov_r 0), (2, ov_r 90), (3, ov_i x3)]) (st2 := [ov_i (x3 + 5), ov_r (-4), ov_i 1, ov_i (ov_xs xs (x3 + 3)), ov_i (ov_xs xs (x3 + 2)), ov_i (ov_xs xs (x3 + 1)), ov_r 90]) (pc2 := 1249) b_313_1245_4 rfl rfl ?_
      refine ov_scl X d_313_1249 (by omega) ?_
      refine ov_cV (as := [ov_i (ov_xs xs (x3 + 1)), ov_i (ov_xs xs (x3 + 2)), ov_i (ov_xs xs (x3 + 3)), ov_i 1, ov_i (ov_xs xs (x3 + 5))]) (st := []) (d2 := d - 1) d_313_1250 lk_Law_125 rfl (Nat.le_of_ble_eq_true rfl) (c := 1) (zb_90 N1) (zs_90 N1) ⟨by decide, rfl⟩ (by omega) (c_Mo_wave_90 (d - 1) (by omega) U N1 (ov_xs xs (x3 + 1)) (ov_xs xs (x3 + 2)) (ov_xs xs (x3 + 3)) 1 (ov_xs xs (x3 + 5)) (by omega) (by omega) (by omega) (by omega) (by omega) hWT) ?_
      rintro _ z82 h83 ⟨v67, rfl, I84, f66, e68, e69, e70, e71, e72, e73, e74, e75, e76, e77, e78, e79, e80, e81⟩
      have E85 : h83 92 = hg 92 := e68
      have E86 : h83 93 = hg 93 := e69
      have E87 : h83 94 = hg 94 := e70
      have E88 : h83 95 = hg 95 := e71
      have E89 : h83 96 = hg 96 := e72
      have E90 : h83 97 = hg 97 := e73
      have E91 : h83 98 = hg 98 := e74
      have E92 : h83 99 = hg 99 := e75
      have E93 : h83 100 = hg 100 := e76
      have E94 : h83 103 = hg 103 := e77
      have E95 : h83 105 = hg 105 := e78
      have E96 : h83 106 = hg 106 := e79
      have E97 : h83 109 = hg 109 := e80
      have E98 : h83 114 = hg 114 := e81
      show ov_R u d (ov_mL nm) 1253 [(0, ov_r (-4)), (1, ov_r 0), (2, ov_r 90), (3, ov_i x3)] [ov_i v67] z82 h83 ov_LQ
      have f99 : (h83 90 2) = (hg 90 2) ∧ (h83 90 7) = (hg 90 7) ∧ (h83 90 8) = (hg 90 8) ∧ (h83 90 13) = (hg 90 13) ∧ (h83 90 20) = (hg 90 20) ∧ (h83 90 22) = (hg 90 22) ∧ (h83 90 25) = (hg 90 25) ∧ (h83 90 26) = (hg 90 26) ∧ (h83 90 28) = (hg 90 28) ∧ (h83 90 29) = (hg 90 29) ∧ (h83 90 30) = (hg 90 30) ∧ (h83 90 34) = (hg 90 34) ∧ -2147483648 ≤ v67 ∧ v67 ≤ 2147483647 := f66
      clear f66
      have K2 : ov_LK (1 + (j + 1)) (4000 * (j + 1)) z82 h83 := ov_LK_r0 K1 I84 E89 E90 E91 E93 E94 E95 E96 (by omega) (by omega) (by omega)
      have b1 : h83 1 1 = hg 1 1 := congrFun (I84.2.2.2 1 (Or.inl (by decide))) 1
      have b7 : h83 (-77) 0 = hg (-77) 0 := congrFun (I84.2.2.2 (-77) (Or.inl (by decide))) 0
      refine ov_blk (ls2 := [(0, ov_r (-4)), (1, ov_r 0), (2, ov_r 90), (3, ov_i x3)]) (st2 := []) (pc2 := 1254) b_313_1253_1 rfl rfl ?_
      refine ov_goto (tgt := 1461) d_313_1254 (by decide) ?_
      exact BK _ _ K2 (by omega) (by omega)
set_option maxHeartbeats 4000000 in
theorem lw_case_25 {u : ov_U} {nm : String} {d : Nat} (hd : 1000 ≤ d) (U : ov_cap u) {L : Nat} {xs : Nat → Int32} (X : ov_SC u L xs) (hL : L ≤ 3584) (x3 j : Int) (z : ov_Z) (h : ov_H) (K : ov_LK (1 + j) (4000 * j) z h) (e0 : h 1 1 = h 90 2) (gb : h (-77) 0 = 1000 * (j + 1)) (q : 0 ≤ j ∧ x3 = 7 * j ∧ x3 ≤ L - 7) (BK : ∀ (z5 : ov_Z) (h5 : ov_H), ov_LK (1 + (j + 1)) (4000 * (j + 1)) z5 h5 → h5 1 1 = h5 90 2 → h5 (-77) 0 = 1000 * (j + 2) → ov_R u d (ov_mL nm) 1461 [(0, ov_r (-4)), (1, ov_r 0), (2, ov_r 90), (3, ov_i x3)] [] z5 h5 ov_LQ) : ov_R u d (ov_mL nm) 1257 [(0, ov_r (-4)), (1, ov_r 0), (2, ov_r 90), (3, ov_i x3)] [] z h ov_LQ := by
  have I := ov_LK_I K
  have hW := ov_LK_W K
  have hJ0 := K.2.2.1
  have s3 := s103_2 K.2.1
  have hb0 : ov_bd (h, z) = 1000 * (j + 1) := gb
  refine ov_blk (ls2 := [(0, ov_r (-4)), (1, ov_r 0), (2, ov_r 90), (3, ov_i x3)]) (st2 := [ov_r 0]) (pc2 := 1258) b_313_1257_1 rfl rfl ?_
  refine ov_cV (as := []) (st := []) (d2 := d - 1) d_313_1258 lk_Law_126 rfl (Nat.le_of_ble_eq_true rfl) (c := 0) (zb_0 I) (zs_0 I) ⟨by decide, rfl⟩ (by omega) (c_OF_rules_0 (d - 1) (by omega) U I (by omega) (by omega)) ?_
  rintro _ z3 h4 ⟨v2, rfl, I5, f1⟩
  show ov_R u d (ov_mL nm) 1261 [(0, ov_r (-4)), (1, ov_r 0), (2, ov_r 90), (3, ov_i x3)] [ov_i v2] z3 h4 ov_LQ
  have f6 : ((h4 36 7) = 1 → (h4 36 8) = (h4 0 10)) ∧ (h4 1 1) = (h 1 1) ∧ (h4 90 2) = (h 90 2) ∧ (h4 0 10) = (h 0 10) ∧ (h4 0 11) = (h 0 11) ∧ (h4 0 12) = (h 0 12) ∧ (h4 0 13) = (h 0 13) ∧ (h4 3 1) = (h 3 1) ∧ (h4 46 3) = (h 46 3) ∧ (h4 46 4) = (h 46 4) ∧ (h4 49 4) = (h 49 4) ∧ (h4 49 5) = (h 49 5) ∧ (h4 64 0) = (h 64 0) ∧ (h4 76 0) = (h 76 0) := f1
  clear f1
  have K1 := ov_LK_c (B := (1000 * (j + 2))) K I5 (fun b h0 _ => ov_FF_ge h0) (by omega) (ov_HR_k hW I5 (by omega) (by omega) (by omega) (by omega)) (by omega)
  refine ov_gho (ov_up h4 (-77) 0 (1000 * (j + 2))) (fun a ha => (ov_up77 ha).symm) ?_
  have a1 : (ov_up h4 (-77) 0 (1000 * (j + 2))) 1 1 = h4 1 1 := congrFun (ov_up77 (by decide)) 1
  have a2 : (ov_up h4 (-77) 0 (1000 * (j + 2))) 90 2 = h4 90 2 := congrFun (ov_up77 (by decide)) 2
  have a3 : (ov_up h4 (-77) 0 (1000 * (j + 2))) (-77) 0 = (1000 * (j + 2)) := ov_uj.1 rfl
  have a4 : (ov_up h4 (-77) 0 (1000 * (j + 2))) 103 2 = h 103 2 := (congrFun (ov_up77 (by decide)) 2).trans (congrFun ((I5.2.1 103 (by decide) (by decide)).trans (ov_FF_ge (by decide))) 2)
  generalize (ov_up h4 (-77) 0 (1000 * (j + 2))) = hg at K1 a1 a2 a3 a4 ⊢
  have N1 := K1.2.1
  have hWT := K1.2.2.2.2.1
  have hCD := K1.2.2.2.2.2.1
  have hWK := K1.2.2.2.2.2.2.1
  have hPM : ov_PM (hg 96) (hg 103) (hg 97) (hg 98) (hg 105) (hg 106) (hg 90 22) (hg 90 25) (hg 90 26) (hg 90 28) (hg 90 29) (hg 90 30) := K1.2.2.2.2.2.2.2.1
  have hq1 := K1.2.2.2.2.2.2.2.2.1
  have hq2 := K1.2.2.2.2.2.2.2.2.2
  have hbd : ov_bd (hg, z3) = (1000 * (j + 2)) := a3
  have g103 := s103_2 N1
  show ov_R u d (ov_mL nm) 1261 [(0, ov_r (-4)), (1, ov_r 0), (2, ov_r 90), (3, ov_i x3)] [ov_i v2] z3 hg ov_LQ
  refine ov_blk (ls2 := [(0, ov_r (-4)), (1, ov_r 0), (2, ov_r 90), (3, ov_i x3)]) (st2 := [ov_r 90]) (pc2 := 1263) b_313_1261_2 rfl rfl ?_
  refine ov_cV (as := []) (st := []) (d2 := d - 1) d_313_1263 lk_Law_129 rfl (Nat.le_of_ble_eq_true rfl) (c := 1) (zb_90 N1) (zs_90 N1) ⟨by decide, rfl⟩ (by omega) (c_Mo_rules_90 (d - 1) (by omega) U N1 (by show 0 ≤ (hg 90 25) ∧ (hg 90 25) ≤ 1000000000; omega) hWT hCD hPM) ?_
  rintro _ z22 h23 ⟨v8, rfl, I24, f7, e9, e10, e11, e12, e13, e14, e15, e16, e17, e18, e19, e20, y21⟩
  have E25 : h23 92 = hg 92 := e9
  have E26 : h23 93 = hg 93 := e10
  have E27 : h23 94 = hg 94 := e11
  have E28 : h23 95 = hg 95 := e12
  have E29 : h23 96 = hg 96 := e13
  have E30 : h23 97 = hg 97 := e14
  have E31 : h23 98 = hg 98 := e15
  have E32 : h23 99 = hg 99 := e16
  have E33 : h23 100 = hg 100 := e17
  have E34 : h23 103 = hg 103 := e18
  have E35 : h23 109 = hg 109 := e19
  have E36 : h23 114 = hg 114 := e20
  show ov_R u d (ov_mL nm) 1266 [(0, ov_r (-4)), (1, ov_r 0), (2, ov_r 90), (3, ov_i x3)] [ov_i v8] z22 h23 ov_LQ
  have f37 : (h23 90 2) = (hg 90 2) ∧ (h23 90 7) = (hg 90 7) ∧ (h23 90 8) = (hg 90 8) ∧ (h23 90 13) = (hg 90 13) ∧ (h23 90 20) = (hg 90 20) ∧ (h23 90 22) = (hg 90 22) ∧ (h23 90 34) = (hg 90 34) ∧ (hg 90 25) ≤ (h23 90 25) ∧ (h23 90 25) ≤ (hg 90 25) + 4 ∧ -1 ≤ v8 ∧ v8 ≤ 4 := f7
  clear f7
  have y21_ : ov_PM (hg 96) (hg 103) (hg 97) (hg 98) (h23 105) (h23 106) (h23 90 22) (h23 90 25) (h23 90 26) (h23 90 28) (h23 90 29) (h23 90 30) := y21
  have K2 : ov_LK (1 + (j + 1)) (4000 * (j + 1)) z22 h23 := ov_LK_rm (g := 4) K1 I24 E29 E30 E31 E33 E34 y21_ (by omega) (by omega) (by omega)
  have b1 : h23 1 1 = hg 1 1 := congrFun (I24.2.2.2 1 (Or.inl (by decide))) 1
  have b7 : h23 (-77) 0 = hg (-77) 0 := congrFun (I24.2.2.2 (-77) (Or.inl (by decide))) 0
  refine ov_blk (ls2 := [(0, ov_r (-4)), (1, ov_r 0), (2, ov_r 90), (3, ov_i x3)]) (st2 := []) (pc2 := 1267) b_313_1266_1 rfl rfl ?_
  refine ov_goto (tgt := 1461) d_313_1267 (by decide) ?_
  exact BK _ _ K2 (by omega) (by omega)
set_option maxHeartbeats 4000000 in
theorem lw_case_26 {u : ov_U} {nm : String} {d : Nat} (hd : 1000 ≤ d) (U : ov_cap u) {L : Nat} {xs : Nat → Int32} (X : ov_SC u L xs) (hL : L ≤ 3584) (x3 j : Int) (z : ov_Z) (h : ov_H) (K : ov_LK (1 + j) (4000 * j) z h) (e0 : h 1 1 = h 90 2) (gb : h (-77) 0 = 1000 * (j + 1)) (q : 0 ≤ j ∧ x3 = 7 * j ∧ x3 ≤ L - 7) (BK : ∀ (z5 : ov_Z) (h5 : ov_H), ov_LK (1 + (j + 1)) (4000 * (j + 1)) z5 h5 → h5 1 1 = h5 90 2 → h5 (-77) 0 = 1000 * (j + 2) → ov_R u d (ov_mL nm) 1461 [(0, ov_r (-4)), (1, ov_r 0), (2, ov_r 90), (3, ov_i x3)] [] z5 h5 ov_LQ) : ov_R u d (ov_mL nm) 1270 [(0, ov_r (-4)), (1, ov_r 0), (2, ov_r 90), (3, ov_i x3)] [] z h ov_LQ := by
  have I := ov_LK_I K
  have hW := ov_LK_W K
  have hJ0 := K.2.2.1
  have s3 := s103_2 K.2.1
  have hb0 : ov_bd (h, z) = 1000 * (j + 1) := gb
  refine ov_blk (ls2 := [(0, ov_r (-4)), (1, ov_r 0), (2, ov_r 90), (3, ov_i x3)]) (st2 := [ov_i (x3 + 1), ov_r (-4), ov_r 0]) (pc2 := 1275) b_313_1270_5 rfl rfl ?_
  refine ov_scl X d_313_1275 (by omega) ?_
  have g1 := ov_xs_g xs (x3 + 1)
  refine ov_blk (ls2 := [(0, ov_r (-4)), (1, ov_r 0), (2, ov_r 90), (3, ov_i x3)]) (st2 := [ov_i (x3 + 2), ov_r (-4), ov_i (ov_xs xs (x3 + 1)), ov_r 0]) (pc2 := 1280) b_313_1276_4 rfl rfl ?_
  refine ov_scl X d_313_1280 (by omega) ?_
  have g2 := ov_xs_g xs (x3 + 2)
  refine ov_blk (ls2 := [(0, ov_r (-4)), (1, ov_r 0), (2, ov_r 90), (3, ov_i x3)]) (st2 := [ov_i (x3 + 3), ov_r (-4), ov_i (ov_xs xs (x3 + 2)), ov_i (ov_xs xs (x3 + 1)), ov_r 0]) (pc2 := 1285) b_313_1281_4 rfl rfl ?_
  refine ov_scl X d_313_1285 (by omega) ?_
  have g3 := ov_xs_g xs (x3 + 3)
  refine ov_cV (as := [ov_i (ov_xs xs (x3 + 1)), ov_i (ov_xs xs (x3 + 2)), ov_i (ov_xs xs (x3 + 3))]) (st := []) (d2 := d - 1) d_313_1286 lk_Law_130 rfl (Nat.le_of_ble_eq_true rfl) (c := 0) (zb_0 I) (zs_0 I) ⟨by decide, rfl⟩ (by omega) (c_OF_was_0 (d - 1) (by omega) U I (ov_xs xs (x3 + 1)) (ov_xs xs (x3 + 2)) (ov_xs xs (x3 + 3)) (by omega) (by omega) (by omega)) ?_
  rintro _ z6 h7 ⟨v5, rfl, I8, f4⟩
  show ov_R u d (ov_mL nm) 1289 [(0, ov_r (-4)), (1, ov_r 0), (2, ov_r 90), (3, ov_i x3)] [ov_i v5] z6 h7 ov_LQ
  have f9 : (v5 = 0 ∨ v5 = 1) ∧ (h7 36 7) = (h 36 7) ∧ (h7 1 1) = (h 1 1) ∧ (h7 90 2) = (h 90 2) ∧ (h7 0 10) = (h 0 10) ∧ (h7 0 11) = (h 0 11) ∧ (h7 0 12) = (h 0 12) ∧ (h7 0 13) = (h 0 13) ∧ (h7 3 1) = (h 3 1) ∧ (h7 36 8) = (h 36 8) ∧ (h7 46 3) = (h 46 3) ∧ (h7 46 4) = (h 46 4) ∧ (h7 49 4) = (h 49 4) ∧ (h7 49 5) = (h 49 5) ∧ (h7 64 0) = (h 64 0) ∧ (h7 76 0) = (h 76 0) := f4
  clear f4
  have K1 := ov_LK_c (B := (1000 * (j + 2))) K I8 (fun b h0 _ => ov_FF_ge h0) (by omega) (ov_HR_k hW I8 (by omega) (by omega) (by omega) (by omega)) (by omega)
  refine ov_gho (ov_up h7 (-77) 0 (1000 * (j + 2))) (fun a ha => (ov_up77 ha).symm) ?_
  have a1 : (ov_up h7 (-77) 0 (1000 * (j + 2))) 1 1 = h7 1 1 := congrFun (ov_up77 (by decide)) 1
  have a2 : (ov_up h7 (-77) 0 (1000 * (j + 2))) 90 2 = h7 90 2 := congrFun (ov_up77 (by decide)) 2
  have a3 : (ov_up h7 (-77) 0 (1000 * (j + 2))) (-77) 0 = (1000 * (j + 2)) := ov_uj.1 rfl
  have a4 : (ov_up h7 (-77) 0 (1000 * (j + 2))) 103 2 = h 103 2 := (congrFun (ov_up77 (by decide)) 2).trans (congrFun ((I8.2.1 103 (by decide) (by decide)).trans (ov_FF_ge (by decide))) 2)
  generalize (ov_up h7 (-77) 0 (1000 * (j + 2))) = hg at K1 a1 a2 a3 a4 ⊢
  have N1 := K1.2.1
  have hWT := K1.2.2.2.2.1
  have hCD := K1.2.2.2.2.2.1
  have hWK := K1.2.2.2.2.2.2.1
  have hPM : ov_PM (hg 96) (hg 103) (hg 97) (hg 98) (hg 105) (hg 106) (hg 90 22) (hg 90 25) (hg 90 26) (hg 90 28) (hg 90 29) (hg 90 30) := K1.2.2.2.2.2.2.2.1
  have hq1 := K1.2.2.2.2.2.2.2.2.1
  have hq2 := K1.2.2.2.2.2.2.2.2.2
  have hbd : ov_bd (hg, z6) = (1000 * (j + 2)) := a3
  have g103 := s103_2 N1
  show ov_R u d (ov_mL nm) 1289 [(0, ov_r (-4)), (1, ov_r 0), (2, ov_r 90), (3, ov_i x3)] [ov_i v5] z6 hg ov_LQ
  refine ov_blk (ls2 := [(0, ov_r (-4)), (1, ov_r 0), (2, ov_r 90), (3, ov_i x3)]) (st2 := [ov_i (x3 + 1), ov_r (-4), ov_r 90]) (pc2 := 1295) b_313_1289_6 rfl rfl ?_
  refine ov_scl X d_313_1295 (by omega) ?_
  refine ov_blk (ls2 := [(0, ov_r (-4)), (1, ov_r 0), (2, ov_r 90), (3, ov_i x3)]) (st2 := [ov_i (x3 + 2), ov_r (-4), ov_i (ov_xs xs (x3 + 1)), ov_r 90]) (pc2 := 1300) b_313_1296_4 rfl rfl ?_
  refine ov_scl X d_313_1300 (by omega) ?_
  refine ov_blk (ls2 := [(0, ov_r (-4)), (1, ov_r 0), (2, ov_r 90), (3, ov_i x3)]) (st2 := [ov_i (x3 + 3), ov_r (-4), ov_i (ov_xs xs (x3 + 2)), ov_i (ov_xs xs (x3 + 1)), ov_r 90]) (pc2 := 1305) b_313_1301_4 rfl rfl ?_
  refine ov_scl X d_313_1305 (by omega) ?_
  refine ov_cV (as := [ov_i (ov_xs xs (x3 + 1)), ov_i (ov_xs xs (x3 + 2)), ov_i (ov_xs xs (x3 + 3))]) (st := []) (d2 := d - 1) d_313_1306 lk_Law_134 rfl (Nat.le_of_ble_eq_true rfl) (c := 1) (zb_90 N1) (zs_90 N1) ⟨by decide, rfl⟩ (by omega) (c_Mo_was_90 (d - 1) (by omega) U N1 (ov_xs xs (x3 + 1)) (ov_xs xs (x3 + 2)) (ov_xs xs (x3 + 3)) (by omega) (by omega) (by omega)) ?_
  rintro _ z29 h30 ⟨v14, rfl, I31, f13, e15, e16, e17, e18, e19, e20, e21, e22, e23, e24, e25, e26, e27, y28⟩
  have E32 : h30 92 = hg 92 := e15
  have E33 : h30 93 = hg 93 := e16
  have E34 : h30 94 = hg 94 := e17
  have E35 : h30 95 = hg 95 := e18
  have E36 : h30 96 = hg 96 := e19
  have E37 : h30 97 = hg 97 := e20
  have E38 : h30 98 = hg 98 := e21
  have E39 : h30 99 = hg 99 := e22
  have E40 : h30 100 = hg 100 := e23
  have E41 : h30 105 = hg 105 := e24
  have E42 : h30 106 = hg 106 := e25
  have E43 : h30 109 = hg 109 := e26
  have E44 : h30 114 = hg 114 := e27
  show ov_R u d (ov_mL nm) 1309 [(0, ov_r (-4)), (1, ov_r 0), (2, ov_r 90), (3, ov_i x3)] [ov_i v14] z29 h30 ov_LQ
  have f45 : (h30 90 2) = (hg 90 2) ∧ (h30 90 7) = (hg 90 7) ∧ (h30 90 8) = (hg 90 8) ∧ (h30 90 13) = (hg 90 13) ∧ (h30 90 20) = (hg 90 20) ∧ (h30 90 22) = (hg 90 22) ∧ (h30 90 25) = (hg 90 25) ∧ (h30 90 26) = (hg 90 26) ∧ (h30 90 28) = (hg 90 28) ∧ (h30 90 29) = (hg 90 29) ∧ (h30 90 30) = (hg 90 30) ∧ (h30 90 34) = (hg 90 34) ∧ (v14 = 0 ∨ v14 = 1) := f13
  clear f13
  have y28_ : ∀ j : Int, 4 ≤ j → j ≤ 57 → (h30 103) j = (hg 103) j := y28
  have K2 : ov_LK (1 + (j + 1)) (4000 * (j + 1)) z29 h30 := ov_LK_r4 K1 I31 E36 E37 E38 E40 y28_ E41 E42 (by omega) (by omega) (by omega)
  have b1 : h30 1 1 = hg 1 1 := congrFun (I31.2.2.2 1 (Or.inl (by decide))) 1
  have b7 : h30 (-77) 0 = hg (-77) 0 := congrFun (I31.2.2.2 (-77) (Or.inl (by decide))) 0
  refine ov_blk (ls2 := [(0, ov_r (-4)), (1, ov_r 0), (2, ov_r 90), (3, ov_i x3)]) (st2 := []) (pc2 := 1310) b_313_1309_1 rfl rfl ?_
  refine ov_goto (tgt := 1461) d_313_1310 (by decide) ?_
  exact BK _ _ K2 (by omega) (by omega)
set_option maxHeartbeats 4000000 in
theorem lw_case_27 {u : ov_U} {nm : String} {d : Nat} (hd : 1000 ≤ d) (U : ov_cap u) {L : Nat} {xs : Nat → Int32} (X : ov_SC u L xs) (hL : L ≤ 3584) (x3 j : Int) (z : ov_Z) (h : ov_H) (K : ov_LK (1 + j) (4000 * j) z h) (e0 : h 1 1 = h 90 2) (gb : h (-77) 0 = 1000 * (j + 1)) (q : 0 ≤ j ∧ x3 = 7 * j ∧ x3 ≤ L - 7) (BK : ∀ (z5 : ov_Z) (h5 : ov_H), ov_LK (1 + (j + 1)) (4000 * (j + 1)) z5 h5 → h5 1 1 = h5 90 2 → h5 (-77) 0 = 1000 * (j + 2) → ov_R u d (ov_mL nm) 1461 [(0, ov_r (-4)), (1, ov_r 0), (2, ov_r 90), (3, ov_i x3)] [] z5 h5 ov_LQ) : ov_R u d (ov_mL nm) 1313 [(0, ov_r (-4)), (1, ov_r 0), (2, ov_r 90), (3, ov_i x3)] [] z h ov_LQ := by
  have I := ov_LK_I K
  have hW := ov_LK_W K
  have hJ0 := K.2.2.1
  have s3 := s103_2 K.2.1
  have hb0 : ov_bd (h, z) = 1000 * (j + 1) := gb
  refine ov_blk (ls2 := [(0, ov_r (-4)), (1, ov_r 0), (2, ov_r 90), (3, ov_i x3)]) (st2 := [ov_i (x3 + 1), ov_r (-4), ov_r 0]) (pc2 := 1318) b_313_1313_5 rfl rfl ?_
  refine ov_scl X d_313_1318 (by omega) ?_
  have g1 := ov_xs_g xs (x3 + 1)
  refine ov_cV (as := [ov_i (ov_xs xs (x3 + 1))]) (st := []) (d2 := d - 1) d_313_1319 lk_Law_135 rfl (Nat.le_of_ble_eq_true rfl) (c := 0) (zb_0 I) (zs_0 I) ⟨by decide, rfl⟩ (by omega) (c_OF_fits_0 (d - 1) (by omega) U I (ov_xs xs (x3 + 1)) (by omega) (by omega)) ?_
  rintro _ z4 h5 ⟨v3, rfl, I6, f2⟩
  show ov_R u d (ov_mL nm) 1322 [(0, ov_r (-4)), (1, ov_r 0), (2, ov_r 90), (3, ov_i x3)] [ov_l v3] z4 h5 ov_LQ
  have f7 : (h5 36 7) = (h 36 7) ∧ (h5 1 1) = (h 1 1) ∧ (h5 90 2) = (h 90 2) ∧ (h5 0 10) = (h 0 10) ∧ (h5 0 11) = (h 0 11) ∧ (h5 0 12) = (h 0 12) ∧ (h5 0 13) = (h 0 13) ∧ (h5 3 1) = (h 3 1) ∧ (h5 36 8) = (h 36 8) ∧ (h5 49 4) = (h 49 4) ∧ (h5 49 5) = (h 49 5) ∧ (h5 64 0) = (h 64 0) ∧ (h5 76 0) = (h 76 0) := f2
  clear f2
  have K1 := ov_LK_c (B := (1000 * (j + 2))) K I6 (fun b h0 _ => ov_FF_ge h0) (by omega) (ov_HR_k hW I6 (by omega) (by omega) (by omega) (by omega)) (by omega)
  refine ov_gho (ov_up h5 (-77) 0 (1000 * (j + 2))) (fun a ha => (ov_up77 ha).symm) ?_
  have a1 : (ov_up h5 (-77) 0 (1000 * (j + 2))) 1 1 = h5 1 1 := congrFun (ov_up77 (by decide)) 1
  have a2 : (ov_up h5 (-77) 0 (1000 * (j + 2))) 90 2 = h5 90 2 := congrFun (ov_up77 (by decide)) 2
  have a3 : (ov_up h5 (-77) 0 (1000 * (j + 2))) (-77) 0 = (1000 * (j + 2)) := ov_uj.1 rfl
  have a4 : (ov_up h5 (-77) 0 (1000 * (j + 2))) 103 2 = h 103 2 := (congrFun (ov_up77 (by decide)) 2).trans (congrFun ((I6.2.1 103 (by decide) (by decide)).trans (ov_FF_ge (by decide))) 2)
  generalize (ov_up h5 (-77) 0 (1000 * (j + 2))) = hg at K1 a1 a2 a3 a4 ⊢
  have N1 := K1.2.1
  have hWT := K1.2.2.2.2.1
  have hCD := K1.2.2.2.2.2.1
  have hWK := K1.2.2.2.2.2.2.1
  have hPM : ov_PM (hg 96) (hg 103) (hg 97) (hg 98) (hg 105) (hg 106) (hg 90 22) (hg 90 25) (hg 90 26) (hg 90 28) (hg 90 29) (hg 90 30) := K1.2.2.2.2.2.2.2.1
  have hq1 := K1.2.2.2.2.2.2.2.2.1
  have hq2 := K1.2.2.2.2.2.2.2.2.2
  have hbd : ov_bd (hg, z4) = (1000 * (j + 2)) := a3
  have g103 := s103_2 N1
  show ov_R u d (ov_mL nm) 1322 [(0, ov_r (-4)), (1, ov_r 0), (2, ov_r 90), (3, ov_i x3)] [ov_l v3] z4 hg ov_LQ
  refine ov_blk (ls2 := [(0, ov_r (-4)), (1, ov_r 0), (2, ov_r 90), (3, ov_i x3)]) (st2 := [ov_i (x3 + 1), ov_r (-4), ov_r 90]) (pc2 := 1328) b_313_1322_6 rfl rfl ?_
  refine ov_scl X d_313_1328 (by omega) ?_
  refine ov_cV (as := [ov_i (ov_xs xs (x3 + 1))]) (st := []) (d2 := d - 1) d_313_1329 lk_Law_139 rfl (Nat.le_of_ble_eq_true rfl) (c := 1) (zb_90 N1) (zs_90 N1) ⟨by decide, rfl⟩ (by omega) (c_Mo_fits_90 (d - 1) (by omega) U N1 (ov_xs xs (x3 + 1)) (by omega) hWT) ?_
  rintro _ z25 h26 ⟨v10, rfl, I27, f9, e11, e12, e13, e14, e15, e16, e17, e18, e19, e20, e21, e22, e23, e24⟩
  have E28 : h26 92 = hg 92 := e11
  have E29 : h26 93 = hg 93 := e12
  have E30 : h26 94 = hg 94 := e13
  have E31 : h26 95 = hg 95 := e14
  have E32 : h26 96 = hg 96 := e15
  have E33 : h26 97 = hg 97 := e16
  have E34 : h26 98 = hg 98 := e17
  have E35 : h26 99 = hg 99 := e18
  have E36 : h26 100 = hg 100 := e19
  have E37 : h26 103 = hg 103 := e20
  have E38 : h26 105 = hg 105 := e21
  have E39 : h26 106 = hg 106 := e22
  have E40 : h26 109 = hg 109 := e23
  have E41 : h26 114 = hg 114 := e24
  show ov_R u d (ov_mL nm) 1332 [(0, ov_r (-4)), (1, ov_r 0), (2, ov_r 90), (3, ov_i x3)] [ov_l v10] z25 h26 ov_LQ
  have f42 : (h26 90 2) = (hg 90 2) ∧ (h26 90 7) = (hg 90 7) ∧ (h26 90 8) = (hg 90 8) ∧ (h26 90 13) = (hg 90 13) ∧ (h26 90 20) = (hg 90 20) ∧ (h26 90 22) = (hg 90 22) ∧ (h26 90 25) = (hg 90 25) ∧ (h26 90 26) = (hg 90 26) ∧ (h26 90 28) = (hg 90 28) ∧ (h26 90 29) = (hg 90 29) ∧ (h26 90 30) = (hg 90 30) ∧ (h26 90 34) = (hg 90 34) := f9
  clear f9
  have K2 : ov_LK (1 + (j + 1)) (4000 * (j + 1)) z25 h26 := ov_LK_r0 K1 I27 E32 E33 E34 E36 E37 E38 E39 (by omega) (by omega) (by omega)
  have b1 : h26 1 1 = hg 1 1 := congrFun (I27.2.2.2 1 (Or.inl (by decide))) 1
  have b7 : h26 (-77) 0 = hg (-77) 0 := congrFun (I27.2.2.2 (-77) (Or.inl (by decide))) 0
  refine ov_blk (ls2 := [(0, ov_r (-4)), (1, ov_r 0), (2, ov_r 90), (3, ov_i x3)]) (st2 := []) (pc2 := 1333) b_313_1332_1 rfl rfl ?_
  refine ov_goto (tgt := 1461) d_313_1333 (by decide) ?_
  exact BK _ _ K2 (by omega) (by omega)
set_option maxHeartbeats 4000000 in
theorem lw_case_28 {u : ov_U} {nm : String} {d : Nat} (hd : 1000 ≤ d) (U : ov_cap u) {L : Nat} {xs : Nat → Int32} (X : ov_SC u L xs) (hL : L ≤ 3584) (x3 j : Int) (z : ov_Z) (h : ov_H) (K : ov_LK (1 + j) (4000 * j) z h) (e0 : h 1 1 = h 90 2) (gb : h (-77) 0 = 1000 * (j + 1)) (q : 0 ≤ j ∧ x3 = 7 * j ∧ x3 ≤ L - 7) (BK : ∀ (z5 : ov_Z) (h5 : ov_H), ov_LK (1 + (j + 1)) (4000 * (j + 1)) z5 h5 → h5 1 1 = h5 90 2 → h5 (-77) 0 = 1000 * (j + 2) → ov_R u d (ov_mL nm) 1461 [(0, ov_r (-4)), (1, ov_r 0), (2, ov_r 90), (3, ov_i x3)] [] z5 h5 ov_LQ) : ov_R u d (ov_mL nm) 1336 [(0, ov_r (-4)), (1, ov_r 0), (2, ov_r 90), (3, ov_i x3)] [] z h ov_LQ := by
  have I := ov_LK_I K
  have hW := ov_LK_W K
  have hJ0 := K.2.2.1
  have s3 := s103_2 K.2.1
  have hb0 : ov_bd (h, z) = 1000 * (j + 1) := gb
  refine ov_blk (ls2 := [(0, ov_r (-4)), (1, ov_r 0), (2, ov_r 90), (3, ov_i x3)]) (st2 := [ov_i (x3 + 1), ov_r (-4), ov_r 0]) (pc2 := 1341) b_313_1336_5 rfl rfl ?_
  refine ov_scl X d_313_1341 (by omega) ?_
  have g1 := ov_xs_g xs (x3 + 1)
  refine ov_blk (ls2 := [(0, ov_r (-4)), (1, ov_r 0), (2, ov_r 90), (3, ov_i x3)]) (st2 := [ov_i (x3 + 2), ov_r (-4), ov_i (ov_xs xs (x3 + 1)), ov_r 0]) (pc2 := 1346) b_313_1342_4 rfl rfl ?_
  refine ov_scl X d_313_1346 (by omega) ?_
  have g2 := ov_xs_g xs (x3 + 2)
  refine ov_blk (ls2 := [(0, ov_r (-4)), (1, ov_r 0), (2, ov_r 90), (3, ov_i x3)]) (st2 := [ov_i (x3 + 3), ov_r (-4), ov_i (ov_xs xs (x3 + 2)), ov_i (ov_xs xs (x3 + 1)), ov_r 0]) (pc2 := 1351) b_313_1347_4 rfl rfl ?_
  refine ov_scl X d_313_1351 (by omega) ?_
  have g3 := ov_xs_g xs (x3 + 3)
  refine ov_blk (ls2 := [(0, ov_r (-4)), (1, ov_r 0), (2, ov_r 90), (3, ov_i x3)]) (st2 := [ov_i (x3 + 4), ov_r (-4), ov_i (ov_xs xs (x3 + 3)), ov_i (ov_xs xs (x3 + 2)), ov_i (ov_xs xs (x3 + 1)), ov_r 0]) (pc2 := 1356) b_313_1352_4 rfl rfl ?_
  refine ov_scl X d_313_1356 (by omega) ?_
  have g4 := ov_xs_g xs (x3 + 4)
  refine ov_cV (as := [ov_i (ov_xs xs (x3 + 1)), ov_i (ov_xs xs (x3 + 2)), ov_i (ov_xs xs (x3 + 3)), ov_i (ov_xs xs (x3 + 4))]) (st := []) (d2 := d - 1) d_313_1357 lk_Law_140 rfl (Nat.le_of_ble_eq_true rfl) (c := 0) (zb_0 I) (zs_0 I) ⟨by decide, rfl⟩ (by omega) (c_OF_nights_0 (d - 1) (by omega) U I (ov_xs xs (x3 + 1)) (ov_xs xs (x3 + 2)) (ov_xs xs (x3 + 3)) (ov_xs xs (x3 + 4)) (by omega) (by omega) (by omega) (by omega) (by omega) (by omega)) ?_
  rintro _ z7 h8 ⟨v6, rfl, I9, f5⟩
  show ov_R u d (ov_mL nm) 1360 [(0, ov_r (-4)), (1, ov_r 0), (2, ov_r 90), (3, ov_i x3)] [ov_i v6] z7 h8 ov_LQ
  have f10 : ((h8 36 7) = 1 → (h8 36 8) = (h8 0 10)) ∧ (h8 1 1) = (h 1 1) ∧ (h8 90 2) = (h 90 2) ∧ (h8 0 10) = (h 0 10) ∧ (h8 0 11) = (h 0 11) ∧ (h8 0 12) = (h 0 12) ∧ (h8 0 13) = (h 0 13) ∧ (h8 3 1) = (h 3 1) ∧ (h8 46 3) = (h 46 3) ∧ (h8 46 4) = (h 46 4) ∧ (h8 49 4) = (h 49 4) ∧ (h8 49 5) = (h 49 5) ∧ (h8 64 0) = (h 64 0) ∧ (h8 76 0) = (h 76 0) := f5
  clear f5
  have K1 := ov_LK_c (B := (1000 * (j + 2))) K I9 (fun b h0 _ => ov_FF_ge h0) (by omega) (ov_HR_k hW I9 (by omega) (by omega) (by omega) (by omega)) (by omega)
  refine ov_gho (ov_up h8 (-77) 0 (1000 * (j + 2))) (fun a ha => (ov_up77 ha).symm) ?_
  have a1 : (ov_up h8 (-77) 0 (1000 * (j + 2))) 1 1 = h8 1 1 := congrFun (ov_up77 (by decide)) 1
  have a2 : (ov_up h8 (-77) 0 (1000 * (j + 2))) 90 2 = h8 90 2 := congrFun (ov_up77 (by decide)) 2
  have a3 : (ov_up h8 (-77) 0 (1000 * (j + 2))) (-77) 0 = (1000 * (j + 2)) := ov_uj.1 rfl
  have a4 : (ov_up h8 (-77) 0 (1000 * (j + 2))) 103 2 = h 103 2 := (congrFun (ov_up77 (by decide)) 2).trans (congrFun ((I9.2.1 103 (by decide) (by decide)).trans (ov_FF_ge (by decide))) 2)
  generalize (ov_up h8 (-77) 0 (1000 * (j + 2))) = hg at K1 a1 a2 a3 a4 ⊢
  have N1 := K1.2.1
  have hWT := K1.2.2.2.2.1
  have hCD := K1.2.2.2.2.2.1
  have hWK := K1.2.2.2.2.2.2.1
  have hPM : ov_PM (hg 96) (hg 103) (hg 97) (hg 98) (hg 105) (hg 106) (hg 90 22) (hg 90 25) (hg 90 26) (hg 90 28) (hg 90 29) (hg 90 30) := K1.2.2.2.2.2.2.2.1
  have hq1 := K1.2.2.2.2.2.2.2.2.1
  have hq2 := K1.2.2.2.2.2.2.2.2.2
  have hbd : ov_bd (hg, z7) = (1000 * (j + 2)) := a3
  have g103 := s103_2 N1
  show ov_R u d (ov_mL nm) 1360 [(0, ov_r (-4)), (1, ov_r 0), (2, ov_r 90), (3, ov_i x3)] [ov_i v6] z7 hg ov_LQ
  refine ov_blk (ls2 := [(0, ov_r (-4)), (1, ov_r 0), (2, ov_r 90), (3, ov_i x3)]) (st2 := [ov_i (x3 + 1), ov_r (-4), ov_r 90]) (pc2 := 1366) b_313_1360_6 rfl rfl ?_
  refine ov_scl X d_313_1366 (by omega) ?_
  refine ov_blk (ls2 := [(0, ov_r (-4)), (1, ov_r 0), (2, ov_r 90), (3, ov_i x3)]) (st2 := [ov_i (x3 + 2), ov_r (-4), ov_i (ov_xs xs (x3 + 1)), ov_r 90]) (pc2 := 1371) b_313_1367_4 rfl rfl ?_
  refine ov_scl X d_313_1371 (by omega) ?_
  refine ov_blk (ls2 := [(0, ov_r (-4)), (1, ov_r 0), (2, ov_r 90), (3, ov_i x3)]) (st2 := [ov_i (x3 + 3), ov_r (-4), ov_i (ov_xs xs (x3 + 2)), ov_i (ov_xs xs (x3 + 1)), ov_r 90]) (pc2 := 1376) b_313_1372_4 rfl rfl ?_
  refine ov_scl X d_313_1376 (by omega) ?_
  refine ov_blk (ls2 := [(0, ov_r (-4)), (1, ov_r 0), (2, ov_r 90), (3, ov_i x3)]) (st2 := [ov_i (x3 + 4), ov_r (-4), ov_i (ov_xs xs (x3 + 3)), ov_i (ov_xs xs (x3 + 2)), ov_i (ov_xs xs (x3 + 1)), ov_r 90]) (pc2 := 1381) b_313_1377_4 rfl rfl ?_
  refine ov_scl X d_313_1381 (by omega) ?_
  refine ov_cV (as := [ov_i (ov_xs xs (x3 + 1)), ov_i (ov_xs xs (x3 + 2)), ov_i (ov_xs xs (x3 + 3)), ov_i (ov_xs xs (x3 + 4))]) (st := []) (d2 := d - 1) d_313_1382 lk_Law_143 rfl (Nat.le_of_ble_eq_true rfl) (c := 1) (zb_90 N1) (zs_90 N1) ⟨by decide, rfl⟩ (by omega) (c_Mo_nights_90 (d - 1) (by omega) U N1 (ov_xs xs (x3 + 1)) (ov_xs xs (x3 + 2)) (ov_xs xs (x3 + 3)) (ov_xs xs (x3 + 4)) (by omega) (by omega) (by omega) (by omega) (by show 0 ≤ (hg 90 25) ∧ (hg 90 25) ≤ 1000000000; omega) hWT hCD hPM) ?_
  rintro _ z29 h30 ⟨v16, rfl, I31, f15, e17, e18, e19, e20, e21, e22, e23, e24, e25, e26, e27, y28⟩
  have E32 : h30 92 = hg 92 := e17
  have E33 : h30 93 = hg 93 := e18
  have E34 : h30 94 = hg 94 := e19
  have E35 : h30 95 = hg 95 := e20
  have E36 : h30 96 = hg 96 := e21
  have E37 : h30 97 = hg 97 := e22
  have E38 : h30 98 = hg 98 := e23
  have E39 : h30 99 = hg 99 := e24
  have E40 : h30 100 = hg 100 := e25
  have E41 : h30 103 = hg 103 := e26
  have E42 : h30 109 = hg 109 := e27
  show ov_R u d (ov_mL nm) 1385 [(0, ov_r (-4)), (1, ov_r 0), (2, ov_r 90), (3, ov_i x3)] [ov_i v16] z29 h30 ov_LQ
  have f43 : (h30 90 2) = (hg 90 2) ∧ (h30 90 7) = (hg 90 7) ∧ (h30 90 8) = (hg 90 8) ∧ (h30 90 13) = (hg 90 13) ∧ (h30 90 20) = (hg 90 20) ∧ (h30 90 22) = (hg 90 22) ∧ (h30 90 34) = (hg 90 34) ∧ (hg 90 25) ≤ (h30 90 25) ∧ (h30 90 25) ≤ (hg 90 25) + 1 ∧ -2147483648 ≤ v16 ∧ v16 ≤ 2147483647 := f15
  clear f15
  have y28_ : ov_PM (hg 96) (hg 103) (hg 97) (hg 98) (h30 105) (h30 106) (h30 90 22) (h30 90 25) (h30 90 26) (h30 90 28) (h30 90 29) (h30 90 30) := y28
  have K2 : ov_LK (1 + (j + 1)) (4000 * (j + 1)) z29 h30 := ov_LK_rm (g := 1) K1 I31 E36 E37 E38 E40 E41 y28_ (by omega) (by omega) (by omega)
  have b1 : h30 1 1 = hg 1 1 := congrFun (I31.2.2.2 1 (Or.inl (by decide))) 1
  have b7 : h30 (-77) 0 = hg (-77) 0 := congrFun (I31.2.2.2 (-77) (Or.inl (by decide))) 0
  refine ov_blk (ls2 := [(0, ov_r (-4)), (1, ov_r 0), (2, ov_r 90), (3, ov_i x3)]) (st2 := []) (pc2 := 1386) b_313_1385_1 rfl rfl ?_
  refine ov_goto (tgt := 1461) d_313_1386 (by decide) ?_
  exact BK _ _ K2 (by omega) (by omega)
set_option maxHeartbeats 4000000 in
theorem lw_case_29 {u : ov_U} {nm : String} {d : Nat} (hd : 1000 ≤ d) (U : ov_cap u) {L : Nat} {xs : Nat → Int32} (X : ov_SC u L xs) (hL : L ≤ 3584) (x3 j : Int) (z : ov_Z) (h : ov_H) (K : ov_LK (1 + j) (4000 * j) z h) (e0 : h 1 1 = h 90 2) (gb : h (-77) 0 = 1000 * (j + 1)) (q : 0 ≤ j ∧ x3 = 7 * j ∧ x3 ≤ L - 7) (BK : ∀ (z5 : ov_Z) (h5 : ov_H), ov_LK (1 + (j + 1)) (4000 * (j + 1)) z5 h5 → h5 1 1 = h5 90 2 → h5 (-77) 0 = 1000 * (j + 2) → ov_R u d (ov_mL nm) 1461 [(0, ov_r (-4)), (1, ov_r 0), (2, ov_r 90), (3, ov_i x3)] [] z5 h5 ov_LQ) : ov_R u d (ov_mL nm) 1389 [(0, ov_r (-4)), (1, ov_r 0), (2, ov_r 90), (3, ov_i x3)] [] z h ov_LQ := by
  have I := ov_LK_I K
  have hW := ov_LK_W K
  have hJ0 := K.2.2.1
  have s3 := s103_2 K.2.1
  have hb0 : ov_bd (h, z) = 1000 * (j + 1) := gb
  refine ov_blk (ls2 := [(0, ov_r (-4)), (1, ov_r 0), (2, ov_r 90), (3, ov_i x3)]) (st2 := [ov_i (x3 + 1), ov_r (-4), ov_r 0]) (pc2 := 1394) b_313_1389_5 rfl rfl ?_
  refine ov_scl X d_313_1394 (by omega) ?_
  have g1 := ov_xs_g xs (x3 + 1)
  refine ov_blk (ls2 := [(0, ov_r (-4)), (1, ov_r 0), (2, ov_r 90), (3, ov_i x3)]) (st2 := [ov_i (x3 + 2), ov_r (-4), ov_i (ov_xs xs (x3 + 1)), ov_r 0]) (pc2 := 1399) b_313_1395_4 rfl rfl ?_
  refine ov_scl X d_313_1399 (by omega) ?_
  have g2 := ov_xs_g xs (x3 + 2)
  refine ov_ifeq (tgt := 1407) d_313_1400 (by decide) (by omega) (fun c3 => ?_) (fun c3 => ?_)
  · skip
    refine ov_blk (ls2 := [(0, ov_r (-4)), (1, ov_r 0), (2, ov_r 90), (3, ov_i x3)]) (st2 := [ov_i 0, ov_i (ov_xs xs (x3 + 1)), ov_r 0]) (pc2 := 1408) b_313_1407_1 rfl rfl ?_
    refine ov_cV (as := [ov_i (ov_xs xs (x3 + 1)), ov_i 0]) (st := []) (d2 := d - 1) d_313_1408 lk_Law_144 rfl (Nat.le_of_ble_eq_true rfl) (c := 0) (zb_0 I) (zs_0 I) ⟨by decide, rfl⟩ (by omega) (c_OF_mark_0 (d - 1) (by omega) U I (ov_xs xs (x3 + 1)) 0 (by omega) (by omega)) ?_
    rintro _ z6 h7 ⟨v5, rfl, I8, f4⟩
    show ov_R u d (ov_mL nm) 1411 [(0, ov_r (-4)), (1, ov_r 0), (2, ov_r 90), (3, ov_i x3)] [ov_i v5] z6 h7 ov_LQ
    have f9 : (v5 = 0 ∨ v5 = 1) ∧ (h7 36 7) = (h 36 7) ∧ (h7 1 1) = (h 1 1) ∧ (h7 90 2) = (h 90 2) ∧ (h7 0 10) = (h 0 10) ∧ (h7 0 11) = (h 0 11) ∧ (h7 0 12) = (h 0 12) ∧ (h7 0 13) = (h 0 13) ∧ (h7 3 1) = (h 3 1) ∧ (h7 36 8) = (h 36 8) ∧ (h7 46 3) = (h 46 3) ∧ (h7 46 4) = (h 46 4) ∧ (h7 49 4) = (h 49 4) ∧ (h7 49 5) = (h 49 5) ∧ (h7 64 0) = (h 64 0) ∧ (h7 76 0) = (h 76 0) := f4
    clear f4
    have K1 := ov_LK_c (B := (1000 * (j + 2))) K I8 (fun b h0 _ => ov_FF_ge h0) (by omega) (ov_HR_k hW I8 (by omega) (by omega) (by omega) (by omega)) (by omega)
    refine ov_gho (ov_up h7 (-77) 0 (1000 * (j + 2))) (fun a ha => (ov_up77 ha).symm) ?_
    have a1 : (ov_up h7 (-77) 0 (1000 * (j + 2))) 1 1 = h7 1 1 := congrFun (ov_up77 (by decide)) 1
    have a2 : (ov_up h7 (-77) 0 (1000 * (j + 2))) 90 2 = h7 90 2 := congrFun (ov_up77 (by decide)) 2
    have a3 : (ov_up h7 (-77) 0 (1000 * (j + 2))) (-77) 0 = (1000 * (j + 2)) := ov_uj.1 rfl
    have a4 : (ov_up h7 (-77) 0 (1000 * (j + 2))) 103 2 = h 103 2 := (congrFun (ov_up77 (by decide)) 2).trans (congrFun ((I8.2.1 103 (by decide) (by decide)).trans (ov_FF_ge (by decide))) 2)
    generalize (ov_up h7 (-77) 0 (1000 * (j + 2))) = hg at K1 a1 a2 a3 a4 ⊢
    have N1 := K1.2.1
    have hWT := K1.2.2.2.2.1
    have hCD := K1.2.2.2.2.2.1
    have hWK := K1.2.2.2.2.2.2.1
    have hPM : ov_PM (hg 96) (hg 103) (hg 97) (hg 98) (hg 105) (hg 106) (hg 90 22) (hg 90 25) (hg 90 26) (hg 90 28) (hg 90 29) (hg 90 30) := K1.2.2.2.2.2.2.2.1
    have hq1 := K1.2.2.2.2.2.2.2.2.1
    have hq2 := K1.2.2.2.2.2.2.2.2.2
    have hbd : ov_bd (hg, z6) = (1000 * (j + 2)) := a3
    have g103 := s103_2 N1
    show ov_R u d (ov_mL nm) 1411 [(0, ov_r (-4)), (1, ov_r 0), (2, ov_r 90), (3, ov_i x3)] [ov_i v5] z6 hg ov_LQ
    refine ov_blk (ls2 := [(0, ov_r (-4)), (1, ov_r 0), (2, ov_r 90), (3, ov_i x3)]) (st2 := [ov_i (x3 + 1), ov_r (-4), ov_r 90]) (pc2 := 1417) b_313_1411_6 rfl rfl ?_
    refine ov_scl X d_313_1417 (by omega) ?_
    refine ov_blk (ls2 := [(0, ov_r (-4)), (1, ov_r 0), (2, ov_r 90), (3, ov_i x3)]) (st2 := [ov_i (x3 + 2), ov_r (-4), ov_i (ov_xs xs (x3 + 1)), ov_r 90]) (pc2 := 1422) b_313_1418_4 rfl rfl ?_
    refine ov_scl X d_313_1422 (by omega) ?_
    refine ov_ifeq (tgt := 1430) d_313_1423 (by decide) (by omega) (fun c12 => ?_) (fun c12 => ?_)
    · skip
      refine ov_blk (ls2 := [(0, ov_r (-4)), (1, ov_r 0), (2, ov_r 90), (3, ov_i x3)]) (st2 := [ov_i 0, ov_i (ov_xs xs (x3 + 1)), ov_r 90]) (pc2 := 1431) b_313_1430_1 rfl rfl ?_
      refine ov_cV (as := [ov_i (ov_xs xs (x3 + 1)), ov_i 0]) (st := []) (d2 := d - 1) d_313_1431 lk_Law_148 rfl (Nat.le_of_ble_eq_true rfl) (c := 1) (zb_90 N1) (zs_90 N1) ⟨by decide, rfl⟩ (by omega) (c_Mo_mark_90 (d - 1) (by omega) U N1 (ov_xs xs (x3 + 1)) 0 (by omega) (by omega) (by show 0 ≤ (hg 90 22) ∧ (hg 90 22) ≤ 2000000000; omega)) ?_
      rintro _ z29 h30 ⟨v14, rfl, I31, f13, e15, e16, e17, e18, e19, e20, e21, e22, e23, e24, e25, e26, e27, y28⟩
      have E32 : h30 92 = hg 92 := e15
      have E33 : h30 93 = hg 93 := e16
      have E34 : h30 94 = hg 94 := e17
      have E35 : h30 95 = hg 95 := e18
      have E36 : h30 96 = hg 96 := e19
      have E37 : h30 97 = hg 97 := e20
      have E38 : h30 98 = hg 98 := e21
      have E39 : h30 99 = hg 99 := e22
      have E40 : h30 100 = hg 100 := e23
      have E41 : h30 105 = hg 105 := e24
      have E42 : h30 106 = hg 106 := e25
      have E43 : h30 109 = hg 109 := e26
      have E44 : h30 114 = hg 114 := e27
      show ov_R u d (ov_mL nm) 1434 [(0, ov_r (-4)), (1, ov_r 0), (2, ov_r 90), (3, ov_i x3)] [ov_i v14] z29 h30 ov_LQ
      have f45 : (h30 90 2) = (hg 90 2) ∧ (h30 90 7) = (hg 90 7) ∧ (h30 90 8) = (hg 90 8) ∧ (h30 90 13) = (hg 90 13) ∧ (h30 90 25) = (hg 90 25) ∧ (h30 90 26) = (hg 90 26) ∧ (h30 90 28) = (hg 90 28) ∧ (h30 90 29) = (hg 90 29) ∧ (h30 90 30) = (hg 90 30) ∧ (h30 90 34) = (hg 90 34) ∧ (v14 = 0 ∨ v14 = 1) ∧ (hg 90 22) ≤ (h30 90 22) ∧ (h30 90 22) ≤ (hg 90 22) + 1 := f13
      clear f13
      have y28_ : ((h30 90 22) = (hg 90 22) ∧ (h30 103) = (hg 103)) ∨ (h30 90 22) = (hg 90 22) + 1 := y28
      have K2 : ov_LK (1 + (j + 1)) (4000 * (j + 1)) z29 h30 := ov_LK_rv K1 I31 E36 E37 E38 E40 y28_ E41 E42 (by omega) (by omega) (by omega)
      have b1 : h30 1 1 = hg 1 1 := congrFun (I31.2.2.2 1 (Or.inl (by decide))) 1
      have b7 : h30 (-77) 0 = hg (-77) 0 := congrFun (I31.2.2.2 (-77) (Or.inl (by decide))) 0
      refine ov_blk (ls2 := [(0, ov_r (-4)), (1, ov_r 0), (2, ov_r 90), (3, ov_i x3)]) (st2 := []) (pc2 := 1435) b_313_1434_1 rfl rfl ?_
      refine ov_goto (tgt := 1461) d_313_1435 (by decide) ?_
      exact BK _ _ K2 (by omega) (by omega)
    · omega
  · skip
    refine ov_blk (ls2 := [(0, ov_r (-4)), (1, ov_r 0), (2, ov_r 90), (3, ov_i x3)]) (st2 := [ov_i 1, ov_i (ov_xs xs (x3 + 1)), ov_r 0]) (pc2 := 1404) b_313_1403_1 rfl rfl ?_
    refine ov_goto (tgt := 1408) d_313_1404 (by decide) ?_
    refine ov_cV (as := [ov_i (ov_xs xs (x3 + 1)), ov_i 1]) (st := []) (d2 := d - 1) d_313_1408 lk_Law_144 rfl (Nat.le_of_ble_eq_true rfl) (c := 0) (zb_0 I) (zs_0 I) ⟨by decide, rfl⟩ (by omega) (c_OF_mark_0 (d - 1) (by omega) U I (ov_xs xs (x3 + 1)) 1 (by omega) (by omega)) ?_
    rintro _ z48 h49 ⟨v47, rfl, I50, f46⟩
    show ov_R u d (ov_mL nm) 1411 [(0, ov_r (-4)), (1, ov_r 0), (2, ov_r 90), (3, ov_i x3)] [ov_i v47] z48 h49 ov_LQ
    have f51 : (v47 = 0 ∨ v47 = 1) ∧ (h49 36 7) = (h 36 7) ∧ (h49 1 1) = (h 1 1) ∧ (h49 90 2) = (h 90 2) ∧ (h49 0 10) = (h 0 10) ∧ (h49 0 11) = (h 0 11) ∧ (h49 0 12) = (h 0 12) ∧ (h49 0 13) = (h 0 13) ∧ (h49 3 1) = (h 3 1) ∧ (h49 36 8) = (h 36 8) ∧ (h49 46 3) = (h 46 3) ∧ (h49 46 4) = (h 46 4) ∧ (h49 49 4) = (h 49 4) ∧ (h49 49 5) = (h 49 5) ∧ (h49 64 0) = (h 64 0) ∧ (h49 76 0) = (h 76 0) := f46
    clear f46
    have K1 := ov_LK_c (B := (1000 * (j + 2))) K I50 (fun b h0 _ => ov_FF_ge h0) (by omega) (ov_HR_k hW I50 (by omega) (by omega) (by omega) (by omega)) (by omega)
    refine ov_gho (ov_up h49 (-77) 0 (1000 * (j + 2))) (fun a ha => (ov_up77 ha).symm) ?_
    have a1 : (ov_up h49 (-77) 0 (1000 * (j + 2))) 1 1 = h49 1 1 := congrFun (ov_up77 (by decide)) 1
    have a2 : (ov_up h49 (-77) 0 (1000 * (j + 2))) 90 2 = h49 90 2 := congrFun (ov_up77 (by decide)) 2
    have a3 : (ov_up h49 (-77) 0 (1000 * (j + 2))) (-77) 0 = (1000 * (j + 2)) := ov_uj.1 rfl
    have a4 : (ov_up h49 (-77) 0 (1000 * (j + 2))) 103 2 = h 103 2 := (congrFun (ov_up77 (by decide)) 2).trans (congrFun ((I50.2.1 103 (by decide) (by decide)).trans (ov_FF_ge (by decide))) 2)
    generalize (ov_up h49 (-77) 0 (1000 * (j + 2))) = hg at K1 a1 a2 a3 a4 ⊢
    have N1 := K1.2.1
    have hWT := K1.2.2.2.2.1
    have hCD := K1.2.2.2.2.2.1
    have hWK := K1.2.2.2.2.2.2.1
    have hPM : ov_PM (hg 96) (hg 103) (hg 97) (hg 98) (hg 105) (hg 106) (hg 90 22) (hg 90 25) (hg 90 26) (hg 90 28) (hg 90 29) (hg 90 30) := K1.2.2.2.2.2.2.2.1
    have hq1 := K1.2.2.2.2.2.2.2.2.1
    have hq2 := K1.2.2.2.2.2.2.2.2.2
    have hbd : ov_bd (hg, z48) = (1000 * (j + 2)) := a3
    have g103 := s103_2 N1
    show ov_R u d (ov_mL nm) 1411 [(0, ov_r (-4)), (1, ov_r 0), (2, ov_r 90), (3, ov_i x3)] [ov_i v47] z48 hg ov_LQ
    refine ov_blk (ls2 := [(0, ov_r (-4)), (1, ov_r 0), (2, ov_r 90), (3, ov_i x3)]) (st2 := [ov_i (x3 + 1), ov_r (-4), ov_r 90]) (pc2 := 1417) b_313_1411_6 rfl rfl ?_
    refine ov_scl X d_313_1417 (by omega) ?_
    refine ov_blk (ls2 := [(0, ov_r (-4)), (1, ov_r 0), (2, ov_r 90), (3, ov_i x3)]) (st2 := [ov_i (x3 + 2), ov_r (-4), ov_i (ov_xs xs (x3 + 1)), ov_r 90]) (pc2 := 1422) b_313_1418_4 rfl rfl ?_
    refine ov_scl X d_313_1422 (by omega) ?_
    refine ov_ifeq (tgt := 1430) d_313_1423 (by decide) (by omega) (fun c54 => ?_) (fun c54 => ?_)
    · omega
    · skip
      refine ov_blk (ls2 := [(0, ov_r (-4)), (1, ov_r 0), (2, ov_r 90), (3, ov_i x3)]) (st2 := [ov_i 1, ov_i (ov_xs xs (x3 + 1)), ov_r 90]) (pc2 := 1427) b_313_1426_1 rfl rfl ?_
      refine ov_goto (tgt := 1431) d_313_1427 (by decide) ?_
      refine ov_cV (as := [ov_i (ov_xs xs (x3 + 1)), ov_i 1]) (st := []) (d2 := d - 1) d_313_1431 lk_Law_148 rfl (Nat.le_of_ble_eq_true rfl) (c := 1) (zb_90 N1) (zs_90 N1) ⟨by decide, rfl⟩ (by omega) (c_Mo_mark_90 (d - 1) (by omega) U N1 (ov_xs xs (x3 + 1)) 1 (by omega) (by omega) (by show 0 ≤ (hg 90 22) ∧ (hg 90 22) ≤ 2000000000; omega)) ?_
      rintro _ z71 h72 ⟨v56, rfl, I73, f55, e57, e58, e59, e60, e61, e62, e63, e64, e65, e66, e67, e68, e69, y70⟩
      have E74 : h72 92 = hg 92 := e57
      have E75 : h72 93 = hg 93 := e58
      have E76 : h72 94 = hg 94 := e59
      have E77 : h72 95 = hg 95 := e60
      have E78 : h72 96 = hg 96 := e61
      have E79 : h72 97 = hg 97 := e62
      have E80 : h72 98 = hg 98 := e63
      have E81 : h72 99 = hg 99 := e64
      have E82 : h72 100 = hg 100 := e65
      have E83 : h72 105 = hg 105 := e66
      have E84 : h72 106 = hg 106 := e67
      have E85 : h72 109 = hg 109 := e68
      have E86 : h72 114 = hg 114 := e69
      show ov_R u d (ov_mL nm) 1434 [(0, ov_r (-4)), (1, ov_r 0), (2, ov_r 90), (3, ov_i x3)] [ov_i v56] z71 h72 ov_LQ
      have f87 : (h72 90 2) = (hg 90 2) ∧ (h72 90 7) = (hg 90 7) ∧ (h72 90 8) = (hg 90 8) ∧ (h72 90 13) = (hg 90 13) ∧ (h72 90 25) = (hg 90 25) ∧ (h72 90 26) = (hg 90 26) ∧ (h72 90 28) = (hg 90 28) ∧ (h72 90 29) = (hg 90 29) ∧ (h72 90 30) = (hg 90 30) ∧ (h72 90 34) = (hg 90 34) ∧ (v56 = 0 ∨ v56 = 1) ∧ (hg 90 22) ≤ (h72 90 22) ∧ (h72 90 22) ≤ (hg 90 22) + 1 := f55
      clear f55
      have y70_ : ((h72 90 22) = (hg 90 22) ∧ (h72 103) = (hg 103)) ∨ (h72 90 22) = (hg 90 22) + 1 := y70
      have K2 : ov_LK (1 + (j + 1)) (4000 * (j + 1)) z71 h72 := ov_LK_rv K1 I73 E78 E79 E80 E82 y70_ E83 E84 (by omega) (by omega) (by omega)
      have b1 : h72 1 1 = hg 1 1 := congrFun (I73.2.2.2 1 (Or.inl (by decide))) 1
      have b7 : h72 (-77) 0 = hg (-77) 0 := congrFun (I73.2.2.2 (-77) (Or.inl (by decide))) 0
      refine ov_blk (ls2 := [(0, ov_r (-4)), (1, ov_r 0), (2, ov_r 90), (3, ov_i x3)]) (st2 := []) (pc2 := 1435) b_313_1434_1 rfl rfl ?_
      refine ov_goto (tgt := 1461) d_313_1435 (by decide) ?_
      exact BK _ _ K2 (by omega) (by omega)
set_option maxHeartbeats 4000000 in
theorem lw_case_30 {u : ov_U} {nm : String} {d : Nat} (hd : 1000 ≤ d) (U : ov_cap u) {L : Nat} {xs : Nat → Int32} (X : ov_SC u L xs) (hL : L ≤ 3584) (x3 j : Int) (z : ov_Z) (h : ov_H) (K : ov_LK (1 + j) (4000 * j) z h) (e0 : h 1 1 = h 90 2) (gb : h (-77) 0 = 1000 * (j + 1)) (q : 0 ≤ j ∧ x3 = 7 * j ∧ x3 ≤ L - 7) (BK : ∀ (z5 : ov_Z) (h5 : ov_H), ov_LK (1 + (j + 1)) (4000 * (j + 1)) z5 h5 → h5 1 1 = h5 90 2 → h5 (-77) 0 = 1000 * (j + 2) → ov_R u d (ov_mL nm) 1461 [(0, ov_r (-4)), (1, ov_r 0), (2, ov_r 90), (3, ov_i x3)] [] z5 h5 ov_LQ) : ov_R u d (ov_mL nm) 1438 [(0, ov_r (-4)), (1, ov_r 0), (2, ov_r 90), (3, ov_i x3)] [] z h ov_LQ := by
  have I := ov_LK_I K
  have hW := ov_LK_W K
  have hJ0 := K.2.2.1
  have s3 := s103_2 K.2.1
  have hb0 : ov_bd (h, z) = 1000 * (j + 1) := gb
  refine ov_blk (ls2 := [(0, ov_r (-4)), (1, ov_r 0), (2, ov_r 90), (3, ov_i x3)]) (st2 := [ov_i (x3 + 1), ov_r (-4), ov_r 0]) (pc2 := 1443) b_313_1438_5 rfl rfl ?_
  refine ov_scl X d_313_1443 (by omega) ?_
  have g1 := ov_xs_g xs (x3 + 1)
  refine ov_cV (as := [ov_i (ov_xs xs (x3 + 1))]) (st := []) (d2 := d - 1) d_313_1444 lk_Law_149 rfl (Nat.le_of_ble_eq_true rfl) (c := 0) (zb_0 I) (zs_0 I) ⟨by decide, rfl⟩ (by omega) (c_OF_count_0 (d - 1) (by omega) U I (ov_xs xs (x3 + 1)) (by omega)) ?_
  rintro _ _ _ ⟨v3, rfl, rfl, rfl, f2⟩
  show ov_R u d (ov_mL nm) 1447 [(0, ov_r (-4)), (1, ov_r 0), (2, ov_r 90), (3, ov_i x3)] [ov_i v3] z h ov_LQ
  clear f2
  have K1 := ov_LK_c (B := (1000 * (j + 2))) K I (fun b h0 _ => ov_FF_ge h0) (by omega) K.2.2.2.1 (by omega)
  refine ov_gho (ov_up h (-77) 0 (1000 * (j + 2))) (fun a ha => (ov_up77 ha).symm) ?_
  have a1 : (ov_up h (-77) 0 (1000 * (j + 2))) 1 1 = h 1 1 := congrFun (ov_up77 (by decide)) 1
  have a2 : (ov_up h (-77) 0 (1000 * (j + 2))) 90 2 = h 90 2 := congrFun (ov_up77 (by decide)) 2
  have a3 : (ov_up h (-77) 0 (1000 * (j + 2))) (-77) 0 = (1000 * (j + 2)) := ov_uj.1 rfl
  have a4 : (ov_up h (-77) 0 (1000 * (j + 2))) 103 2 = h 103 2 := (congrFun (ov_up77 (by decide)) 2).trans (congrFun ((I.2.1 103 (by decide) (by decide)).trans (ov_FF_ge (by decide))) 2)
  generalize (ov_up h (-77) 0 (1000 * (j + 2))) = hg at K1 a1 a2 a3 a4 ⊢
  have N1 := K1.2.1
  have hWT := K1.2.2.2.2.1
  have hCD := K1.2.2.2.2.2.1
  have hWK := K1.2.2.2.2.2.2.1
  have hPM : ov_PM (hg 96) (hg 103) (hg 97) (hg 98) (hg 105) (hg 106) (hg 90 22) (hg 90 25) (hg 90 26) (hg 90 28) (hg 90 29) (hg 90 30) := K1.2.2.2.2.2.2.2.1
  have hq1 := K1.2.2.2.2.2.2.2.2.1
  have hq2 := K1.2.2.2.2.2.2.2.2.2
  have hbd : ov_bd (hg, z) = (1000 * (j + 2)) := a3
  have g103 := s103_2 N1
  show ov_R u d (ov_mL nm) 1447 [(0, ov_r (-4)), (1, ov_r 0), (2, ov_r 90), (3, ov_i x3)] [ov_i v3] z hg ov_LQ
  refine ov_blk (ls2 := [(0, ov_r (-4)), (1, ov_r 0), (2, ov_r 90), (3, ov_i x3)]) (st2 := [ov_i (x3 + 1), ov_r (-4), ov_r 90]) (pc2 := 1453) b_313_1447_6 rfl rfl ?_
  refine ov_scl X d_313_1453 (by omega) ?_
  refine ov_cV (as := [ov_i (ov_xs xs (x3 + 1))]) (st := []) (d2 := d - 1) d_313_1454 lk_Law_152 rfl (Nat.le_of_ble_eq_true rfl) (c := 1) (zb_90 N1) (zs_90 N1) ⟨by decide, rfl⟩ (by omega) (c_Mo_count_90 (d - 1) (by omega) U N1 (ov_xs xs (x3 + 1)) (by omega) (by omega)) ?_
  rintro _ z21 h22 ⟨v6, rfl, I23, f5, e7, e8, e9, e10, e11, e12, e13, e14, e15, e16, e17, e18, e19, e20⟩
  have E24 : h22 92 = hg 92 := e7
  have E25 : h22 93 = hg 93 := e8
  have E26 : h22 94 = hg 94 := e9
  have E27 : h22 95 = hg 95 := e10
  have E28 : h22 96 = hg 96 := e11
  have E29 : h22 97 = hg 97 := e12
  have E30 : h22 98 = hg 98 := e13
  have E31 : h22 99 = hg 99 := e14
  have E32 : h22 100 = hg 100 := e15
  have E33 : h22 103 = hg 103 := e16
  have E34 : h22 105 = hg 105 := e17
  have E35 : h22 106 = hg 106 := e18
  have E36 : h22 109 = hg 109 := e19
  have E37 : h22 114 = hg 114 := e20
  show ov_R u d (ov_mL nm) 1457 [(0, ov_r (-4)), (1, ov_r 0), (2, ov_r 90), (3, ov_i x3)] [ov_i v6] z21 h22 ov_LQ
  have f38 : (h22 90 2) = (hg 90 2) ∧ (h22 90 7) = (hg 90 7) ∧ (h22 90 8) = (hg 90 8) ∧ (h22 90 13) = (hg 90 13) ∧ (h22 90 20) = (hg 90 20) ∧ (h22 90 22) = (hg 90 22) ∧ (h22 90 25) = (hg 90 25) ∧ (h22 90 26) = (hg 90 26) ∧ (h22 90 28) = (hg 90 28) ∧ (h22 90 29) = (hg 90 29) ∧ (h22 90 30) = (hg 90 30) ∧ (h22 90 34) = (hg 90 34) ∧ -2147483648 ≤ v6 ∧ v6 ≤ 2147483647 := f5
  clear f5
  have K2 : ov_LK (1 + (j + 1)) (4000 * (j + 1)) z21 h22 := ov_LK_r0 K1 I23 E28 E29 E30 E32 E33 E34 E35 (by omega) (by omega) (by omega)
  have b1 : h22 1 1 = hg 1 1 := congrFun (I23.2.2.2 1 (Or.inl (by decide))) 1
  have b7 : h22 (-77) 0 = hg (-77) 0 := congrFun (I23.2.2.2 (-77) (Or.inl (by decide))) 0
  refine ov_blk (ls2 := [(0, ov_r (-4)), (1, ov_r 0), (2, ov_r 90), (3, ov_i x3)]) (st2 := []) (pc2 := 1458) b_313_1457_1 rfl rfl ?_
  refine ov_goto (tgt := 1461) d_313_1458 (by decide) ?_
  exact BK _ _ K2 (by omega) (by omega)

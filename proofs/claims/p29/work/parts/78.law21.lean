set_option maxHeartbeats 4000000 in
theorem lw_case_21 {u : ov_U} {nm : String} {d : Nat} (hd : 1000 ≤ d) (U : ov_cap u) {L : Nat} {xs : Nat → Int32} (X : ov_SC u L xs) (hL : L ≤ 3584) (x3 j : Int) (z : ov_Z) (h : ov_H) (K : ov_LK (1 + j) (4000 * j) z h) (e0 : h 1 1 = h 90 2) (gb : h (-77) 0 = 1000 * (j + 1)) (s0 : ov_S3 h) (q : 0 ≤ j ∧ x3 = 7 * j ∧ x3 ≤ L - 7) (BK : ∀ (z5 : ov_Z) (h5 : ov_H), ov_LK (1 + (j + 1)) (4000 * (j + 1)) z5 h5 → h5 1 1 = h5 90 2 → h5 (-77) 0 = 1000 * (j + 2) → ov_S3 h5 → ov_R u d (ov_mL nm) 1462 [(0, ov_r (-4)), (1, ov_r 0), (2, ov_r 90), (3, ov_i x3)] [] z5 h5 ov_LQ) : ov_R u d (ov_mL nm) 1033 [(0, ov_r (-4)), (1, ov_r 0), (2, ov_r 90), (3, ov_i x3)] [] z h ov_LQ := by
  have I := ov_LK_I (M := 1237940038997149967466889215) K
  have hW := ov_LK_W (M := 1237940038997149967466889215) K
  have hJ0 := K.2.2.1
  have s3 := s103_2 K.2.1
  have hb0 : ov_bd (h, z) = 1000 * (j + 1) := gb
  refine ov_blk (ls2 := [(0, ov_r (-4)), (1, ov_r 0), (2, ov_r 90), (3, ov_i x3)]) (st2 := [ov_i (x3 + 1), ov_r (-4), ov_r 0]) (pc2 := 1038) b_313_1033_5 rfl rfl ?_
  refine ov_scl X d_313_1038 (by omega) ?_
  have g1 := ov_xs_g xs (x3 + 1)
  refine ov_blk (ls2 := [(0, ov_r (-4)), (1, ov_r 0), (2, ov_r 90), (3, ov_i x3)]) (st2 := [ov_i (x3 + 2), ov_r (-4), ov_i (ov_xs xs (x3 + 1)), ov_r 0]) (pc2 := 1043) b_313_1039_4 rfl rfl ?_
  refine ov_scl X d_313_1043 (by omega) ?_
  have g2 := ov_xs_g xs (x3 + 2)
  refine ov_cV (as := [ov_i (ov_xs xs (x3 + 1)), ov_i (ov_xs xs (x3 + 2))]) (st := []) (d2 := d - 1) d_313_1044 lk_Law_107 rfl (Nat.le_of_ble_eq_true rfl) (c := 0) (zb_0 I) (zs_0 I) ⟨by decide, rfl⟩ (by omega) (c_OF_pace_0 (d - 1) (by omega) U I (ov_xs xs (x3 + 1)) (ov_xs xs (x3 + 2)) (by omega) (by omega)) ?_
  rintro _ z5 h6 ⟨v4, rfl, I7, f3⟩
  show ov_R u d (ov_mL nm) 1047 [(0, ov_r (-4)), (1, ov_r 0), (2, ov_r 90), (3, ov_i x3)] [ov_i v4] z5 h6 ov_LQ
  have f8 : (h6 36 7) = (h 36 7) ∧ (h6 1 1) = (h 1 1) ∧ (h6 90 2) = (h 90 2) ∧ (h6 0 10) = (h 0 10) ∧ (h6 0 11) = (h 0 11) ∧ (h6 0 12) = (h 0 12) ∧ (h6 0 13) = (h 0 13) ∧ (h6 3 1) = (h 3 1) ∧ (h6 36 8) = (h 36 8) ∧ (h6 46 3) = (h 46 3) ∧ (h6 46 4) = (h 46 4) ∧ (h6 64 0) = (h 64 0) ∧ (h6 76 0) = (h 76 0) := f3
  clear f3
  have K1 := ov_LK_c (B := (1000 * (j + 2))) K I7 (fun b h0 _ => ov_FF_ge (by omega)) (by omega) (ov_HR_k hW I7 (by omega) (by omega) (by omega) (by omega)) (by omega)
  refine ov_gho (ov_up h6 (-77) 0 (1000 * (j + 2))) (fun a ha => (ov_up77 ha).symm) ?_
  have a1 : (ov_up h6 (-77) 0 (1000 * (j + 2))) 1 1 = h6 1 1 := congrFun (ov_up77 (by decide)) 1
  have a2 : (ov_up h6 (-77) 0 (1000 * (j + 2))) 90 2 = h6 90 2 := congrFun (ov_up77 (by decide)) 2
  have a3 : (ov_up h6 (-77) 0 (1000 * (j + 2))) (-77) 0 = (1000 * (j + 2)) := ov_uj.1 rfl
  have a5 : (ov_up h6 (-77) 0 (1000 * (j + 2))) 2 = h 2 := (ov_up77 (by decide)).trans (ov_FF_k I7 (Or.inl (by decide)) (by decide +kernel))
  have a6 : (ov_up h6 (-77) 0 (1000 * (j + 2))) 91 = h 91 := (ov_up77 (by decide)).trans ((I7.2.1 91 (by decide) (by decide)).trans (ov_FF_ge (by decide)))
  have a7 : (ov_up h6 (-77) 0 (1000 * (j + 2))) 95 = h 95 := (ov_up77 (by decide)).trans ((I7.2.1 95 (by decide) (by decide)).trans (ov_FF_ge (by decide)))
  have a96 : (ov_up h6 (-77) 0 (1000 * (j + 2))) 96 = h 96 := (ov_up77 (by decide)).trans ((I7.2.1 96 (by decide) (by decide)).trans (ov_FF_ge (by decide)))
  have aU : ∀ b : Int, 0 ≤ b → (ov_up h6 (-77) 0 (1000 * (j + 2))) b = h6 b := fun b hb => ov_up77 hb
  have eT0 : h6 0 10 = h 0 10 := by omega
  have aR : ∀ b : Int, 90 ≤ b → b < 115 → (ov_up h6 (-77) 0 (1000 * (j + 2))) b = h b := fun b b0 b1 => (ov_up77 (by omega)).trans ((I7.2.1 b b0 b1).trans (ov_FF_ge (by omega)))
  have a20 : (ov_up h6 (-77) 0 (1000 * (j + 2))) 90 20 = h 90 20 := congrFun (aR 90 (by decide) (by decide)) 20
  have a4 : (ov_up h6 (-77) 0 (1000 * (j + 2))) 103 2 = h 103 2 := (congrFun (ov_up77 (by decide)) 2).trans (congrFun ((I7.2.1 103 (by decide) (by decide)).trans (ov_FF_ge (by decide))) 2)
  generalize (ov_up h6 (-77) 0 (1000 * (j + 2))) = hg at K1 a1 a2 a3 a4 a5 a6 a7 a96 aU aR a20 ⊢
  have N1 := K1.2.1
  have hWT := K1.2.2.2.2.1
  have hCD := K1.2.2.2.2.2.1
  have hWK := K1.2.2.2.2.2.2.1
  have hPM : ov_PM (hg 96) (hg 103) (hg 97) (hg 98) (hg 105) (hg 106) (hg 90 22) (hg 90 25) (hg 90 26) (hg 90 28) (hg 90 29) (hg 90 30) := K1.2.2.2.2.2.2.2.1
  have hq1 := K1.2.2.2.2.2.2.2.2.1
  have hq2 := K1.2.2.2.2.2.2.2.2.2
  have hbd : ov_bd (hg, z5) = (1000 * (j + 2)) := a3
  have g103 := s103_2 N1
  show ov_R u d (ov_mL nm) 1047 [(0, ov_r (-4)), (1, ov_r 0), (2, ov_r 90), (3, ov_i x3)] [ov_i v4] z5 hg ov_LQ
  refine ov_blk (ls2 := [(0, ov_r (-4)), (1, ov_r 0), (2, ov_r 90), (3, ov_i x3)]) (st2 := [ov_i (x3 + 1), ov_r (-4), ov_r 90]) (pc2 := 1053) b_313_1047_6 rfl rfl ?_
  refine ov_scl X d_313_1053 (by omega) ?_
  refine ov_blk (ls2 := [(0, ov_r (-4)), (1, ov_r 0), (2, ov_r 90), (3, ov_i x3)]) (st2 := [ov_i (x3 + 2), ov_r (-4), ov_i (ov_xs xs (x3 + 1)), ov_r 90]) (pc2 := 1058) b_313_1054_4 rfl rfl ?_
  refine ov_scl X d_313_1058 (by omega) ?_
  refine ov_cV (as := [ov_i (ov_xs xs (x3 + 1)), ov_i (ov_xs xs (x3 + 2))]) (st := []) (d2 := d - 1) d_313_1059 lk_Law_110 rfl (Nat.le_of_ble_eq_true rfl) (c := 1) (zb_90 N1) (zs_90 N1) ⟨by decide, rfl⟩ (by omega) (c_Mo_pace_90 (d - 1) (by omega) U N1 (ov_xs xs (x3 + 1)) (ov_xs xs (x3 + 2)) (by omega) (by omega) hWT hWK) ?_
  rintro _ z28 h29 ⟨v12, rfl, I30, f11, e13, e14, e15, e16, e17, e18, e19, e20, e21, e22, e23, e24, e25, e26, e27⟩
  have E31 : h29 91 = hg 91 := e13
  have E32 : h29 92 = hg 92 := e14
  have E33 : h29 93 = hg 93 := e15
  have E34 : h29 94 = hg 94 := e16
  have E35 : h29 95 = hg 95 := e17
  have E36 : h29 96 = hg 96 := e18
  have E37 : h29 97 = hg 97 := e19
  have E38 : h29 98 = hg 98 := e20
  have E39 : h29 99 = hg 99 := e21
  have E40 : h29 100 = hg 100 := e22
  have E41 : h29 103 = hg 103 := e23
  have E42 : h29 104 = hg 104 := e24
  have E43 : h29 105 = hg 105 := e25
  have E44 : h29 106 = hg 106 := e26
  have E45 : h29 114 = hg 114 := e27
  show ov_R u d (ov_mL nm) 1062 [(0, ov_r (-4)), (1, ov_r 0), (2, ov_r 90), (3, ov_i x3)] [ov_i v12] z28 h29 ov_LQ
  have f46 : (h29 90 2) = (hg 90 2) ∧ (h29 90 7) = (hg 90 7) ∧ (h29 90 8) = (hg 90 8) ∧ (h29 90 13) = (hg 90 13) ∧ (h29 90 20) = (hg 90 20) ∧ (h29 90 22) = (hg 90 22) ∧ (h29 90 25) = (hg 90 25) ∧ (h29 90 26) = (hg 90 26) ∧ (h29 90 28) = (hg 90 28) ∧ (h29 90 29) = (hg 90 29) ∧ (h29 90 30) = (hg 90 30) ∧ (h29 90 34) = (hg 90 34) ∧ -2147483648 ≤ v12 ∧ v12 ≤ 2147483647 := f11
  clear f11
  have K2 : ov_LK (1 + (j + 1)) (4000 * (j + 1)) z28 h29 := ov_LK_r0 K1 I30 E36 E37 E38 E40 E41 E43 E44 (by omega) (by omega) (by omega)
  have b1 : h29 1 1 = hg 1 1 := congrFun (I30.2.2.2 1 (Or.inl (by decide))) 1
  have b7 : h29 (-77) 0 = hg (-77) 0 := congrFun (I30.2.2.2 (-77) (Or.inl (by decide))) 0
  have c2 : h29 2 = hg 2 := I30.2.2.2 2 (Or.inl (by decide))
  have bL : ∀ b : Int, 0 ≤ b → b < 90 → h29 b = hg b := fun b _ q => I30.2.2.2 b (Or.inl q)
  have S2 : ov_S3 h29 := ⟨by rw [c2, E31, a5, a6]; exact s0.1, by rw [E35, a7]; exact s0.2.1, ov_HT_s s0.2.2.1 I7 (by decide +kernel) eT0 aU bL E36 a96, st_same s0.2.2.2 (fun a a0 a1 a2 => ((bL a (by omega) (by omega)).trans (aU a (by omega))).trans (ov_FF_k I7 (Or.inl (by omega)) ((by decide +kernel : ∀ n, n < 36 → (4 ≤ n ∧ (n < 14 ∨ 15 ≤ n)) → Nat.testBit 1237940038997149967466889215 n = true) a.toNat (by omega) (by omega)))) (E41.trans (aR 103 (by decide) (by decide))) (fun m _ _ => congrFun (E42.trans (aR 104 (by decide) (by decide))) m) (congrFun (E36.trans (aR 96 (by decide) (by decide))) 5) (by omega)⟩
  refine ov_blk (ls2 := [(0, ov_r (-4)), (1, ov_r 0), (2, ov_r 90), (3, ov_i x3)]) (st2 := []) (pc2 := 1063) b_313_1062_1 rfl rfl ?_
  refine ov_goto (tgt := 1462) d_313_1063 (by decide) ?_
  exact BK _ _ K2 (by omega) (by omega) S2

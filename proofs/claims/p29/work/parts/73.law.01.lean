set_option maxHeartbeats 4000000 in
theorem lw_case_0 {u : ov_U} {nm : String} {d : Nat} (hd : 1000 ≤ d) (U : ov_cap u) {L : Nat} {xs : Nat → Int32} (X : ov_SC u L xs) (hL : L ≤ 3584) (x3 j : Int) (z : ov_Z) (h : ov_H) (K : ov_LK (1 + j) (4000 * j) z h) (e0 : h 1 1 = h 90 2) (gb : h (-77) 0 = 1000 * (j + 1)) (s0 : ov_S3 h) (q : 0 ≤ j ∧ x3 = 7 * j ∧ x3 ≤ L - 7) (BK : ∀ (z5 : ov_Z) (h5 : ov_H), ov_LK (1 + (j + 1)) (4000 * (j + 1)) z5 h5 → h5 1 1 = h5 90 2 → h5 (-77) 0 = 1000 * (j + 2) → ov_S3 h5 → ov_R u d (ov_mL nm) 1462 [(0, ov_r (-4)), (1, ov_r 0), (2, ov_r 90), (3, ov_i x3)] [] z5 h5 ov_LQ) : ov_R u d (ov_mL nm) 172 [(0, ov_r (-4)), (1, ov_r 0), (2, ov_r 90), (3, ov_i x3)] [] z h ov_LQ := by
  have I := ov_LK_I (M := 1237940038997149967466889209) K
  have hW := ov_LK_W (M := 1237940038997149967466889209) K
  have hJ0 := K.2.2.1
  have s3 := s103_2 K.2.1
  have hb0 : ov_bd (h, z) = 1000 * (j + 1) := gb
  refine ov_blk (ls2 := [(0, ov_r (-4)), (1, ov_r 0), (2, ov_r 90), (3, ov_i x3)]) (st2 := [ov_i (x3 + 1), ov_r (-4), ov_r 0]) (pc2 := 177) b_313_172_5 rfl rfl ?_
  refine ov_scl X d_313_177 (by omega) ?_
  have g1 := ov_xs_g xs (x3 + 1)
  refine ov_blk (ls2 := [(0, ov_r (-4)), (1, ov_r 0), (2, ov_r 90), (3, ov_i x3)]) (st2 := [ov_i (x3 + 2), ov_r (-4), ov_l (ov_lshl (ov_w (ov_xs xs (x3 + 1))) 32), ov_r 0]) (pc2 := 186) b_313_178_7 rfl rfl ?_
  have g2 := ov_wg (ov_xs xs (x3 + 1))
  have g3 := ov_wq (ov_xs xs (x3 + 1))
  refine ov_scl X d_313_186 (by omega) ?_
  have g4 := ov_xs_g xs (x3 + 2)
  refine ov_blk (ls2 := [(0, ov_r (-4)), (1, ov_r 0), (2, ov_r 90), (3, ov_i x3)]) (st2 := [ov_l (ov_w (ov_xs xs (x3 + 2))), ov_l (ov_lshl (ov_w (ov_xs xs (x3 + 1))) 32), ov_r 0]) (pc2 := 188) b_313_187_1 rfl rfl ?_
  have g5 := ov_wg (ov_xs xs (x3 + 2))
  have g6 := ov_wq (ov_xs xs (x3 + 2))
  refine ov_ldc2 (n := 4294967295) d_313_188 kc_Law_13 ?_
  refine ov_blk (ls2 := [(0, ov_r (-4)), (1, ov_r 0), (2, ov_r 90), (3, ov_i x3)]) (st2 := [ov_i (x3 + 3), ov_r (-4), ov_l (ov_lor (ov_lshl (ov_w (ov_xs xs (x3 + 1))) 32) (ov_land (ov_w (ov_xs xs (x3 + 2))) 4294967295)), ov_r 0]) (pc2 := 197) b_313_191_6 rfl rfl ?_
  refine ov_scl X d_313_197 (by omega) ?_
  have g7 := ov_xs_g xs (x3 + 3)
  refine ov_blk (ls2 := [(0, ov_r (-4)), (1, ov_r 0), (2, ov_r 90), (3, ov_i x3)]) (st2 := [ov_i (x3 + 4), ov_r (-4), ov_l (ov_lshl (ov_w (ov_xs xs (x3 + 3))) 32), ov_l (ov_lor (ov_lshl (ov_w (ov_xs xs (x3 + 1))) 32) (ov_land (ov_w (ov_xs xs (x3 + 2))) 4294967295)), ov_r 0]) (pc2 := 206) b_313_198_7 rfl rfl ?_
  have g8 := ov_wg (ov_xs xs (x3 + 3))
  have g9 := ov_wq (ov_xs xs (x3 + 3))
  refine ov_scl X d_313_206 (by omega) ?_
  have g10 := ov_xs_g xs (x3 + 4)
  refine ov_blk (ls2 := [(0, ov_r (-4)), (1, ov_r 0), (2, ov_r 90), (3, ov_i x3)]) (st2 := [ov_l (ov_w (ov_xs xs (x3 + 4))), ov_l (ov_lshl (ov_w (ov_xs xs (x3 + 3))) 32), ov_l (ov_lor (ov_lshl (ov_w (ov_xs xs (x3 + 1))) 32) (ov_land (ov_w (ov_xs xs (x3 + 2))) 4294967295)), ov_r 0]) (pc2 := 208) b_313_207_1 rfl rfl ?_
  have g11 := ov_wg (ov_xs xs (x3 + 4))
  have g12 := ov_wq (ov_xs xs (x3 + 4))
  refine ov_ldc2 (n := 4294967295) d_313_208 kc_Law_13 ?_
  refine ov_blk (ls2 := [(0, ov_r (-4)), (1, ov_r 0), (2, ov_r 90), (3, ov_i x3)]) (st2 := [ov_i (x3 + 5), ov_r (-4), ov_l (ov_lor (ov_lshl (ov_w (ov_xs xs (x3 + 3))) 32) (ov_land (ov_w (ov_xs xs (x3 + 4))) 4294967295)), ov_l (ov_lor (ov_lshl (ov_w (ov_xs xs (x3 + 1))) 32) (ov_land (ov_w (ov_xs xs (x3 + 2))) 4294967295)), ov_r 0]) (pc2 := 217) b_313_211_6 rfl rfl ?_
  refine ov_scl X d_313_217 (by omega) ?_
  have g13 := ov_xs_g xs (x3 + 5)
  refine ov_blk (ls2 := [(0, ov_r (-4)), (1, ov_r 0), (2, ov_r 90), (3, ov_i x3)]) (st2 := [ov_i (x3 + 6), ov_r (-4), ov_l (ov_lshl (ov_w (ov_xs xs (x3 + 5))) 32), ov_l (ov_lor (ov_lshl (ov_w (ov_xs xs (x3 + 3))) 32) (ov_land (ov_w (ov_xs xs (x3 + 4))) 4294967295)), ov_l (ov_lor (ov_lshl (ov_w (ov_xs xs (x3 + 1))) 32) (ov_land (ov_w (ov_xs xs (x3 + 2))) 4294967295)), ov_r 0]) (pc2 := 227) b_313_218_7 rfl rfl ?_
  have g14 := ov_wg (ov_xs xs (x3 + 5))
  have g15 := ov_wq (ov_xs xs (x3 + 5))
  refine ov_scl X d_313_227 (by omega) ?_
  have g16 := ov_xs_g xs (x3 + 6)
  refine ov_blk (ls2 := [(0, ov_r (-4)), (1, ov_r 0), (2, ov_r 90), (3, ov_i x3)]) (st2 := [ov_l (ov_w (ov_xs xs (x3 + 6))), ov_l (ov_lshl (ov_w (ov_xs xs (x3 + 5))) 32), ov_l (ov_lor (ov_lshl (ov_w (ov_xs xs (x3 + 3))) 32) (ov_land (ov_w (ov_xs xs (x3 + 4))) 4294967295)), ov_l (ov_lor (ov_lshl (ov_w (ov_xs xs (x3 + 1))) 32) (ov_land (ov_w (ov_xs xs (x3 + 2))) 4294967295)), ov_r 0]) (pc2 := 229) b_313_228_1 rfl rfl ?_
  have g17 := ov_wg (ov_xs xs (x3 + 6))
  have g18 := ov_wq (ov_xs xs (x3 + 6))
  refine ov_ldc2 (n := 4294967295) d_313_229 kc_Law_13 ?_
  refine ov_blk (ls2 := [(0, ov_r (-4)), (1, ov_r 0), (2, ov_r 90), (3, ov_i x3)]) (st2 := [ov_l (ov_lor (ov_lshl (ov_w (ov_xs xs (x3 + 5))) 32) (ov_land (ov_w (ov_xs xs (x3 + 6))) 4294967295)), ov_l (ov_lor (ov_lshl (ov_w (ov_xs xs (x3 + 3))) 32) (ov_land (ov_w (ov_xs xs (x3 + 4))) 4294967295)), ov_l (ov_lor (ov_lshl (ov_w (ov_xs xs (x3 + 1))) 32) (ov_land (ov_w (ov_xs xs (x3 + 2))) 4294967295)), ov_r 0]) (pc2 := 234) b_313_232_2 rfl rfl ?_
  refine ov_cV (as := [ov_l (ov_lor (ov_lshl (ov_w (ov_xs xs (x3 + 1))) 32) (ov_land (ov_w (ov_xs xs (x3 + 2))) 4294967295)), ov_l (ov_lor (ov_lshl (ov_w (ov_xs xs (x3 + 3))) 32) (ov_land (ov_w (ov_xs xs (x3 + 4))) 4294967295)), ov_l (ov_lor (ov_lshl (ov_w (ov_xs xs (x3 + 5))) 32) (ov_land (ov_w (ov_xs xs (x3 + 6))) 4294967295))]) (st := []) (d2 := d - 1) d_313_234 lk_Law_15 rfl (Nat.le_of_ble_eq_true rfl) (c := 0) (zb_0 I) (zs_0 I) ⟨by decide, rfl⟩ (by omega) (c_OF_feed_0_s (d - 1) (by omega) U I (ov_FF_w (by decide +kernel)) (ov_lor (ov_lshl (ov_w (ov_xs xs (x3 + 1))) 32) (ov_land (ov_w (ov_xs xs (x3 + 2))) 4294967295)) (ov_lor (ov_lshl (ov_w (ov_xs xs (x3 + 3))) 32) (ov_land (ov_w (ov_xs xs (x3 + 4))) 4294967295)) (ov_lor (ov_lshl (ov_w (ov_xs xs (x3 + 5))) 32) (ov_land (ov_w (ov_xs xs (x3 + 6))) 4294967295))) ?_
  rintro _ z21 h22 ⟨v20, rfl, I23, f19, xc⟩
  show ov_R u d (ov_mL nm) 237 [(0, ov_r (-4)), (1, ov_r 0), (2, ov_r 90), (3, ov_i x3)] [ov_i v20] z21 h22 ov_LQ
  have f24 : v20 = (h22 1 1) ∧ (h22 1 1) = ov_fdn (ov_lor (ov_lshl (ov_w (ov_xs xs (x3 + 5))) 32) (ov_land (ov_w (ov_xs xs (x3 + 6))) 4294967295)) (ov_fdn (ov_lor (ov_lshl (ov_w (ov_xs xs (x3 + 3))) 32) (ov_land (ov_w (ov_xs xs (x3 + 4))) 4294967295)) (ov_fdn (ov_lor (ov_lshl (ov_w (ov_xs xs (x3 + 1))) 32) (ov_land (ov_w (ov_xs xs (x3 + 2))) 4294967295)) (h 1 1) 8) 8) 8 ∧ (h22 36 7) = (h 36 7) ∧ (h22 90 2) = (h 90 2) ∧ (h22 0 10) = (h 0 10) ∧ (h22 0 11) = (h 0 11) ∧ (h22 0 12) = (h 0 12) ∧ (h22 0 13) = (h 0 13) ∧ (h22 3 1) = (h 3 1) ∧ (h22 36 8) = (h 36 8) ∧ (h22 46 3) = (h 46 3) ∧ (h22 46 4) = (h 46 4) ∧ (h22 49 4) = (h 49 4) ∧ (h22 49 5) = (h 49 5) ∧ (h22 64 0) = (h 64 0) ∧ (h22 76 0) = (h 76 0) := f19
  clear f19
  have K1 := ov_LK_c (B := (1000 * (j + 2))) K I23 (fun b h0 _ => ov_FF_ge (by omega)) (by omega) (ov_HR_k hW I23 (by omega) (by omega) (by omega) (by omega)) (by omega)
  refine ov_gho (ov_up h22 (-77) 0 (1000 * (j + 2))) (fun a ha => (ov_up77 ha).symm) ?_
  have a1 : (ov_up h22 (-77) 0 (1000 * (j + 2))) 1 1 = h22 1 1 := congrFun (ov_up77 (by decide)) 1
  have a2 : (ov_up h22 (-77) 0 (1000 * (j + 2))) 90 2 = h22 90 2 := congrFun (ov_up77 (by decide)) 2
  have a3 : (ov_up h22 (-77) 0 (1000 * (j + 2))) (-77) 0 = (1000 * (j + 2)) := ov_uj.1 rfl
  have a5 : (ov_up h22 (-77) 0 (1000 * (j + 2))) 2 = h22 2 := ov_up77 (by decide)
  have a6 : (ov_up h22 (-77) 0 (1000 * (j + 2))) 91 = h 91 := (ov_up77 (by decide)).trans ((I23.2.1 91 (by decide) (by decide)).trans (ov_FF_ge (by decide)))
  have a7 : (ov_up h22 (-77) 0 (1000 * (j + 2))) 95 = h 95 := (ov_up77 (by decide)).trans ((I23.2.1 95 (by decide) (by decide)).trans (ov_FF_ge (by decide)))
  have a96 : (ov_up h22 (-77) 0 (1000 * (j + 2))) 96 = h 96 := (ov_up77 (by decide)).trans ((I23.2.1 96 (by decide) (by decide)).trans (ov_FF_ge (by decide)))
  have aU : ∀ b : Int, 0 ≤ b → (ov_up h22 (-77) 0 (1000 * (j + 2))) b = h22 b := fun b hb => ov_up77 hb
  have eT0 : h22 0 10 = h 0 10 := by omega
  have aR : ∀ b : Int, 90 ≤ b → b < 115 → (ov_up h22 (-77) 0 (1000 * (j + 2))) b = h b := fun b b0 b1 => (ov_up77 (by omega)).trans ((I23.2.1 b b0 b1).trans (ov_FF_ge (by omega)))
  have a20 : (ov_up h22 (-77) 0 (1000 * (j + 2))) 90 20 = h 90 20 := congrFun (aR 90 (by decide) (by decide)) 20
  have a4 : (ov_up h22 (-77) 0 (1000 * (j + 2))) 103 2 = h 103 2 := (congrFun (ov_up77 (by decide)) 2).trans (congrFun ((I23.2.1 103 (by decide) (by decide)).trans (ov_FF_ge (by decide))) 2)
  generalize (ov_up h22 (-77) 0 (1000 * (j + 2))) = hg at K1 a1 a2 a3 a4 a5 a6 a7 a96 aU aR a20 ⊢
  have N1 := K1.2.1
  have hWT := K1.2.2.2.2.1
  have hCD := K1.2.2.2.2.2.1
  have hWK := K1.2.2.2.2.2.2.1
  have hPM : ov_PM (hg 96) (hg 103) (hg 97) (hg 98) (hg 105) (hg 106) (hg 90 22) (hg 90 25) (hg 90 26) (hg 90 28) (hg 90 29) (hg 90 30) := K1.2.2.2.2.2.2.2.1
  have hq1 := K1.2.2.2.2.2.2.2.2.1
  have hq2 := K1.2.2.2.2.2.2.2.2.2
  have hbd : ov_bd (hg, z21) = (1000 * (j + 2)) := a3
  have g103 := s103_2 N1
  show ov_R u d (ov_mL nm) 237 [(0, ov_r (-4)), (1, ov_r 0), (2, ov_r 90), (3, ov_i x3)] [ov_i v20] z21 hg ov_LQ
  refine ov_blk (ls2 := [(0, ov_r (-4)), (1, ov_r 0), (2, ov_r 90), (3, ov_i x3)]) (st2 := [ov_i (x3 + 1), ov_r (-4), ov_r 90]) (pc2 := 243) b_313_237_6 rfl rfl ?_
  refine ov_scl X d_313_243 (by omega) ?_
  refine ov_blk (ls2 := [(0, ov_r (-4)), (1, ov_r 0), (2, ov_r 90), (3, ov_i x3)]) (st2 := [ov_i (x3 + 2), ov_r (-4), ov_l (ov_lshl (ov_w (ov_xs xs (x3 + 1))) 32), ov_r 90]) (pc2 := 252) b_313_244_7 rfl rfl ?_
  have g26 := ov_wg (ov_xs xs (x3 + 1))
  have g27 := ov_wq (ov_xs xs (x3 + 1))
  refine ov_scl X d_313_252 (by omega) ?_
  refine ov_blk (ls2 := [(0, ov_r (-4)), (1, ov_r 0), (2, ov_r 90), (3, ov_i x3)]) (st2 := [ov_l (ov_w (ov_xs xs (x3 + 2))), ov_l (ov_lshl (ov_w (ov_xs xs (x3 + 1))) 32), ov_r 90]) (pc2 := 254) b_313_253_1 rfl rfl ?_
  have g29 := ov_wg (ov_xs xs (x3 + 2))
  have g30 := ov_wq (ov_xs xs (x3 + 2))
  refine ov_ldc2 (n := 4294967295) d_313_254 kc_Law_13 ?_
  refine ov_blk (ls2 := [(0, ov_r (-4)), (1, ov_r 0), (2, ov_r 90), (3, ov_i x3)]) (st2 := [ov_i (x3 + 3), ov_r (-4), ov_l (ov_lor (ov_lshl (ov_w (ov_xs xs (x3 + 1))) 32) (ov_land (ov_w (ov_xs xs (x3 + 2))) 4294967295)), ov_r 90]) (pc2 := 263) b_313_257_6 rfl rfl ?_
  refine ov_scl X d_313_263 (by omega) ?_
  refine ov_blk (ls2 := [(0, ov_r (-4)), (1, ov_r 0), (2, ov_r 90), (3, ov_i x3)]) (st2 := [ov_i (x3 + 4), ov_r (-4), ov_l (ov_lshl (ov_w (ov_xs xs (x3 + 3))) 32), ov_l (ov_lor (ov_lshl (ov_w (ov_xs xs (x3 + 1))) 32) (ov_land (ov_w (ov_xs xs (x3 + 2))) 4294967295)), ov_r 90]) (pc2 := 272) b_313_264_7 rfl rfl ?_
  have g32 := ov_wg (ov_xs xs (x3 + 3))
  have g33 := ov_wq (ov_xs xs (x3 + 3))
  refine ov_scl X d_313_272 (by omega) ?_
  refine ov_blk (ls2 := [(0, ov_r (-4)), (1, ov_r 0), (2, ov_r 90), (3, ov_i x3)]) (st2 := [ov_l (ov_w (ov_xs xs (x3 + 4))), ov_l (ov_lshl (ov_w (ov_xs xs (x3 + 3))) 32), ov_l (ov_lor (ov_lshl (ov_w (ov_xs xs (x3 + 1))) 32) (ov_land (ov_w (ov_xs xs (x3 + 2))) 4294967295)), ov_r 90]) (pc2 := 274) b_313_273_1 rfl rfl ?_
  have g35 := ov_wg (ov_xs xs (x3 + 4))
  have g36 := ov_wq (ov_xs xs (x3 + 4))
  refine ov_ldc2 (n := 4294967295) d_313_274 kc_Law_13 ?_
  refine ov_blk (ls2 := [(0, ov_r (-4)), (1, ov_r 0), (2, ov_r 90), (3, ov_i x3)]) (st2 := [ov_i (x3 + 5), ov_r (-4), ov_l (ov_lor (ov_lshl (ov_w (ov_xs xs (x3 + 3))) 32) (ov_land (ov_w (ov_xs xs (x3 + 4))) 4294967295)), ov_l (ov_lor (ov_lshl (ov_w (ov_xs xs (x3 + 1))) 32) (ov_land (ov_w (ov_xs xs (x3 + 2))) 4294967295)), ov_r 90]) (pc2 := 283) b_313_277_6 rfl rfl ?_
  refine ov_scl X d_313_283 (by omega) ?_
  refine ov_blk (ls2 := [(0, ov_r (-4)), (1, ov_r 0), (2, ov_r 90), (3, ov_i x3)]) (st2 := [ov_i (x3 + 6), ov_r (-4), ov_l (ov_lshl (ov_w (ov_xs xs (x3 + 5))) 32), ov_l (ov_lor (ov_lshl (ov_w (ov_xs xs (x3 + 3))) 32) (ov_land (ov_w (ov_xs xs (x3 + 4))) 4294967295)), ov_l (ov_lor (ov_lshl (ov_w (ov_xs xs (x3 + 1))) 32) (ov_land (ov_w (ov_xs xs (x3 + 2))) 4294967295)), ov_r 90]) (pc2 := 293) b_313_284_7 rfl rfl ?_
  have g38 := ov_wg (ov_xs xs (x3 + 5))
  have g39 := ov_wq (ov_xs xs (x3 + 5))
  refine ov_scl X d_313_293 (by omega) ?_
  refine ov_blk (ls2 := [(0, ov_r (-4)), (1, ov_r 0), (2, ov_r 90), (3, ov_i x3)]) (st2 := [ov_l (ov_w (ov_xs xs (x3 + 6))), ov_l (ov_lshl (ov_w (ov_xs xs (x3 + 5))) 32), ov_l (ov_lor (ov_lshl (ov_w (ov_xs xs (x3 + 3))) 32) (ov_land (ov_w (ov_xs xs (x3 + 4))) 4294967295)), ov_l (ov_lor (ov_lshl (ov_w (ov_xs xs (x3 + 1))) 32) (ov_land (ov_w (ov_xs xs (x3 + 2))) 4294967295)), ov_r 90]) (pc2 := 295) b_313_294_1 rfl rfl ?_
  have g41 := ov_wg (ov_xs xs (x3 + 6))
  have g42 := ov_wq (ov_xs xs (x3 + 6))
  refine ov_ldc2 (n := 4294967295) d_313_295 kc_Law_13 ?_
  refine ov_blk (ls2 := [(0, ov_r (-4)), (1, ov_r 0), (2, ov_r 90), (3, ov_i x3)]) (st2 := [ov_l (ov_lor (ov_lshl (ov_w (ov_xs xs (x3 + 5))) 32) (ov_land (ov_w (ov_xs xs (x3 + 6))) 4294967295)), ov_l (ov_lor (ov_lshl (ov_w (ov_xs xs (x3 + 3))) 32) (ov_land (ov_w (ov_xs xs (x3 + 4))) 4294967295)), ov_l (ov_lor (ov_lshl (ov_w (ov_xs xs (x3 + 1))) 32) (ov_land (ov_w (ov_xs xs (x3 + 2))) 4294967295)), ov_r 90]) (pc2 := 300) b_313_298_2 rfl rfl ?_
  refine ov_cV (as := [ov_l (ov_lor (ov_lshl (ov_w (ov_xs xs (x3 + 1))) 32) (ov_land (ov_w (ov_xs xs (x3 + 2))) 4294967295)), ov_l (ov_lor (ov_lshl (ov_w (ov_xs xs (x3 + 3))) 32) (ov_land (ov_w (ov_xs xs (x3 + 4))) 4294967295)), ov_l (ov_lor (ov_lshl (ov_w (ov_xs xs (x3 + 5))) 32) (ov_land (ov_w (ov_xs xs (x3 + 6))) 4294967295))]) (st := []) (d2 := d - 1) d_313_300 lk_Law_19 rfl (Nat.le_of_ble_eq_true rfl) (c := 1) (zb_90 N1) (zs_90 N1) ⟨by decide, rfl⟩ (by omega) (c_Mo_feed_90_s (d - 1) (by omega) U N1 (ov_lor (ov_lshl (ov_w (ov_xs xs (x3 + 1))) 32) (ov_land (ov_w (ov_xs xs (x3 + 2))) 4294967295)) (ov_lor (ov_lshl (ov_w (ov_xs xs (x3 + 3))) 32) (ov_land (ov_w (ov_xs xs (x3 + 4))) 4294967295)) (ov_lor (ov_lshl (ov_w (ov_xs xs (x3 + 5))) 32) (ov_land (ov_w (ov_xs xs (x3 + 6))) 4294967295))) ?_
  rintro _ z60 h61 ⟨v44, rfl, I62, f43, e45, e46, e47, e48, e49, e50, e51, e52, e53, e54, e55, e56, e57, e58, e59, xm⟩
  have E63 : h61 92 = hg 92 := e45
  have E64 : h61 93 = hg 93 := e46
  have E65 : h61 94 = hg 94 := e47
  have E66 : h61 95 = hg 95 := e48
  have E67 : h61 96 = hg 96 := e49
  have E68 : h61 97 = hg 97 := e50
  have E69 : h61 98 = hg 98 := e51
  have E70 : h61 99 = hg 99 := e52
  have E71 : h61 100 = hg 100 := e53
  have E72 : h61 103 = hg 103 := e54
  have E73 : h61 104 = hg 104 := e55
  have E74 : h61 105 = hg 105 := e56
  have E75 : h61 106 = hg 106 := e57
  have E76 : h61 109 = hg 109 := e58
  have E77 : h61 114 = hg 114 := e59
  show ov_R u d (ov_mL nm) 303 [(0, ov_r (-4)), (1, ov_r 0), (2, ov_r 90), (3, ov_i x3)] [ov_i v44] z60 h61 ov_LQ
  have f78 : (h61 90 7) = (hg 90 7) ∧ (h61 90 8) = (hg 90 8) ∧ (h61 90 13) = (hg 90 13) ∧ (h61 90 20) = (hg 90 20) ∧ (h61 90 22) = (hg 90 22) ∧ (h61 90 25) = (hg 90 25) ∧ (h61 90 26) = (hg 90 26) ∧ (h61 90 28) = (hg 90 28) ∧ (h61 90 29) = (hg 90 29) ∧ (h61 90 30) = (hg 90 30) ∧ (h61 90 34) = (hg 90 34) ∧ v44 = (h61 90 2) ∧ (h61 90 2) = ov_fdn (ov_lor (ov_lshl (ov_w (ov_xs xs (x3 + 5))) 32) (ov_land (ov_w (ov_xs xs (x3 + 6))) 4294967295)) (ov_fdn (ov_lor (ov_lshl (ov_w (ov_xs xs (x3 + 3))) 32) (ov_land (ov_w (ov_xs xs (x3 + 4))) 4294967295)) (ov_fdn (ov_lor (ov_lshl (ov_w (ov_xs xs (x3 + 1))) 32) (ov_land (ov_w (ov_xs xs (x3 + 2))) 4294967295)) (hg 90 2) 8) 8) 8 := f43
  clear f43
  have K2 : ov_LK (1 + (j + 1)) (4000 * (j + 1)) z60 h61 := ov_LK_r0 K1 I62 E67 E68 E69 E71 E72 E74 E75 (by omega) (by omega) (by omega)
  have b1 : h61 1 1 = hg 1 1 := congrFun (I62.2.2.2 1 (Or.inl (by decide))) 1
  have b7 : h61 (-77) 0 = hg (-77) 0 := congrFun (I62.2.2.2 (-77) (Or.inl (by decide))) 0
  have c2 : h61 2 = hg 2 := I62.2.2.2 2 (Or.inl (by decide))
  have x0 : hg 90 2 = h 1 1 := by omega
  rw [x0] at f78
  have bL : ∀ b : Int, 0 ≤ b → b < 90 → h61 b = hg b := fun b _ q => I62.2.2.2 b (Or.inl q)
  have S2 : ov_S3 h61 := ⟨by rw [c2, a5, xc, xm, a6, ← s0.1, show hg 90 2 = h 1 1 by omega], by rw [E66, a7]; exact s0.2.1, ov_HT_s s0.2.2.1 I23 (by decide +kernel) eT0 aU bL E67 a96, st_same s0.2.2.2 (fun a a0 a1 a2 => ((bL a (by omega) (by omega)).trans (aU a (by omega))).trans (ov_FF_k I23 (Or.inl (by omega)) ((by decide +kernel : ∀ n, n < 36 → (4 ≤ n ∧ (n < 14 ∨ 15 ≤ n)) → Nat.testBit 1237940038997149967466889209 n = true) a.toNat (by omega) (by omega)))) (E72.trans (aR 103 (by decide) (by decide))) (fun m _ _ => congrFun (E73.trans (aR 104 (by decide) (by decide))) m) (congrFun (E67.trans (aR 96 (by decide) (by decide))) 5) (by omega)⟩
  refine ov_blk (ls2 := [(0, ov_r (-4)), (1, ov_r 0), (2, ov_r 90), (3, ov_i x3)]) (st2 := []) (pc2 := 304) b_313_303_1 rfl rfl ?_
  refine ov_goto (tgt := 1462) d_313_304 (by decide) ?_
  exact BK _ _ K2 (by omega) (by omega) S2
set_option maxHeartbeats 4000000 in
theorem lw_case_1 {u : ov_U} {nm : String} {d : Nat} (hd : 1000 ≤ d) (U : ov_cap u) {L : Nat} {xs : Nat → Int32} (X : ov_SC u L xs) (hL : L ≤ 3584) (x3 j : Int) (z : ov_Z) (h : ov_H) (K : ov_LK (1 + j) (4000 * j) z h) (e0 : h 1 1 = h 90 2) (gb : h (-77) 0 = 1000 * (j + 1)) (s0 : ov_S3 h) (q : 0 ≤ j ∧ x3 = 7 * j ∧ x3 ≤ L - 7) (BK : ∀ (z5 : ov_Z) (h5 : ov_H), ov_LK (1 + (j + 1)) (4000 * (j + 1)) z5 h5 → h5 1 1 = h5 90 2 → h5 (-77) 0 = 1000 * (j + 2) → ov_S3 h5 → ov_R u d (ov_mL nm) 1462 [(0, ov_r (-4)), (1, ov_r 0), (2, ov_r 90), (3, ov_i x3)] [] z5 h5 ov_LQ) : ov_R u d (ov_mL nm) 307 [(0, ov_r (-4)), (1, ov_r 0), (2, ov_r 90), (3, ov_i x3)] [] z h ov_LQ := by
  have I := ov_LK_I (M := 1153315822208166625735081444) K
  have hW := ov_LK_W (M := 1153315822208166625735081444) K
  have hJ0 := K.2.2.1
  have s3 := s103_2 K.2.1
  have hb0 : ov_bd (h, z) = 1000 * (j + 1) := gb
  obtain ⟨f0, hf⟩ := pt_ET_f0 (h 2) (h 1 1)
  refine ov_blk (ls2 := [(0, ov_r (-4)), (1, ov_r 0), (2, ov_r 90), (3, ov_i x3)]) (st2 := [ov_r 0]) (pc2 := 308) b_313_307_1 rfl rfl ?_
  refine ov_cV (as := []) (st := []) (d2 := d - 1) d_313_308 lk_Law_20 rfl (Nat.le_of_ble_eq_true rfl) (c := 0) (zb_0 I) (zs_0 I) ⟨by decide, rfl⟩ (by omega) (c_OF_town_0_t (h 2) (h 1 1) f0 hf (d - 1) (by omega) U I (ov_FF_w (by decide +kernel)) (by omega) (by omega) rfl rfl) ?_
  rintro _ z3 h4 ⟨v2, rfl, I5, f1, xc⟩
  show ov_R u d (ov_mL nm) 311 [(0, ov_r (-4)), (1, ov_r 0), (2, ov_r 90), (3, ov_i x3)] [ov_i v2] z3 h4 ov_LQ
  have f6 : (h4 1 1) = 0 ∧ ((h4 36 7) = 1 → (h4 36 8) = (h4 0 10)) ∧ ((h4 0 10) = 58 ∧ (h4 0 11) = 70 ∧ 0 ≤ (h4 64 0) ∧ 1 ≤ (h4 58 0) ∧ 1 ≤ (h4 58 1) ∨ (h4 0 10) = 70 ∧ (h4 0 11) = 58 ∧ 0 ≤ (h4 76 0) ∧ 1 ≤ (h4 70 0) ∧ 1 ≤ (h4 70 1)) ∧ v2 = f0 ∧ (h4 90 2) = (h 90 2) ∧ (h4 0 12) = (h 0 12) ∧ (h4 0 13) = (h 0 13) ∧ (h4 46 3) = (h 46 3) ∧ (h4 46 4) = (h 46 4) ∧ (h4 49 4) = (h 49 4) ∧ (h4 49 5) = (h 49 5) := f1
  clear f1
  have K1 := ov_LK_c (B := (1000 * (j + 2))) K I5 (fun b h0 _ => ov_FF_ge (by omega)) (by omega) (by unfold ov_HR; omega) (by omega)
  refine ov_gho (ov_up h4 (-77) 0 (1000 * (j + 2))) (fun a ha => (ov_up77 ha).symm) ?_
  have a1 : (ov_up h4 (-77) 0 (1000 * (j + 2))) 1 1 = h4 1 1 := congrFun (ov_up77 (by decide)) 1
  have a2 : (ov_up h4 (-77) 0 (1000 * (j + 2))) 90 2 = h4 90 2 := congrFun (ov_up77 (by decide)) 2
  have a3 : (ov_up h4 (-77) 0 (1000 * (j + 2))) (-77) 0 = (1000 * (j + 2)) := ov_uj.1 rfl
  have a5 : (ov_up h4 (-77) 0 (1000 * (j + 2))) 2 = h 2 := (ov_up77 (by decide)).trans (ov_FF_k I5 (Or.inl (by decide)) (by decide +kernel))
  have a6 : (ov_up h4 (-77) 0 (1000 * (j + 2))) 91 = h 91 := (ov_up77 (by decide)).trans ((I5.2.1 91 (by decide) (by decide)).trans (ov_FF_ge (by decide)))
  have a7 : (ov_up h4 (-77) 0 (1000 * (j + 2))) 95 = h 95 := (ov_up77 (by decide)).trans ((I5.2.1 95 (by decide) (by decide)).trans (ov_FF_ge (by decide)))
  have a96 : (ov_up h4 (-77) 0 (1000 * (j + 2))) 96 = h 96 := (ov_up77 (by decide)).trans ((I5.2.1 96 (by decide) (by decide)).trans (ov_FF_ge (by decide)))
  have aU : ∀ b : Int, 0 ≤ b → (ov_up h4 (-77) 0 (1000 * (j + 2))) b = h4 b := fun b hb => ov_up77 hb
  have eT0 := True.intro
  have aR : ∀ b : Int, 90 ≤ b → b < 115 → (ov_up h4 (-77) 0 (1000 * (j + 2))) b = h b := fun b b0 b1 => (ov_up77 (by omega)).trans ((I5.2.1 b b0 b1).trans (ov_FF_ge (by omega)))
  have a20 : (ov_up h4 (-77) 0 (1000 * (j + 2))) 90 20 = h 90 20 := congrFun (aR 90 (by decide) (by decide)) 20
  have a4 : (ov_up h4 (-77) 0 (1000 * (j + 2))) 103 2 = h 103 2 := (congrFun (ov_up77 (by decide)) 2).trans (congrFun ((I5.2.1 103 (by decide) (by decide)).trans (ov_FF_ge (by decide))) 2)
  generalize (ov_up h4 (-77) 0 (1000 * (j + 2))) = hg at K1 a1 a2 a3 a4 a5 a6 a7 a96 aU aR a20 ⊢
  have N1 := K1.2.1
  have hWT := K1.2.2.2.2.1
  have hCD := K1.2.2.2.2.2.1
  have hWK := K1.2.2.2.2.2.2.1
  have hPM : ov_PM (hg 96) (hg 103) (hg 97) (hg 98) (hg 105) (hg 106) (hg 90 22) (hg 90 25) (hg 90 26) (hg 90 28) (hg 90 29) (hg 90 30) := K1.2.2.2.2.2.2.2.1
  have hq1 := K1.2.2.2.2.2.2.2.2.1
  have hq2 := K1.2.2.2.2.2.2.2.2.2
  have hbd : ov_bd (hg, z3) = (1000 * (j + 2)) := a3
  have g103 := s103_2 N1
  show ov_R u d (ov_mL nm) 311 [(0, ov_r (-4)), (1, ov_r 0), (2, ov_r 90), (3, ov_i x3)] [ov_i v2] z3 hg ov_LQ
  refine ov_blk (ls2 := [(0, ov_r (-4)), (1, ov_r 0), (2, ov_r 90), (3, ov_i x3)]) (st2 := [ov_r 90]) (pc2 := 313) b_313_311_2 rfl rfl ?_
  refine ov_cV (as := []) (st := []) (d2 := d - 1) d_313_313 lk_Law_24 rfl (Nat.le_of_ble_eq_true rfl) (c := 1) (zb_90 N1) (zs_90 N1) ⟨by decide, rfl⟩ (by omega) (c_Mo_town_90_t (h 2) (h 1 1) f0 hf (a6.trans s0.1.symm) (by omega) (by rw [a7]; exact s0.2.1) (d - 1) (by omega) U N1 (by omega) (by show 0 ≤ (hg 90 22) ∧ (hg 90 22) ≤ 2000000000; omega)) ?_
  rintro _ z16 h17 ⟨v8, rfl, ⟨I18, f7, e9, e10, e11, e12, e13, e14, y15⟩, xm⟩
  have E19 : h17 91 = hg 91 := e9
  have E20 : h17 95 = hg 95 := e10
  have E21 : h17 105 = hg 105 := e11
  have E22 : h17 106 = hg 106 := e12
  have E23 : h17 109 = hg 109 := e13
  have E24 : h17 114 = hg 114 := e14
  show ov_R u d (ov_mL nm) 316 [(0, ov_r (-4)), (1, ov_r 0), (2, ov_r 90), (3, ov_i x3)] [ov_i v8] z16 h17 ov_LQ
  have f25 : (h17 90 25) = (hg 90 25) ∧ (h17 90 26) = (hg 90 26) ∧ (h17 90 28) = (hg 90 28) ∧ (h17 90 29) = (hg 90 29) ∧ (h17 90 30) = (hg 90 30) ∧ (h17 90 34) = (hg 90 34) ∧ 0 ≤ v8 ∧ v8 ≤ 16005 ∧ (h17 90 2) = 0 := f7
  clear f7
  have y15_ : (ov_MK (hg 96) (hg 97) (hg 98) (h17 96) (h17 97) (h17 98) ∧ (h17 100) = (hg 100) ∧ (h17 103) = (hg 103) ∧ (h17 90 22) = (hg 90 22)) ∨ (ov_WT (h17 96) ∧ ov_CD (h17 96) (h17 97) (h17 98) ∧ (h17 100 0) = 0 ∧ (h17 90 22) = (hg 90 22) + 1) := y15
  have K2 : ov_LK (1 + (j + 1)) (4000 * (j + 1)) z16 h17 := ov_LK_rt K1 I18 y15_ E21 E22 (by omega) (by omega) (by omega)
  have b1 : h17 1 1 = hg 1 1 := congrFun (I18.2.2.2 1 (Or.inl (by decide))) 1
  have b7 : h17 (-77) 0 = hg (-77) 0 := congrFun (I18.2.2.2 (-77) (Or.inl (by decide))) 0
  have c2 : h17 2 = hg 2 := I18.2.2.2 2 (Or.inl (by decide))
  have bL : ∀ b : Int, 0 ≤ b → b < 90 → h17 b = hg b := fun b _ q => I18.2.2.2 b (Or.inl q)
  have er : v2 = v8 := by have q := xm.1; omega
  have S2 : ov_S3 h17 := ⟨by rw [c2, E19, a5, a6]; exact s0.1, by rw [E20, a7]; exact s0.2.1, ov_HT_tn s0.2.2.1 xc xm er aU bL a96, st_town s0.2.2.2 I5 xc xm er (fun a a0 a1 => (bL a a0 a1).trans (aU a a0)) aR (t96_5 I18).1⟩
  refine ov_blk (ls2 := [(0, ov_r (-4)), (1, ov_r 0), (2, ov_r 90), (3, ov_i x3)]) (st2 := []) (pc2 := 317) b_313_316_1 rfl rfl ?_
  refine ov_goto (tgt := 1462) d_313_317 (by decide) ?_
  exact BK _ _ K2 (by omega) (by omega) S2
set_option maxHeartbeats 4000000 in
theorem lw_case_2 {u : ov_U} {nm : String} {d : Nat} (hd : 1000 ≤ d) (U : ov_cap u) {L : Nat} {xs : Nat → Int32} (X : ov_SC u L xs) (hL : L ≤ 3584) (x3 j : Int) (z : ov_Z) (h : ov_H) (K : ov_LK (1 + j) (4000 * j) z h) (e0 : h 1 1 = h 90 2) (gb : h (-77) 0 = 1000 * (j + 1)) (s0 : ov_S3 h) (q : 0 ≤ j ∧ x3 = 7 * j ∧ x3 ≤ L - 7) (BK : ∀ (z5 : ov_Z) (h5 : ov_H), ov_LK (1 + (j + 1)) (4000 * (j + 1)) z5 h5 → h5 1 1 = h5 90 2 → h5 (-77) 0 = 1000 * (j + 2) → ov_S3 h5 → ov_R u d (ov_mL nm) 1462 [(0, ov_r (-4)), (1, ov_r 0), (2, ov_r 90), (3, ov_i x3)] [] z5 h5 ov_LQ) : ov_R u d (ov_mL nm) 320 [(0, ov_r (-4)), (1, ov_r 0), (2, ov_r 90), (3, ov_i x3)] [] z h ov_LQ := by
  have I := ov_LK_I (M := 4835702990228209266589684) K
  have hW := ov_LK_W (M := 4835702990228209266589684) K
  have hJ0 := K.2.2.1
  have s3 := s103_2 K.2.1
  have hb0 : ov_bd (h, z) = 1000 * (j + 1) := gb
  refine ov_blk (ls2 := [(0, ov_r (-4)), (1, ov_r 0), (2, ov_r 90), (3, ov_i x3)]) (st2 := [ov_r 0]) (pc2 := 321) b_313_320_1 rfl rfl ?_
  refine ov_cV (as := []) (st := []) (d2 := d - 1) d_313_321 lk_Law_25 rfl (Nat.le_of_ble_eq_true rfl) (c := 0) (zb_0 I) (zs_0 I) ⟨by decide, rfl⟩ (by omega) (c_OF_walk_0 (d - 1) (by omega) U I (ov_FF_w (by decide +kernel))) ?_
  rintro _ z3 h4 ⟨v2, rfl, I5, f1⟩
  show ov_R u d (ov_mL nm) 324 [(0, ov_r (-4)), (1, ov_r 0), (2, ov_r 90), (3, ov_i x3)] [ov_i v2] z3 h4 ov_LQ
  have f6 : (h4 1 1) = 0 ∧ (h4 36 7) = (h 36 7) ∧ (h4 90 2) = (h 90 2) ∧ (h4 0 10) = (h 0 10) ∧ (h4 0 11) = (h 0 11) ∧ (h4 36 8) = (h 36 8) ∧ (h4 46 3) = (h 46 3) ∧ (h4 46 4) = (h 46 4) ∧ (h4 49 4) = (h 49 4) ∧ (h4 49 5) = (h 49 5) ∧ (h4 64 0) = (h 64 0) ∧ (h4 76 0) = (h 76 0) := f1
  clear f1
  have K1 := ov_LK_c (B := (1000 * (j + 2))) K I5 (fun b h0 _ => ov_FF_ge (by omega)) (by omega) (ov_HR_k hW I5 (by omega) (by omega) (by omega) (by omega)) (by omega)
  refine ov_gho (ov_up h4 (-77) 0 (1000 * (j + 2))) (fun a ha => (ov_up77 ha).symm) ?_
  have a1 : (ov_up h4 (-77) 0 (1000 * (j + 2))) 1 1 = h4 1 1 := congrFun (ov_up77 (by decide)) 1
  have a2 : (ov_up h4 (-77) 0 (1000 * (j + 2))) 90 2 = h4 90 2 := congrFun (ov_up77 (by decide)) 2
  have a3 : (ov_up h4 (-77) 0 (1000 * (j + 2))) (-77) 0 = (1000 * (j + 2)) := ov_uj.1 rfl
  have a5 : (ov_up h4 (-77) 0 (1000 * (j + 2))) 2 = h 2 := (ov_up77 (by decide)).trans (ov_FF_k I5 (Or.inl (by decide)) (by decide +kernel))
  have a6 : (ov_up h4 (-77) 0 (1000 * (j + 2))) 91 = h 91 := (ov_up77 (by decide)).trans ((I5.2.1 91 (by decide) (by decide)).trans (ov_FF_ge (by decide)))
  have a7 : (ov_up h4 (-77) 0 (1000 * (j + 2))) 95 = h 95 := (ov_up77 (by decide)).trans ((I5.2.1 95 (by decide) (by decide)).trans (ov_FF_ge (by decide)))
  have a96 : (ov_up h4 (-77) 0 (1000 * (j + 2))) 96 = h 96 := (ov_up77 (by decide)).trans ((I5.2.1 96 (by decide) (by decide)).trans (ov_FF_ge (by decide)))
  have aU : ∀ b : Int, 0 ≤ b → (ov_up h4 (-77) 0 (1000 * (j + 2))) b = h4 b := fun b hb => ov_up77 hb
  have eT0 : h4 0 10 = h 0 10 := by omega
  have aR : ∀ b : Int, 90 ≤ b → b < 115 → (ov_up h4 (-77) 0 (1000 * (j + 2))) b = h b := fun b b0 b1 => (ov_up77 (by omega)).trans ((I5.2.1 b b0 b1).trans (ov_FF_ge (by omega)))
  have a20 : (ov_up h4 (-77) 0 (1000 * (j + 2))) 90 20 = h 90 20 := congrFun (aR 90 (by decide) (by decide)) 20
  have a4 : (ov_up h4 (-77) 0 (1000 * (j + 2))) 103 2 = h 103 2 := (congrFun (ov_up77 (by decide)) 2).trans (congrFun ((I5.2.1 103 (by decide) (by decide)).trans (ov_FF_ge (by decide))) 2)
  generalize (ov_up h4 (-77) 0 (1000 * (j + 2))) = hg at K1 a1 a2 a3 a4 a5 a6 a7 a96 aU aR a20 ⊢
  have N1 := K1.2.1
  have hWT := K1.2.2.2.2.1
  have hCD := K1.2.2.2.2.2.1
  have hWK := K1.2.2.2.2.2.2.1
  have hPM : ov_PM (hg 96) (hg 103) (hg 97) (hg 98) (hg 105) (hg 106) (hg 90 22) (hg 90 25) (hg 90 26) (hg 90 28) (hg 90 29) (hg 90 30) := K1.2.2.2.2.2.2.2.1
  have hq1 := K1.2.2.2.2.2.2.2.2.1
  have hq2 := K1.2.2.2.2.2.2.2.2.2
  have hbd : ov_bd (hg, z3) = (1000 * (j + 2)) := a3
  have g103 := s103_2 N1
  show ov_R u d (ov_mL nm) 324 [(0, ov_r (-4)), (1, ov_r 0), (2, ov_r 90), (3, ov_i x3)] [ov_i v2] z3 hg ov_LQ
  refine ov_blk (ls2 := [(0, ov_r (-4)), (1, ov_r 0), (2, ov_r 90), (3, ov_i x3)]) (st2 := [ov_r 90]) (pc2 := 326) b_313_324_2 rfl rfl ?_
  refine ov_cV (as := []) (st := []) (d2 := d - 1) d_313_326 lk_Law_28 rfl (Nat.le_of_ble_eq_true rfl) (c := 1) (zb_90 N1) (zs_90 N1) ⟨by decide, rfl⟩ (by omega) (c_Mo_walk_90 (d - 1) (by omega) U N1) ?_
  rintro _ z22 h23 ⟨v8, rfl, I24, f7, e9, e10, e11, e12, e13, e14, e15, e16, e17, e18, e19, e20, y21⟩
  have E25 : h23 91 = hg 91 := e9
  have E26 : h23 95 = hg 95 := e10
  have E27 : h23 96 = hg 96 := e11
  have E28 : h23 97 = hg 97 := e12
  have E29 : h23 98 = hg 98 := e13
  have E30 : h23 99 = hg 99 := e14
  have E31 : h23 103 = hg 103 := e15
  have E32 : h23 104 = hg 104 := e16
  have E33 : h23 105 = hg 105 := e17
  have E34 : h23 106 = hg 106 := e18
  have E35 : h23 109 = hg 109 := e19
  have E36 : h23 114 = hg 114 := e20
  show ov_R u d (ov_mL nm) 329 [(0, ov_r (-4)), (1, ov_r 0), (2, ov_r 90), (3, ov_i x3)] [ov_i v8] z22 h23 ov_LQ
  have f37 : (h23 90 13) = (hg 90 13) ∧ (h23 90 20) = (hg 90 20) ∧ (h23 90 22) = (hg 90 22) ∧ (h23 90 25) = (hg 90 25) ∧ (h23 90 26) = (hg 90 26) ∧ (h23 90 28) = (hg 90 28) ∧ (h23 90 29) = (hg 90 29) ∧ (h23 90 30) = (hg 90 30) ∧ (h23 90 34) = (hg 90 34) ∧ 0 ≤ v8 ∧ v8 ≤ 16005 ∧ (h23 90 2) = 0 := f7
  clear f7
  have y21_ : ov_WK (hg 100) → ov_WK (h23 100) := y21
  have K2 : ov_LK (1 + (j + 1)) (4000 * (j + 1)) z22 h23 := ov_LK_rw K1 I24 E27 E28 E29 y21_ E31 E33 E34 (by omega) (by omega) (by omega)
  have b1 : h23 1 1 = hg 1 1 := congrFun (I24.2.2.2 1 (Or.inl (by decide))) 1
  have b7 : h23 (-77) 0 = hg (-77) 0 := congrFun (I24.2.2.2 (-77) (Or.inl (by decide))) 0
  have c2 : h23 2 = hg 2 := I24.2.2.2 2 (Or.inl (by decide))
  have bL : ∀ b : Int, 0 ≤ b → b < 90 → h23 b = hg b := fun b _ q => I24.2.2.2 b (Or.inl q)
  have S2 : ov_S3 h23 := ⟨by rw [c2, E25, a5, a6]; exact s0.1, by rw [E26, a7]; exact s0.2.1, ov_HT_s s0.2.2.1 I5 (by decide +kernel) eT0 aU bL E27 a96, st_same s0.2.2.2 (fun a a0 a1 a2 => ((bL a (by omega) (by omega)).trans (aU a (by omega))).trans (ov_FF_k I5 (Or.inl (by omega)) ((by decide +kernel : ∀ n, n < 36 → (4 ≤ n ∧ (n < 14 ∨ 15 ≤ n)) → Nat.testBit 4835702990228209266589684 n = true) a.toNat (by omega) (by omega)))) (E31.trans (aR 103 (by decide) (by decide))) (fun m _ _ => congrFun (E32.trans (aR 104 (by decide) (by decide))) m) (congrFun (E27.trans (aR 96 (by decide) (by decide))) 5) (by omega)⟩
  refine ov_blk (ls2 := [(0, ov_r (-4)), (1, ov_r 0), (2, ov_r 90), (3, ov_i x3)]) (st2 := []) (pc2 := 330) b_313_329_1 rfl rfl ?_
  refine ov_goto (tgt := 1462) d_313_330 (by decide) ?_
  exact BK _ _ K2 (by omega) (by omega) S2
set_option maxHeartbeats 4000000 in
theorem lw_case_3 {u : ov_U} {nm : String} {d : Nat} (hd : 1000 ≤ d) (U : ov_cap u) {L : Nat} {xs : Nat → Int32} (X : ov_SC u L xs) (hL : L ≤ 3584) (x3 j : Int) (z : ov_Z) (h : ov_H) (K : ov_LK (1 + j) (4000 * j) z h) (e0 : h 1 1 = h 90 2) (gb : h (-77) 0 = 1000 * (j + 1)) (s0 : ov_S3 h) (q : 0 ≤ j ∧ x3 = 7 * j ∧ x3 ≤ L - 7) (BK : ∀ (z5 : ov_Z) (h5 : ov_H), ov_LK (1 + (j + 1)) (4000 * (j + 1)) z5 h5 → h5 1 1 = h5 90 2 → h5 (-77) 0 = 1000 * (j + 2) → ov_S3 h5 → ov_R u d (ov_mL nm) 1462 [(0, ov_r (-4)), (1, ov_r 0), (2, ov_r 90), (3, ov_i x3)] [] z5 h5 ov_LQ) : ov_R u d (ov_mL nm) 333 [(0, ov_r (-4)), (1, ov_r 0), (2, ov_r 90), (3, ov_i x3)] [] z h ov_LQ := by
  have I := ov_LK_I (M := 1237940038997149967466889215) K
  have hW := ov_LK_W (M := 1237940038997149967466889215) K
  have hJ0 := K.2.2.1
  have s3 := s103_2 K.2.1
  have hb0 : ov_bd (h, z) = 1000 * (j + 1) := gb
  refine ov_blk (ls2 := [(0, ov_r (-4)), (1, ov_r 0), (2, ov_r 90), (3, ov_i x3)]) (st2 := [ov_i (x3 + 1), ov_r (-4), ov_r 0]) (pc2 := 338) b_313_333_5 rfl rfl ?_
  refine ov_scl X d_313_338 (by omega) ?_
  have g1 := ov_xs_g xs (x3 + 1)
  refine ov_blk (ls2 := [(0, ov_r (-4)), (1, ov_r 0), (2, ov_r 90), (3, ov_i x3)]) (st2 := [ov_i (x3 + 2), ov_r (-4), ov_i (ov_xs xs (x3 + 1)), ov_r 0]) (pc2 := 343) b_313_339_4 rfl rfl ?_
  refine ov_scl X d_313_343 (by omega) ?_
  have g2 := ov_xs_g xs (x3 + 2)
  refine ov_blk (ls2 := [(0, ov_r (-4)), (1, ov_r 0), (2, ov_r 90), (3, ov_i x3)]) (st2 := [ov_i (x3 + 3), ov_r (-4), ov_i (ov_xs xs (x3 + 2)), ov_i (ov_xs xs (x3 + 1)), ov_r 0]) (pc2 := 348) b_313_344_4 rfl rfl ?_
  refine ov_scl X d_313_348 (by omega) ?_
  have g3 := ov_xs_g xs (x3 + 3)
  refine ov_cV (as := [ov_i (ov_xs xs (x3 + 1)), ov_i (ov_xs xs (x3 + 2)), ov_i (ov_xs xs (x3 + 3))]) (st := []) (d2 := d - 1) d_313_349 lk_Law_29 rfl (Nat.le_of_ble_eq_true rfl) (c := 0) (zb_0 I) (zs_0 I) ⟨by decide, rfl⟩ (by omega) (c_OF_light_0 (d - 1) (by omega) U I (ov_xs xs (x3 + 1)) (ov_xs xs (x3 + 2)) (ov_xs xs (x3 + 3)) (by omega) (by omega) (by omega)) ?_
  rintro _ _ _ ⟨v5, rfl, rfl, rfl, f4⟩
  show ov_R u d (ov_mL nm) 352 [(0, ov_r (-4)), (1, ov_r 0), (2, ov_r 90), (3, ov_i x3)] [ov_i v5] z h ov_LQ
  clear f4
  have K1 := ov_LK_c (B := (1000 * (j + 2))) K I (fun b h0 _ => ov_FF_ge (by omega)) (by omega) K.2.2.2.1 (by omega)
  refine ov_gho (ov_up h (-77) 0 (1000 * (j + 2))) (fun a ha => (ov_up77 ha).symm) ?_
  have a1 : (ov_up h (-77) 0 (1000 * (j + 2))) 1 1 = h 1 1 := congrFun (ov_up77 (by decide)) 1
  have a2 : (ov_up h (-77) 0 (1000 * (j + 2))) 90 2 = h 90 2 := congrFun (ov_up77 (by decide)) 2
  have a3 : (ov_up h (-77) 0 (1000 * (j + 2))) (-77) 0 = (1000 * (j + 2)) := ov_uj.1 rfl
  have a5 : (ov_up h (-77) 0 (1000 * (j + 2))) 2 = h 2 := (ov_up77 (by decide)).trans (ov_FF_k I (Or.inl (by decide)) (by decide +kernel))
  have a6 : (ov_up h (-77) 0 (1000 * (j + 2))) 91 = h 91 := (ov_up77 (by decide)).trans ((I.2.1 91 (by decide) (by decide)).trans (ov_FF_ge (by decide)))
  have a7 : (ov_up h (-77) 0 (1000 * (j + 2))) 95 = h 95 := (ov_up77 (by decide)).trans ((I.2.1 95 (by decide) (by decide)).trans (ov_FF_ge (by decide)))
  have a96 : (ov_up h (-77) 0 (1000 * (j + 2))) 96 = h 96 := (ov_up77 (by decide)).trans ((I.2.1 96 (by decide) (by decide)).trans (ov_FF_ge (by decide)))
  have aU : ∀ b : Int, 0 ≤ b → (ov_up h (-77) 0 (1000 * (j + 2))) b = h b := fun b hb => ov_up77 hb
  have eT0 : h 0 10 = h 0 10 := by omega
  have aR : ∀ b : Int, 90 ≤ b → b < 115 → (ov_up h (-77) 0 (1000 * (j + 2))) b = h b := fun b b0 b1 => (ov_up77 (by omega)).trans ((I.2.1 b b0 b1).trans (ov_FF_ge (by omega)))
  have a20 : (ov_up h (-77) 0 (1000 * (j + 2))) 90 20 = h 90 20 := congrFun (aR 90 (by decide) (by decide)) 20
  have a4 : (ov_up h (-77) 0 (1000 * (j + 2))) 103 2 = h 103 2 := (congrFun (ov_up77 (by decide)) 2).trans (congrFun ((I.2.1 103 (by decide) (by decide)).trans (ov_FF_ge (by decide))) 2)
  generalize (ov_up h (-77) 0 (1000 * (j + 2))) = hg at K1 a1 a2 a3 a4 a5 a6 a7 a96 aU aR a20 ⊢
  have N1 := K1.2.1
  have hWT := K1.2.2.2.2.1
  have hCD := K1.2.2.2.2.2.1
  have hWK := K1.2.2.2.2.2.2.1
  have hPM : ov_PM (hg 96) (hg 103) (hg 97) (hg 98) (hg 105) (hg 106) (hg 90 22) (hg 90 25) (hg 90 26) (hg 90 28) (hg 90 29) (hg 90 30) := K1.2.2.2.2.2.2.2.1
  have hq1 := K1.2.2.2.2.2.2.2.2.1
  have hq2 := K1.2.2.2.2.2.2.2.2.2
  have hbd : ov_bd (hg, z) = (1000 * (j + 2)) := a3
  have g103 := s103_2 N1
  show ov_R u d (ov_mL nm) 352 [(0, ov_r (-4)), (1, ov_r 0), (2, ov_r 90), (3, ov_i x3)] [ov_i v5] z hg ov_LQ
  refine ov_blk (ls2 := [(0, ov_r (-4)), (1, ov_r 0), (2, ov_r 90), (3, ov_i x3)]) (st2 := [ov_i (x3 + 1), ov_r (-4), ov_r 90]) (pc2 := 358) b_313_352_6 rfl rfl ?_
  refine ov_scl X d_313_358 (by omega) ?_
  refine ov_blk (ls2 := [(0, ov_r (-4)), (1, ov_r 0), (2, ov_r 90), (3, ov_i x3)]) (st2 := [ov_i (x3 + 2), ov_r (-4), ov_i (ov_xs xs (x3 + 1)), ov_r 90]) (pc2 := 363) b_313_359_4 rfl rfl ?_
  refine ov_scl X d_313_363 (by omega) ?_
  refine ov_blk (ls2 := [(0, ov_r (-4)), (1, ov_r 0), (2, ov_r 90), (3, ov_i x3)]) (st2 := [ov_i (x3 + 3), ov_r (-4), ov_i (ov_xs xs (x3 + 2)), ov_i (ov_xs xs (x3 + 1)), ov_r 90]) (pc2 := 368) b_313_364_4 rfl rfl ?_
  refine ov_scl X d_313_368 (by omega) ?_
  refine ov_cV (as := [ov_i (ov_xs xs (x3 + 1)), ov_i (ov_xs xs (x3 + 2)), ov_i (ov_xs xs (x3 + 3))]) (st := []) (d2 := d - 1) d_313_369 lk_Law_33 rfl (Nat.le_of_ble_eq_true rfl) (c := 1) (zb_90 N1) (zs_90 N1) ⟨by decide, rfl⟩ (by omega) (c_Mo_light_90 (d - 1) (by omega) U N1 (ov_xs xs (x3 + 1)) (ov_xs xs (x3 + 2)) (ov_xs xs (x3 + 3)) (by omega) (by omega) (by omega)) ?_
  rintro _ z27 h28 ⟨v10, rfl, I29, f9, e11, e12, e13, e14, e15, e16, e17, e18, e19, e20, e21, e22, e23, e24, e25, e26⟩
  have E30 : h28 91 = hg 91 := e11
  have E31 : h28 92 = hg 92 := e12
  have E32 : h28 93 = hg 93 := e13
  have E33 : h28 94 = hg 94 := e14
  have E34 : h28 95 = hg 95 := e15
  have E35 : h28 96 = hg 96 := e16
  have E36 : h28 97 = hg 97 := e17
  have E37 : h28 98 = hg 98 := e18
  have E38 : h28 99 = hg 99 := e19
  have E39 : h28 100 = hg 100 := e20
  have E40 : h28 103 = hg 103 := e21
  have E41 : h28 104 = hg 104 := e22
  have E42 : h28 105 = hg 105 := e23
  have E43 : h28 106 = hg 106 := e24
  have E44 : h28 109 = hg 109 := e25
  have E45 : h28 114 = hg 114 := e26
  show ov_R u d (ov_mL nm) 372 [(0, ov_r (-4)), (1, ov_r 0), (2, ov_r 90), (3, ov_i x3)] [ov_i v10] z27 h28 ov_LQ
  have f46 : (h28 90 2) = (hg 90 2) ∧ (h28 90 7) = (hg 90 7) ∧ (h28 90 8) = (hg 90 8) ∧ (h28 90 13) = (hg 90 13) ∧ (h28 90 20) = (hg 90 20) ∧ (h28 90 22) = (hg 90 22) ∧ (h28 90 25) = (hg 90 25) ∧ (h28 90 26) = (hg 90 26) ∧ (h28 90 28) = (hg 90 28) ∧ (h28 90 29) = (hg 90 29) ∧ (h28 90 30) = (hg 90 30) ∧ (h28 90 34) = (hg 90 34) ∧ -2147483648 ≤ v10 ∧ v10 ≤ 2147483647 := f9
  clear f9
  have K2 : ov_LK (1 + (j + 1)) (4000 * (j + 1)) z27 h28 := ov_LK_r0 K1 I29 E35 E36 E37 E39 E40 E42 E43 (by omega) (by omega) (by omega)
  have b1 : h28 1 1 = hg 1 1 := congrFun (I29.2.2.2 1 (Or.inl (by decide))) 1
  have b7 : h28 (-77) 0 = hg (-77) 0 := congrFun (I29.2.2.2 (-77) (Or.inl (by decide))) 0
  have c2 : h28 2 = hg 2 := I29.2.2.2 2 (Or.inl (by decide))
  have bL : ∀ b : Int, 0 ≤ b → b < 90 → h28 b = hg b := fun b _ q => I29.2.2.2 b (Or.inl q)
  have S2 : ov_S3 h28 := ⟨by rw [c2, E30, a5, a6]; exact s0.1, by rw [E34, a7]; exact s0.2.1, ov_HT_s s0.2.2.1 I (by decide +kernel) eT0 aU bL E35 a96, st_same s0.2.2.2 (fun a a0 a1 a2 => ((bL a (by omega) (by omega)).trans (aU a (by omega))).trans (ov_FF_k I (Or.inl (by omega)) ((by decide +kernel : ∀ n, n < 36 → (4 ≤ n ∧ (n < 14 ∨ 15 ≤ n)) → Nat.testBit 1237940038997149967466889215 n = true) a.toNat (by omega) (by omega)))) (E40.trans (aR 103 (by decide) (by decide))) (fun m _ _ => congrFun (E41.trans (aR 104 (by decide) (by decide))) m) (congrFun (E35.trans (aR 96 (by decide) (by decide))) 5) (by omega)⟩
  refine ov_blk (ls2 := [(0, ov_r (-4)), (1, ov_r 0), (2, ov_r 90), (3, ov_i x3)]) (st2 := []) (pc2 := 373) b_313_372_1 rfl rfl ?_
  refine ov_goto (tgt := 1462) d_313_373 (by decide) ?_
  exact BK _ _ K2 (by omega) (by omega) S2
set_option maxHeartbeats 4000000 in
theorem lw_case_4 {u : ov_U} {nm : String} {d : Nat} (hd : 1000 ≤ d) (U : ov_cap u) {L : Nat} {xs : Nat → Int32} (X : ov_SC u L xs) (hL : L ≤ 3584) (x3 j : Int) (z : ov_Z) (h : ov_H) (K : ov_LK (1 + j) (4000 * j) z h) (e0 : h 1 1 = h 90 2) (gb : h (-77) 0 = 1000 * (j + 1)) (s0 : ov_S3 h) (q : 0 ≤ j ∧ x3 = 7 * j ∧ x3 ≤ L - 7) (BK : ∀ (z5 : ov_Z) (h5 : ov_H), ov_LK (1 + (j + 1)) (4000 * (j + 1)) z5 h5 → h5 1 1 = h5 90 2 → h5 (-77) 0 = 1000 * (j + 2) → ov_S3 h5 → ov_R u d (ov_mL nm) 1462 [(0, ov_r (-4)), (1, ov_r 0), (2, ov_r 90), (3, ov_i x3)] [] z5 h5 ov_LQ) : ov_R u d (ov_mL nm) 376 [(0, ov_r (-4)), (1, ov_r 0), (2, ov_r 90), (3, ov_i x3)] [] z h ov_LQ := by
  have I := ov_LK_I (M := 1237940038997149967466889215) K
  have hW := ov_LK_W (M := 1237940038997149967466889215) K
  have hJ0 := K.2.2.1
  have s3 := s103_2 K.2.1
  have hb0 : ov_bd (h, z) = 1000 * (j + 1) := gb
  refine ov_blk (ls2 := [(0, ov_r (-4)), (1, ov_r 0), (2, ov_r 90), (3, ov_i x3)]) (st2 := [ov_i (x3 + 1), ov_r (-4), ov_r 0]) (pc2 := 381) b_313_376_5 rfl rfl ?_
  refine ov_scl X d_313_381 (by omega) ?_
  have g1 := ov_xs_g xs (x3 + 1)
  refine ov_blk (ls2 := [(0, ov_r (-4)), (1, ov_r 0), (2, ov_r 90), (3, ov_i x3)]) (st2 := [ov_i (x3 + 2), ov_r (-4), ov_i (ov_xs xs (x3 + 1)), ov_r 0]) (pc2 := 386) b_313_382_4 rfl rfl ?_
  refine ov_scl X d_313_386 (by omega) ?_
  have g2 := ov_xs_g xs (x3 + 2)
  refine ov_blk (ls2 := [(0, ov_r (-4)), (1, ov_r 0), (2, ov_r 90), (3, ov_i x3)]) (st2 := [ov_i (x3 + 3), ov_r (-4), ov_i (ov_xs xs (x3 + 2)), ov_i (ov_xs xs (x3 + 1)), ov_r 0]) (pc2 := 391) b_313_387_4 rfl rfl ?_
  refine ov_scl X d_313_391 (by omega) ?_
  have g3 := ov_xs_g xs (x3 + 3)
  refine ov_blk (ls2 := [(0, ov_r (-4)), (1, ov_r 0), (2, ov_r 90), (3, ov_i x3)]) (st2 := [ov_i (x3 + 4), ov_r (-4), ov_i (ov_xs xs (x3 + 3)), ov_i (ov_xs xs (x3 + 2)), ov_i (ov_xs xs (x3 + 1)), ov_r 0]) (pc2 := 396) b_313_392_4 rfl rfl ?_
  refine ov_scl X d_313_396 (by omega) ?_
  have g4 := ov_xs_g xs (x3 + 4)
  refine ov_cV (as := [ov_i (ov_xs xs (x3 + 1)), ov_i (ov_xs xs (x3 + 2)), ov_i (ov_xs xs (x3 + 3)), ov_i (ov_xs xs (x3 + 4))]) (st := []) (d2 := d - 1) d_313_397 lk_Law_34 rfl (Nat.le_of_ble_eq_true rfl) (c := 0) (zb_0 I) (zs_0 I) ⟨by decide, rfl⟩ (by omega) (c_OF_green_0 (d - 1) (by omega) U I (ov_xs xs (x3 + 1)) (ov_xs xs (x3 + 2)) (ov_xs xs (x3 + 3)) (ov_xs xs (x3 + 4)) (by omega) (by omega) (by omega) (by omega)) ?_
  rintro _ _ _ ⟨v6, rfl, rfl, rfl, f5⟩
  show ov_R u d (ov_mL nm) 400 [(0, ov_r (-4)), (1, ov_r 0), (2, ov_r 90), (3, ov_i x3)] [ov_i v6] z h ov_LQ
  clear f5
  have K1 := ov_LK_c (B := (1000 * (j + 2))) K I (fun b h0 _ => ov_FF_ge (by omega)) (by omega) K.2.2.2.1 (by omega)
  refine ov_gho (ov_up h (-77) 0 (1000 * (j + 2))) (fun a ha => (ov_up77 ha).symm) ?_
  have a1 : (ov_up h (-77) 0 (1000 * (j + 2))) 1 1 = h 1 1 := congrFun (ov_up77 (by decide)) 1
  have a2 : (ov_up h (-77) 0 (1000 * (j + 2))) 90 2 = h 90 2 := congrFun (ov_up77 (by decide)) 2
  have a3 : (ov_up h (-77) 0 (1000 * (j + 2))) (-77) 0 = (1000 * (j + 2)) := ov_uj.1 rfl
  have a5 : (ov_up h (-77) 0 (1000 * (j + 2))) 2 = h 2 := (ov_up77 (by decide)).trans (ov_FF_k I (Or.inl (by decide)) (by decide +kernel))
  have a6 : (ov_up h (-77) 0 (1000 * (j + 2))) 91 = h 91 := (ov_up77 (by decide)).trans ((I.2.1 91 (by decide) (by decide)).trans (ov_FF_ge (by decide)))
  have a7 : (ov_up h (-77) 0 (1000 * (j + 2))) 95 = h 95 := (ov_up77 (by decide)).trans ((I.2.1 95 (by decide) (by decide)).trans (ov_FF_ge (by decide)))
  have a96 : (ov_up h (-77) 0 (1000 * (j + 2))) 96 = h 96 := (ov_up77 (by decide)).trans ((I.2.1 96 (by decide) (by decide)).trans (ov_FF_ge (by decide)))
  have aU : ∀ b : Int, 0 ≤ b → (ov_up h (-77) 0 (1000 * (j + 2))) b = h b := fun b hb => ov_up77 hb
  have eT0 : h 0 10 = h 0 10 := by omega
  have aR : ∀ b : Int, 90 ≤ b → b < 115 → (ov_up h (-77) 0 (1000 * (j + 2))) b = h b := fun b b0 b1 => (ov_up77 (by omega)).trans ((I.2.1 b b0 b1).trans (ov_FF_ge (by omega)))
  have a20 : (ov_up h (-77) 0 (1000 * (j + 2))) 90 20 = h 90 20 := congrFun (aR 90 (by decide) (by decide)) 20
  have a4 : (ov_up h (-77) 0 (1000 * (j + 2))) 103 2 = h 103 2 := (congrFun (ov_up77 (by decide)) 2).trans (congrFun ((I.2.1 103 (by decide) (by decide)).trans (ov_FF_ge (by decide))) 2)
  generalize (ov_up h (-77) 0 (1000 * (j + 2))) = hg at K1 a1 a2 a3 a4 a5 a6 a7 a96 aU aR a20 ⊢
  have N1 := K1.2.1
  have hWT := K1.2.2.2.2.1
  have hCD := K1.2.2.2.2.2.1
  have hWK := K1.2.2.2.2.2.2.1
  have hPM : ov_PM (hg 96) (hg 103) (hg 97) (hg 98) (hg 105) (hg 106) (hg 90 22) (hg 90 25) (hg 90 26) (hg 90 28) (hg 90 29) (hg 90 30) := K1.2.2.2.2.2.2.2.1
  have hq1 := K1.2.2.2.2.2.2.2.2.1
  have hq2 := K1.2.2.2.2.2.2.2.2.2
  have hbd : ov_bd (hg, z) = (1000 * (j + 2)) := a3
  have g103 := s103_2 N1
  show ov_R u d (ov_mL nm) 400 [(0, ov_r (-4)), (1, ov_r 0), (2, ov_r 90), (3, ov_i x3)] [ov_i v6] z hg ov_LQ
  refine ov_blk (ls2 := [(0, ov_r (-4)), (1, ov_r 0), (2, ov_r 90), (3, ov_i x3)]) (st2 := [ov_i (x3 + 1), ov_r (-4), ov_r 90]) (pc2 := 406) b_313_400_6 rfl rfl ?_
  refine ov_scl X d_313_406 (by omega) ?_
  refine ov_blk (ls2 := [(0, ov_r (-4)), (1, ov_r 0), (2, ov_r 90), (3, ov_i x3)]) (st2 := [ov_i (x3 + 2), ov_r (-4), ov_i (ov_xs xs (x3 + 1)), ov_r 90]) (pc2 := 411) b_313_407_4 rfl rfl ?_
  refine ov_scl X d_313_411 (by omega) ?_
  refine ov_blk (ls2 := [(0, ov_r (-4)), (1, ov_r 0), (2, ov_r 90), (3, ov_i x3)]) (st2 := [ov_i (x3 + 3), ov_r (-4), ov_i (ov_xs xs (x3 + 2)), ov_i (ov_xs xs (x3 + 1)), ov_r 90]) (pc2 := 416) b_313_412_4 rfl rfl ?_
  refine ov_scl X d_313_416 (by omega) ?_
  refine ov_blk (ls2 := [(0, ov_r (-4)), (1, ov_r 0), (2, ov_r 90), (3, ov_i x3)]) (st2 := [ov_i (x3 + 4), ov_r (-4), ov_i (ov_xs xs (x3 + 3)), ov_i (ov_xs xs (x3 + 2)), ov_i (ov_xs xs (x3 + 1)), ov_r 90]) (pc2 := 421) b_313_417_4 rfl rfl ?_
  refine ov_scl X d_313_421 (by omega) ?_
  refine ov_cV (as := [ov_i (ov_xs xs (x3 + 1)), ov_i (ov_xs xs (x3 + 2)), ov_i (ov_xs xs (x3 + 3)), ov_i (ov_xs xs (x3 + 4))]) (st := []) (d2 := d - 1) d_313_422 lk_Law_38 rfl (Nat.le_of_ble_eq_true rfl) (c := 1) (zb_90 N1) (zs_90 N1) ⟨by decide, rfl⟩ (by omega) (c_Mo_green_90_t (d - 1) (by omega) U N1 (ov_xs xs (x3 + 1)) (ov_xs xs (x3 + 2)) (ov_xs xs (x3 + 3)) (ov_xs xs (x3 + 4)) (by omega) (by omega) (by omega) (by omega) hWT) ?_
  rintro _ z29 h30 ⟨v12, rfl, I31, f11, e13, e14, e15, e16, e17, e18, e19, e20, e21, e22, e23, e24, e25, e26, e27, e28⟩
  have E32 : h30 91 = hg 91 := e13
  have E33 : h30 92 = hg 92 := e14
  have E34 : h30 93 = hg 93 := e15
  have E35 : h30 94 = hg 94 := e16
  have E36 : h30 95 = hg 95 := e17
  have E37 : h30 96 = hg 96 := e18
  have E38 : h30 97 = hg 97 := e19
  have E39 : h30 98 = hg 98 := e20
  have E40 : h30 99 = hg 99 := e21
  have E41 : h30 100 = hg 100 := e22
  have E42 : h30 103 = hg 103 := e23
  have E43 : h30 104 = hg 104 := e24
  have E44 : h30 105 = hg 105 := e25
  have E45 : h30 106 = hg 106 := e26
  have E46 : h30 109 = hg 109 := e27
  have E47 : h30 114 = hg 114 := e28
  show ov_R u d (ov_mL nm) 425 [(0, ov_r (-4)), (1, ov_r 0), (2, ov_r 90), (3, ov_i x3)] [ov_i v12] z29 h30 ov_LQ
  have f48 : (h30 90 2) = (hg 90 2) ∧ (h30 90 7) = (hg 90 7) ∧ (h30 90 8) = (hg 90 8) ∧ (h30 90 13) = (hg 90 13) ∧ (h30 90 20) = (hg 90 20) ∧ (h30 90 22) = (hg 90 22) ∧ (h30 90 25) = (hg 90 25) ∧ (h30 90 26) = (hg 90 26) ∧ (h30 90 28) = (hg 90 28) ∧ (h30 90 29) = (hg 90 29) ∧ (h30 90 30) = (hg 90 30) ∧ (h30 90 34) = (hg 90 34) ∧ -2147483648 ≤ v12 ∧ v12 ≤ 2147483647 ∧ v12 = ov_grm (hg 96) (ov_xs xs (x3 + 1)) (ov_xs xs (x3 + 2)) (ov_xs xs (x3 + 3)) (ov_xs xs (x3 + 4)) := f11
  clear f11
  have K2 : ov_LK (1 + (j + 1)) (4000 * (j + 1)) z29 h30 := ov_LK_r0 K1 I31 E37 E38 E39 E41 E42 E44 E45 (by omega) (by omega) (by omega)
  have b1 : h30 1 1 = hg 1 1 := congrFun (I31.2.2.2 1 (Or.inl (by decide))) 1
  have b7 : h30 (-77) 0 = hg (-77) 0 := congrFun (I31.2.2.2 (-77) (Or.inl (by decide))) 0
  have c2 : h30 2 = hg 2 := I31.2.2.2 2 (Or.inl (by decide))
  have bL : ∀ b : Int, 0 ≤ b → b < 90 → h30 b = hg b := fun b _ q => I31.2.2.2 b (Or.inl q)
  have S2 : ov_S3 h30 := ⟨by rw [c2, E32, a5, a6]; exact s0.1, by rw [E36, a7]; exact s0.2.1, ov_HT_s s0.2.2.1 I (by decide +kernel) eT0 aU bL E37 a96, st_same s0.2.2.2 (fun a a0 a1 a2 => ((bL a (by omega) (by omega)).trans (aU a (by omega))).trans (ov_FF_k I (Or.inl (by omega)) ((by decide +kernel : ∀ n, n < 36 → (4 ≤ n ∧ (n < 14 ∨ 15 ≤ n)) → Nat.testBit 1237940038997149967466889215 n = true) a.toNat (by omega) (by omega)))) (E42.trans (aR 103 (by decide) (by decide))) (fun m _ _ => congrFun (E43.trans (aR 104 (by decide) (by decide))) m) (congrFun (E37.trans (aR 96 (by decide) (by decide))) 5) (by omega)⟩
  refine ov_blk (ls2 := [(0, ov_r (-4)), (1, ov_r 0), (2, ov_r 90), (3, ov_i x3)]) (st2 := []) (pc2 := 426) b_313_425_1 rfl rfl ?_
  refine ov_goto (tgt := 1462) d_313_426 (by decide) ?_
  exact BK _ _ K2 (by omega) (by omega) S2
set_option maxHeartbeats 4000000 in
theorem lw_case_5 {u : ov_U} {nm : String} {d : Nat} (hd : 1000 ≤ d) (U : ov_cap u) {L : Nat} {xs : Nat → Int32} (X : ov_SC u L xs) (hL : L ≤ 3584) (x3 j : Int) (z : ov_Z) (h : ov_H) (K : ov_LK (1 + j) (4000 * j) z h) (e0 : h 1 1 = h 90 2) (gb : h (-77) 0 = 1000 * (j + 1)) (s0 : ov_S3 h) (q : 0 ≤ j ∧ x3 = 7 * j ∧ x3 ≤ L - 7) (BK : ∀ (z5 : ov_Z) (h5 : ov_H), ov_LK (1 + (j + 1)) (4000 * (j + 1)) z5 h5 → h5 1 1 = h5 90 2 → h5 (-77) 0 = 1000 * (j + 2) → ov_S3 h5 → ov_R u d (ov_mL nm) 1462 [(0, ov_r (-4)), (1, ov_r 0), (2, ov_r 90), (3, ov_i x3)] [] z5 h5 ov_LQ) : ov_R u d (ov_mL nm) 429 [(0, ov_r (-4)), (1, ov_r 0), (2, ov_r 90), (3, ov_i x3)] [] z h ov_LQ := by
  have I := ov_LK_I (M := 1237940038997149967466889215) K
  have hW := ov_LK_W (M := 1237940038997149967466889215) K
  have hJ0 := K.2.2.1
  have s3 := s103_2 K.2.1
  have hb0 : ov_bd (h, z) = 1000 * (j + 1) := gb
  refine ov_blk (ls2 := [(0, ov_r (-4)), (1, ov_r 0), (2, ov_r 90), (3, ov_i x3)]) (st2 := [ov_i (x3 + 1), ov_r (-4), ov_r 0]) (pc2 := 434) b_313_429_5 rfl rfl ?_
  refine ov_scl X d_313_434 (by omega) ?_
  have g1 := ov_xs_g xs (x3 + 1)
  refine ov_blk (ls2 := [(0, ov_r (-4)), (1, ov_r 0), (2, ov_r 90), (3, ov_i x3)]) (st2 := [ov_i (x3 + 2), ov_r (-4), ov_i (ov_xs xs (x3 + 1)), ov_r 0]) (pc2 := 439) b_313_435_4 rfl rfl ?_
  refine ov_scl X d_313_439 (by omega) ?_
  have g2 := ov_xs_g xs (x3 + 2)
  refine ov_blk (ls2 := [(0, ov_r (-4)), (1, ov_r 0), (2, ov_r 90), (3, ov_i x3)]) (st2 := [ov_i (x3 + 3), ov_r (-4), ov_i (ov_xs xs (x3 + 2)), ov_i (ov_xs xs (x3 + 1)), ov_r 0]) (pc2 := 444) b_313_440_4 rfl rfl ?_
  refine ov_scl X d_313_444 (by omega) ?_
  have g3 := ov_xs_g xs (x3 + 3)
  refine ov_blk (ls2 := [(0, ov_r (-4)), (1, ov_r 0), (2, ov_r 90), (3, ov_i x3)]) (st2 := [ov_i (x3 + 4), ov_r (-4), ov_i (ov_xs xs (x3 + 3)), ov_i (ov_xs xs (x3 + 2)), ov_i (ov_xs xs (x3 + 1)), ov_r 0]) (pc2 := 449) b_313_445_4 rfl rfl ?_
  refine ov_scl X d_313_449 (by omega) ?_
  have g4 := ov_xs_g xs (x3 + 4)
  refine ov_cV (as := [ov_i (ov_xs xs (x3 + 1)), ov_i (ov_xs xs (x3 + 2)), ov_i (ov_xs xs (x3 + 3)), ov_i (ov_xs xs (x3 + 4))]) (st := []) (d2 := d - 1) d_313_450 lk_Law_39 rfl (Nat.le_of_ble_eq_true rfl) (c := 0) (zb_0 I) (zs_0 I) ⟨by decide, rfl⟩ (by omega) (c_OF_until_0 (d - 1) (by omega) U I (ov_xs xs (x3 + 1)) (ov_xs xs (x3 + 2)) (ov_xs xs (x3 + 3)) (ov_xs xs (x3 + 4)) (by omega) (by omega) (by omega) (by omega)) ?_
  rintro _ _ _ ⟨v6, rfl, rfl, rfl, f5⟩
  show ov_R u d (ov_mL nm) 453 [(0, ov_r (-4)), (1, ov_r 0), (2, ov_r 90), (3, ov_i x3)] [ov_i v6] z h ov_LQ
  clear f5
  have K1 := ov_LK_c (B := (1000 * (j + 2))) K I (fun b h0 _ => ov_FF_ge (by omega)) (by omega) K.2.2.2.1 (by omega)
  refine ov_gho (ov_up h (-77) 0 (1000 * (j + 2))) (fun a ha => (ov_up77 ha).symm) ?_
  have a1 : (ov_up h (-77) 0 (1000 * (j + 2))) 1 1 = h 1 1 := congrFun (ov_up77 (by decide)) 1
  have a2 : (ov_up h (-77) 0 (1000 * (j + 2))) 90 2 = h 90 2 := congrFun (ov_up77 (by decide)) 2
  have a3 : (ov_up h (-77) 0 (1000 * (j + 2))) (-77) 0 = (1000 * (j + 2)) := ov_uj.1 rfl
  have a5 : (ov_up h (-77) 0 (1000 * (j + 2))) 2 = h 2 := (ov_up77 (by decide)).trans (ov_FF_k I (Or.inl (by decide)) (by decide +kernel))
  have a6 : (ov_up h (-77) 0 (1000 * (j + 2))) 91 = h 91 := (ov_up77 (by decide)).trans ((I.2.1 91 (by decide) (by decide)).trans (ov_FF_ge (by decide)))
  have a7 : (ov_up h (-77) 0 (1000 * (j + 2))) 95 = h 95 := (ov_up77 (by decide)).trans ((I.2.1 95 (by decide) (by decide)).trans (ov_FF_ge (by decide)))
  have a96 : (ov_up h (-77) 0 (1000 * (j + 2))) 96 = h 96 := (ov_up77 (by decide)).trans ((I.2.1 96 (by decide) (by decide)).trans (ov_FF_ge (by decide)))
  have aU : ∀ b : Int, 0 ≤ b → (ov_up h (-77) 0 (1000 * (j + 2))) b = h b := fun b hb => ov_up77 hb
  have eT0 : h 0 10 = h 0 10 := by omega
  have aR : ∀ b : Int, 90 ≤ b → b < 115 → (ov_up h (-77) 0 (1000 * (j + 2))) b = h b := fun b b0 b1 => (ov_up77 (by omega)).trans ((I.2.1 b b0 b1).trans (ov_FF_ge (by omega)))
  have a20 : (ov_up h (-77) 0 (1000 * (j + 2))) 90 20 = h 90 20 := congrFun (aR 90 (by decide) (by decide)) 20
  have a4 : (ov_up h (-77) 0 (1000 * (j + 2))) 103 2 = h 103 2 := (congrFun (ov_up77 (by decide)) 2).trans (congrFun ((I.2.1 103 (by decide) (by decide)).trans (ov_FF_ge (by decide))) 2)
  generalize (ov_up h (-77) 0 (1000 * (j + 2))) = hg at K1 a1 a2 a3 a4 a5 a6 a7 a96 aU aR a20 ⊢
  have N1 := K1.2.1
  have hWT := K1.2.2.2.2.1
  have hCD := K1.2.2.2.2.2.1
  have hWK := K1.2.2.2.2.2.2.1
  have hPM : ov_PM (hg 96) (hg 103) (hg 97) (hg 98) (hg 105) (hg 106) (hg 90 22) (hg 90 25) (hg 90 26) (hg 90 28) (hg 90 29) (hg 90 30) := K1.2.2.2.2.2.2.2.1
  have hq1 := K1.2.2.2.2.2.2.2.2.1
  have hq2 := K1.2.2.2.2.2.2.2.2.2
  have hbd : ov_bd (hg, z) = (1000 * (j + 2)) := a3
  have g103 := s103_2 N1
  show ov_R u d (ov_mL nm) 453 [(0, ov_r (-4)), (1, ov_r 0), (2, ov_r 90), (3, ov_i x3)] [ov_i v6] z hg ov_LQ
  refine ov_blk (ls2 := [(0, ov_r (-4)), (1, ov_r 0), (2, ov_r 90), (3, ov_i x3)]) (st2 := [ov_i (x3 + 1), ov_r (-4), ov_r 90]) (pc2 := 459) b_313_453_6 rfl rfl ?_
  refine ov_scl X d_313_459 (by omega) ?_
  refine ov_blk (ls2 := [(0, ov_r (-4)), (1, ov_r 0), (2, ov_r 90), (3, ov_i x3)]) (st2 := [ov_i (x3 + 2), ov_r (-4), ov_i (ov_xs xs (x3 + 1)), ov_r 90]) (pc2 := 464) b_313_460_4 rfl rfl ?_
  refine ov_scl X d_313_464 (by omega) ?_
  refine ov_blk (ls2 := [(0, ov_r (-4)), (1, ov_r 0), (2, ov_r 90), (3, ov_i x3)]) (st2 := [ov_i (x3 + 3), ov_r (-4), ov_i (ov_xs xs (x3 + 2)), ov_i (ov_xs xs (x3 + 1)), ov_r 90]) (pc2 := 469) b_313_465_4 rfl rfl ?_
  refine ov_scl X d_313_469 (by omega) ?_
  refine ov_blk (ls2 := [(0, ov_r (-4)), (1, ov_r 0), (2, ov_r 90), (3, ov_i x3)]) (st2 := [ov_i (x3 + 4), ov_r (-4), ov_i (ov_xs xs (x3 + 3)), ov_i (ov_xs xs (x3 + 2)), ov_i (ov_xs xs (x3 + 1)), ov_r 90]) (pc2 := 474) b_313_470_4 rfl rfl ?_
  refine ov_scl X d_313_474 (by omega) ?_
  refine ov_cV (as := [ov_i (ov_xs xs (x3 + 1)), ov_i (ov_xs xs (x3 + 2)), ov_i (ov_xs xs (x3 + 3)), ov_i (ov_xs xs (x3 + 4))]) (st := []) (d2 := d - 1) d_313_475 lk_Law_42 rfl (Nat.le_of_ble_eq_true rfl) (c := 1) (zb_90 N1) (zs_90 N1) ⟨by decide, rfl⟩ (by omega) (c_Mo_until_90_t (d - 1) (by omega) U N1 (ov_xs xs (x3 + 1)) (ov_xs xs (x3 + 2)) (ov_xs xs (x3 + 3)) (ov_xs xs (x3 + 4)) (by omega) (by omega) (by omega) (by omega) hWT) ?_
  rintro _ z29 h30 ⟨v12, rfl, I31, f11, e13, e14, e15, e16, e17, e18, e19, e20, e21, e22, e23, e24, e25, e26, e27, e28⟩
  have E32 : h30 91 = hg 91 := e13
  have E33 : h30 92 = hg 92 := e14
  have E34 : h30 93 = hg 93 := e15
  have E35 : h30 94 = hg 94 := e16
  have E36 : h30 95 = hg 95 := e17
  have E37 : h30 96 = hg 96 := e18
  have E38 : h30 97 = hg 97 := e19
  have E39 : h30 98 = hg 98 := e20
  have E40 : h30 99 = hg 99 := e21
  have E41 : h30 100 = hg 100 := e22
  have E42 : h30 103 = hg 103 := e23
  have E43 : h30 104 = hg 104 := e24
  have E44 : h30 105 = hg 105 := e25
  have E45 : h30 106 = hg 106 := e26
  have E46 : h30 109 = hg 109 := e27
  have E47 : h30 114 = hg 114 := e28
  show ov_R u d (ov_mL nm) 478 [(0, ov_r (-4)), (1, ov_r 0), (2, ov_r 90), (3, ov_i x3)] [ov_i v12] z29 h30 ov_LQ
  have f48 : (h30 90 2) = (hg 90 2) ∧ (h30 90 7) = (hg 90 7) ∧ (h30 90 8) = (hg 90 8) ∧ (h30 90 13) = (hg 90 13) ∧ (h30 90 20) = (hg 90 20) ∧ (h30 90 22) = (hg 90 22) ∧ (h30 90 25) = (hg 90 25) ∧ (h30 90 26) = (hg 90 26) ∧ (h30 90 28) = (hg 90 28) ∧ (h30 90 29) = (hg 90 29) ∧ (h30 90 30) = (hg 90 30) ∧ (h30 90 34) = (hg 90 34) ∧ -2147483648 ≤ v12 ∧ v12 ≤ 2147483647 ∧ v12 = ov_unm (hg 96) (ov_xs xs (x3 + 1)) (ov_xs xs (x3 + 2)) (ov_xs xs (x3 + 3)) (ov_xs xs (x3 + 4)) := f11
  clear f11
  have K2 : ov_LK (1 + (j + 1)) (4000 * (j + 1)) z29 h30 := ov_LK_r0 K1 I31 E37 E38 E39 E41 E42 E44 E45 (by omega) (by omega) (by omega)
  have b1 : h30 1 1 = hg 1 1 := congrFun (I31.2.2.2 1 (Or.inl (by decide))) 1
  have b7 : h30 (-77) 0 = hg (-77) 0 := congrFun (I31.2.2.2 (-77) (Or.inl (by decide))) 0
  have c2 : h30 2 = hg 2 := I31.2.2.2 2 (Or.inl (by decide))
  have bL : ∀ b : Int, 0 ≤ b → b < 90 → h30 b = hg b := fun b _ q => I31.2.2.2 b (Or.inl q)
  have S2 : ov_S3 h30 := ⟨by rw [c2, E32, a5, a6]; exact s0.1, by rw [E36, a7]; exact s0.2.1, ov_HT_s s0.2.2.1 I (by decide +kernel) eT0 aU bL E37 a96, st_same s0.2.2.2 (fun a a0 a1 a2 => ((bL a (by omega) (by omega)).trans (aU a (by omega))).trans (ov_FF_k I (Or.inl (by omega)) ((by decide +kernel : ∀ n, n < 36 → (4 ≤ n ∧ (n < 14 ∨ 15 ≤ n)) → Nat.testBit 1237940038997149967466889215 n = true) a.toNat (by omega) (by omega)))) (E42.trans (aR 103 (by decide) (by decide))) (fun m _ _ => congrFun (E43.trans (aR 104 (by decide) (by decide))) m) (congrFun (E37.trans (aR 96 (by decide) (by decide))) 5) (by omega)⟩
  refine ov_blk (ls2 := [(0, ov_r (-4)), (1, ov_r 0), (2, ov_r 90), (3, ov_i x3)]) (st2 := []) (pc2 := 479) b_313_478_1 rfl rfl ?_
  refine ov_goto (tgt := 1462) d_313_479 (by decide) ?_
  exact BK _ _ K2 (by omega) (by omega) S2
set_option maxHeartbeats 4000000 in
theorem lw_case_6 {u : ov_U} {nm : String} {d : Nat} (hd : 1000 ≤ d) (U : ov_cap u) {L : Nat} {xs : Nat → Int32} (X : ov_SC u L xs) (hL : L ≤ 3584) (x3 j : Int) (z : ov_Z) (h : ov_H) (K : ov_LK (1 + j) (4000 * j) z h) (e0 : h 1 1 = h 90 2) (gb : h (-77) 0 = 1000 * (j + 1)) (s0 : ov_S3 h) (q : 0 ≤ j ∧ x3 = 7 * j ∧ x3 ≤ L - 7) (BK : ∀ (z5 : ov_Z) (h5 : ov_H), ov_LK (1 + (j + 1)) (4000 * (j + 1)) z5 h5 → h5 1 1 = h5 90 2 → h5 (-77) 0 = 1000 * (j + 2) → ov_S3 h5 → ov_R u d (ov_mL nm) 1462 [(0, ov_r (-4)), (1, ov_r 0), (2, ov_r 90), (3, ov_i x3)] [] z5 h5 ov_LQ) : ov_R u d (ov_mL nm) 482 [(0, ov_r (-4)), (1, ov_r 0), (2, ov_r 90), (3, ov_i x3)] [] z h ov_LQ := by
  have I := ov_LK_I (M := 1237940038997149967466873327) K
  have hW := ov_LK_W (M := 1237940038997149967466873327) K
  have hJ0 := K.2.2.1
  have s3 := s103_2 K.2.1
  have hb0 : ov_bd (h, z) = 1000 * (j + 1) := gb
  refine ov_blk (ls2 := [(0, ov_r (-4)), (1, ov_r 0), (2, ov_r 90), (3, ov_i x3)]) (st2 := [ov_i (x3 + 1), ov_r (-4), ov_r 0]) (pc2 := 487) b_313_482_5 rfl rfl ?_
  refine ov_scl X d_313_487 (by omega) ?_
  have g1 := ov_xs_g xs (x3 + 1)
  refine ov_blk (ls2 := [(0, ov_r (-4)), (1, ov_r 0), (2, ov_r 90), (3, ov_i x3)]) (st2 := [ov_i (x3 + 2), ov_r (-4), ov_i (ov_xs xs (x3 + 1)), ov_r 0]) (pc2 := 492) b_313_488_4 rfl rfl ?_
  refine ov_scl X d_313_492 (by omega) ?_
  have g2 := ov_xs_g xs (x3 + 2)
  refine ov_ifeq (tgt := 500) d_313_493 (by decide) (by omega) (fun c3 => ?_) (fun c3 => ?_)
  · skip
    refine ov_blk (ls2 := [(0, ov_r (-4)), (1, ov_r 0), (2, ov_r 90), (3, ov_i x3)]) (st2 := [ov_i 0, ov_i (ov_xs xs (x3 + 1)), ov_r 0]) (pc2 := 501) b_313_500_1 rfl rfl ?_
    obtain ⟨sa0, sa1, sa2, sa3, sa4, -⟩ := st_at s0.2.2.2
    have st5 := t96_5 K.2.1
    refine ov_cV (as := [ov_i (ov_xs xs (x3 + 1)), ov_i 0]) (st := []) (d2 := d - 1) d_313_501 lk_Law_43 rfl (Nat.le_of_ble_eq_true rfl) (c := 0) (zb_0 I) (zs_0 I) ⟨by decide, rfl⟩ (by omega) (c_OF_go_0_t (d - 1) (by omega) U I (ov_FF_w (by decide +kernel)) (ov_xs xs (x3 + 1)) 0 (by omega) (by omega) (by omega) (by omega)) ?_
    rintro _ z6 h7 ⟨v5, rfl, I8, f4, xc⟩
    show ov_R u d (ov_mL nm) 504 [(0, ov_r (-4)), (1, ov_r 0), (2, ov_r 90), (3, ov_i x3)] [ov_i v5] z6 h7 ov_LQ
    have f9 : (h7 36 7) = (h 36 7) ∧ (h7 1 1) = (h 1 1) ∧ (h7 90 2) = (h 90 2) ∧ (h7 0 10) = (h 0 10) ∧ (h7 0 11) = (h 0 11) ∧ (h7 0 12) = (h 0 12) ∧ (h7 0 13) = (h 0 13) ∧ (h7 3 1) = (h 3 1) ∧ (h7 36 8) = (h 36 8) ∧ (h7 46 3) = (h 46 3) ∧ (h7 46 4) = (h 46 4) ∧ (h7 49 4) = (h 49 4) ∧ (h7 49 5) = (h 49 5) ∧ (h7 64 0) = (h 64 0) ∧ (h7 76 0) = (h 76 0) := f4
    clear f4
    have K1 := ov_LK_c (B := (1000 * (j + 2))) K I8 (fun b h0 _ => ov_FF_ge (by omega)) (by omega) (ov_HR_k hW I8 (by omega) (by omega) (by omega) (by omega)) (by omega)
    refine ov_gho (ov_up h7 (-77) 0 (1000 * (j + 2))) (fun a ha => (ov_up77 ha).symm) ?_
    have a1 : (ov_up h7 (-77) 0 (1000 * (j + 2))) 1 1 = h7 1 1 := congrFun (ov_up77 (by decide)) 1
    have a2 : (ov_up h7 (-77) 0 (1000 * (j + 2))) 90 2 = h7 90 2 := congrFun (ov_up77 (by decide)) 2
    have a3 : (ov_up h7 (-77) 0 (1000 * (j + 2))) (-77) 0 = (1000 * (j + 2)) := ov_uj.1 rfl
    have a5 : (ov_up h7 (-77) 0 (1000 * (j + 2))) 2 = h 2 := (ov_up77 (by decide)).trans (ov_FF_k I8 (Or.inl (by decide)) (by decide +kernel))
    have a6 : (ov_up h7 (-77) 0 (1000 * (j + 2))) 91 = h 91 := (ov_up77 (by decide)).trans ((I8.2.1 91 (by decide) (by decide)).trans (ov_FF_ge (by decide)))
    have a7 : (ov_up h7 (-77) 0 (1000 * (j + 2))) 95 = h 95 := (ov_up77 (by decide)).trans ((I8.2.1 95 (by decide) (by decide)).trans (ov_FF_ge (by decide)))
    have a96 : (ov_up h7 (-77) 0 (1000 * (j + 2))) 96 = h 96 := (ov_up77 (by decide)).trans ((I8.2.1 96 (by decide) (by decide)).trans (ov_FF_ge (by decide)))
    have aU : ∀ b : Int, 0 ≤ b → (ov_up h7 (-77) 0 (1000 * (j + 2))) b = h7 b := fun b hb => ov_up77 hb
    have eT0 : h7 0 10 = h 0 10 := by omega
    have aR : ∀ b : Int, 90 ≤ b → b < 115 → (ov_up h7 (-77) 0 (1000 * (j + 2))) b = h b := fun b b0 b1 => (ov_up77 (by omega)).trans ((I8.2.1 b b0 b1).trans (ov_FF_ge (by omega)))
    have a20 : (ov_up h7 (-77) 0 (1000 * (j + 2))) 90 20 = h 90 20 := congrFun (aR 90 (by decide) (by decide)) 20
    have a43 : (ov_up h7 (-77) 0 (1000 * (j + 2))) 103 3 = h 103 3 := congrFun (aR 103 (by decide) (by decide)) 3
    have a4 : (ov_up h7 (-77) 0 (1000 * (j + 2))) 103 2 = h 103 2 := (congrFun (ov_up77 (by decide)) 2).trans (congrFun ((I8.2.1 103 (by decide) (by decide)).trans (ov_FF_ge (by decide))) 2)
    generalize (ov_up h7 (-77) 0 (1000 * (j + 2))) = hg at K1 a1 a2 a3 a4 a5 a6 a7 a96 aU aR a20 a43 ⊢
    have N1 := K1.2.1
    have hWT := K1.2.2.2.2.1
    have hCD := K1.2.2.2.2.2.1
    have hWK := K1.2.2.2.2.2.2.1
    have hPM : ov_PM (hg 96) (hg 103) (hg 97) (hg 98) (hg 105) (hg 106) (hg 90 22) (hg 90 25) (hg 90 26) (hg 90 28) (hg 90 29) (hg 90 30) := K1.2.2.2.2.2.2.2.1
    have hq1 := K1.2.2.2.2.2.2.2.2.1
    have hq2 := K1.2.2.2.2.2.2.2.2.2
    have hbd : ov_bd (hg, z6) = (1000 * (j + 2)) := a3
    have g103 := s103_2 N1
    show ov_R u d (ov_mL nm) 504 [(0, ov_r (-4)), (1, ov_r 0), (2, ov_r 90), (3, ov_i x3)] [ov_i v5] z6 hg ov_LQ
    refine ov_blk (ls2 := [(0, ov_r (-4)), (1, ov_r 0), (2, ov_r 90), (3, ov_i x3)]) (st2 := [ov_i (x3 + 1), ov_r (-4), ov_r 90]) (pc2 := 510) b_313_504_6 rfl rfl ?_
    refine ov_scl X d_313_510 (by omega) ?_
    refine ov_blk (ls2 := [(0, ov_r (-4)), (1, ov_r 0), (2, ov_r 90), (3, ov_i x3)]) (st2 := [ov_i (x3 + 2), ov_r (-4), ov_i (ov_xs xs (x3 + 1)), ov_r 90]) (pc2 := 515) b_313_511_4 rfl rfl ?_
    refine ov_scl X d_313_515 (by omega) ?_
    refine ov_ifeq (tgt := 523) d_313_516 (by decide) (by omega) (fun c12 => ?_) (fun c12 => ?_)
    · skip
      refine ov_blk (ls2 := [(0, ov_r (-4)), (1, ov_r 0), (2, ov_r 90), (3, ov_i x3)]) (st2 := [ov_i 0, ov_i (ov_xs xs (x3 + 1)), ov_r 90]) (pc2 := 524) b_313_523_1 rfl rfl ?_
      refine ov_cV (as := [ov_i (ov_xs xs (x3 + 1)), ov_i 0]) (st := []) (d2 := d - 1) d_313_524 lk_Law_47 rfl (Nat.le_of_ble_eq_true rfl) (c := 1) (zb_90 N1) (zs_90 N1) ⟨by decide, rfl⟩ (by omega) (c_Mo_go_90_t (d - 1) (by omega) U N1 (ov_xs xs (x3 + 1)) 0 (by omega) (by omega) (by show (hg 103 2) ≤ ov_bd (hg, z6) - 1000; omega) (by omega) (by show 0 ≤ (hg 103 3) ∧ (hg 103 3) ≤ 9; omega) hWT) ?_
      rintro _ z32 h33 ⟨v14, rfl, I34, f13, e15, e16, e17, e18, e19, e20, e21, e22, e23, e24, e25, e26, e27, e28, e29, y30, y31⟩
      have E35 : h33 91 = hg 91 := e15
      have E36 : h33 92 = hg 92 := e16
      have E37 : h33 93 = hg 93 := e17
      have E38 : h33 94 = hg 94 := e18
      have E39 : h33 95 = hg 95 := e19
      have E40 : h33 96 = hg 96 := e20
      have E41 : h33 97 = hg 97 := e21
      have E42 : h33 98 = hg 98 := e22
      have E43 : h33 99 = hg 99 := e23
      have E44 : h33 100 = hg 100 := e24
      have E45 : h33 104 = hg 104 := e25
      have E46 : h33 105 = hg 105 := e26
      have E47 : h33 106 = hg 106 := e27
      have E48 : h33 109 = hg 109 := e28
      have E49 : h33 114 = hg 114 := e29
      show ov_R u d (ov_mL nm) 527 [(0, ov_r (-4)), (1, ov_r 0), (2, ov_r 90), (3, ov_i x3)] [ov_i v14] z32 h33 ov_LQ
      have f50 : (h33 90 2) = (hg 90 2) ∧ (h33 90 7) = (hg 90 7) ∧ (h33 90 8) = (hg 90 8) ∧ (h33 90 13) = (hg 90 13) ∧ (h33 90 22) = (hg 90 22) ∧ (h33 90 25) = (hg 90 25) ∧ (h33 90 26) = (hg 90 26) ∧ (h33 90 28) = (hg 90 28) ∧ (h33 90 29) = (hg 90 29) ∧ (h33 90 30) = (hg 90 30) ∧ (h33 90 34) = (hg 90 34) ∧ -2147483648 ≤ v14 ∧ v14 ≤ 2147483647 := f13
      clear f13
      have y30_ : ∀ j : Int, 4 ≤ j → j ≤ 57 → (h33 103) j = (hg 103) j := y30
      have y31_ : (v14 = -1 ∧ ¬ (0 ≤ (ov_xs xs (x3 + 1)) ∧ (ov_xs xs (x3 + 1)) ≤ 1 ∧ ov_cgi (hg 96) (hg 103 0) (hg 103 1) (ov_xs xs (x3 + 1)) = 1 ∧ ((0 : Int) = 0 ∨ ¬ (hg 96 6) = 1 ∧ ¬ (hg 103 3) = (hg 96 5))) ∧ (h33 103) = (hg 103) ∧ (h33 90 20) = (hg 90 20)) ∨ ((0 ≤ (ov_xs xs (x3 + 1)) ∧ (ov_xs xs (x3 + 1)) ≤ 1 ∧ ov_cgi (hg 96) (hg 103 0) (hg 103 1) (ov_xs xs (x3 + 1)) = 1 ∧ ((0 : Int) = 0 ∨ ¬ (hg 96 6) = 1 ∧ ¬ (hg 103 3) = (hg 96 5))) ∧ v14 = (hg 103 2) + (ov_wm (hg 96) (6 * (hg 103 1) + (hg 103 0)) (ov_xs xs (x3 + 1)) (hg 103 2) + st_rt (hg 96) (0 : Int)) ∧ (h33 103) = ov_rs (ov_rs (ov_rs (ov_rs (kp_f (hg 103) (hg 90 20)) 2 ((hg 103 2) + (ov_wm (hg 96) (6 * (hg 103 1) + (hg 103 0)) (ov_xs xs (x3 + 1)) (hg 103 2) + st_rt (hg 96) (0 : Int)))) 0 ((hg 103 0) + (1 - (ov_xs xs (x3 + 1))))) 1 ((hg 103 1) + (ov_xs xs (x3 + 1)))) 3 ((hg 103 3) + (0 : Int)) ∧ (h33 90 20) = kp_u (hg 90 20)) := y31
      have K2 : ov_LK (1 + (j + 1)) (4000 * (j + 1)) z32 h33 := ov_LK_r4 K1 I34 E40 E41 E42 E44 y30_ E46 E47 (by omega) (by omega) (by omega)
      have b1 : h33 1 1 = hg 1 1 := congrFun (I34.2.2.2 1 (Or.inl (by decide))) 1
      have b7 : h33 (-77) 0 = hg (-77) 0 := congrFun (I34.2.2.2 (-77) (Or.inl (by decide))) 0
      have c2 : h33 2 = hg 2 := I34.2.2.2 2 (Or.inl (by decide))
      have bL : ∀ b : Int, 0 ≤ b → b < 90 → h33 b = hg b := fun b _ q => I34.2.2.2 b (Or.inl q)
      have sx : v5 = v14 ∧ st_R h33 := st_go_t s0.2.2.2 (st_G_of I) s0.2.2.1 (rg_0_10 I) K.2.2.2.2.1 (s103_0 K.2.1) (s103_1 K.2.1) (by omega) xc y31_ (fun a a0 a1 => (bL a a0 a1).trans (aU a a0)) (fun a a0 a1 a2 => ov_FF_k I8 (Or.inl (by omega)) ((by decide +kernel : ∀ n, n < 36 → (5 ≤ n ∧ (n < 9 ∨ 15 ≤ n)) → Nat.testBit 1237940038997149967466873327 n = true) a.toNat (by omega) (by omega))) aR E40 E45
      have er := sx.1
      have S2 : ov_S3 h33 := ⟨by rw [c2, E35, a5, a6]; exact s0.1, by rw [E39, a7]; exact s0.2.1, ov_HT_s s0.2.2.1 I8 (by decide +kernel) eT0 aU bL E40 a96, sx.2⟩
      refine ov_blk (ls2 := [(0, ov_r (-4)), (1, ov_r 0), (2, ov_r 90), (3, ov_i x3)]) (st2 := []) (pc2 := 528) b_313_527_1 rfl rfl ?_
      refine ov_goto (tgt := 1462) d_313_528 (by decide) ?_
      exact BK _ _ K2 (by omega) (by omega) S2
    · omega
  · skip
    refine ov_blk (ls2 := [(0, ov_r (-4)), (1, ov_r 0), (2, ov_r 90), (3, ov_i x3)]) (st2 := [ov_i 1, ov_i (ov_xs xs (x3 + 1)), ov_r 0]) (pc2 := 497) b_313_496_1 rfl rfl ?_
    refine ov_goto (tgt := 501) d_313_497 (by decide) ?_
    obtain ⟨sa0, sa1, sa2, sa3, sa4, -⟩ := st_at s0.2.2.2
    have st5 := t96_5 K.2.1
    refine ov_cV (as := [ov_i (ov_xs xs (x3 + 1)), ov_i 1]) (st := []) (d2 := d - 1) d_313_501 lk_Law_43 rfl (Nat.le_of_ble_eq_true rfl) (c := 0) (zb_0 I) (zs_0 I) ⟨by decide, rfl⟩ (by omega) (c_OF_go_0_t (d - 1) (by omega) U I (ov_FF_w (by decide +kernel)) (ov_xs xs (x3 + 1)) 1 (by omega) (by omega) (by omega) (by omega)) ?_
    rintro _ z53 h54 ⟨v52, rfl, I55, f51, xc⟩
    show ov_R u d (ov_mL nm) 504 [(0, ov_r (-4)), (1, ov_r 0), (2, ov_r 90), (3, ov_i x3)] [ov_i v52] z53 h54 ov_LQ
    have f56 : (h54 36 7) = (h 36 7) ∧ (h54 1 1) = (h 1 1) ∧ (h54 90 2) = (h 90 2) ∧ (h54 0 10) = (h 0 10) ∧ (h54 0 11) = (h 0 11) ∧ (h54 0 12) = (h 0 12) ∧ (h54 0 13) = (h 0 13) ∧ (h54 3 1) = (h 3 1) ∧ (h54 36 8) = (h 36 8) ∧ (h54 46 3) = (h 46 3) ∧ (h54 46 4) = (h 46 4) ∧ (h54 49 4) = (h 49 4) ∧ (h54 49 5) = (h 49 5) ∧ (h54 64 0) = (h 64 0) ∧ (h54 76 0) = (h 76 0) := f51
    clear f51
    have K1 := ov_LK_c (B := (1000 * (j + 2))) K I55 (fun b h0 _ => ov_FF_ge (by omega)) (by omega) (ov_HR_k hW I55 (by omega) (by omega) (by omega) (by omega)) (by omega)
    refine ov_gho (ov_up h54 (-77) 0 (1000 * (j + 2))) (fun a ha => (ov_up77 ha).symm) ?_
    have a1 : (ov_up h54 (-77) 0 (1000 * (j + 2))) 1 1 = h54 1 1 := congrFun (ov_up77 (by decide)) 1
    have a2 : (ov_up h54 (-77) 0 (1000 * (j + 2))) 90 2 = h54 90 2 := congrFun (ov_up77 (by decide)) 2
    have a3 : (ov_up h54 (-77) 0 (1000 * (j + 2))) (-77) 0 = (1000 * (j + 2)) := ov_uj.1 rfl
    have a5 : (ov_up h54 (-77) 0 (1000 * (j + 2))) 2 = h 2 := (ov_up77 (by decide)).trans (ov_FF_k I55 (Or.inl (by decide)) (by decide +kernel))
    have a6 : (ov_up h54 (-77) 0 (1000 * (j + 2))) 91 = h 91 := (ov_up77 (by decide)).trans ((I55.2.1 91 (by decide) (by decide)).trans (ov_FF_ge (by decide)))
    have a7 : (ov_up h54 (-77) 0 (1000 * (j + 2))) 95 = h 95 := (ov_up77 (by decide)).trans ((I55.2.1 95 (by decide) (by decide)).trans (ov_FF_ge (by decide)))
    have a96 : (ov_up h54 (-77) 0 (1000 * (j + 2))) 96 = h 96 := (ov_up77 (by decide)).trans ((I55.2.1 96 (by decide) (by decide)).trans (ov_FF_ge (by decide)))
    have aU : ∀ b : Int, 0 ≤ b → (ov_up h54 (-77) 0 (1000 * (j + 2))) b = h54 b := fun b hb => ov_up77 hb
    have eT0 : h54 0 10 = h 0 10 := by omega
    have aR : ∀ b : Int, 90 ≤ b → b < 115 → (ov_up h54 (-77) 0 (1000 * (j + 2))) b = h b := fun b b0 b1 => (ov_up77 (by omega)).trans ((I55.2.1 b b0 b1).trans (ov_FF_ge (by omega)))
    have a20 : (ov_up h54 (-77) 0 (1000 * (j + 2))) 90 20 = h 90 20 := congrFun (aR 90 (by decide) (by decide)) 20
    have a43 : (ov_up h54 (-77) 0 (1000 * (j + 2))) 103 3 = h 103 3 := congrFun (aR 103 (by decide) (by decide)) 3
    have a4 : (ov_up h54 (-77) 0 (1000 * (j + 2))) 103 2 = h 103 2 := (congrFun (ov_up77 (by decide)) 2).trans (congrFun ((I55.2.1 103 (by decide) (by decide)).trans (ov_FF_ge (by decide))) 2)
    generalize (ov_up h54 (-77) 0 (1000 * (j + 2))) = hg at K1 a1 a2 a3 a4 a5 a6 a7 a96 aU aR a20 a43 ⊢
    have N1 := K1.2.1
    have hWT := K1.2.2.2.2.1
    have hCD := K1.2.2.2.2.2.1
    have hWK := K1.2.2.2.2.2.2.1
    have hPM : ov_PM (hg 96) (hg 103) (hg 97) (hg 98) (hg 105) (hg 106) (hg 90 22) (hg 90 25) (hg 90 26) (hg 90 28) (hg 90 29) (hg 90 30) := K1.2.2.2.2.2.2.2.1
    have hq1 := K1.2.2.2.2.2.2.2.2.1
    have hq2 := K1.2.2.2.2.2.2.2.2.2
    have hbd : ov_bd (hg, z53) = (1000 * (j + 2)) := a3
    have g103 := s103_2 N1
    show ov_R u d (ov_mL nm) 504 [(0, ov_r (-4)), (1, ov_r 0), (2, ov_r 90), (3, ov_i x3)] [ov_i v52] z53 hg ov_LQ
    refine ov_blk (ls2 := [(0, ov_r (-4)), (1, ov_r 0), (2, ov_r 90), (3, ov_i x3)]) (st2 := [ov_i (x3 + 1), ov_r (-4), ov_r 90]) (pc2 := 510) b_313_504_6 rfl rfl ?_
    refine ov_scl X d_313_510 (by omega) ?_
    refine ov_blk (ls2 := [(0, ov_r (-4)), (1, ov_r 0), (2, ov_r 90), (3, ov_i x3)]) (st2 := [ov_i (x3 + 2), ov_r (-4), ov_i (ov_xs xs (x3 + 1)), ov_r 90]) (pc2 := 515) b_313_511_4 rfl rfl ?_
    refine ov_scl X d_313_515 (by omega) ?_
    refine ov_ifeq (tgt := 523) d_313_516 (by decide) (by omega) (fun c59 => ?_) (fun c59 => ?_)
    · omega
    · skip
      refine ov_blk (ls2 := [(0, ov_r (-4)), (1, ov_r 0), (2, ov_r 90), (3, ov_i x3)]) (st2 := [ov_i 1, ov_i (ov_xs xs (x3 + 1)), ov_r 90]) (pc2 := 520) b_313_519_1 rfl rfl ?_
      refine ov_goto (tgt := 524) d_313_520 (by decide) ?_
      refine ov_cV (as := [ov_i (ov_xs xs (x3 + 1)), ov_i 1]) (st := []) (d2 := d - 1) d_313_524 lk_Law_47 rfl (Nat.le_of_ble_eq_true rfl) (c := 1) (zb_90 N1) (zs_90 N1) ⟨by decide, rfl⟩ (by omega) (c_Mo_go_90_t (d - 1) (by omega) U N1 (ov_xs xs (x3 + 1)) 1 (by omega) (by omega) (by show (hg 103 2) ≤ ov_bd (hg, z53) - 1000; omega) (by omega) (by show 0 ≤ (hg 103 3) ∧ (hg 103 3) ≤ 9; omega) hWT) ?_
      rintro _ z79 h80 ⟨v61, rfl, I81, f60, e62, e63, e64, e65, e66, e67, e68, e69, e70, e71, e72, e73, e74, e75, e76, y77, y78⟩
      have E82 : h80 91 = hg 91 := e62
      have E83 : h80 92 = hg 92 := e63
      have E84 : h80 93 = hg 93 := e64
      have E85 : h80 94 = hg 94 := e65
      have E86 : h80 95 = hg 95 := e66
      have E87 : h80 96 = hg 96 := e67
      have E88 : h80 97 = hg 97 := e68
      have E89 : h80 98 = hg 98 := e69
      have E90 : h80 99 = hg 99 := e70
      have E91 : h80 100 = hg 100 := e71
      have E92 : h80 104 = hg 104 := e72
      have E93 : h80 105 = hg 105 := e73
      have E94 : h80 106 = hg 106 := e74
      have E95 : h80 109 = hg 109 := e75
      have E96 : h80 114 = hg 114 := e76
      show ov_R u d (ov_mL nm) 527 [(0, ov_r (-4)), (1, ov_r 0), (2, ov_r 90), (3, ov_i x3)] [ov_i v61] z79 h80 ov_LQ
      have f97 : (h80 90 2) = (hg 90 2) ∧ (h80 90 7) = (hg 90 7) ∧ (h80 90 8) = (hg 90 8) ∧ (h80 90 13) = (hg 90 13) ∧ (h80 90 22) = (hg 90 22) ∧ (h80 90 25) = (hg 90 25) ∧ (h80 90 26) = (hg 90 26) ∧ (h80 90 28) = (hg 90 28) ∧ (h80 90 29) = (hg 90 29) ∧ (h80 90 30) = (hg 90 30) ∧ (h80 90 34) = (hg 90 34) ∧ -2147483648 ≤ v61 ∧ v61 ≤ 2147483647 := f60
      clear f60
      have y77_ : ∀ j : Int, 4 ≤ j → j ≤ 57 → (h80 103) j = (hg 103) j := y77
      have y78_ : (v61 = -1 ∧ ¬ (0 ≤ (ov_xs xs (x3 + 1)) ∧ (ov_xs xs (x3 + 1)) ≤ 1 ∧ ov_cgi (hg 96) (hg 103 0) (hg 103 1) (ov_xs xs (x3 + 1)) = 1 ∧ ((1 : Int) = 0 ∨ ¬ (hg 96 6) = 1 ∧ ¬ (hg 103 3) = (hg 96 5))) ∧ (h80 103) = (hg 103) ∧ (h80 90 20) = (hg 90 20)) ∨ ((0 ≤ (ov_xs xs (x3 + 1)) ∧ (ov_xs xs (x3 + 1)) ≤ 1 ∧ ov_cgi (hg 96) (hg 103 0) (hg 103 1) (ov_xs xs (x3 + 1)) = 1 ∧ ((1 : Int) = 0 ∨ ¬ (hg 96 6) = 1 ∧ ¬ (hg 103 3) = (hg 96 5))) ∧ v61 = (hg 103 2) + (ov_wm (hg 96) (6 * (hg 103 1) + (hg 103 0)) (ov_xs xs (x3 + 1)) (hg 103 2) + st_rt (hg 96) (1 : Int)) ∧ (h80 103) = ov_rs (ov_rs (ov_rs (ov_rs (kp_f (hg 103) (hg 90 20)) 2 ((hg 103 2) + (ov_wm (hg 96) (6 * (hg 103 1) + (hg 103 0)) (ov_xs xs (x3 + 1)) (hg 103 2) + st_rt (hg 96) (1 : Int)))) 0 ((hg 103 0) + (1 - (ov_xs xs (x3 + 1))))) 1 ((hg 103 1) + (ov_xs xs (x3 + 1)))) 3 ((hg 103 3) + (1 : Int)) ∧ (h80 90 20) = kp_u (hg 90 20)) := y78
      have K2 : ov_LK (1 + (j + 1)) (4000 * (j + 1)) z79 h80 := ov_LK_r4 K1 I81 E87 E88 E89 E91 y77_ E93 E94 (by omega) (by omega) (by omega)
      have b1 : h80 1 1 = hg 1 1 := congrFun (I81.2.2.2 1 (Or.inl (by decide))) 1
      have b7 : h80 (-77) 0 = hg (-77) 0 := congrFun (I81.2.2.2 (-77) (Or.inl (by decide))) 0
      have c2 : h80 2 = hg 2 := I81.2.2.2 2 (Or.inl (by decide))
      have bL : ∀ b : Int, 0 ≤ b → b < 90 → h80 b = hg b := fun b _ q => I81.2.2.2 b (Or.inl q)
      have sx : v52 = v61 ∧ st_R h80 := st_go_t s0.2.2.2 (st_G_of I) s0.2.2.1 (rg_0_10 I) K.2.2.2.2.1 (s103_0 K.2.1) (s103_1 K.2.1) (by omega) xc y78_ (fun a a0 a1 => (bL a a0 a1).trans (aU a a0)) (fun a a0 a1 a2 => ov_FF_k I55 (Or.inl (by omega)) ((by decide +kernel : ∀ n, n < 36 → (5 ≤ n ∧ (n < 9 ∨ 15 ≤ n)) → Nat.testBit 1237940038997149967466873327 n = true) a.toNat (by omega) (by omega))) aR E87 E92
      have er := sx.1
      have S2 : ov_S3 h80 := ⟨by rw [c2, E82, a5, a6]; exact s0.1, by rw [E86, a7]; exact s0.2.1, ov_HT_s s0.2.2.1 I55 (by decide +kernel) eT0 aU bL E87 a96, sx.2⟩
      refine ov_blk (ls2 := [(0, ov_r (-4)), (1, ov_r 0), (2, ov_r 90), (3, ov_i x3)]) (st2 := []) (pc2 := 528) b_313_527_1 rfl rfl ?_
      refine ov_goto (tgt := 1462) d_313_528 (by decide) ?_
      exact BK _ _ K2 (by omega) (by omega) S2
set_option maxHeartbeats 4000000 in
theorem lw_case_7 {u : ov_U} {nm : String} {d : Nat} (hd : 1000 ≤ d) (U : ov_cap u) {L : Nat} {xs : Nat → Int32} (X : ov_SC u L xs) (hL : L ≤ 3584) (x3 j : Int) (z : ov_Z) (h : ov_H) (K : ov_LK (1 + j) (4000 * j) z h) (e0 : h 1 1 = h 90 2) (gb : h (-77) 0 = 1000 * (j + 1)) (s0 : ov_S3 h) (q : 0 ≤ j ∧ x3 = 7 * j ∧ x3 ≤ L - 7) (BK : ∀ (z5 : ov_Z) (h5 : ov_H), ov_LK (1 + (j + 1)) (4000 * (j + 1)) z5 h5 → h5 1 1 = h5 90 2 → h5 (-77) 0 = 1000 * (j + 2) → ov_S3 h5 → ov_R u d (ov_mL nm) 1462 [(0, ov_r (-4)), (1, ov_r 0), (2, ov_r 90), (3, ov_i x3)] [] z5 h5 ov_LQ) : ov_R u d (ov_mL nm) 531 [(0, ov_r (-4)), (1, ov_r 0), (2, ov_r 90), (3, ov_i x3)] [] z h ov_LQ := by
  have I := ov_LK_I (M := 1237940038997149967466873327) K
  have hW := ov_LK_W (M := 1237940038997149967466873327) K
  have hJ0 := K.2.2.1
  have s3 := s103_2 K.2.1
  have hb0 : ov_bd (h, z) = 1000 * (j + 1) := gb
  refine ov_blk (ls2 := [(0, ov_r (-4)), (1, ov_r 0), (2, ov_r 90), (3, ov_i x3)]) (st2 := [ov_i (x3 + 1), ov_r (-4), ov_r 0]) (pc2 := 536) b_313_531_5 rfl rfl ?_
  refine ov_scl X d_313_536 (by omega) ?_
  have g1 := ov_xs_g xs (x3 + 1)
  obtain ⟨sa0, sa1, sa2, sa3, sa4, -⟩ := st_at s0.2.2.2
  have st5 := t96_5 K.2.1
  refine ov_cV (as := [ov_i (ov_xs xs (x3 + 1))]) (st := []) (d2 := d - 1) d_313_537 lk_Law_48 rfl (Nat.le_of_ble_eq_true rfl) (c := 0) (zb_0 I) (zs_0 I) ⟨by decide, rfl⟩ (by omega) (c_OF_stay_0_t (d - 1) (by omega) U I (ov_FF_w (by decide +kernel)) (ov_xs xs (x3 + 1)) (by omega) (by omega) (by omega)) ?_
  rintro _ z4 h5 ⟨v3, rfl, I6, f2, xc⟩
  show ov_R u d (ov_mL nm) 540 [(0, ov_r (-4)), (1, ov_r 0), (2, ov_r 90), (3, ov_i x3)] [ov_i v3] z4 h5 ov_LQ
  have f7 : (h5 36 7) = (h 36 7) ∧ (h5 1 1) = (h 1 1) ∧ (h5 90 2) = (h 90 2) ∧ (h5 0 10) = (h 0 10) ∧ (h5 0 11) = (h 0 11) ∧ (h5 0 12) = (h 0 12) ∧ (h5 0 13) = (h 0 13) ∧ (h5 3 1) = (h 3 1) ∧ (h5 36 8) = (h 36 8) ∧ (h5 46 3) = (h 46 3) ∧ (h5 46 4) = (h 46 4) ∧ (h5 49 4) = (h 49 4) ∧ (h5 49 5) = (h 49 5) ∧ (h5 64 0) = (h 64 0) ∧ (h5 76 0) = (h 76 0) := f2
  clear f2
  have K1 := ov_LK_c (B := (1000 * (j + 2))) K I6 (fun b h0 _ => ov_FF_ge (by omega)) (by omega) (ov_HR_k hW I6 (by omega) (by omega) (by omega) (by omega)) (by omega)
  refine ov_gho (ov_up h5 (-77) 0 (1000 * (j + 2))) (fun a ha => (ov_up77 ha).symm) ?_
  have a1 : (ov_up h5 (-77) 0 (1000 * (j + 2))) 1 1 = h5 1 1 := congrFun (ov_up77 (by decide)) 1
  have a2 : (ov_up h5 (-77) 0 (1000 * (j + 2))) 90 2 = h5 90 2 := congrFun (ov_up77 (by decide)) 2
  have a3 : (ov_up h5 (-77) 0 (1000 * (j + 2))) (-77) 0 = (1000 * (j + 2)) := ov_uj.1 rfl
  have a5 : (ov_up h5 (-77) 0 (1000 * (j + 2))) 2 = h 2 := (ov_up77 (by decide)).trans (ov_FF_k I6 (Or.inl (by decide)) (by decide +kernel))
  have a6 : (ov_up h5 (-77) 0 (1000 * (j + 2))) 91 = h 91 := (ov_up77 (by decide)).trans ((I6.2.1 91 (by decide) (by decide)).trans (ov_FF_ge (by decide)))
  have a7 : (ov_up h5 (-77) 0 (1000 * (j + 2))) 95 = h 95 := (ov_up77 (by decide)).trans ((I6.2.1 95 (by decide) (by decide)).trans (ov_FF_ge (by decide)))
  have a96 : (ov_up h5 (-77) 0 (1000 * (j + 2))) 96 = h 96 := (ov_up77 (by decide)).trans ((I6.2.1 96 (by decide) (by decide)).trans (ov_FF_ge (by decide)))
  have aU : ∀ b : Int, 0 ≤ b → (ov_up h5 (-77) 0 (1000 * (j + 2))) b = h5 b := fun b hb => ov_up77 hb
  have eT0 : h5 0 10 = h 0 10 := by omega
  have aR : ∀ b : Int, 90 ≤ b → b < 115 → (ov_up h5 (-77) 0 (1000 * (j + 2))) b = h b := fun b b0 b1 => (ov_up77 (by omega)).trans ((I6.2.1 b b0 b1).trans (ov_FF_ge (by omega)))
  have a20 : (ov_up h5 (-77) 0 (1000 * (j + 2))) 90 20 = h 90 20 := congrFun (aR 90 (by decide) (by decide)) 20
  have a4 : (ov_up h5 (-77) 0 (1000 * (j + 2))) 103 2 = h 103 2 := (congrFun (ov_up77 (by decide)) 2).trans (congrFun ((I6.2.1 103 (by decide) (by decide)).trans (ov_FF_ge (by decide))) 2)
  generalize (ov_up h5 (-77) 0 (1000 * (j + 2))) = hg at K1 a1 a2 a3 a4 a5 a6 a7 a96 aU aR a20 ⊢
  have N1 := K1.2.1
  have hWT := K1.2.2.2.2.1
  have hCD := K1.2.2.2.2.2.1
  have hWK := K1.2.2.2.2.2.2.1
  have hPM : ov_PM (hg 96) (hg 103) (hg 97) (hg 98) (hg 105) (hg 106) (hg 90 22) (hg 90 25) (hg 90 26) (hg 90 28) (hg 90 29) (hg 90 30) := K1.2.2.2.2.2.2.2.1
  have hq1 := K1.2.2.2.2.2.2.2.2.1
  have hq2 := K1.2.2.2.2.2.2.2.2.2
  have hbd : ov_bd (hg, z4) = (1000 * (j + 2)) := a3
  have g103 := s103_2 N1
  show ov_R u d (ov_mL nm) 540 [(0, ov_r (-4)), (1, ov_r 0), (2, ov_r 90), (3, ov_i x3)] [ov_i v3] z4 hg ov_LQ
  refine ov_blk (ls2 := [(0, ov_r (-4)), (1, ov_r 0), (2, ov_r 90), (3, ov_i x3)]) (st2 := [ov_i (x3 + 1), ov_r (-4), ov_r 90]) (pc2 := 546) b_313_540_6 rfl rfl ?_
  refine ov_scl X d_313_546 (by omega) ?_
  refine ov_cV (as := [ov_i (ov_xs xs (x3 + 1))]) (st := []) (d2 := d - 1) d_313_547 lk_Law_52 rfl (Nat.le_of_ble_eq_true rfl) (c := 1) (zb_90 N1) (zs_90 N1) ⟨by decide, rfl⟩ (by omega) (c_Mo_stay_90_t (d - 1) (by omega) U N1 (ov_xs xs (x3 + 1)) (by omega) (by show (hg 103 2) ≤ ov_bd (hg, z4) - 1000; omega) (by omega)) ?_
  rintro _ z28 h29 ⟨v10, rfl, I30, f9, e11, e12, e13, e14, e15, e16, e17, e18, e19, e20, e21, e22, e23, e24, e25, y26, y27⟩
  have E31 : h29 91 = hg 91 := e11
  have E32 : h29 92 = hg 92 := e12
  have E33 : h29 93 = hg 93 := e13
  have E34 : h29 94 = hg 94 := e14
  have E35 : h29 95 = hg 95 := e15
  have E36 : h29 96 = hg 96 := e16
  have E37 : h29 97 = hg 97 := e17
  have E38 : h29 98 = hg 98 := e18
  have E39 : h29 99 = hg 99 := e19
  have E40 : h29 100 = hg 100 := e20
  have E41 : h29 104 = hg 104 := e21
  have E42 : h29 105 = hg 105 := e22
  have E43 : h29 106 = hg 106 := e23
  have E44 : h29 109 = hg 109 := e24
  have E45 : h29 114 = hg 114 := e25
  show ov_R u d (ov_mL nm) 550 [(0, ov_r (-4)), (1, ov_r 0), (2, ov_r 90), (3, ov_i x3)] [ov_i v10] z28 h29 ov_LQ
  have f46 : (h29 90 2) = (hg 90 2) ∧ (h29 90 7) = (hg 90 7) ∧ (h29 90 8) = (hg 90 8) ∧ (h29 90 13) = (hg 90 13) ∧ (h29 90 22) = (hg 90 22) ∧ (h29 90 25) = (hg 90 25) ∧ (h29 90 26) = (hg 90 26) ∧ (h29 90 28) = (hg 90 28) ∧ (h29 90 29) = (hg 90 29) ∧ (h29 90 30) = (hg 90 30) ∧ (h29 90 34) = (hg 90 34) ∧ -2147483648 ≤ v10 ∧ v10 ≤ 2147483647 := f9
  clear f9
  have y26_ : ∀ j : Int, 4 ≤ j → j ≤ 57 → (h29 103) j = (hg 103) j := y26
  have y27_ : (v10 = -1 ∧ ((ov_xs xs (x3 + 1)) < 1 ∨ 1000 < (ov_xs xs (x3 + 1))) ∧ (h29 103) = (hg 103) ∧ (h29 90 20) = (hg 90 20)) ∨ (1 ≤ (ov_xs xs (x3 + 1)) ∧ (ov_xs xs (x3 + 1)) ≤ 1000 ∧ v10 = (hg 103 2) + (ov_xs xs (x3 + 1)) ∧ (h29 103) = ov_rs (kp_f (hg 103) (hg 90 20)) 2 ((hg 103 2) + (ov_xs xs (x3 + 1))) ∧ (h29 90 20) = kp_u (hg 90 20)) := y27
  have K2 : ov_LK (1 + (j + 1)) (4000 * (j + 1)) z28 h29 := ov_LK_r4 K1 I30 E36 E37 E38 E40 y26_ E42 E43 (by omega) (by omega) (by omega)
  have b1 : h29 1 1 = hg 1 1 := congrFun (I30.2.2.2 1 (Or.inl (by decide))) 1
  have b7 : h29 (-77) 0 = hg (-77) 0 := congrFun (I30.2.2.2 (-77) (Or.inl (by decide))) 0
  have c2 : h29 2 = hg 2 := I30.2.2.2 2 (Or.inl (by decide))
  have bL : ∀ b : Int, 0 ≤ b → b < 90 → h29 b = hg b := fun b _ q => I30.2.2.2 b (Or.inl q)
  have sx : v3 = v10 ∧ st_R h29 := st_stay_e s0.2.2.2 (st_G_of I) xc y27_ (fun a a0 a1 => (bL a a0 a1).trans (aU a a0)) (fun a a0 a1 a2 => ov_FF_k I6 (Or.inl (by omega)) ((by decide +kernel : ∀ n, n < 36 → (5 ≤ n ∧ (n < 9 ∨ 15 ≤ n)) → Nat.testBit 1237940038997149967466873327 n = true) a.toNat (by omega) (by omega))) aR E36 E41
  have er := sx.1
  have S2 : ov_S3 h29 := ⟨by rw [c2, E31, a5, a6]; exact s0.1, by rw [E35, a7]; exact s0.2.1, ov_HT_s s0.2.2.1 I6 (by decide +kernel) eT0 aU bL E36 a96, sx.2⟩
  refine ov_blk (ls2 := [(0, ov_r (-4)), (1, ov_r 0), (2, ov_r 90), (3, ov_i x3)]) (st2 := []) (pc2 := 551) b_313_550_1 rfl rfl ?_
  refine ov_goto (tgt := 1462) d_313_551 (by decide) ?_
  exact BK _ _ K2 (by omega) (by omega) S2
set_option maxHeartbeats 4000000 in
theorem lw_case_8 {u : ov_U} {nm : String} {d : Nat} (hd : 1000 ≤ d) (U : ov_cap u) {L : Nat} {xs : Nat → Int32} (X : ov_SC u L xs) (hL : L ≤ 3584) (x3 j : Int) (z : ov_Z) (h : ov_H) (K : ov_LK (1 + j) (4000 * j) z h) (e0 : h 1 1 = h 90 2) (gb : h (-77) 0 = 1000 * (j + 1)) (s0 : ov_S3 h) (q : 0 ≤ j ∧ x3 = 7 * j ∧ x3 ≤ L - 7) (BK : ∀ (z5 : ov_Z) (h5 : ov_H), ov_LK (1 + (j + 1)) (4000 * (j + 1)) z5 h5 → h5 1 1 = h5 90 2 → h5 (-77) 0 = 1000 * (j + 2) → ov_S3 h5 → ov_R u d (ov_mL nm) 1462 [(0, ov_r (-4)), (1, ov_r 0), (2, ov_r 90), (3, ov_i x3)] [] z5 h5 ov_LQ) : ov_R u d (ov_mL nm) 554 [(0, ov_r (-4)), (1, ov_r 0), (2, ov_r 90), (3, ov_i x3)] [] z h ov_LQ := by
  have I := ov_LK_I (M := 1237940038997149967466873327) K
  have hW := ov_LK_W (M := 1237940038997149967466873327) K
  have hJ0 := K.2.2.1
  have s3 := s103_2 K.2.1
  have hb0 : ov_bd (h, z) = 1000 * (j + 1) := gb
  refine ov_blk (ls2 := [(0, ov_r (-4)), (1, ov_r 0), (2, ov_r 90), (3, ov_i x3)]) (st2 := [ov_r 0]) (pc2 := 555) b_313_554_1 rfl rfl ?_
  refine ov_cV (as := []) (st := []) (d2 := d - 1) d_313_555 lk_Law_53 rfl (Nat.le_of_ble_eq_true rfl) (c := 0) (zb_0 I) (zs_0 I) ⟨by decide, rfl⟩ (by omega) (c_OF_look_0_t (d - 1) (by omega) U I (ov_FF_w (by decide +kernel))) ?_
  rintro _ z3 h4 ⟨v2, rfl, I5, f1, xc⟩
  show ov_R u d (ov_mL nm) 558 [(0, ov_r (-4)), (1, ov_r 0), (2, ov_r 90), (3, ov_i x3)] [ov_i v2] z3 h4 ov_LQ
  have f6 : (v2 = 0 ∨ v2 = 1) ∧ (h4 36 7) = (h 36 7) ∧ (h4 1 1) = (h 1 1) ∧ (h4 90 2) = (h 90 2) ∧ (h4 0 10) = (h 0 10) ∧ (h4 0 11) = (h 0 11) ∧ (h4 0 12) = (h 0 12) ∧ (h4 0 13) = (h 0 13) ∧ (h4 3 1) = (h 3 1) ∧ (h4 36 8) = (h 36 8) ∧ (h4 46 3) = (h 46 3) ∧ (h4 46 4) = (h 46 4) ∧ (h4 49 4) = (h 49 4) ∧ (h4 49 5) = (h 49 5) ∧ (h4 64 0) = (h 64 0) ∧ (h4 76 0) = (h 76 0) := f1
  clear f1
  have K1 := ov_LK_c (B := (1000 * (j + 2))) K I5 (fun b h0 _ => ov_FF_ge (by omega)) (by omega) (ov_HR_k hW I5 (by omega) (by omega) (by omega) (by omega)) (by omega)
  refine ov_gho (ov_up h4 (-77) 0 (1000 * (j + 2))) (fun a ha => (ov_up77 ha).symm) ?_
  have a1 : (ov_up h4 (-77) 0 (1000 * (j + 2))) 1 1 = h4 1 1 := congrFun (ov_up77 (by decide)) 1
  have a2 : (ov_up h4 (-77) 0 (1000 * (j + 2))) 90 2 = h4 90 2 := congrFun (ov_up77 (by decide)) 2
  have a3 : (ov_up h4 (-77) 0 (1000 * (j + 2))) (-77) 0 = (1000 * (j + 2)) := ov_uj.1 rfl
  have a5 : (ov_up h4 (-77) 0 (1000 * (j + 2))) 2 = h 2 := (ov_up77 (by decide)).trans (ov_FF_k I5 (Or.inl (by decide)) (by decide +kernel))
  have a6 : (ov_up h4 (-77) 0 (1000 * (j + 2))) 91 = h 91 := (ov_up77 (by decide)).trans ((I5.2.1 91 (by decide) (by decide)).trans (ov_FF_ge (by decide)))
  have a7 : (ov_up h4 (-77) 0 (1000 * (j + 2))) 95 = h 95 := (ov_up77 (by decide)).trans ((I5.2.1 95 (by decide) (by decide)).trans (ov_FF_ge (by decide)))
  have a96 : (ov_up h4 (-77) 0 (1000 * (j + 2))) 96 = h 96 := (ov_up77 (by decide)).trans ((I5.2.1 96 (by decide) (by decide)).trans (ov_FF_ge (by decide)))
  have aU : ∀ b : Int, 0 ≤ b → (ov_up h4 (-77) 0 (1000 * (j + 2))) b = h4 b := fun b hb => ov_up77 hb
  have eT0 : h4 0 10 = h 0 10 := by omega
  have aR : ∀ b : Int, 90 ≤ b → b < 115 → (ov_up h4 (-77) 0 (1000 * (j + 2))) b = h b := fun b b0 b1 => (ov_up77 (by omega)).trans ((I5.2.1 b b0 b1).trans (ov_FF_ge (by omega)))
  have a20 : (ov_up h4 (-77) 0 (1000 * (j + 2))) 90 20 = h 90 20 := congrFun (aR 90 (by decide) (by decide)) 20
  have a4 : (ov_up h4 (-77) 0 (1000 * (j + 2))) 103 2 = h 103 2 := (congrFun (ov_up77 (by decide)) 2).trans (congrFun ((I5.2.1 103 (by decide) (by decide)).trans (ov_FF_ge (by decide))) 2)
  generalize (ov_up h4 (-77) 0 (1000 * (j + 2))) = hg at K1 a1 a2 a3 a4 a5 a6 a7 a96 aU aR a20 ⊢
  have N1 := K1.2.1
  have hWT := K1.2.2.2.2.1
  have hCD := K1.2.2.2.2.2.1
  have hWK := K1.2.2.2.2.2.2.1
  have hPM : ov_PM (hg 96) (hg 103) (hg 97) (hg 98) (hg 105) (hg 106) (hg 90 22) (hg 90 25) (hg 90 26) (hg 90 28) (hg 90 29) (hg 90 30) := K1.2.2.2.2.2.2.2.1
  have hq1 := K1.2.2.2.2.2.2.2.2.1
  have hq2 := K1.2.2.2.2.2.2.2.2.2
  have hbd : ov_bd (hg, z3) = (1000 * (j + 2)) := a3
  have g103 := s103_2 N1
  show ov_R u d (ov_mL nm) 558 [(0, ov_r (-4)), (1, ov_r 0), (2, ov_r 90), (3, ov_i x3)] [ov_i v2] z3 hg ov_LQ
  refine ov_blk (ls2 := [(0, ov_r (-4)), (1, ov_r 0), (2, ov_r 90), (3, ov_i x3)]) (st2 := [ov_r 90]) (pc2 := 560) b_313_558_2 rfl rfl ?_
  refine ov_cV (as := []) (st := []) (d2 := d - 1) d_313_560 lk_Law_57 rfl (Nat.le_of_ble_eq_true rfl) (c := 1) (zb_90 N1) (zs_90 N1) ⟨by decide, rfl⟩ (by omega) (c_Mo_look_90_t (d - 1) (by omega) U N1 (by show 0 ≤ (hg 90 22) ∧ (hg 90 22) ≤ 2000000000; omega)) ?_
  rintro _ z26 h27 ⟨v8, rfl, I28, f7, e9, e10, e11, e12, e13, e14, e15, e16, e17, e18, e19, e20, e21, e22, e23, y24, y25⟩
  have E29 : h27 91 = hg 91 := e9
  have E30 : h27 92 = hg 92 := e10
  have E31 : h27 93 = hg 93 := e11
  have E32 : h27 94 = hg 94 := e12
  have E33 : h27 95 = hg 95 := e13
  have E34 : h27 96 = hg 96 := e14
  have E35 : h27 97 = hg 97 := e15
  have E36 : h27 98 = hg 98 := e16
  have E37 : h27 99 = hg 99 := e17
  have E38 : h27 100 = hg 100 := e18
  have E39 : h27 104 = hg 104 := e19
  have E40 : h27 105 = hg 105 := e20
  have E41 : h27 106 = hg 106 := e21
  have E42 : h27 109 = hg 109 := e22
  have E43 : h27 114 = hg 114 := e23
  show ov_R u d (ov_mL nm) 563 [(0, ov_r (-4)), (1, ov_r 0), (2, ov_r 90), (3, ov_i x3)] [ov_i v8] z26 h27 ov_LQ
  have f44 : (h27 90 2) = (hg 90 2) ∧ (h27 90 7) = (hg 90 7) ∧ (h27 90 8) = (hg 90 8) ∧ (h27 90 13) = (hg 90 13) ∧ (h27 90 25) = (hg 90 25) ∧ (h27 90 26) = (hg 90 26) ∧ (h27 90 28) = (hg 90 28) ∧ (h27 90 29) = (hg 90 29) ∧ (h27 90 30) = (hg 90 30) ∧ (h27 90 34) = (hg 90 34) ∧ (v8 = 0 ∨ v8 = 1) ∧ (hg 90 22) ≤ (h27 90 22) ∧ (h27 90 22) ≤ (hg 90 22) + 1 := f7
  clear f7
  have y24_ : ((h27 90 22) = (hg 90 22) ∧ (h27 103) = (hg 103)) ∨ (h27 90 22) = (hg 90 22) + 1 := y24
  have y25_ : (v8 = 0 ∧ ¬ ((hg 96 (10 + 4 * (6 * (hg 103 1) + (hg 103 0)))) = 2 ∧ ¬ (hg 103 (4 + 6 * (hg 103 1) + (hg 103 0))) = 1) ∧ (h27 103) = (hg 103) ∧ (h27 90 20) = (hg 90 20)) ∨ (v8 = 1 ∧ ((hg 96 (10 + 4 * (6 * (hg 103 1) + (hg 103 0)))) = 2 ∧ ¬ (hg 103 (4 + 6 * (hg 103 1) + (hg 103 0))) = 1) ∧ (h27 103) = ov_rs (kp_f (hg 103) (hg 90 20)) (4 + 6 * (hg 103 1) + (hg 103 0)) 1 ∧ (h27 90 20) = kp_u (hg 90 20)) := y25
  have K2 : ov_LK (1 + (j + 1)) (4000 * (j + 1)) z26 h27 := ov_LK_rv K1 I28 E34 E35 E36 E38 y24_ E40 E41 (by omega) (by omega) (by omega)
  have b1 : h27 1 1 = hg 1 1 := congrFun (I28.2.2.2 1 (Or.inl (by decide))) 1
  have b7 : h27 (-77) 0 = hg (-77) 0 := congrFun (I28.2.2.2 (-77) (Or.inl (by decide))) 0
  have c2 : h27 2 = hg 2 := I28.2.2.2 2 (Or.inl (by decide))
  have bL : ∀ b : Int, 0 ≤ b → b < 90 → h27 b = hg b := fun b _ q => I28.2.2.2 b (Or.inl q)
  have sx : v2 = v8 ∧ st_R h27 := st_look_t s0.2.2.2 (st_G_of I) s0.2.2.1 (rg_0_10 I) (s103_0 K.2.1) (s103_1 K.2.1) xc y25_ (fun a a0 a1 => (bL a a0 a1).trans (aU a a0)) (fun a a0 a1 a2 => ov_FF_k I5 (Or.inl (by omega)) ((by decide +kernel : ∀ n, n < 36 → (5 ≤ n ∧ (n < 9 ∨ 15 ≤ n)) → Nat.testBit 1237940038997149967466873327 n = true) a.toNat (by omega) (by omega))) aR E34 E39
  have er := sx.1
  have S2 : ov_S3 h27 := ⟨by rw [c2, E29, a5, a6]; exact s0.1, by rw [E33, a7]; exact s0.2.1, ov_HT_s s0.2.2.1 I5 (by decide +kernel) eT0 aU bL E34 a96, sx.2⟩
  refine ov_blk (ls2 := [(0, ov_r (-4)), (1, ov_r 0), (2, ov_r 90), (3, ov_i x3)]) (st2 := []) (pc2 := 564) b_313_563_1 rfl rfl ?_
  refine ov_goto (tgt := 1462) d_313_564 (by decide) ?_
  exact BK _ _ K2 (by omega) (by omega) S2
set_option maxHeartbeats 4000000 in
theorem lw_case_9 {u : ov_U} {nm : String} {d : Nat} (hd : 1000 ≤ d) (U : ov_cap u) {L : Nat} {xs : Nat → Int32} (X : ov_SC u L xs) (hL : L ≤ 3584) (x3 j : Int) (z : ov_Z) (h : ov_H) (K : ov_LK (1 + j) (4000 * j) z h) (e0 : h 1 1 = h 90 2) (gb : h (-77) 0 = 1000 * (j + 1)) (s0 : ov_S3 h) (q : 0 ≤ j ∧ x3 = 7 * j ∧ x3 ≤ L - 7) (BK : ∀ (z5 : ov_Z) (h5 : ov_H), ov_LK (1 + (j + 1)) (4000 * (j + 1)) z5 h5 → h5 1 1 = h5 90 2 → h5 (-77) 0 = 1000 * (j + 2) → ov_S3 h5 → ov_R u d (ov_mL nm) 1462 [(0, ov_r (-4)), (1, ov_r 0), (2, ov_r 90), (3, ov_i x3)] [] z5 h5 ov_LQ) : ov_R u d (ov_mL nm) 567 [(0, ov_r (-4)), (1, ov_r 0), (2, ov_r 90), (3, ov_i x3)] [] z h ov_LQ := by
  have I := ov_LK_I (M := 1237940038997149967466888687) K
  have hW := ov_LK_W (M := 1237940038997149967466888687) K
  have hJ0 := K.2.2.1
  have s3 := s103_2 K.2.1
  have hb0 : ov_bd (h, z) = 1000 * (j + 1) := gb
  refine ov_blk (ls2 := [(0, ov_r (-4)), (1, ov_r 0), (2, ov_r 90), (3, ov_i x3)]) (st2 := [ov_r 0]) (pc2 := 568) b_313_567_1 rfl rfl ?_
  refine ov_cV (as := []) (st := []) (d2 := d - 1) d_313_568 lk_Law_58 rfl (Nat.le_of_ble_eq_true rfl) (c := 0) (zb_0 I) (zs_0 I) ⟨by decide, rfl⟩ (by omega) (c_OF_undo_0_t (d - 1) (by omega) U I (ov_FF_w (by decide +kernel))) ?_
  rintro _ z3 h4 ⟨v2, rfl, I5, f1, xc⟩
  show ov_R u d (ov_mL nm) 571 [(0, ov_r (-4)), (1, ov_r 0), (2, ov_r 90), (3, ov_i x3)] [ov_i v2] z3 h4 ov_LQ
  have f6 : (v2 = 0 ∨ v2 = 1) ∧ (h4 36 7) = (h 36 7) ∧ (h4 1 1) = (h 1 1) ∧ (h4 90 2) = (h 90 2) ∧ (h4 0 10) = (h 0 10) ∧ (h4 0 11) = (h 0 11) ∧ (h4 0 12) = (h 0 12) ∧ (h4 0 13) = (h 0 13) ∧ (h4 3 1) = (h 3 1) ∧ (h4 36 8) = (h 36 8) ∧ (h4 46 3) = (h 46 3) ∧ (h4 46 4) = (h 46 4) ∧ (h4 49 4) = (h 49 4) ∧ (h4 49 5) = (h 49 5) ∧ (h4 64 0) = (h 64 0) ∧ (h4 76 0) = (h 76 0) := f1
  clear f1
  have K1 := ov_LK_c (B := (1000 * (j + 2))) K I5 (fun b h0 _ => ov_FF_ge (by omega)) (by omega) (ov_HR_k hW I5 (by omega) (by omega) (by omega) (by omega)) (by omega)
  refine ov_gho (ov_up h4 (-77) 0 (1000 * (j + 2))) (fun a ha => (ov_up77 ha).symm) ?_
  have a1 : (ov_up h4 (-77) 0 (1000 * (j + 2))) 1 1 = h4 1 1 := congrFun (ov_up77 (by decide)) 1
  have a2 : (ov_up h4 (-77) 0 (1000 * (j + 2))) 90 2 = h4 90 2 := congrFun (ov_up77 (by decide)) 2
  have a3 : (ov_up h4 (-77) 0 (1000 * (j + 2))) (-77) 0 = (1000 * (j + 2)) := ov_uj.1 rfl
  have a5 : (ov_up h4 (-77) 0 (1000 * (j + 2))) 2 = h 2 := (ov_up77 (by decide)).trans (ov_FF_k I5 (Or.inl (by decide)) (by decide +kernel))
  have a6 : (ov_up h4 (-77) 0 (1000 * (j + 2))) 91 = h 91 := (ov_up77 (by decide)).trans ((I5.2.1 91 (by decide) (by decide)).trans (ov_FF_ge (by decide)))
  have a7 : (ov_up h4 (-77) 0 (1000 * (j + 2))) 95 = h 95 := (ov_up77 (by decide)).trans ((I5.2.1 95 (by decide) (by decide)).trans (ov_FF_ge (by decide)))
  have a96 : (ov_up h4 (-77) 0 (1000 * (j + 2))) 96 = h 96 := (ov_up77 (by decide)).trans ((I5.2.1 96 (by decide) (by decide)).trans (ov_FF_ge (by decide)))
  have aU : ∀ b : Int, 0 ≤ b → (ov_up h4 (-77) 0 (1000 * (j + 2))) b = h4 b := fun b hb => ov_up77 hb
  have eT0 : h4 0 10 = h 0 10 := by omega
  have aR : ∀ b : Int, 90 ≤ b → b < 115 → (ov_up h4 (-77) 0 (1000 * (j + 2))) b = h b := fun b b0 b1 => (ov_up77 (by omega)).trans ((I5.2.1 b b0 b1).trans (ov_FF_ge (by omega)))
  have a20 : (ov_up h4 (-77) 0 (1000 * (j + 2))) 90 20 = h 90 20 := congrFun (aR 90 (by decide) (by decide)) 20
  have a4 : (ov_up h4 (-77) 0 (1000 * (j + 2))) 103 2 = h 103 2 := (congrFun (ov_up77 (by decide)) 2).trans (congrFun ((I5.2.1 103 (by decide) (by decide)).trans (ov_FF_ge (by decide))) 2)
  generalize (ov_up h4 (-77) 0 (1000 * (j + 2))) = hg at K1 a1 a2 a3 a4 a5 a6 a7 a96 aU aR a20 ⊢
  have N1 := K1.2.1
  have hWT := K1.2.2.2.2.1
  have hCD := K1.2.2.2.2.2.1
  have hWK := K1.2.2.2.2.2.2.1
  have hPM : ov_PM (hg 96) (hg 103) (hg 97) (hg 98) (hg 105) (hg 106) (hg 90 22) (hg 90 25) (hg 90 26) (hg 90 28) (hg 90 29) (hg 90 30) := K1.2.2.2.2.2.2.2.1
  have hq1 := K1.2.2.2.2.2.2.2.2.1
  have hq2 := K1.2.2.2.2.2.2.2.2.2
  have hbd : ov_bd (hg, z3) = (1000 * (j + 2)) := a3
  have g103 := s103_2 N1
  show ov_R u d (ov_mL nm) 571 [(0, ov_r (-4)), (1, ov_r 0), (2, ov_r 90), (3, ov_i x3)] [ov_i v2] z3 hg ov_LQ
  refine ov_blk (ls2 := [(0, ov_r (-4)), (1, ov_r 0), (2, ov_r 90), (3, ov_i x3)]) (st2 := [ov_r 90]) (pc2 := 573) b_313_571_2 rfl rfl ?_
  refine ov_cV (as := []) (st := []) (d2 := d - 1) d_313_573 lk_Law_61 rfl (Nat.le_of_ble_eq_true rfl) (c := 1) (zb_90 N1) (zs_90 N1) ⟨by decide, rfl⟩ (by omega) (c_Mo_undo_90_t (d - 1) (by omega) U N1 (by show 0 ≤ (hg 90 22) ∧ (hg 90 22) ≤ 2000000000; omega)) ?_
  rintro _ z26 h27 ⟨v8, rfl, I28, f7, e9, e10, e11, e12, e13, e14, e15, e16, e17, e18, e19, e20, e21, e22, e23, y24, y25⟩
  have E29 : h27 91 = hg 91 := e9
  have E30 : h27 92 = hg 92 := e10
  have E31 : h27 93 = hg 93 := e11
  have E32 : h27 94 = hg 94 := e12
  have E33 : h27 95 = hg 95 := e13
  have E34 : h27 96 = hg 96 := e14
  have E35 : h27 97 = hg 97 := e15
  have E36 : h27 98 = hg 98 := e16
  have E37 : h27 99 = hg 99 := e17
  have E38 : h27 100 = hg 100 := e18
  have E39 : h27 104 = hg 104 := e19
  have E40 : h27 105 = hg 105 := e20
  have E41 : h27 106 = hg 106 := e21
  have E42 : h27 109 = hg 109 := e22
  have E43 : h27 114 = hg 114 := e23
  show ov_R u d (ov_mL nm) 576 [(0, ov_r (-4)), (1, ov_r 0), (2, ov_r 90), (3, ov_i x3)] [ov_i v8] z26 h27 ov_LQ
  have f44 : (h27 90 2) = (hg 90 2) ∧ (h27 90 7) = (hg 90 7) ∧ (h27 90 8) = (hg 90 8) ∧ (h27 90 13) = (hg 90 13) ∧ (h27 90 25) = (hg 90 25) ∧ (h27 90 26) = (hg 90 26) ∧ (h27 90 28) = (hg 90 28) ∧ (h27 90 29) = (hg 90 29) ∧ (h27 90 30) = (hg 90 30) ∧ (h27 90 34) = (hg 90 34) ∧ (v8 = 0 ∨ v8 = 1) ∧ (hg 90 22) ≤ (h27 90 22) ∧ (h27 90 22) ≤ (hg 90 22) + 1 := f7
  clear f7
  have y24_ : ((h27 90 22) = (hg 90 22) ∧ (h27 103) = (hg 103)) ∨ (h27 90 22) = (hg 90 22) + 1 := y24
  have y25_ : (v8 = 0 ∧ (hg 90 20) = 0 ∧ (h27 103) = (hg 103) ∧ (h27 90 20) = (hg 90 20)) ∨ (v8 = 1 ∧ ¬ (hg 90 20) = 0 ∧ (h27 103) = cp_f (hg 103) (5 + ((hg 90 20) - 1)) 0 58 ∧ (h27 90 20) = (hg 90 20) - 1) := y25
  have K2 : ov_LK (1 + (j + 1)) (4000 * (j + 1)) z26 h27 := ov_LK_rv K1 I28 E34 E35 E36 E38 y24_ E40 E41 (by omega) (by omega) (by omega)
  have b1 : h27 1 1 = hg 1 1 := congrFun (I28.2.2.2 1 (Or.inl (by decide))) 1
  have b7 : h27 (-77) 0 = hg (-77) 0 := congrFun (I28.2.2.2 (-77) (Or.inl (by decide))) 0
  have c2 : h27 2 = hg 2 := I28.2.2.2 2 (Or.inl (by decide))
  have bL : ∀ b : Int, 0 ≤ b → b < 90 → h27 b = hg b := fun b _ q => I28.2.2.2 b (Or.inl q)
  have sx : v2 = v8 ∧ st_R h27 := st_undo_e s0.2.2.2 (st_G_of I) xc y25_ (fun a a0 a1 => (bL a a0 a1).trans (aU a a0)) (fun a a0 a1 a2 a3 => ov_FF_k I5 (Or.inl (by omega)) ((by decide +kernel : ∀ n, n < 36 → (5 ≤ n ∧ (n < 9 ∨ 10 ≤ n) ∧ (n < 14 ∨ 15 ≤ n)) → Nat.testBit 1237940038997149967466888687 n = true) a.toNat (by omega) (by omega))) aR E34 E39
  have er := sx.1
  have S2 : ov_S3 h27 := ⟨by rw [c2, E29, a5, a6]; exact s0.1, by rw [E33, a7]; exact s0.2.1, ov_HT_s s0.2.2.1 I5 (by decide +kernel) eT0 aU bL E34 a96, sx.2⟩
  refine ov_blk (ls2 := [(0, ov_r (-4)), (1, ov_r 0), (2, ov_r 90), (3, ov_i x3)]) (st2 := []) (pc2 := 577) b_313_576_1 rfl rfl ?_
  refine ov_goto (tgt := 1462) d_313_577 (by decide) ?_
  exact BK _ _ K2 (by omega) (by omega) S2
set_option maxHeartbeats 4000000 in
theorem lw_case_10 {u : ov_U} {nm : String} {d : Nat} (hd : 1000 ≤ d) (U : ov_cap u) {L : Nat} {xs : Nat → Int32} (X : ov_SC u L xs) (hL : L ≤ 3584) (x3 j : Int) (z : ov_Z) (h : ov_H) (K : ov_LK (1 + j) (4000 * j) z h) (e0 : h 1 1 = h 90 2) (gb : h (-77) 0 = 1000 * (j + 1)) (s0 : ov_S3 h) (q : 0 ≤ j ∧ x3 = 7 * j ∧ x3 ≤ L - 7) (BK : ∀ (z5 : ov_Z) (h5 : ov_H), ov_LK (1 + (j + 1)) (4000 * (j + 1)) z5 h5 → h5 1 1 = h5 90 2 → h5 (-77) 0 = 1000 * (j + 2) → ov_S3 h5 → ov_R u d (ov_mL nm) 1462 [(0, ov_r (-4)), (1, ov_r 0), (2, ov_r 90), (3, ov_i x3)] [] z5 h5 ov_LQ) : ov_R u d (ov_mL nm) 580 [(0, ov_r (-4)), (1, ov_r 0), (2, ov_r 90), (3, ov_i x3)] [] z h ov_LQ := by
  have I := ov_LK_I (M := 1237940038997149967466889215) K
  have hW := ov_LK_W (M := 1237940038997149967466889215) K
  have hJ0 := K.2.2.1
  have s3 := s103_2 K.2.1
  have hb0 : ov_bd (h, z) = 1000 * (j + 1) := gb
  refine ov_blk (ls2 := [(0, ov_r (-4)), (1, ov_r 0), (2, ov_r 90), (3, ov_i x3)]) (st2 := [ov_r 0]) (pc2 := 581) b_313_580_1 rfl rfl ?_
  refine ov_cV (as := []) (st := []) (d2 := d - 1) d_313_581 lk_Law_62 rfl (Nat.le_of_ble_eq_true rfl) (c := 0) (zb_0 I) (zs_0 I) ⟨by decide, rfl⟩ (by omega) (c_OF_judged_0 (d - 1) (by omega) U I) ?_
  rintro _ _ _ ⟨v2, rfl, rfl, rfl, f1⟩
  show ov_R u d (ov_mL nm) 584 [(0, ov_r (-4)), (1, ov_r 0), (2, ov_r 90), (3, ov_i x3)] [ov_i v2] z h ov_LQ
  clear f1
  have K1 := ov_LK_c (B := (1000 * (j + 2))) K I (fun b h0 _ => ov_FF_ge (by omega)) (by omega) K.2.2.2.1 (by omega)
  refine ov_gho (ov_up h (-77) 0 (1000 * (j + 2))) (fun a ha => (ov_up77 ha).symm) ?_
  have a1 : (ov_up h (-77) 0 (1000 * (j + 2))) 1 1 = h 1 1 := congrFun (ov_up77 (by decide)) 1
  have a2 : (ov_up h (-77) 0 (1000 * (j + 2))) 90 2 = h 90 2 := congrFun (ov_up77 (by decide)) 2
  have a3 : (ov_up h (-77) 0 (1000 * (j + 2))) (-77) 0 = (1000 * (j + 2)) := ov_uj.1 rfl
  have a5 : (ov_up h (-77) 0 (1000 * (j + 2))) 2 = h 2 := (ov_up77 (by decide)).trans (ov_FF_k I (Or.inl (by decide)) (by decide +kernel))
  have a6 : (ov_up h (-77) 0 (1000 * (j + 2))) 91 = h 91 := (ov_up77 (by decide)).trans ((I.2.1 91 (by decide) (by decide)).trans (ov_FF_ge (by decide)))
  have a7 : (ov_up h (-77) 0 (1000 * (j + 2))) 95 = h 95 := (ov_up77 (by decide)).trans ((I.2.1 95 (by decide) (by decide)).trans (ov_FF_ge (by decide)))
  have a96 : (ov_up h (-77) 0 (1000 * (j + 2))) 96 = h 96 := (ov_up77 (by decide)).trans ((I.2.1 96 (by decide) (by decide)).trans (ov_FF_ge (by decide)))
  have aU : ∀ b : Int, 0 ≤ b → (ov_up h (-77) 0 (1000 * (j + 2))) b = h b := fun b hb => ov_up77 hb
  have eT0 : h 0 10 = h 0 10 := by omega
  have aR : ∀ b : Int, 90 ≤ b → b < 115 → (ov_up h (-77) 0 (1000 * (j + 2))) b = h b := fun b b0 b1 => (ov_up77 (by omega)).trans ((I.2.1 b b0 b1).trans (ov_FF_ge (by omega)))
  have a20 : (ov_up h (-77) 0 (1000 * (j + 2))) 90 20 = h 90 20 := congrFun (aR 90 (by decide) (by decide)) 20
  have a4 : (ov_up h (-77) 0 (1000 * (j + 2))) 103 2 = h 103 2 := (congrFun (ov_up77 (by decide)) 2).trans (congrFun ((I.2.1 103 (by decide) (by decide)).trans (ov_FF_ge (by decide))) 2)
  generalize (ov_up h (-77) 0 (1000 * (j + 2))) = hg at K1 a1 a2 a3 a4 a5 a6 a7 a96 aU aR a20 ⊢
  have N1 := K1.2.1
  have hWT := K1.2.2.2.2.1
  have hCD := K1.2.2.2.2.2.1
  have hWK := K1.2.2.2.2.2.2.1
  have hPM : ov_PM (hg 96) (hg 103) (hg 97) (hg 98) (hg 105) (hg 106) (hg 90 22) (hg 90 25) (hg 90 26) (hg 90 28) (hg 90 29) (hg 90 30) := K1.2.2.2.2.2.2.2.1
  have hq1 := K1.2.2.2.2.2.2.2.2.1
  have hq2 := K1.2.2.2.2.2.2.2.2.2
  have hbd : ov_bd (hg, z) = (1000 * (j + 2)) := a3
  have g103 := s103_2 N1
  show ov_R u d (ov_mL nm) 584 [(0, ov_r (-4)), (1, ov_r 0), (2, ov_r 90), (3, ov_i x3)] [ov_i v2] z hg ov_LQ
  refine ov_blk (ls2 := [(0, ov_r (-4)), (1, ov_r 0), (2, ov_r 90), (3, ov_i x3)]) (st2 := [ov_r 90]) (pc2 := 586) b_313_584_2 rfl rfl ?_
  refine ov_cV (as := []) (st := []) (d2 := d - 1) d_313_586 lk_Law_65 rfl (Nat.le_of_ble_eq_true rfl) (c := 1) (zb_90 N1) (zs_90 N1) ⟨by decide, rfl⟩ (by omega) (c_Mo_judged_90 (d - 1) (by omega) U N1 hWT hWK) ?_
  rintro _ z21 h22 ⟨v4, rfl, I23, f3, e5, e6, e7, e8, e9, e10, e11, e12, e13, e14, e15, e16, e17, e18, e19, e20⟩
  have E24 : h22 91 = hg 91 := e5
  have E25 : h22 92 = hg 92 := e6
  have E26 : h22 93 = hg 93 := e7
  have E27 : h22 94 = hg 94 := e8
  have E28 : h22 95 = hg 95 := e9
  have E29 : h22 96 = hg 96 := e10
  have E30 : h22 97 = hg 97 := e11
  have E31 : h22 98 = hg 98 := e12
  have E32 : h22 99 = hg 99 := e13
  have E33 : h22 100 = hg 100 := e14
  have E34 : h22 103 = hg 103 := e15
  have E35 : h22 104 = hg 104 := e16
  have E36 : h22 105 = hg 105 := e17
  have E37 : h22 106 = hg 106 := e18
  have E38 : h22 109 = hg 109 := e19
  have E39 : h22 114 = hg 114 := e20
  show ov_R u d (ov_mL nm) 589 [(0, ov_r (-4)), (1, ov_r 0), (2, ov_r 90), (3, ov_i x3)] [ov_i v4] z21 h22 ov_LQ
  have f40 : (h22 90 2) = (hg 90 2) ∧ (h22 90 7) = (hg 90 7) ∧ (h22 90 8) = (hg 90 8) ∧ (h22 90 13) = (hg 90 13) ∧ (h22 90 20) = (hg 90 20) ∧ (h22 90 22) = (hg 90 22) ∧ (h22 90 25) = (hg 90 25) ∧ (h22 90 26) = (hg 90 26) ∧ (h22 90 28) = (hg 90 28) ∧ (h22 90 29) = (hg 90 29) ∧ (h22 90 30) = (hg 90 30) ∧ (h22 90 34) = (hg 90 34) ∧ -2147483648 ≤ v4 ∧ v4 ≤ 2147483647 := f3
  clear f3
  have K2 : ov_LK (1 + (j + 1)) (4000 * (j + 1)) z21 h22 := ov_LK_r0 K1 I23 E29 E30 E31 E33 E34 E36 E37 (by omega) (by omega) (by omega)
  have b1 : h22 1 1 = hg 1 1 := congrFun (I23.2.2.2 1 (Or.inl (by decide))) 1
  have b7 : h22 (-77) 0 = hg (-77) 0 := congrFun (I23.2.2.2 (-77) (Or.inl (by decide))) 0
  have c2 : h22 2 = hg 2 := I23.2.2.2 2 (Or.inl (by decide))
  have bL : ∀ b : Int, 0 ≤ b → b < 90 → h22 b = hg b := fun b _ q => I23.2.2.2 b (Or.inl q)
  have S2 : ov_S3 h22 := ⟨by rw [c2, E24, a5, a6]; exact s0.1, by rw [E28, a7]; exact s0.2.1, ov_HT_s s0.2.2.1 I (by decide +kernel) eT0 aU bL E29 a96, st_same s0.2.2.2 (fun a a0 a1 a2 => ((bL a (by omega) (by omega)).trans (aU a (by omega))).trans (ov_FF_k I (Or.inl (by omega)) ((by decide +kernel : ∀ n, n < 36 → (4 ≤ n ∧ (n < 14 ∨ 15 ≤ n)) → Nat.testBit 1237940038997149967466889215 n = true) a.toNat (by omega) (by omega)))) (E34.trans (aR 103 (by decide) (by decide))) (fun m _ _ => congrFun (E35.trans (aR 104 (by decide) (by decide))) m) (congrFun (E29.trans (aR 96 (by decide) (by decide))) 5) (by omega)⟩
  refine ov_blk (ls2 := [(0, ov_r (-4)), (1, ov_r 0), (2, ov_r 90), (3, ov_i x3)]) (st2 := []) (pc2 := 590) b_313_589_1 rfl rfl ?_
  refine ov_goto (tgt := 1462) d_313_590 (by decide) ?_
  exact BK _ _ K2 (by omega) (by omega) S2
set_option maxHeartbeats 4000000 in
theorem lw_case_11 {u : ov_U} {nm : String} {d : Nat} (hd : 1000 ≤ d) (U : ov_cap u) {L : Nat} {xs : Nat → Int32} (X : ov_SC u L xs) (hL : L ≤ 3584) (x3 j : Int) (z : ov_Z) (h : ov_H) (K : ov_LK (1 + j) (4000 * j) z h) (e0 : h 1 1 = h 90 2) (gb : h (-77) 0 = 1000 * (j + 1)) (s0 : ov_S3 h) (q : 0 ≤ j ∧ x3 = 7 * j ∧ x3 ≤ L - 7) (BK : ∀ (z5 : ov_Z) (h5 : ov_H), ov_LK (1 + (j + 1)) (4000 * (j + 1)) z5 h5 → h5 1 1 = h5 90 2 → h5 (-77) 0 = 1000 * (j + 2) → ov_S3 h5 → ov_R u d (ov_mL nm) 1462 [(0, ov_r (-4)), (1, ov_r 0), (2, ov_r 90), (3, ov_i x3)] [] z5 h5 ov_LQ) : ov_R u d (ov_mL nm) 593 [(0, ov_r (-4)), (1, ov_r 0), (2, ov_r 90), (3, ov_i x3)] [] z h ov_LQ := by
  have I := ov_LK_I (M := 1237940038997149967466889215) K
  have hW := ov_LK_W (M := 1237940038997149967466889215) K
  have hJ0 := K.2.2.1
  have s3 := s103_2 K.2.1
  have hb0 : ov_bd (h, z) = 1000 * (j + 1) := gb
  refine ov_blk (ls2 := [(0, ov_r (-4)), (1, ov_r 0), (2, ov_r 90), (3, ov_i x3)]) (st2 := [ov_i (x3 + 1), ov_r (-4), ov_r 0]) (pc2 := 598) b_313_593_5 rfl rfl ?_
  refine ov_scl X d_313_598 (by omega) ?_
  have g1 := ov_xs_g xs (x3 + 1)
  refine ov_blk (ls2 := [(0, ov_r (-4)), (1, ov_r 0), (2, ov_r 90), (3, ov_i x3)]) (st2 := [ov_i (x3 + 2), ov_r (-4), ov_i (ov_xs xs (x3 + 1)), ov_r 0]) (pc2 := 603) b_313_599_4 rfl rfl ?_
  refine ov_scl X d_313_603 (by omega) ?_
  have g2 := ov_xs_g xs (x3 + 2)
  refine ov_blk (ls2 := [(0, ov_r (-4)), (1, ov_r 0), (2, ov_r 90), (3, ov_i x3)]) (st2 := [ov_i (x3 + 3), ov_r (-4), ov_i (ov_xs xs (x3 + 2)), ov_i (ov_xs xs (x3 + 1)), ov_r 0]) (pc2 := 608) b_313_604_4 rfl rfl ?_
  refine ov_scl X d_313_608 (by omega) ?_
  have g3 := ov_xs_g xs (x3 + 3)
  refine ov_blk (ls2 := [(0, ov_r (-4)), (1, ov_r 0), (2, ov_r 90), (3, ov_i x3)]) (st2 := [ov_i (x3 + 4), ov_r (-4), ov_i (ov_xs xs (x3 + 3)), ov_i (ov_xs xs (x3 + 2)), ov_i (ov_xs xs (x3 + 1)), ov_r 0]) (pc2 := 613) b_313_609_4 rfl rfl ?_
  refine ov_scl X d_313_613 (by omega) ?_
  have g4 := ov_xs_g xs (x3 + 4)
  refine ov_cV (as := [ov_i (ov_xs xs (x3 + 1)), ov_i (ov_xs xs (x3 + 2)), ov_i (ov_xs xs (x3 + 3)), ov_i (ov_xs xs (x3 + 4))]) (st := []) (d2 := d - 1) d_313_614 lk_Law_66 rfl (Nat.le_of_ble_eq_true rfl) (c := 0) (zb_0 I) (zs_0 I) ⟨by decide, rfl⟩ (by omega) (c_OF_soonest_0 (d - 1) (by omega) U I (ov_xs xs (x3 + 1)) (ov_xs xs (x3 + 2)) (ov_xs xs (x3 + 3)) (ov_xs xs (x3 + 4)) (by omega) (by omega) (by omega) (by omega) (by omega) (by omega)) ?_
  rintro _ z7 h8 ⟨v6, rfl, I9, f5⟩
  show ov_R u d (ov_mL nm) 617 [(0, ov_r (-4)), (1, ov_r 0), (2, ov_r 90), (3, ov_i x3)] [ov_i v6] z7 h8 ov_LQ
  have f10 : (h8 36 7) = (h 36 7) ∧ (h8 1 1) = (h 1 1) ∧ (h8 90 2) = (h 90 2) ∧ (h8 0 10) = (h 0 10) ∧ (h8 0 11) = (h 0 11) ∧ (h8 0 12) = (h 0 12) ∧ (h8 0 13) = (h 0 13) ∧ (h8 3 1) = (h 3 1) ∧ (h8 36 8) = (h 36 8) ∧ (h8 46 4) = (h 46 4) ∧ (h8 49 4) = (h 49 4) ∧ (h8 49 5) = (h 49 5) ∧ (h8 64 0) = (h 64 0) ∧ (h8 76 0) = (h 76 0) := f5
  clear f5
  have K1 := ov_LK_c (B := (1000 * (j + 2))) K I9 (fun b h0 _ => ov_FF_ge (by omega)) (by omega) (ov_HR_k hW I9 (by omega) (by omega) (by omega) (by omega)) (by omega)
  refine ov_gho (ov_up h8 (-77) 0 (1000 * (j + 2))) (fun a ha => (ov_up77 ha).symm) ?_
  have a1 : (ov_up h8 (-77) 0 (1000 * (j + 2))) 1 1 = h8 1 1 := congrFun (ov_up77 (by decide)) 1
  have a2 : (ov_up h8 (-77) 0 (1000 * (j + 2))) 90 2 = h8 90 2 := congrFun (ov_up77 (by decide)) 2
  have a3 : (ov_up h8 (-77) 0 (1000 * (j + 2))) (-77) 0 = (1000 * (j + 2)) := ov_uj.1 rfl
  have a5 : (ov_up h8 (-77) 0 (1000 * (j + 2))) 2 = h 2 := (ov_up77 (by decide)).trans (ov_FF_k I9 (Or.inl (by decide)) (by decide +kernel))
  have a6 : (ov_up h8 (-77) 0 (1000 * (j + 2))) 91 = h 91 := (ov_up77 (by decide)).trans ((I9.2.1 91 (by decide) (by decide)).trans (ov_FF_ge (by decide)))
  have a7 : (ov_up h8 (-77) 0 (1000 * (j + 2))) 95 = h 95 := (ov_up77 (by decide)).trans ((I9.2.1 95 (by decide) (by decide)).trans (ov_FF_ge (by decide)))
  have a96 : (ov_up h8 (-77) 0 (1000 * (j + 2))) 96 = h 96 := (ov_up77 (by decide)).trans ((I9.2.1 96 (by decide) (by decide)).trans (ov_FF_ge (by decide)))
  have aU : ∀ b : Int, 0 ≤ b → (ov_up h8 (-77) 0 (1000 * (j + 2))) b = h8 b := fun b hb => ov_up77 hb
  have eT0 : h8 0 10 = h 0 10 := by omega
  have aR : ∀ b : Int, 90 ≤ b → b < 115 → (ov_up h8 (-77) 0 (1000 * (j + 2))) b = h b := fun b b0 b1 => (ov_up77 (by omega)).trans ((I9.2.1 b b0 b1).trans (ov_FF_ge (by omega)))
  have a20 : (ov_up h8 (-77) 0 (1000 * (j + 2))) 90 20 = h 90 20 := congrFun (aR 90 (by decide) (by decide)) 20
  have a4 : (ov_up h8 (-77) 0 (1000 * (j + 2))) 103 2 = h 103 2 := (congrFun (ov_up77 (by decide)) 2).trans (congrFun ((I9.2.1 103 (by decide) (by decide)).trans (ov_FF_ge (by decide))) 2)
  generalize (ov_up h8 (-77) 0 (1000 * (j + 2))) = hg at K1 a1 a2 a3 a4 a5 a6 a7 a96 aU aR a20 ⊢
  have N1 := K1.2.1
  have hWT := K1.2.2.2.2.1
  have hCD := K1.2.2.2.2.2.1
  have hWK := K1.2.2.2.2.2.2.1
  have hPM : ov_PM (hg 96) (hg 103) (hg 97) (hg 98) (hg 105) (hg 106) (hg 90 22) (hg 90 25) (hg 90 26) (hg 90 28) (hg 90 29) (hg 90 30) := K1.2.2.2.2.2.2.2.1
  have hq1 := K1.2.2.2.2.2.2.2.2.1
  have hq2 := K1.2.2.2.2.2.2.2.2.2
  have hbd : ov_bd (hg, z7) = (1000 * (j + 2)) := a3
  have g103 := s103_2 N1
  show ov_R u d (ov_mL nm) 617 [(0, ov_r (-4)), (1, ov_r 0), (2, ov_r 90), (3, ov_i x3)] [ov_i v6] z7 hg ov_LQ
  refine ov_blk (ls2 := [(0, ov_r (-4)), (1, ov_r 0), (2, ov_r 90), (3, ov_i x3)]) (st2 := [ov_i (x3 + 1), ov_r (-4), ov_r 90]) (pc2 := 623) b_313_617_6 rfl rfl ?_
  refine ov_scl X d_313_623 (by omega) ?_
  refine ov_blk (ls2 := [(0, ov_r (-4)), (1, ov_r 0), (2, ov_r 90), (3, ov_i x3)]) (st2 := [ov_i (x3 + 2), ov_r (-4), ov_i (ov_xs xs (x3 + 1)), ov_r 90]) (pc2 := 628) b_313_624_4 rfl rfl ?_
  refine ov_scl X d_313_628 (by omega) ?_
  refine ov_blk (ls2 := [(0, ov_r (-4)), (1, ov_r 0), (2, ov_r 90), (3, ov_i x3)]) (st2 := [ov_i (x3 + 3), ov_r (-4), ov_i (ov_xs xs (x3 + 2)), ov_i (ov_xs xs (x3 + 1)), ov_r 90]) (pc2 := 633) b_313_629_4 rfl rfl ?_
  refine ov_scl X d_313_633 (by omega) ?_
  refine ov_blk (ls2 := [(0, ov_r (-4)), (1, ov_r 0), (2, ov_r 90), (3, ov_i x3)]) (st2 := [ov_i (x3 + 4), ov_r (-4), ov_i (ov_xs xs (x3 + 3)), ov_i (ov_xs xs (x3 + 2)), ov_i (ov_xs xs (x3 + 1)), ov_r 90]) (pc2 := 638) b_313_634_4 rfl rfl ?_
  refine ov_scl X d_313_638 (by omega) ?_
  refine ov_cV (as := [ov_i (ov_xs xs (x3 + 1)), ov_i (ov_xs xs (x3 + 2)), ov_i (ov_xs xs (x3 + 3)), ov_i (ov_xs xs (x3 + 4))]) (st := []) (d2 := d - 1) d_313_639 lk_Law_69 rfl (Nat.le_of_ble_eq_true rfl) (c := 1) (zb_90 N1) (zs_90 N1) ⟨by decide, rfl⟩ (by omega) (c_Mo_soonest_90 (d - 1) (by omega) U N1 (ov_xs xs (x3 + 1)) (ov_xs xs (x3 + 2)) (ov_xs xs (x3 + 3)) (ov_xs xs (x3 + 4)) (by omega) (by omega) (by omega) (by omega) hWT) ?_
  rintro _ z33 h34 ⟨v16, rfl, I35, f15, e17, e18, e19, e20, e21, e22, e23, e24, e25, e26, e27, e28, e29, e30, e31, e32⟩
  have E36 : h34 91 = hg 91 := e17
  have E37 : h34 92 = hg 92 := e18
  have E38 : h34 93 = hg 93 := e19
  have E39 : h34 94 = hg 94 := e20
  have E40 : h34 95 = hg 95 := e21
  have E41 : h34 96 = hg 96 := e22
  have E42 : h34 97 = hg 97 := e23
  have E43 : h34 98 = hg 98 := e24
  have E44 : h34 99 = hg 99 := e25
  have E45 : h34 100 = hg 100 := e26
  have E46 : h34 103 = hg 103 := e27
  have E47 : h34 104 = hg 104 := e28
  have E48 : h34 105 = hg 105 := e29
  have E49 : h34 106 = hg 106 := e30
  have E50 : h34 109 = hg 109 := e31
  have E51 : h34 114 = hg 114 := e32
  show ov_R u d (ov_mL nm) 642 [(0, ov_r (-4)), (1, ov_r 0), (2, ov_r 90), (3, ov_i x3)] [ov_i v16] z33 h34 ov_LQ
  have f52 : (h34 90 2) = (hg 90 2) ∧ (h34 90 7) = (hg 90 7) ∧ (h34 90 8) = (hg 90 8) ∧ (h34 90 13) = (hg 90 13) ∧ (h34 90 20) = (hg 90 20) ∧ (h34 90 22) = (hg 90 22) ∧ (h34 90 25) = (hg 90 25) ∧ (h34 90 26) = (hg 90 26) ∧ (h34 90 28) = (hg 90 28) ∧ (h34 90 29) = (hg 90 29) ∧ (h34 90 30) = (hg 90 30) ∧ (h34 90 34) = (hg 90 34) ∧ -2147483648 ≤ v16 ∧ v16 ≤ 2147483647 := f15
  clear f15
  have K2 : ov_LK (1 + (j + 1)) (4000 * (j + 1)) z33 h34 := ov_LK_r0 K1 I35 E41 E42 E43 E45 E46 E48 E49 (by omega) (by omega) (by omega)
  have b1 : h34 1 1 = hg 1 1 := congrFun (I35.2.2.2 1 (Or.inl (by decide))) 1
  have b7 : h34 (-77) 0 = hg (-77) 0 := congrFun (I35.2.2.2 (-77) (Or.inl (by decide))) 0
  have c2 : h34 2 = hg 2 := I35.2.2.2 2 (Or.inl (by decide))
  have bL : ∀ b : Int, 0 ≤ b → b < 90 → h34 b = hg b := fun b _ q => I35.2.2.2 b (Or.inl q)
  have S2 : ov_S3 h34 := ⟨by rw [c2, E36, a5, a6]; exact s0.1, by rw [E40, a7]; exact s0.2.1, ov_HT_s s0.2.2.1 I9 (by decide +kernel) eT0 aU bL E41 a96, st_same s0.2.2.2 (fun a a0 a1 a2 => ((bL a (by omega) (by omega)).trans (aU a (by omega))).trans (ov_FF_k I9 (Or.inl (by omega)) ((by decide +kernel : ∀ n, n < 36 → (4 ≤ n ∧ (n < 14 ∨ 15 ≤ n)) → Nat.testBit 1237940038997149967466889215 n = true) a.toNat (by omega) (by omega)))) (E46.trans (aR 103 (by decide) (by decide))) (fun m _ _ => congrFun (E47.trans (aR 104 (by decide) (by decide))) m) (congrFun (E41.trans (aR 96 (by decide) (by decide))) 5) (by omega)⟩
  refine ov_blk (ls2 := [(0, ov_r (-4)), (1, ov_r 0), (2, ov_r 90), (3, ov_i x3)]) (st2 := []) (pc2 := 643) b_313_642_1 rfl rfl ?_
  refine ov_goto (tgt := 1462) d_313_643 (by decide) ?_
  exact BK _ _ K2 (by omega) (by omega) S2
set_option maxHeartbeats 4000000 in
theorem lw_case_12 {u : ov_U} {nm : String} {d : Nat} (hd : 1000 ≤ d) (U : ov_cap u) {L : Nat} {xs : Nat → Int32} (X : ov_SC u L xs) (hL : L ≤ 3584) (x3 j : Int) (z : ov_Z) (h : ov_H) (K : ov_LK (1 + j) (4000 * j) z h) (e0 : h 1 1 = h 90 2) (gb : h (-77) 0 = 1000 * (j + 1)) (s0 : ov_S3 h) (q : 0 ≤ j ∧ x3 = 7 * j ∧ x3 ≤ L - 7) (BK : ∀ (z5 : ov_Z) (h5 : ov_H), ov_LK (1 + (j + 1)) (4000 * (j + 1)) z5 h5 → h5 1 1 = h5 90 2 → h5 (-77) 0 = 1000 * (j + 2) → ov_S3 h5 → ov_R u d (ov_mL nm) 1462 [(0, ov_r (-4)), (1, ov_r 0), (2, ov_r 90), (3, ov_i x3)] [] z5 h5 ov_LQ) : ov_R u d (ov_mL nm) 646 [(0, ov_r (-4)), (1, ov_r 0), (2, ov_r 90), (3, ov_i x3)] [] z h ov_LQ := by
  have I := ov_LK_I (M := 1235521597062110350411825151) K
  have hW := ov_LK_W (M := 1235521597062110350411825151) K
  have hJ0 := K.2.2.1
  have s3 := s103_2 K.2.1
  have hb0 : ov_bd (h, z) = 1000 * (j + 1) := gb
  refine ov_blk (ls2 := [(0, ov_r (-4)), (1, ov_r 0), (2, ov_r 90), (3, ov_i x3)]) (st2 := [ov_i (x3 + 1), ov_r (-4), ov_r 0]) (pc2 := 651) b_313_646_5 rfl rfl ?_
  refine ov_scl X d_313_651 (by omega) ?_
  have g1 := ov_xs_g xs (x3 + 1)
  refine ov_blk (ls2 := [(0, ov_r (-4)), (1, ov_r 0), (2, ov_r 90), (3, ov_i x3)]) (st2 := [ov_i (x3 + 2), ov_r (-4), ov_i (ov_xs xs (x3 + 1)), ov_r 0]) (pc2 := 656) b_313_652_4 rfl rfl ?_
  refine ov_scl X d_313_656 (by omega) ?_
  have g2 := ov_xs_g xs (x3 + 2)
  refine ov_blk (ls2 := [(0, ov_r (-4)), (1, ov_r 0), (2, ov_r 90), (3, ov_i x3)]) (st2 := [ov_i (x3 + 3), ov_r (-4), ov_i (ov_xs xs (x3 + 2)), ov_i (ov_xs xs (x3 + 1)), ov_r 0]) (pc2 := 661) b_313_657_4 rfl rfl ?_
  refine ov_scl X d_313_661 (by omega) ?_
  have g3 := ov_xs_g xs (x3 + 3)
  refine ov_blk (ls2 := [(0, ov_r (-4)), (1, ov_r 0), (2, ov_r 90), (3, ov_i x3)]) (st2 := [ov_i (x3 + 4), ov_r (-4), ov_i (ov_xs xs (x3 + 3)), ov_i (ov_xs xs (x3 + 2)), ov_i (ov_xs xs (x3 + 1)), ov_r 0]) (pc2 := 666) b_313_662_4 rfl rfl ?_
  refine ov_scl X d_313_666 (by omega) ?_
  have g4 := ov_xs_g xs (x3 + 4)
  refine ov_cV (as := [ov_i (ov_xs xs (x3 + 1)), ov_i (ov_xs xs (x3 + 2)), ov_i (ov_xs xs (x3 + 3)), ov_i (ov_xs xs (x3 + 4))]) (st := []) (d2 := d - 1) d_313_667 lk_Law_70 rfl (Nat.le_of_ble_eq_true rfl) (c := 0) (zb_0 I) (zs_0 I) ⟨by decide, rfl⟩ (by omega) (c_OF_mean_0 (d - 1) (by omega) U I (ov_FF_w (by decide +kernel)) (ov_xs xs (x3 + 1)) (ov_xs xs (x3 + 2)) (ov_xs xs (x3 + 3)) (ov_xs xs (x3 + 4)) (by omega) (by omega) (by omega) (by omega) (by omega) (by omega)) ?_
  rintro _ z7 h8 ⟨v6, rfl, I9, f5⟩
  show ov_R u d (ov_mL nm) 670 [(0, ov_r (-4)), (1, ov_r 0), (2, ov_r 90), (3, ov_i x3)] [ov_i v6] z7 h8 ov_LQ
  have f10 : -2147483648 ≤ v6 ∧ v6 ≤ 2147483647 ∧ ((h8 36 7) = 1 → (h8 36 8) = (h8 0 10)) ∧ (h8 1 1) = (h 1 1) ∧ (h8 90 2) = (h 90 2) ∧ (h8 0 10) = (h 0 10) ∧ (h8 0 11) = (h 0 11) ∧ (h8 0 12) = (h 0 12) ∧ (h8 0 13) = (h 0 13) ∧ (h8 3 1) = (h 3 1) ∧ (h8 46 3) = (h 46 3) ∧ (h8 46 4) = (h 46 4) ∧ (h8 49 4) = (h 49 4) ∧ (h8 49 5) = (h 49 5) ∧ (h8 64 0) = (h 64 0) ∧ (h8 76 0) = (h 76 0) := f5
  clear f5
  have K1 := ov_LK_c (B := (1000 * (j + 2))) K I9 (fun b h0 _ => ov_FF_ge (by omega)) (by omega) (ov_HR_k hW I9 (by omega) (by omega) (by omega) (by omega)) (by omega)
  refine ov_gho (ov_up h8 (-77) 0 (1000 * (j + 2))) (fun a ha => (ov_up77 ha).symm) ?_
  have a1 : (ov_up h8 (-77) 0 (1000 * (j + 2))) 1 1 = h8 1 1 := congrFun (ov_up77 (by decide)) 1
  have a2 : (ov_up h8 (-77) 0 (1000 * (j + 2))) 90 2 = h8 90 2 := congrFun (ov_up77 (by decide)) 2
  have a3 : (ov_up h8 (-77) 0 (1000 * (j + 2))) (-77) 0 = (1000 * (j + 2)) := ov_uj.1 rfl
  have a5 : (ov_up h8 (-77) 0 (1000 * (j + 2))) 2 = h 2 := (ov_up77 (by decide)).trans (ov_FF_k I9 (Or.inl (by decide)) (by decide +kernel))
  have a6 : (ov_up h8 (-77) 0 (1000 * (j + 2))) 91 = h 91 := (ov_up77 (by decide)).trans ((I9.2.1 91 (by decide) (by decide)).trans (ov_FF_ge (by decide)))
  have a7 : (ov_up h8 (-77) 0 (1000 * (j + 2))) 95 = h 95 := (ov_up77 (by decide)).trans ((I9.2.1 95 (by decide) (by decide)).trans (ov_FF_ge (by decide)))
  have a96 : (ov_up h8 (-77) 0 (1000 * (j + 2))) 96 = h 96 := (ov_up77 (by decide)).trans ((I9.2.1 96 (by decide) (by decide)).trans (ov_FF_ge (by decide)))
  have aU : ∀ b : Int, 0 ≤ b → (ov_up h8 (-77) 0 (1000 * (j + 2))) b = h8 b := fun b hb => ov_up77 hb
  have eT0 : h8 0 10 = h 0 10 := by omega
  have aR : ∀ b : Int, 90 ≤ b → b < 115 → (ov_up h8 (-77) 0 (1000 * (j + 2))) b = h b := fun b b0 b1 => (ov_up77 (by omega)).trans ((I9.2.1 b b0 b1).trans (ov_FF_ge (by omega)))
  have a20 : (ov_up h8 (-77) 0 (1000 * (j + 2))) 90 20 = h 90 20 := congrFun (aR 90 (by decide) (by decide)) 20
  have a4 : (ov_up h8 (-77) 0 (1000 * (j + 2))) 103 2 = h 103 2 := (congrFun (ov_up77 (by decide)) 2).trans (congrFun ((I9.2.1 103 (by decide) (by decide)).trans (ov_FF_ge (by decide))) 2)
  generalize (ov_up h8 (-77) 0 (1000 * (j + 2))) = hg at K1 a1 a2 a3 a4 a5 a6 a7 a96 aU aR a20 ⊢
  have N1 := K1.2.1
  have hWT := K1.2.2.2.2.1
  have hCD := K1.2.2.2.2.2.1
  have hWK := K1.2.2.2.2.2.2.1
  have hPM : ov_PM (hg 96) (hg 103) (hg 97) (hg 98) (hg 105) (hg 106) (hg 90 22) (hg 90 25) (hg 90 26) (hg 90 28) (hg 90 29) (hg 90 30) := K1.2.2.2.2.2.2.2.1
  have hq1 := K1.2.2.2.2.2.2.2.2.1
  have hq2 := K1.2.2.2.2.2.2.2.2.2
  have hbd : ov_bd (hg, z7) = (1000 * (j + 2)) := a3
  have g103 := s103_2 N1
  show ov_R u d (ov_mL nm) 670 [(0, ov_r (-4)), (1, ov_r 0), (2, ov_r 90), (3, ov_i x3)] [ov_i v6] z7 hg ov_LQ
  refine ov_blk (ls2 := [(0, ov_r (-4)), (1, ov_r 0), (2, ov_r 90), (3, ov_i x3)]) (st2 := [ov_i (x3 + 1), ov_r (-4), ov_r 90]) (pc2 := 676) b_313_670_6 rfl rfl ?_
  refine ov_scl X d_313_676 (by omega) ?_
  refine ov_blk (ls2 := [(0, ov_r (-4)), (1, ov_r 0), (2, ov_r 90), (3, ov_i x3)]) (st2 := [ov_i (x3 + 2), ov_r (-4), ov_i (ov_xs xs (x3 + 1)), ov_r 90]) (pc2 := 681) b_313_677_4 rfl rfl ?_
  refine ov_scl X d_313_681 (by omega) ?_
  refine ov_blk (ls2 := [(0, ov_r (-4)), (1, ov_r 0), (2, ov_r 90), (3, ov_i x3)]) (st2 := [ov_i (x3 + 3), ov_r (-4), ov_i (ov_xs xs (x3 + 2)), ov_i (ov_xs xs (x3 + 1)), ov_r 90]) (pc2 := 686) b_313_682_4 rfl rfl ?_
  refine ov_scl X d_313_686 (by omega) ?_
  refine ov_blk (ls2 := [(0, ov_r (-4)), (1, ov_r 0), (2, ov_r 90), (3, ov_i x3)]) (st2 := [ov_i (x3 + 4), ov_r (-4), ov_i (ov_xs xs (x3 + 3)), ov_i (ov_xs xs (x3 + 2)), ov_i (ov_xs xs (x3 + 1)), ov_r 90]) (pc2 := 691) b_313_687_4 rfl rfl ?_
  refine ov_scl X d_313_691 (by omega) ?_
  refine ov_cV (as := [ov_i (ov_xs xs (x3 + 1)), ov_i (ov_xs xs (x3 + 2)), ov_i (ov_xs xs (x3 + 3)), ov_i (ov_xs xs (x3 + 4))]) (st := []) (d2 := d - 1) d_313_692 lk_Law_73 rfl (Nat.le_of_ble_eq_true rfl) (c := 1) (zb_90 N1) (zs_90 N1) ⟨by decide, rfl⟩ (by omega) (c_Mo_mean_90 (d - 1) (by omega) U N1 (ov_xs xs (x3 + 1)) (ov_xs xs (x3 + 2)) (ov_xs xs (x3 + 3)) (ov_xs xs (x3 + 4)) (by omega) (by omega) (by omega) (by omega) (by show 0 ≤ (hg 90 25) ∧ (hg 90 25) ≤ 1000000000; omega) hWT hCD hPM) ?_
  rintro _ z32 h33 ⟨v16, rfl, I34, f15, e17, e18, e19, e20, e21, e22, e23, e24, e25, e26, e27, e28, e29, e30, y31⟩
  have E35 : h33 91 = hg 91 := e17
  have E36 : h33 92 = hg 92 := e18
  have E37 : h33 93 = hg 93 := e19
  have E38 : h33 94 = hg 94 := e20
  have E39 : h33 95 = hg 95 := e21
  have E40 : h33 96 = hg 96 := e22
  have E41 : h33 97 = hg 97 := e23
  have E42 : h33 98 = hg 98 := e24
  have E43 : h33 99 = hg 99 := e25
  have E44 : h33 100 = hg 100 := e26
  have E45 : h33 103 = hg 103 := e27
  have E46 : h33 104 = hg 104 := e28
  have E47 : h33 109 = hg 109 := e29
  have E48 : h33 114 = hg 114 := e30
  show ov_R u d (ov_mL nm) 695 [(0, ov_r (-4)), (1, ov_r 0), (2, ov_r 90), (3, ov_i x3)] [ov_i v16] z32 h33 ov_LQ
  have f49 : (h33 90 2) = (hg 90 2) ∧ (h33 90 7) = (hg 90 7) ∧ (h33 90 8) = (hg 90 8) ∧ (h33 90 13) = (hg 90 13) ∧ (h33 90 20) = (hg 90 20) ∧ (h33 90 22) = (hg 90 22) ∧ (h33 90 34) = (hg 90 34) ∧ (hg 90 25) ≤ (h33 90 25) ∧ (h33 90 25) ≤ (hg 90 25) + 1 ∧ -1 ≤ v16 ∧ v16 ≤ 1200000 := f15
  clear f15
  have y31_ : ov_PM (hg 96) (hg 103) (hg 97) (hg 98) (h33 105) (h33 106) (h33 90 22) (h33 90 25) (h33 90 26) (h33 90 28) (h33 90 29) (h33 90 30) := y31
  have K2 : ov_LK (1 + (j + 1)) (4000 * (j + 1)) z32 h33 := ov_LK_rm (g := 1) K1 I34 E40 E41 E42 E44 E45 y31_ (by omega) (by omega) (by omega)
  have b1 : h33 1 1 = hg 1 1 := congrFun (I34.2.2.2 1 (Or.inl (by decide))) 1
  have b7 : h33 (-77) 0 = hg (-77) 0 := congrFun (I34.2.2.2 (-77) (Or.inl (by decide))) 0
  have c2 : h33 2 = hg 2 := I34.2.2.2 2 (Or.inl (by decide))
  have bL : ∀ b : Int, 0 ≤ b → b < 90 → h33 b = hg b := fun b _ q => I34.2.2.2 b (Or.inl q)
  have S2 : ov_S3 h33 := ⟨by rw [c2, E35, a5, a6]; exact s0.1, by rw [E39, a7]; exact s0.2.1, ov_HT_s s0.2.2.1 I9 (by decide +kernel) eT0 aU bL E40 a96, st_same s0.2.2.2 (fun a a0 a1 a2 => ((bL a (by omega) (by omega)).trans (aU a (by omega))).trans (ov_FF_k I9 (Or.inl (by omega)) ((by decide +kernel : ∀ n, n < 36 → (4 ≤ n ∧ (n < 14 ∨ 15 ≤ n)) → Nat.testBit 1235521597062110350411825151 n = true) a.toNat (by omega) (by omega)))) (E45.trans (aR 103 (by decide) (by decide))) (fun m _ _ => congrFun (E46.trans (aR 104 (by decide) (by decide))) m) (congrFun (E40.trans (aR 96 (by decide) (by decide))) 5) (by omega)⟩
  refine ov_blk (ls2 := [(0, ov_r (-4)), (1, ov_r 0), (2, ov_r 90), (3, ov_i x3)]) (st2 := []) (pc2 := 696) b_313_695_1 rfl rfl ?_
  refine ov_goto (tgt := 1462) d_313_696 (by decide) ?_
  exact BK _ _ K2 (by omega) (by omega) S2
set_option maxHeartbeats 4000000 in
theorem lw_case_13 {u : ov_U} {nm : String} {d : Nat} (hd : 1000 ≤ d) (U : ov_cap u) {L : Nat} {xs : Nat → Int32} (X : ov_SC u L xs) (hL : L ≤ 3584) (x3 j : Int) (z : ov_Z) (h : ov_H) (K : ov_LK (1 + j) (4000 * j) z h) (e0 : h 1 1 = h 90 2) (gb : h (-77) 0 = 1000 * (j + 1)) (s0 : ov_S3 h) (q : 0 ≤ j ∧ x3 = 7 * j ∧ x3 ≤ L - 7) (BK : ∀ (z5 : ov_Z) (h5 : ov_H), ov_LK (1 + (j + 1)) (4000 * (j + 1)) z5 h5 → h5 1 1 = h5 90 2 → h5 (-77) 0 = 1000 * (j + 2) → ov_S3 h5 → ov_R u d (ov_mL nm) 1462 [(0, ov_r (-4)), (1, ov_r 0), (2, ov_r 90), (3, ov_i x3)] [] z5 h5 ov_LQ) : ov_R u d (ov_mL nm) 699 [(0, ov_r (-4)), (1, ov_r 0), (2, ov_r 90), (3, ov_i x3)] [] z h ov_LQ := by
  have I := ov_LK_I (M := 1235521597062110350411825151) K
  have hW := ov_LK_W (M := 1235521597062110350411825151) K
  have hJ0 := K.2.2.1
  have s3 := s103_2 K.2.1
  have hb0 : ov_bd (h, z) = 1000 * (j + 1) := gb
  refine ov_blk (ls2 := [(0, ov_r (-4)), (1, ov_r 0), (2, ov_r 90), (3, ov_i x3)]) (st2 := [ov_i (x3 + 1), ov_r (-4), ov_r 0]) (pc2 := 704) b_313_699_5 rfl rfl ?_
  refine ov_scl X d_313_704 (by omega) ?_
  have g1 := ov_xs_g xs (x3 + 1)
  refine ov_blk (ls2 := [(0, ov_r (-4)), (1, ov_r 0), (2, ov_r 90), (3, ov_i x3)]) (st2 := [ov_i (x3 + 2), ov_r (-4), ov_i (ov_xs xs (x3 + 1)), ov_r 0]) (pc2 := 709) b_313_705_4 rfl rfl ?_
  refine ov_scl X d_313_709 (by omega) ?_
  have g2 := ov_xs_g xs (x3 + 2)
  refine ov_blk (ls2 := [(0, ov_r (-4)), (1, ov_r 0), (2, ov_r 90), (3, ov_i x3)]) (st2 := [ov_i (x3 + 3), ov_r (-4), ov_i (ov_xs xs (x3 + 2)), ov_i (ov_xs xs (x3 + 1)), ov_r 0]) (pc2 := 714) b_313_710_4 rfl rfl ?_
  refine ov_scl X d_313_714 (by omega) ?_
  have g3 := ov_xs_g xs (x3 + 3)
  refine ov_blk (ls2 := [(0, ov_r (-4)), (1, ov_r 0), (2, ov_r 90), (3, ov_i x3)]) (st2 := [ov_i (x3 + 4), ov_r (-4), ov_i (ov_xs xs (x3 + 3)), ov_i (ov_xs xs (x3 + 2)), ov_i (ov_xs xs (x3 + 1)), ov_r 0]) (pc2 := 719) b_313_715_4 rfl rfl ?_
  refine ov_scl X d_313_719 (by omega) ?_
  have g4 := ov_xs_g xs (x3 + 4)
  refine ov_cV (as := [ov_i (ov_xs xs (x3 + 1)), ov_i (ov_xs xs (x3 + 2)), ov_i (ov_xs xs (x3 + 3)), ov_i (ov_xs xs (x3 + 4))]) (st := []) (d2 := d - 1) d_313_720 lk_Law_74 rfl (Nat.le_of_ble_eq_true rfl) (c := 0) (zb_0 I) (zs_0 I) ⟨by decide, rfl⟩ (by omega) (c_OF_worst_0 (d - 1) (by omega) U I (ov_FF_w (by decide +kernel)) (ov_xs xs (x3 + 1)) (ov_xs xs (x3 + 2)) (ov_xs xs (x3 + 3)) (ov_xs xs (x3 + 4)) (by omega) (by omega) (by omega) (by omega) (by omega) (by omega)) ?_
  rintro _ z7 h8 ⟨v6, rfl, I9, f5⟩
  show ov_R u d (ov_mL nm) 723 [(0, ov_r (-4)), (1, ov_r 0), (2, ov_r 90), (3, ov_i x3)] [ov_i v6] z7 h8 ov_LQ
  have f10 : -2147483648 ≤ v6 ∧ v6 ≤ 2147483647 ∧ ((h8 36 7) = 1 → (h8 36 8) = (h8 0 10)) ∧ (h8 1 1) = (h 1 1) ∧ (h8 90 2) = (h 90 2) ∧ (h8 0 10) = (h 0 10) ∧ (h8 0 11) = (h 0 11) ∧ (h8 0 12) = (h 0 12) ∧ (h8 0 13) = (h 0 13) ∧ (h8 3 1) = (h 3 1) ∧ (h8 46 3) = (h 46 3) ∧ (h8 46 4) = (h 46 4) ∧ (h8 49 4) = (h 49 4) ∧ (h8 49 5) = (h 49 5) ∧ (h8 64 0) = (h 64 0) ∧ (h8 76 0) = (h 76 0) := f5
  clear f5
  have K1 := ov_LK_c (B := (1000 * (j + 2))) K I9 (fun b h0 _ => ov_FF_ge (by omega)) (by omega) (ov_HR_k hW I9 (by omega) (by omega) (by omega) (by omega)) (by omega)
  refine ov_gho (ov_up h8 (-77) 0 (1000 * (j + 2))) (fun a ha => (ov_up77 ha).symm) ?_
  have a1 : (ov_up h8 (-77) 0 (1000 * (j + 2))) 1 1 = h8 1 1 := congrFun (ov_up77 (by decide)) 1
  have a2 : (ov_up h8 (-77) 0 (1000 * (j + 2))) 90 2 = h8 90 2 := congrFun (ov_up77 (by decide)) 2
  have a3 : (ov_up h8 (-77) 0 (1000 * (j + 2))) (-77) 0 = (1000 * (j + 2)) := ov_uj.1 rfl
  have a5 : (ov_up h8 (-77) 0 (1000 * (j + 2))) 2 = h 2 := (ov_up77 (by decide)).trans (ov_FF_k I9 (Or.inl (by decide)) (by decide +kernel))
  have a6 : (ov_up h8 (-77) 0 (1000 * (j + 2))) 91 = h 91 := (ov_up77 (by decide)).trans ((I9.2.1 91 (by decide) (by decide)).trans (ov_FF_ge (by decide)))
  have a7 : (ov_up h8 (-77) 0 (1000 * (j + 2))) 95 = h 95 := (ov_up77 (by decide)).trans ((I9.2.1 95 (by decide) (by decide)).trans (ov_FF_ge (by decide)))
  have a96 : (ov_up h8 (-77) 0 (1000 * (j + 2))) 96 = h 96 := (ov_up77 (by decide)).trans ((I9.2.1 96 (by decide) (by decide)).trans (ov_FF_ge (by decide)))
  have aU : ∀ b : Int, 0 ≤ b → (ov_up h8 (-77) 0 (1000 * (j + 2))) b = h8 b := fun b hb => ov_up77 hb
  have eT0 : h8 0 10 = h 0 10 := by omega
  have aR : ∀ b : Int, 90 ≤ b → b < 115 → (ov_up h8 (-77) 0 (1000 * (j + 2))) b = h b := fun b b0 b1 => (ov_up77 (by omega)).trans ((I9.2.1 b b0 b1).trans (ov_FF_ge (by omega)))
  have a20 : (ov_up h8 (-77) 0 (1000 * (j + 2))) 90 20 = h 90 20 := congrFun (aR 90 (by decide) (by decide)) 20
  have a4 : (ov_up h8 (-77) 0 (1000 * (j + 2))) 103 2 = h 103 2 := (congrFun (ov_up77 (by decide)) 2).trans (congrFun ((I9.2.1 103 (by decide) (by decide)).trans (ov_FF_ge (by decide))) 2)
  generalize (ov_up h8 (-77) 0 (1000 * (j + 2))) = hg at K1 a1 a2 a3 a4 a5 a6 a7 a96 aU aR a20 ⊢
  have N1 := K1.2.1
  have hWT := K1.2.2.2.2.1
  have hCD := K1.2.2.2.2.2.1
  have hWK := K1.2.2.2.2.2.2.1
  have hPM : ov_PM (hg 96) (hg 103) (hg 97) (hg 98) (hg 105) (hg 106) (hg 90 22) (hg 90 25) (hg 90 26) (hg 90 28) (hg 90 29) (hg 90 30) := K1.2.2.2.2.2.2.2.1
  have hq1 := K1.2.2.2.2.2.2.2.2.1
  have hq2 := K1.2.2.2.2.2.2.2.2.2
  have hbd : ov_bd (hg, z7) = (1000 * (j + 2)) := a3
  have g103 := s103_2 N1
  show ov_R u d (ov_mL nm) 723 [(0, ov_r (-4)), (1, ov_r 0), (2, ov_r 90), (3, ov_i x3)] [ov_i v6] z7 hg ov_LQ
  refine ov_blk (ls2 := [(0, ov_r (-4)), (1, ov_r 0), (2, ov_r 90), (3, ov_i x3)]) (st2 := [ov_i (x3 + 1), ov_r (-4), ov_r 90]) (pc2 := 729) b_313_723_6 rfl rfl ?_
  refine ov_scl X d_313_729 (by omega) ?_
  refine ov_blk (ls2 := [(0, ov_r (-4)), (1, ov_r 0), (2, ov_r 90), (3, ov_i x3)]) (st2 := [ov_i (x3 + 2), ov_r (-4), ov_i (ov_xs xs (x3 + 1)), ov_r 90]) (pc2 := 734) b_313_730_4 rfl rfl ?_
  refine ov_scl X d_313_734 (by omega) ?_
  refine ov_blk (ls2 := [(0, ov_r (-4)), (1, ov_r 0), (2, ov_r 90), (3, ov_i x3)]) (st2 := [ov_i (x3 + 3), ov_r (-4), ov_i (ov_xs xs (x3 + 2)), ov_i (ov_xs xs (x3 + 1)), ov_r 90]) (pc2 := 739) b_313_735_4 rfl rfl ?_
  refine ov_scl X d_313_739 (by omega) ?_
  refine ov_blk (ls2 := [(0, ov_r (-4)), (1, ov_r 0), (2, ov_r 90), (3, ov_i x3)]) (st2 := [ov_i (x3 + 4), ov_r (-4), ov_i (ov_xs xs (x3 + 3)), ov_i (ov_xs xs (x3 + 2)), ov_i (ov_xs xs (x3 + 1)), ov_r 90]) (pc2 := 744) b_313_740_4 rfl rfl ?_
  refine ov_scl X d_313_744 (by omega) ?_
  refine ov_cV (as := [ov_i (ov_xs xs (x3 + 1)), ov_i (ov_xs xs (x3 + 2)), ov_i (ov_xs xs (x3 + 3)), ov_i (ov_xs xs (x3 + 4))]) (st := []) (d2 := d - 1) d_313_745 lk_Law_77 rfl (Nat.le_of_ble_eq_true rfl) (c := 1) (zb_90 N1) (zs_90 N1) ⟨by decide, rfl⟩ (by omega) (c_Mo_worst_90 (d - 1) (by omega) U N1 (ov_xs xs (x3 + 1)) (ov_xs xs (x3 + 2)) (ov_xs xs (x3 + 3)) (ov_xs xs (x3 + 4)) (by omega) (by omega) (by omega) (by omega) (by show 0 ≤ (hg 90 25) ∧ (hg 90 25) ≤ 1000000000; omega) hWT hCD hPM) ?_
  rintro _ z32 h33 ⟨v16, rfl, I34, f15, e17, e18, e19, e20, e21, e22, e23, e24, e25, e26, e27, e28, e29, e30, y31⟩
  have E35 : h33 91 = hg 91 := e17
  have E36 : h33 92 = hg 92 := e18
  have E37 : h33 93 = hg 93 := e19
  have E38 : h33 94 = hg 94 := e20
  have E39 : h33 95 = hg 95 := e21
  have E40 : h33 96 = hg 96 := e22
  have E41 : h33 97 = hg 97 := e23
  have E42 : h33 98 = hg 98 := e24
  have E43 : h33 99 = hg 99 := e25
  have E44 : h33 100 = hg 100 := e26
  have E45 : h33 103 = hg 103 := e27
  have E46 : h33 104 = hg 104 := e28
  have E47 : h33 109 = hg 109 := e29
  have E48 : h33 114 = hg 114 := e30
  show ov_R u d (ov_mL nm) 748 [(0, ov_r (-4)), (1, ov_r 0), (2, ov_r 90), (3, ov_i x3)] [ov_i v16] z32 h33 ov_LQ
  have f49 : (h33 90 2) = (hg 90 2) ∧ (h33 90 7) = (hg 90 7) ∧ (h33 90 8) = (hg 90 8) ∧ (h33 90 13) = (hg 90 13) ∧ (h33 90 20) = (hg 90 20) ∧ (h33 90 22) = (hg 90 22) ∧ (h33 90 34) = (hg 90 34) ∧ (hg 90 25) ≤ (h33 90 25) ∧ (h33 90 25) ≤ (hg 90 25) + 1 ∧ -1 ≤ v16 ∧ v16 ≤ 1200000 := f15
  clear f15
  have y31_ : ov_PM (hg 96) (hg 103) (hg 97) (hg 98) (h33 105) (h33 106) (h33 90 22) (h33 90 25) (h33 90 26) (h33 90 28) (h33 90 29) (h33 90 30) := y31
  have K2 : ov_LK (1 + (j + 1)) (4000 * (j + 1)) z32 h33 := ov_LK_rm (g := 1) K1 I34 E40 E41 E42 E44 E45 y31_ (by omega) (by omega) (by omega)
  have b1 : h33 1 1 = hg 1 1 := congrFun (I34.2.2.2 1 (Or.inl (by decide))) 1
  have b7 : h33 (-77) 0 = hg (-77) 0 := congrFun (I34.2.2.2 (-77) (Or.inl (by decide))) 0
  have c2 : h33 2 = hg 2 := I34.2.2.2 2 (Or.inl (by decide))
  have bL : ∀ b : Int, 0 ≤ b → b < 90 → h33 b = hg b := fun b _ q => I34.2.2.2 b (Or.inl q)
  have S2 : ov_S3 h33 := ⟨by rw [c2, E35, a5, a6]; exact s0.1, by rw [E39, a7]; exact s0.2.1, ov_HT_s s0.2.2.1 I9 (by decide +kernel) eT0 aU bL E40 a96, st_same s0.2.2.2 (fun a a0 a1 a2 => ((bL a (by omega) (by omega)).trans (aU a (by omega))).trans (ov_FF_k I9 (Or.inl (by omega)) ((by decide +kernel : ∀ n, n < 36 → (4 ≤ n ∧ (n < 14 ∨ 15 ≤ n)) → Nat.testBit 1235521597062110350411825151 n = true) a.toNat (by omega) (by omega)))) (E45.trans (aR 103 (by decide) (by decide))) (fun m _ _ => congrFun (E46.trans (aR 104 (by decide) (by decide))) m) (congrFun (E40.trans (aR 96 (by decide) (by decide))) 5) (by omega)⟩
  refine ov_blk (ls2 := [(0, ov_r (-4)), (1, ov_r 0), (2, ov_r 90), (3, ov_i x3)]) (st2 := []) (pc2 := 749) b_313_748_1 rfl rfl ?_
  refine ov_goto (tgt := 1462) d_313_749 (by decide) ?_
  exact BK _ _ K2 (by omega) (by omega) S2
set_option maxHeartbeats 4000000 in
theorem lw_case_14 {u : ov_U} {nm : String} {d : Nat} (hd : 1000 ≤ d) (U : ov_cap u) {L : Nat} {xs : Nat → Int32} (X : ov_SC u L xs) (hL : L ≤ 3584) (x3 j : Int) (z : ov_Z) (h : ov_H) (K : ov_LK (1 + j) (4000 * j) z h) (e0 : h 1 1 = h 90 2) (gb : h (-77) 0 = 1000 * (j + 1)) (s0 : ov_S3 h) (q : 0 ≤ j ∧ x3 = 7 * j ∧ x3 ≤ L - 7) (BK : ∀ (z5 : ov_Z) (h5 : ov_H), ov_LK (1 + (j + 1)) (4000 * (j + 1)) z5 h5 → h5 1 1 = h5 90 2 → h5 (-77) 0 = 1000 * (j + 2) → ov_S3 h5 → ov_R u d (ov_mL nm) 1462 [(0, ov_r (-4)), (1, ov_r 0), (2, ov_r 90), (3, ov_i x3)] [] z5 h5 ov_LQ) : ov_R u d (ov_mL nm) 752 [(0, ov_r (-4)), (1, ov_r 0), (2, ov_r 90), (3, ov_i x3)] [] z h ov_LQ := by
  have I := ov_LK_I (M := 1235521597062110350411825151) K
  have hW := ov_LK_W (M := 1235521597062110350411825151) K
  have hJ0 := K.2.2.1
  have s3 := s103_2 K.2.1
  have hb0 : ov_bd (h, z) = 1000 * (j + 1) := gb
  refine ov_blk (ls2 := [(0, ov_r (-4)), (1, ov_r 0), (2, ov_r 90), (3, ov_i x3)]) (st2 := [ov_i (x3 + 1), ov_r (-4), ov_r 0]) (pc2 := 757) b_313_752_5 rfl rfl ?_
  refine ov_scl X d_313_757 (by omega) ?_
  have g1 := ov_xs_g xs (x3 + 1)
  refine ov_blk (ls2 := [(0, ov_r (-4)), (1, ov_r 0), (2, ov_r 90), (3, ov_i x3)]) (st2 := [ov_i (x3 + 2), ov_r (-4), ov_i (ov_xs xs (x3 + 1)), ov_r 0]) (pc2 := 762) b_313_758_4 rfl rfl ?_
  refine ov_scl X d_313_762 (by omega) ?_
  have g2 := ov_xs_g xs (x3 + 2)
  refine ov_blk (ls2 := [(0, ov_r (-4)), (1, ov_r 0), (2, ov_r 90), (3, ov_i x3)]) (st2 := [ov_i (x3 + 3), ov_r (-4), ov_i (ov_xs xs (x3 + 2)), ov_i (ov_xs xs (x3 + 1)), ov_r 0]) (pc2 := 767) b_313_763_4 rfl rfl ?_
  refine ov_scl X d_313_767 (by omega) ?_
  have g3 := ov_xs_g xs (x3 + 3)
  refine ov_blk (ls2 := [(0, ov_r (-4)), (1, ov_r 0), (2, ov_r 90), (3, ov_i x3)]) (st2 := [ov_i (x3 + 4), ov_r (-4), ov_i (ov_xs xs (x3 + 3)), ov_i (ov_xs xs (x3 + 2)), ov_i (ov_xs xs (x3 + 1)), ov_r 0]) (pc2 := 772) b_313_768_4 rfl rfl ?_
  refine ov_scl X d_313_772 (by omega) ?_
  have g4 := ov_xs_g xs (x3 + 4)
  refine ov_cV (as := [ov_i (ov_xs xs (x3 + 1)), ov_i (ov_xs xs (x3 + 2)), ov_i (ov_xs xs (x3 + 3)), ov_i (ov_xs xs (x3 + 4))]) (st := []) (d2 := d - 1) d_313_773 lk_Law_78 rfl (Nat.le_of_ble_eq_true rfl) (c := 0) (zb_0 I) (zs_0 I) ⟨by decide, rfl⟩ (by omega) (c_OF_choice_0 (d - 1) (by omega) U I (ov_FF_w (by decide +kernel)) (ov_xs xs (x3 + 1)) (ov_xs xs (x3 + 2)) (ov_xs xs (x3 + 3)) (ov_xs xs (x3 + 4)) (by omega) (by omega) (by omega) (by omega) (by omega) (by omega)) ?_
  rintro _ z7 h8 ⟨v6, rfl, I9, f5⟩
  show ov_R u d (ov_mL nm) 776 [(0, ov_r (-4)), (1, ov_r 0), (2, ov_r 90), (3, ov_i x3)] [ov_i v6] z7 h8 ov_LQ
  have f10 : ((h8 36 7) = 1 → (h8 36 8) = (h8 0 10)) ∧ (h8 1 1) = (h 1 1) ∧ (h8 90 2) = (h 90 2) ∧ (h8 0 10) = (h 0 10) ∧ (h8 0 11) = (h 0 11) ∧ (h8 0 12) = (h 0 12) ∧ (h8 0 13) = (h 0 13) ∧ (h8 3 1) = (h 3 1) ∧ (h8 46 3) = (h 46 3) ∧ (h8 46 4) = (h 46 4) ∧ (h8 49 4) = (h 49 4) ∧ (h8 49 5) = (h 49 5) ∧ (h8 64 0) = (h 64 0) ∧ (h8 76 0) = (h 76 0) := f5
  clear f5
  have K1 := ov_LK_c (B := (1000 * (j + 2))) K I9 (fun b h0 _ => ov_FF_ge (by omega)) (by omega) (ov_HR_k hW I9 (by omega) (by omega) (by omega) (by omega)) (by omega)
  refine ov_gho (ov_up h8 (-77) 0 (1000 * (j + 2))) (fun a ha => (ov_up77 ha).symm) ?_
  have a1 : (ov_up h8 (-77) 0 (1000 * (j + 2))) 1 1 = h8 1 1 := congrFun (ov_up77 (by decide)) 1
  have a2 : (ov_up h8 (-77) 0 (1000 * (j + 2))) 90 2 = h8 90 2 := congrFun (ov_up77 (by decide)) 2
  have a3 : (ov_up h8 (-77) 0 (1000 * (j + 2))) (-77) 0 = (1000 * (j + 2)) := ov_uj.1 rfl
  have a5 : (ov_up h8 (-77) 0 (1000 * (j + 2))) 2 = h 2 := (ov_up77 (by decide)).trans (ov_FF_k I9 (Or.inl (by decide)) (by decide +kernel))
  have a6 : (ov_up h8 (-77) 0 (1000 * (j + 2))) 91 = h 91 := (ov_up77 (by decide)).trans ((I9.2.1 91 (by decide) (by decide)).trans (ov_FF_ge (by decide)))
  have a7 : (ov_up h8 (-77) 0 (1000 * (j + 2))) 95 = h 95 := (ov_up77 (by decide)).trans ((I9.2.1 95 (by decide) (by decide)).trans (ov_FF_ge (by decide)))
  have a96 : (ov_up h8 (-77) 0 (1000 * (j + 2))) 96 = h 96 := (ov_up77 (by decide)).trans ((I9.2.1 96 (by decide) (by decide)).trans (ov_FF_ge (by decide)))
  have aU : ∀ b : Int, 0 ≤ b → (ov_up h8 (-77) 0 (1000 * (j + 2))) b = h8 b := fun b hb => ov_up77 hb
  have eT0 : h8 0 10 = h 0 10 := by omega
  have aR : ∀ b : Int, 90 ≤ b → b < 115 → (ov_up h8 (-77) 0 (1000 * (j + 2))) b = h b := fun b b0 b1 => (ov_up77 (by omega)).trans ((I9.2.1 b b0 b1).trans (ov_FF_ge (by omega)))
  have a20 : (ov_up h8 (-77) 0 (1000 * (j + 2))) 90 20 = h 90 20 := congrFun (aR 90 (by decide) (by decide)) 20
  have a4 : (ov_up h8 (-77) 0 (1000 * (j + 2))) 103 2 = h 103 2 := (congrFun (ov_up77 (by decide)) 2).trans (congrFun ((I9.2.1 103 (by decide) (by decide)).trans (ov_FF_ge (by decide))) 2)
  generalize (ov_up h8 (-77) 0 (1000 * (j + 2))) = hg at K1 a1 a2 a3 a4 a5 a6 a7 a96 aU aR a20 ⊢
  have N1 := K1.2.1
  have hWT := K1.2.2.2.2.1
  have hCD := K1.2.2.2.2.2.1
  have hWK := K1.2.2.2.2.2.2.1
  have hPM : ov_PM (hg 96) (hg 103) (hg 97) (hg 98) (hg 105) (hg 106) (hg 90 22) (hg 90 25) (hg 90 26) (hg 90 28) (hg 90 29) (hg 90 30) := K1.2.2.2.2.2.2.2.1
  have hq1 := K1.2.2.2.2.2.2.2.2.1
  have hq2 := K1.2.2.2.2.2.2.2.2.2
  have hbd : ov_bd (hg, z7) = (1000 * (j + 2)) := a3
  have g103 := s103_2 N1
  show ov_R u d (ov_mL nm) 776 [(0, ov_r (-4)), (1, ov_r 0), (2, ov_r 90), (3, ov_i x3)] [ov_i v6] z7 hg ov_LQ
  refine ov_blk (ls2 := [(0, ov_r (-4)), (1, ov_r 0), (2, ov_r 90), (3, ov_i x3)]) (st2 := [ov_i (x3 + 1), ov_r (-4), ov_r 90]) (pc2 := 782) b_313_776_6 rfl rfl ?_
  refine ov_scl X d_313_782 (by omega) ?_
  refine ov_blk (ls2 := [(0, ov_r (-4)), (1, ov_r 0), (2, ov_r 90), (3, ov_i x3)]) (st2 := [ov_i (x3 + 2), ov_r (-4), ov_i (ov_xs xs (x3 + 1)), ov_r 90]) (pc2 := 787) b_313_783_4 rfl rfl ?_
  refine ov_scl X d_313_787 (by omega) ?_
  refine ov_blk (ls2 := [(0, ov_r (-4)), (1, ov_r 0), (2, ov_r 90), (3, ov_i x3)]) (st2 := [ov_i (x3 + 3), ov_r (-4), ov_i (ov_xs xs (x3 + 2)), ov_i (ov_xs xs (x3 + 1)), ov_r 90]) (pc2 := 792) b_313_788_4 rfl rfl ?_
  refine ov_scl X d_313_792 (by omega) ?_
  refine ov_blk (ls2 := [(0, ov_r (-4)), (1, ov_r 0), (2, ov_r 90), (3, ov_i x3)]) (st2 := [ov_i (x3 + 4), ov_r (-4), ov_i (ov_xs xs (x3 + 3)), ov_i (ov_xs xs (x3 + 2)), ov_i (ov_xs xs (x3 + 1)), ov_r 90]) (pc2 := 797) b_313_793_4 rfl rfl ?_
  refine ov_scl X d_313_797 (by omega) ?_
  refine ov_cV (as := [ov_i (ov_xs xs (x3 + 1)), ov_i (ov_xs xs (x3 + 2)), ov_i (ov_xs xs (x3 + 3)), ov_i (ov_xs xs (x3 + 4))]) (st := []) (d2 := d - 1) d_313_798 lk_Law_81 rfl (Nat.le_of_ble_eq_true rfl) (c := 1) (zb_90 N1) (zs_90 N1) ⟨by decide, rfl⟩ (by omega) (c_Mo_choice_90 (d - 1) (by omega) U N1 (ov_xs xs (x3 + 1)) (ov_xs xs (x3 + 2)) (ov_xs xs (x3 + 3)) (ov_xs xs (x3 + 4)) (by omega) (by omega) (by omega) (by omega) (by show 0 ≤ (hg 90 25) ∧ (hg 90 25) ≤ 1000000000; omega) hWT hCD hPM) ?_
  rintro _ z32 h33 ⟨v16, rfl, I34, f15, e17, e18, e19, e20, e21, e22, e23, e24, e25, e26, e27, e28, e29, e30, y31⟩
  have E35 : h33 91 = hg 91 := e17
  have E36 : h33 92 = hg 92 := e18
  have E37 : h33 93 = hg 93 := e19
  have E38 : h33 94 = hg 94 := e20
  have E39 : h33 95 = hg 95 := e21
  have E40 : h33 96 = hg 96 := e22
  have E41 : h33 97 = hg 97 := e23
  have E42 : h33 98 = hg 98 := e24
  have E43 : h33 99 = hg 99 := e25
  have E44 : h33 100 = hg 100 := e26
  have E45 : h33 103 = hg 103 := e27
  have E46 : h33 104 = hg 104 := e28
  have E47 : h33 109 = hg 109 := e29
  have E48 : h33 114 = hg 114 := e30
  show ov_R u d (ov_mL nm) 801 [(0, ov_r (-4)), (1, ov_r 0), (2, ov_r 90), (3, ov_i x3)] [ov_i v16] z32 h33 ov_LQ
  have f49 : (h33 90 2) = (hg 90 2) ∧ (h33 90 7) = (hg 90 7) ∧ (h33 90 8) = (hg 90 8) ∧ (h33 90 13) = (hg 90 13) ∧ (h33 90 20) = (hg 90 20) ∧ (h33 90 22) = (hg 90 22) ∧ (h33 90 34) = (hg 90 34) ∧ (hg 90 25) ≤ (h33 90 25) ∧ (h33 90 25) ≤ (hg 90 25) + 1 ∧ -1 ≤ v16 ∧ v16 ≤ 1 := f15
  clear f15
  have y31_ : ov_PM (hg 96) (hg 103) (hg 97) (hg 98) (h33 105) (h33 106) (h33 90 22) (h33 90 25) (h33 90 26) (h33 90 28) (h33 90 29) (h33 90 30) := y31
  have K2 : ov_LK (1 + (j + 1)) (4000 * (j + 1)) z32 h33 := ov_LK_rm (g := 1) K1 I34 E40 E41 E42 E44 E45 y31_ (by omega) (by omega) (by omega)
  have b1 : h33 1 1 = hg 1 1 := congrFun (I34.2.2.2 1 (Or.inl (by decide))) 1
  have b7 : h33 (-77) 0 = hg (-77) 0 := congrFun (I34.2.2.2 (-77) (Or.inl (by decide))) 0
  have c2 : h33 2 = hg 2 := I34.2.2.2 2 (Or.inl (by decide))
  have bL : ∀ b : Int, 0 ≤ b → b < 90 → h33 b = hg b := fun b _ q => I34.2.2.2 b (Or.inl q)
  have S2 : ov_S3 h33 := ⟨by rw [c2, E35, a5, a6]; exact s0.1, by rw [E39, a7]; exact s0.2.1, ov_HT_s s0.2.2.1 I9 (by decide +kernel) eT0 aU bL E40 a96, st_same s0.2.2.2 (fun a a0 a1 a2 => ((bL a (by omega) (by omega)).trans (aU a (by omega))).trans (ov_FF_k I9 (Or.inl (by omega)) ((by decide +kernel : ∀ n, n < 36 → (4 ≤ n ∧ (n < 14 ∨ 15 ≤ n)) → Nat.testBit 1235521597062110350411825151 n = true) a.toNat (by omega) (by omega)))) (E45.trans (aR 103 (by decide) (by decide))) (fun m _ _ => congrFun (E46.trans (aR 104 (by decide) (by decide))) m) (congrFun (E40.trans (aR 96 (by decide) (by decide))) 5) (by omega)⟩
  refine ov_blk (ls2 := [(0, ov_r (-4)), (1, ov_r 0), (2, ov_r 90), (3, ov_i x3)]) (st2 := []) (pc2 := 802) b_313_801_1 rfl rfl ?_
  refine ov_goto (tgt := 1462) d_313_802 (by decide) ?_
  exact BK _ _ K2 (by omega) (by omega) S2

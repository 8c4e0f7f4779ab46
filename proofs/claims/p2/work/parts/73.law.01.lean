set_option maxHeartbeats 4000000 in
theorem lw_case_0 {u : ov_U} {nm : String} {d : Nat} (hd : 1000 ≤ d) (U : ov_cap u) {L : Nat} {xs : Nat → Int32} (X : ov_SC u L xs) (hL : L ≤ 3584) (x3 j : Int) (z : ov_Z) (h : ov_H) (K : ov_LK (1 + j) (4000 * j) z h) (e0 : h 1 1 = h 90 2) (gb : h (-77) 0 = 1000 * (j + 1)) (q : 0 ≤ j ∧ x3 = 7 * j ∧ x3 ≤ L - 7) (BK : ∀ (z5 : ov_Z) (h5 : ov_H), ov_LK (1 + (j + 1)) (4000 * (j + 1)) z5 h5 → h5 1 1 = h5 90 2 → h5 (-77) 0 = 1000 * (j + 2) → ov_R u d (ov_mL nm) 1461 [(0, ov_r (-4)), (1, ov_r 0), (2, ov_r 90), (3, ov_i x3)] [] z5 h5 ov_LQ) : ov_R u d (ov_mL nm) 172 [(0, ov_r (-4)), (1, ov_r 0), (2, ov_r 90), (3, ov_i x3)] [] z h ov_LQ := by
  have I := ov_LK_I K
  have hW := ov_LK_W K
  have hJ0 := K.2.2.1
  have s3 := s103_2 K.2.1
  have hb0 : ov_bd (h, z) = 1000 * (j + 1) := gb
  refine ov_blk (ls2 := [(0, ov_r (-4)), (1, ov_r 0), (2, ov_r 90), (3, ov_i x3)]) (st2 := [ov_i (x3 + 1), ov_r (-4), ov_r 0]) (pc2 := 177) b_313_172_5 rfl rfl ?_
  refine ov_scl X d_313_177 (by omega) ?_
  have g1 := ov_xs_g xs (x3 + 1)
  refine ov_blk (ls2 := [(0, ov_r (-4)), (1, ov_r 0), (2, ov_r 90), (3, ov_i x3)]) (st2 := [ov_i (x3 + 2), ov_r (-4), ov_l (ov_lshl (ov_w (ov_xs xs (x3 + 1))) 32), ov_r 0]) (pc2 := 186) b_313_178_7 rfl rfl ?_
  have g2 := ov_wg (ov_xs xs (x3 + 1))
  have g3 := ov_wq (ov_xs xs (x3 + 1))
  refine ov_scl X d_313_186 (by omega) ?_
  have g4 := ov_xs_g xs (x3 + 2)
  refine ov_blk (ls2 := [(0, ov_r (-4)), (1, ov_r 0), (2, ov_r 90), (3, ov_i x3)]) (st2 := [ov_l (ov_w (ov_xs xs (x3 + 2))), ov_l (ov_lshl (ov_w (ov_xs xs (x3 + 1))) 32), ov_r 0]) (pc2 := 188) b_313_187_1 rfl rfl ?_
  have g5 := ov_wg (ov_xs xs (x3 + 2))
  have g6 := ov_wq (ov_xs xs (x3 + 2))
  refine ov_ldc2 (n := 4294967295) d_313_188 kc_Law_13 ?_
  refine ov_blk (ls2 := [(0, ov_r (-4)), (1, ov_r 0), (2, ov_r 90), (3, ov_i x3)]) (st2 := [ov_i (x3 + 3), ov_r (-4), ov_l (ov_lor (ov_lshl (ov_w (ov_xs xs (x3 + 1))) 32) (ov_land (ov_w (ov_xs xs (x3 + 2))) 4294967295)), ov_r 0]) (pc2 := 197) b_313_191_6 rfl rfl ?_
  refine ov_scl X d_313_197 (by omega) ?_
  have g7 := ov_xs_g xs (x3 + 3)
  refine ov_blk (ls2 := [(0, ov_r (-4)), (1, ov_r 0), (2, ov_r 90), (3, ov_i x3)]) (st2 := [ov_i (x3 + 4), ov_r (-4), ov_l (ov_lshl (ov_w (ov_xs xs (x3 + 3))) 32), ov_l (ov_lor (ov_lshl (ov_w (ov_xs xs (x3 + 1))) 32) (ov_land (ov_w (ov_xs xs (x3 + 2))) 4294967295)), ov_r 0]) (pc2 := 206) b_313_198_7 rfl rfl ?_
  have g8 := ov_wg (ov_xs xs (x3 + 3))
  have g9 := ov_wq (ov_xs xs (x3 + 3))
  refine ov_scl X d_313_206 (by omega) ?_
  have g10 := ov_xs_g xs (x3 + 4)
  refine ov_blk (ls2 := [(0, ov_r (-4)), (1, ov_r 0), (2, ov_r 90), (3, ov_i x3)]) (st2 := [ov_l (ov_w (ov_xs xs (x3 + 4))), ov_l (ov_lshl (ov_w (ov_xs xs (x3 + 3))) 32), ov_l (ov_lor (ov_lshl (ov_w (ov_xs xs (x3 + 1))) 32) (ov_land (ov_w (ov_xs xs (x3 + 2))) 4294967295)), ov_r 0]) (pc2 := 208) b_313_207_1 rfl rfl ?_
  have g11 := ov_wg (ov_xs xs (x3 + 4))
  have g12 := ov_wq (ov_xs xs (x3 + 4))
  refine ov_ldc2 (n := 4294967295) d_313_208 kc_Law_13 ?_
  refine ov_blk (ls2 := [(0, ov_r (-4)), (1, ov_r 0), (2, ov_r 90), (3, ov_i x3)]) (st2 := [ov_i (x3 + 5), ov_r (-4), ov_l (ov_lor (ov_lshl (ov_w (ov_xs xs (x3 + 3))) 32) (ov_land (ov_w (ov_xs xs (x3 + 4))) 4294967295)), ov_l (ov_lor (ov_lshl (ov_w (ov_xs xs (x3 + 1))) 32) (ov_land (ov_w (ov_xs xs (x3 + 2))) 4294967295)), ov_r 0]) (pc2 := 217) b_313_211_6 rfl rfl ?_
  refine ov_scl X d_313_217 (by omega) ?_
  have g13 := ov_xs_g xs (x3 + 5)
  refine ov_blk (ls2 := [(0, ov_r (-4)), (1, ov_r 0), (2, ov_r 90), (3, ov_i x3)]) (st2 := [ov_i (x3 + 6), ov_r (-4), ov_l (ov_lshl (ov_w (ov_xs xs (x3 + 5))) 32), ov_l (ov_lor (ov_lshl (ov_w (ov_xs xs (x3 + 3))) 32) (ov_land (ov_w (ov_xs xs (x3 + 4))) 4294967295)), ov_l (ov_lor (ov_lshl (ov_w (ov_xs xs (x3 + 1))) 32) (ov_land (ov_w (ov_xs xs (x3 + 2))) 4294967295)), ov_r 0]) (pc2 := 227) b_313_218_7 rfl rfl ?_
  have g14 := ov_wg (ov_xs xs (x3 + 5))
  have g15 := ov_wq (ov_xs xs (x3 + 5))
  refine ov_scl X d_313_227 (by omega) ?_
  have g16 := ov_xs_g xs (x3 + 6)
  refine ov_blk (ls2 := [(0, ov_r (-4)), (1, ov_r 0), (2, ov_r 90), (3, ov_i x3)]) (st2 := [ov_l (ov_w (ov_xs xs (x3 + 6))), ov_l (ov_lshl (ov_w (ov_xs xs (x3 + 5))) 32), ov_l (ov_lor (ov_lshl (ov_w (ov_xs xs (x3 + 3))) 32) (ov_land (ov_w (ov_xs xs (x3 + 4))) 4294967295)), ov_l (ov_lor (ov_lshl (ov_w (ov_xs xs (x3 + 1))) 32) (ov_land (ov_w (ov_xs xs (x3 + 2))) 4294967295)), ov_r 0]) (pc2 := 229) b_313_228_1 rfl rfl ?_
  have g17 := ov_wg (ov_xs xs (x3 + 6))
  have g18 := ov_wq (ov_xs xs (x3 + 6))
  refine ov_ldc2 (n := 4294967295) d_313_229 kc_Law_13 ?_
  refine ov_blk (ls2 := [(0, ov_r (-4)), (1, ov_r 0), (2, ov_r 90), (3, ov_i x3)]) (st2 := [ov_l (ov_lor (ov_lshl (ov_w (ov_xs xs (x3 + 5))) 32) (ov_land (ov_w (ov_xs xs (x3 + 6))) 4294967295)), ov_l (ov_lor (ov_lshl (ov_w (ov_xs xs (x3 + 3))) 32) (ov_land (ov_w (ov_xs xs (x3 + 4))) 4294967295)), ov_l (ov_lor (ov_lshl (ov_w (ov_xs xs (x3 + 1))) 32) (ov_land (ov_w (ov_xs xs (x3 + 2))) 4294967295)), ov_r 0]) (pc2 := 234) b_313_232_2 rfl rfl ?_
  refine ov_cV (as := [ov_l (ov_lor (ov_lshl (ov_w (ov_xs xs (x3 + 1))) 32) (ov_land (ov_w (ov_xs xs (x3 + 2))) 4294967295)), ov_l (ov_lor (ov_lshl (ov_w (ov_xs xs (x3 + 3))) 32) (ov_land (ov_w (ov_xs xs (x3 + 4))) 4294967295)), ov_l (ov_lor (ov_lshl (ov_w (ov_xs xs (x3 + 5))) 32) (ov_land (ov_w (ov_xs xs (x3 + 6))) 4294967295))]) (st := []) (d2 := d - 1) d_313_234 lk_Law_15 rfl (Nat.le_of_ble_eq_true rfl) (c := 0) (zb_0 I) (zs_0 I) ⟨by decide, rfl⟩ (by omega) (c_OF_feed_0_b (d - 1) (by omega) U I (ov_lor (ov_lshl (ov_w (ov_xs xs (x3 + 1))) 32) (ov_land (ov_w (ov_xs xs (x3 + 2))) 4294967295)) (ov_lor (ov_lshl (ov_w (ov_xs xs (x3 + 3))) 32) (ov_land (ov_w (ov_xs xs (x3 + 4))) 4294967295)) (ov_lor (ov_lshl (ov_w (ov_xs xs (x3 + 5))) 32) (ov_land (ov_w (ov_xs xs (x3 + 6))) 4294967295))) ?_
  rintro _ z21 h22 ⟨v20, rfl, I23, f19⟩
  show ov_R u d (ov_mL nm) 237 [(0, ov_r (-4)), (1, ov_r 0), (2, ov_r 90), (3, ov_i x3)] [ov_i v20] z21 h22 ov_LQ
  have f24 : v20 = (h22 1 1) ∧ (h22 1 1) = ov_fdn (ov_lor (ov_lshl (ov_w (ov_xs xs (x3 + 5))) 32) (ov_land (ov_w (ov_xs xs (x3 + 6))) 4294967295)) (ov_fdn (ov_lor (ov_lshl (ov_w (ov_xs xs (x3 + 3))) 32) (ov_land (ov_w (ov_xs xs (x3 + 4))) 4294967295)) (ov_fdn (ov_lor (ov_lshl (ov_w (ov_xs xs (x3 + 1))) 32) (ov_land (ov_w (ov_xs xs (x3 + 2))) 4294967295)) (h 1 1) 8) 8) 8 ∧ (h22 36 7) = (h 36 7) ∧ (h22 90 2) = (h 90 2) ∧ (h22 0 10) = (h 0 10) ∧ (h22 0 11) = (h 0 11) ∧ (h22 0 12) = (h 0 12) ∧ (h22 0 13) = (h 0 13) ∧ (h22 3 1) = (h 3 1) ∧ (h22 36 8) = (h 36 8) ∧ (h22 46 3) = (h 46 3) ∧ (h22 46 4) = (h 46 4) ∧ (h22 49 4) = (h 49 4) ∧ (h22 49 5) = (h 49 5) ∧ (h22 64 0) = (h 64 0) ∧ (h22 76 0) = (h 76 0) := f19
  clear f19
  have K1 := ov_LK_c (B := (1000 * (j + 2))) K I23 (fun b h0 _ => ov_FF_ge h0) (by omega) (ov_HR_k hW I23 (by omega) (by omega) (by omega) (by omega)) (by omega)
  refine ov_gho (ov_up h22 (-77) 0 (1000 * (j + 2))) (fun a ha => (ov_up77 ha).symm) ?_
  have a1 : (ov_up h22 (-77) 0 (1000 * (j + 2))) 1 1 = h22 1 1 := congrFun (ov_up77 (by decide)) 1
  have a2 : (ov_up h22 (-77) 0 (1000 * (j + 2))) 90 2 = h22 90 2 := congrFun (ov_up77 (by decide)) 2
  have a3 : (ov_up h22 (-77) 0 (1000 * (j + 2))) (-77) 0 = (1000 * (j + 2)) := ov_uj.1 rfl
  have a4 : (ov_up h22 (-77) 0 (1000 * (j + 2))) 103 2 = h 103 2 := (congrFun (ov_up77 (by decide)) 2).trans (congrFun ((I23.2.1 103 (by decide) (by decide)).trans (ov_FF_ge (by decide))) 2)
  generalize (ov_up h22 (-77) 0 (1000 * (j + 2))) = hg at K1 a1 a2 a3 a4 ⊢
  have N1 := K1.2.1
  have hWT := K1.2.2.2.2.1
  have hCD := K1.2.2.2.2.2.1
  have hWK := K1.2.2.2.2.2.2.1
  have hPM : ov_PM (hg 96) (hg 103) (hg 97) (hg 98) (hg 105) (hg 106) (hg 90 22) (hg 90 25) (hg 90 26) (hg 90 28) (hg 90 29) (hg 90 30) := K1.2.2.2.2.2.2.2.1
  have hq1 := K1.2.2.2.2.2.2.2.2.1
  have hq2 := K1.2.2.2.2.2.2.2.2.2
  have hbd : ov_bd (hg, z21) = (1000 * (j + 2)) := a3
  have g103 := s103_2 N1
  show ov_R u d (ov_mL nm) 237 [(0, ov_r (-4)), (1, ov_r 0), (2, ov_r 90), (3, ov_i x3)] [ov_i v20] z21 hg ov_LQ
  refine ov_blk (ls2 := [(0, ov_r (-4)), (1, ov_r 0), (2, ov_r 90), (3, ov_i x3)]) (st2 := [ov_i (x3 + 1), ov_r (-4), ov_r 90, ov_i v20]) (pc2 := 242) b_313_237_5 rfl rfl ?_
  refine ov_scl X d_313_242 (by omega) ?_
  refine ov_blk (ls2 := [(0, ov_r (-4)), (1, ov_r 0), (2, ov_r 90), (3, ov_i x3)]) (st2 := [ov_i (x3 + 2), ov_r (-4), ov_l (ov_lshl (ov_w (ov_xs xs (x3 + 1))) 32), ov_r 90, ov_i v20]) (pc2 := 251) b_313_243_7 rfl rfl ?_
  have g26 := ov_wg (ov_xs xs (x3 + 1))
  have g27 := ov_wq (ov_xs xs (x3 + 1))
  refine ov_scl X d_313_251 (by omega) ?_
  refine ov_blk (ls2 := [(0, ov_r (-4)), (1, ov_r 0), (2, ov_r 90), (3, ov_i x3)]) (st2 := [ov_l (ov_w (ov_xs xs (x3 + 2))), ov_l (ov_lshl (ov_w (ov_xs xs (x3 + 1))) 32), ov_r 90, ov_i v20]) (pc2 := 253) b_313_252_1 rfl rfl ?_
  have g29 := ov_wg (ov_xs xs (x3 + 2))
  have g30 := ov_wq (ov_xs xs (x3 + 2))
  refine ov_ldc2 (n := 4294967295) d_313_253 kc_Law_13 ?_
  refine ov_blk (ls2 := [(0, ov_r (-4)), (1, ov_r 0), (2, ov_r 90), (3, ov_i x3)]) (st2 := [ov_i (x3 + 3), ov_r (-4), ov_l (ov_lor (ov_lshl (ov_w (ov_xs xs (x3 + 1))) 32) (ov_land (ov_w (ov_xs xs (x3 + 2))) 4294967295)), ov_r 90, ov_i v20]) (pc2 := 262) b_313_256_6 rfl rfl ?_
  refine ov_scl X d_313_262 (by omega) ?_
  refine ov_blk (ls2 := [(0, ov_r (-4)), (1, ov_r 0), (2, ov_r 90), (3, ov_i x3)]) (st2 := [ov_i (x3 + 4), ov_r (-4), ov_l (ov_lshl (ov_w (ov_xs xs (x3 + 3))) 32), ov_l (ov_lor (ov_lshl (ov_w (ov_xs xs (x3 + 1))) 32) (ov_land (ov_w (ov_xs xs (x3 + 2))) 4294967295)), ov_r 90, ov_i v20]) (pc2 := 271) b_313_263_7 rfl rfl ?_
  have g32 := ov_wg (ov_xs xs (x3 + 3))
  have g33 := ov_wq (ov_xs xs (x3 + 3))
  refine ov_scl X d_313_271 (by omega) ?_
  refine ov_blk (ls2 := [(0, ov_r (-4)), (1, ov_r 0), (2, ov_r 90), (3, ov_i x3)]) (st2 := [ov_l (ov_w (ov_xs xs (x3 + 4))), ov_l (ov_lshl (ov_w (ov_xs xs (x3 + 3))) 32), ov_l (ov_lor (ov_lshl (ov_w (ov_xs xs (x3 + 1))) 32) (ov_land (ov_w (ov_xs xs (x3 + 2))) 4294967295)), ov_r 90, ov_i v20]) (pc2 := 273) b_313_272_1 rfl rfl ?_
  have g35 := ov_wg (ov_xs xs (x3 + 4))
  have g36 := ov_wq (ov_xs xs (x3 + 4))
  refine ov_ldc2 (n := 4294967295) d_313_273 kc_Law_13 ?_
  refine ov_blk (ls2 := [(0, ov_r (-4)), (1, ov_r 0), (2, ov_r 90), (3, ov_i x3)]) (st2 := [ov_i (x3 + 5), ov_r (-4), ov_l (ov_lor (ov_lshl (ov_w (ov_xs xs (x3 + 3))) 32) (ov_land (ov_w (ov_xs xs (x3 + 4))) 4294967295)), ov_l (ov_lor (ov_lshl (ov_w (ov_xs xs (x3 + 1))) 32) (ov_land (ov_w (ov_xs xs (x3 + 2))) 4294967295)), ov_r 90, ov_i v20]) (pc2 := 282) b_313_276_6 rfl rfl ?_
  refine ov_scl X d_313_282 (by omega) ?_
  refine ov_blk (ls2 := [(0, ov_r (-4)), (1, ov_r 0), (2, ov_r 90), (3, ov_i x3)]) (st2 := [ov_i (x3 + 6), ov_r (-4), ov_l (ov_lshl (ov_w (ov_xs xs (x3 + 5))) 32), ov_l (ov_lor (ov_lshl (ov_w (ov_xs xs (x3 + 3))) 32) (ov_land (ov_w (ov_xs xs (x3 + 4))) 4294967295)), ov_l (ov_lor (ov_lshl (ov_w (ov_xs xs (x3 + 1))) 32) (ov_land (ov_w (ov_xs xs (x3 + 2))) 4294967295)), ov_r 90, ov_i v20]) (pc2 := 292) b_313_283_7 rfl rfl ?_
  have g38 := ov_wg (ov_xs xs (x3 + 5))
  have g39 := ov_wq (ov_xs xs (x3 + 5))
  refine ov_scl X d_313_292 (by omega) ?_
  refine ov_blk (ls2 := [(0, ov_r (-4)), (1, ov_r 0), (2, ov_r 90), (3, ov_i x3)]) (st2 := [ov_l (ov_w (ov_xs xs (x3 + 6))), ov_l (ov_lshl (ov_w (ov_xs xs (x3 + 5))) 32), ov_l (ov_lor (ov_lshl (ov_w (ov_xs xs (x3 + 3))) 32) (ov_land (ov_w (ov_xs xs (x3 + 4))) 4294967295)), ov_l (ov_lor (ov_lshl (ov_w (ov_xs xs (x3 + 1))) 32) (ov_land (ov_w (ov_xs xs (x3 + 2))) 4294967295)), ov_r 90, ov_i v20]) (pc2 := 294) b_313_293_1 rfl rfl ?_
  have g41 := ov_wg (ov_xs xs (x3 + 6))
  have g42 := ov_wq (ov_xs xs (x3 + 6))
  refine ov_ldc2 (n := 4294967295) d_313_294 kc_Law_13 ?_
  refine ov_blk (ls2 := [(0, ov_r (-4)), (1, ov_r 0), (2, ov_r 90), (3, ov_i x3)]) (st2 := [ov_l (ov_lor (ov_lshl (ov_w (ov_xs xs (x3 + 5))) 32) (ov_land (ov_w (ov_xs xs (x3 + 6))) 4294967295)), ov_l (ov_lor (ov_lshl (ov_w (ov_xs xs (x3 + 3))) 32) (ov_land (ov_w (ov_xs xs (x3 + 4))) 4294967295)), ov_l (ov_lor (ov_lshl (ov_w (ov_xs xs (x3 + 1))) 32) (ov_land (ov_w (ov_xs xs (x3 + 2))) 4294967295)), ov_r 90, ov_i v20]) (pc2 := 299) b_313_297_2 rfl rfl ?_
  refine ov_cV (as := [ov_l (ov_lor (ov_lshl (ov_w (ov_xs xs (x3 + 1))) 32) (ov_land (ov_w (ov_xs xs (x3 + 2))) 4294967295)), ov_l (ov_lor (ov_lshl (ov_w (ov_xs xs (x3 + 3))) 32) (ov_land (ov_w (ov_xs xs (x3 + 4))) 4294967295)), ov_l (ov_lor (ov_lshl (ov_w (ov_xs xs (x3 + 5))) 32) (ov_land (ov_w (ov_xs xs (x3 + 6))) 4294967295))]) (st := [ov_i v20]) (d2 := d - 1) d_313_299 lk_Law_19 rfl (Nat.le_of_ble_eq_true rfl) (c := 1) (zb_90 N1) (zs_90 N1) ⟨by decide, rfl⟩ (by omega) (c_Mo_feed_90 (d - 1) (by omega) U N1 (ov_lor (ov_lshl (ov_w (ov_xs xs (x3 + 1))) 32) (ov_land (ov_w (ov_xs xs (x3 + 2))) 4294967295)) (ov_lor (ov_lshl (ov_w (ov_xs xs (x3 + 3))) 32) (ov_land (ov_w (ov_xs xs (x3 + 4))) 4294967295)) (ov_lor (ov_lshl (ov_w (ov_xs xs (x3 + 5))) 32) (ov_land (ov_w (ov_xs xs (x3 + 6))) 4294967295))) ?_
  rintro _ z59 h60 ⟨v44, rfl, I61, f43, e45, e46, e47, e48, e49, e50, e51, e52, e53, e54, e55, e56, e57, e58⟩
  have E62 : h60 92 = hg 92 := e45
  have E63 : h60 93 = hg 93 := e46
  have E64 : h60 94 = hg 94 := e47
  have E65 : h60 95 = hg 95 := e48
  have E66 : h60 96 = hg 96 := e49
  have E67 : h60 97 = hg 97 := e50
  have E68 : h60 98 = hg 98 := e51
  have E69 : h60 99 = hg 99 := e52
  have E70 : h60 100 = hg 100 := e53
  have E71 : h60 103 = hg 103 := e54
  have E72 : h60 105 = hg 105 := e55
  have E73 : h60 106 = hg 106 := e56
  have E74 : h60 109 = hg 109 := e57
  have E75 : h60 114 = hg 114 := e58
  show ov_R u d (ov_mL nm) 302 [(0, ov_r (-4)), (1, ov_r 0), (2, ov_r 90), (3, ov_i x3)] [ov_i v44, ov_i v20] z59 h60 ov_LQ
  have f76 : (h60 90 7) = (hg 90 7) ∧ (h60 90 8) = (hg 90 8) ∧ (h60 90 13) = (hg 90 13) ∧ (h60 90 20) = (hg 90 20) ∧ (h60 90 22) = (hg 90 22) ∧ (h60 90 25) = (hg 90 25) ∧ (h60 90 26) = (hg 90 26) ∧ (h60 90 28) = (hg 90 28) ∧ (h60 90 29) = (hg 90 29) ∧ (h60 90 30) = (hg 90 30) ∧ (h60 90 34) = (hg 90 34) ∧ v44 = (h60 90 2) ∧ (h60 90 2) = ov_fdn (ov_lor (ov_lshl (ov_w (ov_xs xs (x3 + 5))) 32) (ov_land (ov_w (ov_xs xs (x3 + 6))) 4294967295)) (ov_fdn (ov_lor (ov_lshl (ov_w (ov_xs xs (x3 + 3))) 32) (ov_land (ov_w (ov_xs xs (x3 + 4))) 4294967295)) (ov_fdn (ov_lor (ov_lshl (ov_w (ov_xs xs (x3 + 1))) 32) (ov_land (ov_w (ov_xs xs (x3 + 2))) 4294967295)) (hg 90 2) 8) 8) 8 := f43
  clear f43
  have K2 : ov_LK (1 + (j + 1)) (4000 * (j + 1)) z59 h60 := ov_LK_r0 K1 I61 E66 E67 E68 E70 E71 E72 E73 (by omega) (by omega) (by omega)
  have b1 : h60 1 1 = hg 1 1 := congrFun (I61.2.2.2 1 (Or.inl (by decide))) 1
  have b7 : h60 (-77) 0 = hg (-77) 0 := congrFun (I61.2.2.2 (-77) (Or.inl (by decide))) 0
  have x0 : hg 90 2 = h 1 1 := by omega
  rw [x0] at f76
  have gv := rg_90_2 I61
  refine ov_iceq (tgt := 1461) d_313_302 (by decide) (by omega) (by omega) (fun c77 => ?_) (fun c77 => ?_)
  · skip
    exact BK _ _ K2 (by omega) (by omega)
  · omega
set_option maxHeartbeats 4000000 in
theorem lw_case_1 {u : ov_U} {nm : String} {d : Nat} (hd : 1000 ≤ d) (U : ov_cap u) {L : Nat} {xs : Nat → Int32} (X : ov_SC u L xs) (hL : L ≤ 3584) (x3 j : Int) (z : ov_Z) (h : ov_H) (K : ov_LK (1 + j) (4000 * j) z h) (e0 : h 1 1 = h 90 2) (gb : h (-77) 0 = 1000 * (j + 1)) (q : 0 ≤ j ∧ x3 = 7 * j ∧ x3 ≤ L - 7) (BK : ∀ (z5 : ov_Z) (h5 : ov_H), ov_LK (1 + (j + 1)) (4000 * (j + 1)) z5 h5 → h5 1 1 = h5 90 2 → h5 (-77) 0 = 1000 * (j + 2) → ov_R u d (ov_mL nm) 1461 [(0, ov_r (-4)), (1, ov_r 0), (2, ov_r 90), (3, ov_i x3)] [] z5 h5 ov_LQ) : ov_R u d (ov_mL nm) 307 [(0, ov_r (-4)), (1, ov_r 0), (2, ov_r 90), (3, ov_i x3)] [] z h ov_LQ := by
  have I := ov_LK_I K
  have hW := ov_LK_W K
  have hJ0 := K.2.2.1
  have s3 := s103_2 K.2.1
  have hb0 : ov_bd (h, z) = 1000 * (j + 1) := gb
  refine ov_blk (ls2 := [(0, ov_r (-4)), (1, ov_r 0), (2, ov_r 90), (3, ov_i x3)]) (st2 := [ov_r 0]) (pc2 := 308) b_313_307_1 rfl rfl ?_
  refine ov_cV (as := []) (st := []) (d2 := d - 1) d_313_308 lk_Law_20 rfl (Nat.le_of_ble_eq_true rfl) (c := 0) (zb_0 I) (zs_0 I) ⟨by decide, rfl⟩ (by omega) (c_OF_town_0 (d - 1) (by omega) U I (by omega) (by omega)) ?_
  rintro _ z3 h4 ⟨v2, rfl, I5, f1⟩
  show ov_R u d (ov_mL nm) 311 [(0, ov_r (-4)), (1, ov_r 0), (2, ov_r 90), (3, ov_i x3)] [ov_i v2] z3 h4 ov_LQ
  have f6 : (h4 1 1) = 0 ∧ ((h4 36 7) = 1 → (h4 36 8) = (h4 0 10)) ∧ ((h4 0 10) = 58 ∧ (h4 0 11) = 70 ∧ 0 ≤ (h4 64 0) ∧ 1 ≤ (h4 58 0) ∧ 1 ≤ (h4 58 1) ∨ (h4 0 10) = 70 ∧ (h4 0 11) = 58 ∧ 0 ≤ (h4 76 0) ∧ 1 ≤ (h4 70 0) ∧ 1 ≤ (h4 70 1)) ∧ (h4 90 2) = (h 90 2) ∧ (h4 0 12) = (h 0 12) ∧ (h4 0 13) = (h 0 13) ∧ (h4 46 3) = (h 46 3) ∧ (h4 46 4) = (h 46 4) ∧ (h4 49 4) = (h 49 4) ∧ (h4 49 5) = (h 49 5) := f1
  clear f1
  have K1 := ov_LK_c (B := (1000 * (j + 2))) K I5 (fun b h0 _ => ov_FF_ge h0) (by omega) (by unfold ov_HR; omega) (by omega)
  refine ov_gho (ov_up h4 (-77) 0 (1000 * (j + 2))) (fun a ha => (ov_up77 ha).symm) ?_
  have a1 : (ov_up h4 (-77) 0 (1000 * (j + 2))) 1 1 = h4 1 1 := congrFun (ov_up77 (by decide)) 1
  have a2 : (ov_up h4 (-77) 0 (1000 * (j + 2))) 90 2 = h4 90 2 := congrFun (ov_up77 (by decide)) 2
  have a3 : (ov_up h4 (-77) 0 (1000 * (j + 2))) (-77) 0 = (1000 * (j + 2)) := ov_uj.1 rfl
  have a4 : (ov_up h4 (-77) 0 (1000 * (j + 2))) 103 2 = h 103 2 := (congrFun (ov_up77 (by decide)) 2).trans (congrFun ((I5.2.1 103 (by decide) (by decide)).trans (ov_FF_ge (by decide))) 2)
  generalize (ov_up h4 (-77) 0 (1000 * (j + 2))) = hg at K1 a1 a2 a3 a4 ⊢
  have N1 := K1.2.1
  have hWT := K1.2.2.2.2.1
  have hCD := K1.2.2.2.2.2.1
  have hWK := K1.2.2.2.2.2.2.1
  have hPM : ov_PM (hg 96) (hg 103) (hg 97) (hg 98) (hg 105) (hg 106) (hg 90 22) (hg 90 25) (hg 90 26) (hg 90 28) (hg 90 29) (hg 90 30) := K1.2.2.2.2.2.2.2.1
  have hq1 := K1.2.2.2.2.2.2.2.2.1
  have hq2 := K1.2.2.2.2.2.2.2.2.2
  have hbd : ov_bd (hg, z3) = (1000 * (j + 2)) := a3
  have g103 := s103_2 N1
  show ov_R u d (ov_mL nm) 311 [(0, ov_r (-4)), (1, ov_r 0), (2, ov_r 90), (3, ov_i x3)] [ov_i v2] z3 hg ov_LQ
  refine ov_blk (ls2 := [(0, ov_r (-4)), (1, ov_r 0), (2, ov_r 90), (3, ov_i x3)]) (st2 := [ov_r 90]) (pc2 := 313) b_313_311_2 rfl rfl ?_
  refine ov_cV (as := []) (st := []) (d2 := d - 1) d_313_313 lk_Law_24 rfl (Nat.le_of_ble_eq_true rfl) (c := 1) (zb_90 N1) (zs_90 N1) ⟨by decide, rfl⟩ (by omega) (c_Mo_town_90 (d - 1) (by omega) U N1 (by omega) (by show 0 ≤ (hg 90 22) ∧ (hg 90 22) ≤ 2000000000; omega)) ?_
  rintro _ z15 h16 ⟨v8, rfl, I17, f7, e9, e10, e11, e12, e13, y14⟩
  have E18 : h16 95 = hg 95 := e9
  have E19 : h16 105 = hg 105 := e10
  have E20 : h16 106 = hg 106 := e11
  have E21 : h16 109 = hg 109 := e12
  have E22 : h16 114 = hg 114 := e13
  show ov_R u d (ov_mL nm) 316 [(0, ov_r (-4)), (1, ov_r 0), (2, ov_r 90), (3, ov_i x3)] [ov_i v8] z15 h16 ov_LQ
  have f23 : (h16 90 25) = (hg 90 25) ∧ (h16 90 26) = (hg 90 26) ∧ (h16 90 28) = (hg 90 28) ∧ (h16 90 29) = (hg 90 29) ∧ (h16 90 30) = (hg 90 30) ∧ (h16 90 34) = (hg 90 34) ∧ 0 ≤ v8 ∧ v8 ≤ 16005 ∧ (h16 90 2) = 0 := f7
  clear f7
  have y14_ : (ov_MK (hg 96) (hg 97) (hg 98) (h16 96) (h16 97) (h16 98) ∧ (h16 100) = (hg 100) ∧ (h16 103) = (hg 103) ∧ (h16 90 22) = (hg 90 22)) ∨ (ov_WT (h16 96) ∧ ov_CD (h16 96) (h16 97) (h16 98) ∧ (h16 100 0) = 0 ∧ (h16 90 22) = (hg 90 22) + 1) := y14
  have K2 : ov_LK (1 + (j + 1)) (4000 * (j + 1)) z15 h16 := ov_LK_rt K1 I17 y14_ E19 E20 (by omega) (by omega) (by omega)
  have b1 : h16 1 1 = hg 1 1 := congrFun (I17.2.2.2 1 (Or.inl (by decide))) 1
  have b7 : h16 (-77) 0 = hg (-77) 0 := congrFun (I17.2.2.2 (-77) (Or.inl (by decide))) 0
  refine ov_blk (ls2 := [(0, ov_r (-4)), (1, ov_r 0), (2, ov_r 90), (3, ov_i x3)]) (st2 := []) (pc2 := 317) b_313_316_1 rfl rfl ?_
  refine ov_goto (tgt := 1461) d_313_317 (by decide) ?_
  exact BK _ _ K2 (by omega) (by omega)
set_option maxHeartbeats 4000000 in
theorem lw_case_2 {u : ov_U} {nm : String} {d : Nat} (hd : 1000 ≤ d) (U : ov_cap u) {L : Nat} {xs : Nat → Int32} (X : ov_SC u L xs) (hL : L ≤ 3584) (x3 j : Int) (z : ov_Z) (h : ov_H) (K : ov_LK (1 + j) (4000 * j) z h) (e0 : h 1 1 = h 90 2) (gb : h (-77) 0 = 1000 * (j + 1)) (q : 0 ≤ j ∧ x3 = 7 * j ∧ x3 ≤ L - 7) (BK : ∀ (z5 : ov_Z) (h5 : ov_H), ov_LK (1 + (j + 1)) (4000 * (j + 1)) z5 h5 → h5 1 1 = h5 90 2 → h5 (-77) 0 = 1000 * (j + 2) → ov_R u d (ov_mL nm) 1461 [(0, ov_r (-4)), (1, ov_r 0), (2, ov_r 90), (3, ov_i x3)] [] z5 h5 ov_LQ) : ov_R u d (ov_mL nm) 320 [(0, ov_r (-4)), (1, ov_r 0), (2, ov_r 90), (3, ov_i x3)] [] z h ov_LQ := by
  have I := ov_LK_I K
  have hW := ov_LK_W K
  have hJ0 := K.2.2.1
  have s3 := s103_2 K.2.1
  have hb0 : ov_bd (h, z) = 1000 * (j + 1) := gb
  refine ov_blk (ls2 := [(0, ov_r (-4)), (1, ov_r 0), (2, ov_r 90), (3, ov_i x3)]) (st2 := [ov_r 0]) (pc2 := 321) b_313_320_1 rfl rfl ?_
  refine ov_cV (as := []) (st := []) (d2 := d - 1) d_313_321 lk_Law_25 rfl (Nat.le_of_ble_eq_true rfl) (c := 0) (zb_0 I) (zs_0 I) ⟨by decide, rfl⟩ (by omega) (c_OF_walk_0 (d - 1) (by omega) U I) ?_
  rintro _ z3 h4 ⟨v2, rfl, I5, f1⟩
  show ov_R u d (ov_mL nm) 324 [(0, ov_r (-4)), (1, ov_r 0), (2, ov_r 90), (3, ov_i x3)] [ov_i v2] z3 h4 ov_LQ
  have f6 : (h4 1 1) = 0 ∧ (h4 36 7) = (h 36 7) ∧ (h4 90 2) = (h 90 2) ∧ (h4 0 10) = (h 0 10) ∧ (h4 0 11) = (h 0 11) ∧ (h4 36 8) = (h 36 8) ∧ (h4 46 3) = (h 46 3) ∧ (h4 46 4) = (h 46 4) ∧ (h4 49 4) = (h 49 4) ∧ (h4 49 5) = (h 49 5) ∧ (h4 64 0) = (h 64 0) ∧ (h4 76 0) = (h 76 0) := f1
  clear f1
  have K1 := ov_LK_c (B := (1000 * (j + 2))) K I5 (fun b h0 _ => ov_FF_ge h0) (by omega) (ov_HR_k hW I5 (by omega) (by omega) (by omega) (by omega)) (by omega)
  refine ov_gho (ov_up h4 (-77) 0 (1000 * (j + 2))) (fun a ha => (ov_up77 ha).symm) ?_
  have a1 : (ov_up h4 (-77) 0 (1000 * (j + 2))) 1 1 = h4 1 1 := congrFun (ov_up77 (by decide)) 1
  have a2 : (ov_up h4 (-77) 0 (1000 * (j + 2))) 90 2 = h4 90 2 := congrFun (ov_up77 (by decide)) 2
  have a3 : (ov_up h4 (-77) 0 (1000 * (j + 2))) (-77) 0 = (1000 * (j + 2)) := ov_uj.1 rfl
  have a4 : (ov_up h4 (-77) 0 (1000 * (j + 2))) 103 2 = h 103 2 := (congrFun (ov_up77 (by decide)) 2).trans (congrFun ((I5.2.1 103 (by decide) (by decide)).trans (ov_FF_ge (by decide))) 2)
  generalize (ov_up h4 (-77) 0 (1000 * (j + 2))) = hg at K1 a1 a2 a3 a4 ⊢
  have N1 := K1.2.1
  have hWT := K1.2.2.2.2.1
  have hCD := K1.2.2.2.2.2.1
  have hWK := K1.2.2.2.2.2.2.1
  have hPM : ov_PM (hg 96) (hg 103) (hg 97) (hg 98) (hg 105) (hg 106) (hg 90 22) (hg 90 25) (hg 90 26) (hg 90 28) (hg 90 29) (hg 90 30) := K1.2.2.2.2.2.2.2.1
  have hq1 := K1.2.2.2.2.2.2.2.2.1
  have hq2 := K1.2.2.2.2.2.2.2.2.2
  have hbd : ov_bd (hg, z3) = (1000 * (j + 2)) := a3
  have g103 := s103_2 N1
  show ov_R u d (ov_mL nm) 324 [(0, ov_r (-4)), (1, ov_r 0), (2, ov_r 90), (3, ov_i x3)] [ov_i v2] z3 hg ov_LQ
  refine ov_blk (ls2 := [(0, ov_r (-4)), (1, ov_r 0), (2, ov_r 90), (3, ov_i x3)]) (st2 := [ov_r 90]) (pc2 := 326) b_313_324_2 rfl rfl ?_
  refine ov_cV (as := []) (st := []) (d2 := d - 1) d_313_326 lk_Law_28 rfl (Nat.le_of_ble_eq_true rfl) (c := 1) (zb_90 N1) (zs_90 N1) ⟨by decide, rfl⟩ (by omega) (c_Mo_walk_90 (d - 1) (by omega) U N1) ?_
  rintro _ z20 h21 ⟨v8, rfl, I22, f7, e9, e10, e11, e12, e13, e14, e15, e16, e17, e18, y19⟩
  have E23 : h21 95 = hg 95 := e9
  have E24 : h21 96 = hg 96 := e10
  have E25 : h21 97 = hg 97 := e11
  have E26 : h21 98 = hg 98 := e12
  have E27 : h21 99 = hg 99 := e13
  have E28 : h21 103 = hg 103 := e14
  have E29 : h21 105 = hg 105 := e15
  have E30 : h21 106 = hg 106 := e16
  have E31 : h21 109 = hg 109 := e17
  have E32 : h21 114 = hg 114 := e18
  show ov_R u d (ov_mL nm) 329 [(0, ov_r (-4)), (1, ov_r 0), (2, ov_r 90), (3, ov_i x3)] [ov_i v8] z20 h21 ov_LQ
  have f33 : (h21 90 13) = (hg 90 13) ∧ (h21 90 20) = (hg 90 20) ∧ (h21 90 22) = (hg 90 22) ∧ (h21 90 25) = (hg 90 25) ∧ (h21 90 26) = (hg 90 26) ∧ (h21 90 28) = (hg 90 28) ∧ (h21 90 29) = (hg 90 29) ∧ (h21 90 30) = (hg 90 30) ∧ (h21 90 34) = (hg 90 34) ∧ 0 ≤ v8 ∧ v8 ≤ 16005 ∧ (h21 90 2) = 0 := f7
  clear f7
  have y19_ : ov_WK (hg 100) → ov_WK (h21 100) := y19
  have K2 : ov_LK (1 + (j + 1)) (4000 * (j + 1)) z20 h21 := ov_LK_rw K1 I22 E24 E25 E26 y19_ E28 E29 E30 (by omega) (by omega) (by omega)
  have b1 : h21 1 1 = hg 1 1 := congrFun (I22.2.2.2 1 (Or.inl (by decide))) 1
  have b7 : h21 (-77) 0 = hg (-77) 0 := congrFun (I22.2.2.2 (-77) (Or.inl (by decide))) 0
  refine ov_blk (ls2 := [(0, ov_r (-4)), (1, ov_r 0), (2, ov_r 90), (3, ov_i x3)]) (st2 := []) (pc2 := 330) b_313_329_1 rfl rfl ?_
  refine ov_goto (tgt := 1461) d_313_330 (by decide) ?_
  exact BK _ _ K2 (by omega) (by omega)
set_option maxHeartbeats 4000000 in
theorem lw_case_3 {u : ov_U} {nm : String} {d : Nat} (hd : 1000 ≤ d) (U : ov_cap u) {L : Nat} {xs : Nat → Int32} (X : ov_SC u L xs) (hL : L ≤ 3584) (x3 j : Int) (z : ov_Z) (h : ov_H) (K : ov_LK (1 + j) (4000 * j) z h) (e0 : h 1 1 = h 90 2) (gb : h (-77) 0 = 1000 * (j + 1)) (q : 0 ≤ j ∧ x3 = 7 * j ∧ x3 ≤ L - 7) (BK : ∀ (z5 : ov_Z) (h5 : ov_H), ov_LK (1 + (j + 1)) (4000 * (j + 1)) z5 h5 → h5 1 1 = h5 90 2 → h5 (-77) 0 = 1000 * (j + 2) → ov_R u d (ov_mL nm) 1461 [(0, ov_r (-4)), (1, ov_r 0), (2, ov_r 90), (3, ov_i x3)] [] z5 h5 ov_LQ) : ov_R u d (ov_mL nm) 333 [(0, ov_r (-4)), (1, ov_r 0), (2, ov_r 90), (3, ov_i x3)] [] z h ov_LQ := by
  have I := ov_LK_I K
  have hW := ov_LK_W K
  have hJ0 := K.2.2.1
  have s3 := s103_2 K.2.1
  have hb0 : ov_bd (h, z) = 1000 * (j + 1) := gb
  refine ov_blk (ls2 := [(0, ov_r (-4)), (1, ov_r 0), (2, ov_r 90), (3, ov_i x3)]) (st2 := [ov_i (x3 + 1), ov_r (-4), ov_r 0]) (pc2 := 338) b_313_333_5 rfl rfl ?_
  refine ov_scl X d_313_338 (by omega) ?_
  have g1 := ov_xs_g xs (x3 + 1)
  refine ov_blk (ls2 := [(0, ov_r (-4)), (1, ov_r 0), (2, ov_r 90), (3, ov_i x3)]) (st2 := [ov_i (x3 + 2), ov_r (-4), ov_i (ov_xs xs (x3 + 1)), ov_r 0]) (pc2 := 343) b_313_339_4 rfl rfl ?_
  refine ov_scl X d_313_343 (by omega) ?_
  have g2 := ov_xs_g xs (x3 + 2)
  refine ov_blk (ls2 := [(0, ov_r (-4)), (1, ov_r 0), (2, ov_r 90), (3, ov_i x3)]) (st2 := [ov_i (x3 + 3), ov_r (-4), ov_i (ov_xs xs (x3 + 2)), ov_i (ov_xs xs (x3 + 1)), ov_r 0]) (pc2 := 348) b_313_344_4 rfl rfl ?_
  refine ov_scl X d_313_348 (by omega) ?_
  have g3 := ov_xs_g xs (x3 + 3)
  refine ov_cV (as := [ov_i (ov_xs xs (x3 + 1)), ov_i (ov_xs xs (x3 + 2)), ov_i (ov_xs xs (x3 + 3))]) (st := []) (d2 := d - 1) d_313_349 lk_Law_29 rfl (Nat.le_of_ble_eq_true rfl) (c := 0) (zb_0 I) (zs_0 I) ⟨by decide, rfl⟩ (by omega) (c_OF_light_0 (d - 1) (by omega) U I (ov_xs xs (x3 + 1)) (ov_xs xs (x3 + 2)) (ov_xs xs (x3 + 3)) (by omega) (by omega) (by omega)) ?_
  rintro _ _ _ ⟨v5, rfl, rfl, rfl, f4⟩
  show ov_R u d (ov_mL nm) 352 [(0, ov_r (-4)), (1, ov_r 0), (2, ov_r 90), (3, ov_i x3)] [ov_i v5] z h ov_LQ
  clear f4
  have K1 := ov_LK_c (B := (1000 * (j + 2))) K I (fun b h0 _ => ov_FF_ge h0) (by omega) K.2.2.2.1 (by omega)
  refine ov_gho (ov_up h (-77) 0 (1000 * (j + 2))) (fun a ha => (ov_up77 ha).symm) ?_
  have a1 : (ov_up h (-77) 0 (1000 * (j + 2))) 1 1 = h 1 1 := congrFun (ov_up77 (by decide)) 1
  have a2 : (ov_up h (-77) 0 (1000 * (j + 2))) 90 2 = h 90 2 := congrFun (ov_up77 (by decide)) 2
  have a3 : (ov_up h (-77) 0 (1000 * (j + 2))) (-77) 0 = (1000 * (j + 2)) := ov_uj.1 rfl
  have a4 : (ov_up h (-77) 0 (1000 * (j + 2))) 103 2 = h 103 2 := (congrFun (ov_up77 (by decide)) 2).trans (congrFun ((I.2.1 103 (by decide) (by decide)).trans (ov_FF_ge (by decide))) 2)
  generalize (ov_up h (-77) 0 (1000 * (j + 2))) = hg at K1 a1 a2 a3 a4 ⊢
  have N1 := K1.2.1
  have hWT := K1.2.2.2.2.1
  have hCD := K1.2.2.2.2.2.1
  have hWK := K1.2.2.2.2.2.2.1
  have hPM : ov_PM (hg 96) (hg 103) (hg 97) (hg 98) (hg 105) (hg 106) (hg 90 22) (hg 90 25) (hg 90 26) (hg 90 28) (hg 90 29) (hg 90 30) := K1.2.2.2.2.2.2.2.1
  have hq1 := K1.2.2.2.2.2.2.2.2.1
  have hq2 := K1.2.2.2.2.2.2.2.2.2
  have hbd : ov_bd (hg, z) = (1000 * (j + 2)) := a3
  have g103 := s103_2 N1
  show ov_R u d (ov_mL nm) 352 [(0, ov_r (-4)), (1, ov_r 0), (2, ov_r 90), (3, ov_i x3)] [ov_i v5] z hg ov_LQ
  refine ov_blk (ls2 := [(0, ov_r (-4)), (1, ov_r 0), (2, ov_r 90), (3, ov_i x3)]) (st2 := [ov_i (x3 + 1), ov_r (-4), ov_r 90]) (pc2 := 358) b_313_352_6 rfl rfl ?_
  refine ov_scl X d_313_358 (by omega) ?_
  refine ov_blk (ls2 := [(0, ov_r (-4)), (1, ov_r 0), (2, ov_r 90), (3, ov_i x3)]) (st2 := [ov_i (x3 + 2), ov_r (-4), ov_i (ov_xs xs (x3 + 1)), ov_r 90]) (pc2 := 363) b_313_359_4 rfl rfl ?_
  refine ov_scl X d_313_363 (by omega) ?_
  refine ov_blk (ls2 := [(0, ov_r (-4)), (1, ov_r 0), (2, ov_r 90), (3, ov_i x3)]) (st2 := [ov_i (x3 + 3), ov_r (-4), ov_i (ov_xs xs (x3 + 2)), ov_i (ov_xs xs (x3 + 1)), ov_r 90]) (pc2 := 368) b_313_364_4 rfl rfl ?_
  refine ov_scl X d_313_368 (by omega) ?_
  refine ov_cV (as := [ov_i (ov_xs xs (x3 + 1)), ov_i (ov_xs xs (x3 + 2)), ov_i (ov_xs xs (x3 + 3))]) (st := []) (d2 := d - 1) d_313_369 lk_Law_33 rfl (Nat.le_of_ble_eq_true rfl) (c := 1) (zb_90 N1) (zs_90 N1) ⟨by decide, rfl⟩ (by omega) (c_Mo_light_90 (d - 1) (by omega) U N1 (ov_xs xs (x3 + 1)) (ov_xs xs (x3 + 2)) (ov_xs xs (x3 + 3)) (by omega) (by omega) (by omega)) ?_
  rintro _ z25 h26 ⟨v10, rfl, I27, f9, e11, e12, e13, e14, e15, e16, e17, e18, e19, e20, e21, e22, e23, e24⟩
  have E28 : h26 92 = hg 92 := e11
  have E29 : h26 93 = hg 93 := e12
  have E30 : h26 94 = hg 94 := e13
  have E31 : h26 95 = hg 95 := e14
  have E32 : h26 96 = hg 96 := e15
  have E33 : h26 97 = hg 97 := e16
  have E34 : h26 98 = hg 98 := e17
  have E35 : h26 99 = hg 99 := e18
  have E36 : h26 100 = hg 100 := e19
  have E37 : h26 103 = hg 103 := e20
  have E38 : h26 105 = hg 105 := e21
  have E39 : h26 106 = hg 106 := e22
  have E40 : h26 109 = hg 109 := e23
  have E41 : h26 114 = hg 114 := e24
  show ov_R u d (ov_mL nm) 372 [(0, ov_r (-4)), (1, ov_r 0), (2, ov_r 90), (3, ov_i x3)] [ov_i v10] z25 h26 ov_LQ
  have f42 : (h26 90 2) = (hg 90 2) ∧ (h26 90 7) = (hg 90 7) ∧ (h26 90 8) = (hg 90 8) ∧ (h26 90 13) = (hg 90 13) ∧ (h26 90 20) = (hg 90 20) ∧ (h26 90 22) = (hg 90 22) ∧ (h26 90 25) = (hg 90 25) ∧ (h26 90 26) = (hg 90 26) ∧ (h26 90 28) = (hg 90 28) ∧ (h26 90 29) = (hg 90 29) ∧ (h26 90 30) = (hg 90 30) ∧ (h26 90 34) = (hg 90 34) ∧ -2147483648 ≤ v10 ∧ v10 ≤ 2147483647 := f9
  clear f9
  have K2 : ov_LK (1 + (j + 1)) (4000 * (j + 1)) z25 h26 := ov_LK_r0 K1 I27 E32 E33 E34 E36 E37 E38 E39 (by omega) (by omega) (by omega)
  have b1 : h26 1 1 = hg 1 1 := congrFun (I27.2.2.2 1 (Or.inl (by decide))) 1
  have b7 : h26 (-77) 0 = hg (-77) 0 := congrFun (I27.2.2.2 (-77) (Or.inl (by decide))) 0
  refine ov_blk (ls2 := [(0, ov_r (-4)), (1, ov_r 0), (2, ov_r 90), (3, ov_i x3)]) (st2 := []) (pc2 := 373) b_313_372_1 rfl rfl ?_
  refine ov_goto (tgt := 1461) d_313_373 (by decide) ?_
  exact BK _ _ K2 (by omega) (by omega)
set_option maxHeartbeats 4000000 in
theorem lw_case_4 {u : ov_U} {nm : String} {d : Nat} (hd : 1000 ≤ d) (U : ov_cap u) {L : Nat} {xs : Nat → Int32} (X : ov_SC u L xs) (hL : L ≤ 3584) (x3 j : Int) (z : ov_Z) (h : ov_H) (K : ov_LK (1 + j) (4000 * j) z h) (e0 : h 1 1 = h 90 2) (gb : h (-77) 0 = 1000 * (j + 1)) (q : 0 ≤ j ∧ x3 = 7 * j ∧ x3 ≤ L - 7) (BK : ∀ (z5 : ov_Z) (h5 : ov_H), ov_LK (1 + (j + 1)) (4000 * (j + 1)) z5 h5 → h5 1 1 = h5 90 2 → h5 (-77) 0 = 1000 * (j + 2) → ov_R u d (ov_mL nm) 1461 [(0, ov_r (-4)), (1, ov_r 0), (2, ov_r 90), (3, ov_i x3)] [] z5 h5 ov_LQ) : ov_R u d (ov_mL nm) 376 [(0, ov_r (-4)), (1, ov_r 0), (2, ov_r 90), (3, ov_i x3)] [] z h ov_LQ := by
  have I := ov_LK_I K
  have hW := ov_LK_W K
  have hJ0 := K.2.2.1
  have s3 := s103_2 K.2.1
  have hb0 : ov_bd (h, z) = 1000 * (j + 1) := gb
  refine ov_blk (ls2 := [(0, ov_r (-4)), (1, ov_r 0), (2, ov_r 90), (3, ov_i x3)]) (st2 := [ov_i (x3 + 1), ov_r (-4), ov_r 0]) (pc2 := 381) b_313_376_5 rfl rfl ?_
  refine ov_scl X d_313_381 (by omega) ?_
  have g1 := ov_xs_g xs (x3 + 1)
  refine ov_blk (ls2 := [(0, ov_r (-4)), (1, ov_r 0), (2, ov_r 90), (3, ov_i x3)]) (st2 := [ov_i (x3 + 2), ov_r (-4), ov_i (ov_xs xs (x3 + 1)), ov_r 0]) (pc2 := 386) b_313_382_4 rfl rfl ?_
  refine ov_scl X d_313_386 (by omega) ?_
  have g2 := ov_xs_g xs (x3 + 2)
  refine ov_blk (ls2 := [(0, ov_r (-4)), (1, ov_r 0), (2, ov_r 90), (3, ov_i x3)]) (st2 := [ov_i (x3 + 3), ov_r (-4), ov_i (ov_xs xs (x3 + 2)), ov_i (ov_xs xs (x3 + 1)), ov_r 0]) (pc2 := 391) b_313_387_4 rfl rfl ?_
  refine ov_scl X d_313_391 (by omega) ?_
  have g3 := ov_xs_g xs (x3 + 3)
  refine ov_blk (ls2 := [(0, ov_r (-4)), (1, ov_r 0), (2, ov_r 90), (3, ov_i x3)]) (st2 := [ov_i (x3 + 4), ov_r (-4), ov_i (ov_xs xs (x3 + 3)), ov_i (ov_xs xs (x3 + 2)), ov_i (ov_xs xs (x3 + 1)), ov_r 0]) (pc2 := 396) b_313_392_4 rfl rfl ?_
  refine ov_scl X d_313_396 (by omega) ?_
  have g4 := ov_xs_g xs (x3 + 4)
  refine ov_cV (as := [ov_i (ov_xs xs (x3 + 1)), ov_i (ov_xs xs (x3 + 2)), ov_i (ov_xs xs (x3 + 3)), ov_i (ov_xs xs (x3 + 4))]) (st := []) (d2 := d - 1) d_313_397 lk_Law_34 rfl (Nat.le_of_ble_eq_true rfl) (c := 0) (zb_0 I) (zs_0 I) ⟨by decide, rfl⟩ (by omega) (c_OF_green_0 (d - 1) (by omega) U I (ov_xs xs (x3 + 1)) (ov_xs xs (x3 + 2)) (ov_xs xs (x3 + 3)) (ov_xs xs (x3 + 4)) (by omega) (by omega) (by omega) (by omega)) ?_
  rintro _ _ _ ⟨v6, rfl, rfl, rfl, f5⟩
  show ov_R u d (ov_mL nm) 400 [(0, ov_r (-4)), (1, ov_r 0), (2, ov_r 90), (3, ov_i x3)] [ov_i v6] z h ov_LQ
  clear f5
  have K1 := ov_LK_c (B := (1000 * (j + 2))) K I (fun b h0 _ => ov_FF_ge h0) (by omega) K.2.2.2.1 (by omega)
  refine ov_gho (ov_up h (-77) 0 (1000 * (j + 2))) (fun a ha => (ov_up77 ha).symm) ?_
  have a1 : (ov_up h (-77) 0 (1000 * (j + 2))) 1 1 = h 1 1 := congrFun (ov_up77 (by decide)) 1
  have a2 : (ov_up h (-77) 0 (1000 * (j + 2))) 90 2 = h 90 2 := congrFun (ov_up77 (by decide)) 2
  have a3 : (ov_up h (-77) 0 (1000 * (j + 2))) (-77) 0 = (1000 * (j + 2)) := ov_uj.1 rfl
  have a4 : (ov_up h (-77) 0 (1000 * (j + 2))) 103 2 = h 103 2 := (congrFun (ov_up77 (by decide)) 2).trans (congrFun ((I.2.1 103 (by decide) (by decide)).trans (ov_FF_ge (by decide))) 2)
  generalize (ov_up h (-77) 0 (1000 * (j + 2))) = hg at K1 a1 a2 a3 a4 ⊢
  have N1 := K1.2.1
  have hWT := K1.2.2.2.2.1
  have hCD := K1.2.2.2.2.2.1
  have hWK := K1.2.2.2.2.2.2.1
  have hPM : ov_PM (hg 96) (hg 103) (hg 97) (hg 98) (hg 105) (hg 106) (hg 90 22) (hg 90 25) (hg 90 26) (hg 90 28) (hg 90 29) (hg 90 30) := K1.2.2.2.2.2.2.2.1
  have hq1 := K1.2.2.2.2.2.2.2.2.1
  have hq2 := K1.2.2.2.2.2.2.2.2.2
  have hbd : ov_bd (hg, z) = (1000 * (j + 2)) := a3
  have g103 := s103_2 N1
  show ov_R u d (ov_mL nm) 400 [(0, ov_r (-4)), (1, ov_r 0), (2, ov_r 90), (3, ov_i x3)] [ov_i v6] z hg ov_LQ
  refine ov_blk (ls2 := [(0, ov_r (-4)), (1, ov_r 0), (2, ov_r 90), (3, ov_i x3)]) (st2 := [ov_i (x3 + 1), ov_r (-4), ov_r 90]) (pc2 := 406) b_313_400_6 rfl rfl ?_
  refine ov_scl X d_313_406 (by omega) ?_
  refine ov_blk (ls2 := [(0, ov_r (-4)), (1, ov_r 0), (2, ov_r 90), (3, ov_i x3)]) (st2 := [ov_i (x3 + 2), ov_r (-4), ov_i (ov_xs xs (x3 + 1)), ov_r 90]) (pc2 := 411) b_313_407_4 rfl rfl ?_
  refine ov_scl X d_313_411 (by omega) ?_
  refine ov_blk (ls2 := [(0, ov_r (-4)), (1, ov_r 0), (2, ov_r 90), (3, ov_i x3)]) (st2 := [ov_i (x3 + 3), ov_r (-4), ov_i (ov_xs xs (x3 + 2)), ov_i (ov_xs xs (x3 + 1)), ov_r 90]) (pc2 := 416) b_313_412_4 rfl rfl ?_
  refine ov_scl X d_313_416 (by omega) ?_
  refine ov_blk (ls2 := [(0, ov_r (-4)), (1, ov_r 0), (2, ov_r 90), (3, ov_i x3)]) (st2 := [ov_i (x3 + 4), ov_r (-4), ov_i (ov_xs xs (x3 + 3)), ov_i (ov_xs xs (x3 + 2)), ov_i (ov_xs xs (x3 + 1)), ov_r 90]) (pc2 := 421) b_313_417_4 rfl rfl ?_
  refine ov_scl X d_313_421 (by omega) ?_
  refine ov_cV (as := [ov_i (ov_xs xs (x3 + 1)), ov_i (ov_xs xs (x3 + 2)), ov_i (ov_xs xs (x3 + 3)), ov_i (ov_xs xs (x3 + 4))]) (st := []) (d2 := d - 1) d_313_422 lk_Law_38 rfl (Nat.le_of_ble_eq_true rfl) (c := 1) (zb_90 N1) (zs_90 N1) ⟨by decide, rfl⟩ (by omega) (c_Mo_green_90 (d - 1) (by omega) U N1 (ov_xs xs (x3 + 1)) (ov_xs xs (x3 + 2)) (ov_xs xs (x3 + 3)) (ov_xs xs (x3 + 4)) (by omega) (by omega) (by omega) (by omega) hWT) ?_
  rintro _ z27 h28 ⟨v12, rfl, I29, f11, e13, e14, e15, e16, e17, e18, e19, e20, e21, e22, e23, e24, e25, e26⟩
  have E30 : h28 92 = hg 92 := e13
  have E31 : h28 93 = hg 93 := e14
  have E32 : h28 94 = hg 94 := e15
  have E33 : h28 95 = hg 95 := e16
  have E34 : h28 96 = hg 96 := e17
  have E35 : h28 97 = hg 97 := e18
  have E36 : h28 98 = hg 98 := e19
  have E37 : h28 99 = hg 99 := e20
  have E38 : h28 100 = hg 100 := e21
  have E39 : h28 103 = hg 103 := e22
  have E40 : h28 105 = hg 105 := e23
  have E41 : h28 106 = hg 106 := e24
  have E42 : h28 109 = hg 109 := e25
  have E43 : h28 114 = hg 114 := e26
  show ov_R u d (ov_mL nm) 425 [(0, ov_r (-4)), (1, ov_r 0), (2, ov_r 90), (3, ov_i x3)] [ov_i v12] z27 h28 ov_LQ
  have f44 : (h28 90 2) = (hg 90 2) ∧ (h28 90 7) = (hg 90 7) ∧ (h28 90 8) = (hg 90 8) ∧ (h28 90 13) = (hg 90 13) ∧ (h28 90 20) = (hg 90 20) ∧ (h28 90 22) = (hg 90 22) ∧ (h28 90 25) = (hg 90 25) ∧ (h28 90 26) = (hg 90 26) ∧ (h28 90 28) = (hg 90 28) ∧ (h28 90 29) = (hg 90 29) ∧ (h28 90 30) = (hg 90 30) ∧ (h28 90 34) = (hg 90 34) ∧ -2147483648 ≤ v12 ∧ v12 ≤ 2147483647 := f11
  clear f11
  have K2 : ov_LK (1 + (j + 1)) (4000 * (j + 1)) z27 h28 := ov_LK_r0 K1 I29 E34 E35 E36 E38 E39 E40 E41 (by omega) (by omega) (by omega)
  have b1 : h28 1 1 = hg 1 1 := congrFun (I29.2.2.2 1 (Or.inl (by decide))) 1
  have b7 : h28 (-77) 0 = hg (-77) 0 := congrFun (I29.2.2.2 (-77) (Or.inl (by decide))) 0
  refine ov_blk (ls2 := [(0, ov_r (-4)), (1, ov_r 0), (2, ov_r 90), (3, ov_i x3)]) (st2 := []) (pc2 := 426) b_313_425_1 rfl rfl ?_
  refine ov_goto (tgt := 1461) d_313_426 (by decide) ?_
  exact BK _ _ K2 (by omega) (by omega)
set_option maxHeartbeats 4000000 in
theorem lw_case_5 {u : ov_U} {nm : String} {d : Nat} (hd : 1000 ≤ d) (U : ov_cap u) {L : Nat} {xs : Nat → Int32} (X : ov_SC u L xs) (hL : L ≤ 3584) (x3 j : Int) (z : ov_Z) (h : ov_H) (K : ov_LK (1 + j) (4000 * j) z h) (e0 : h 1 1 = h 90 2) (gb : h (-77) 0 = 1000 * (j + 1)) (q : 0 ≤ j ∧ x3 = 7 * j ∧ x3 ≤ L - 7) (BK : ∀ (z5 : ov_Z) (h5 : ov_H), ov_LK (1 + (j + 1)) (4000 * (j + 1)) z5 h5 → h5 1 1 = h5 90 2 → h5 (-77) 0 = 1000 * (j + 2) → ov_R u d (ov_mL nm) 1461 [(0, ov_r (-4)), (1, ov_r 0), (2, ov_r 90), (3, ov_i x3)] [] z5 h5 ov_LQ) : ov_R u d (ov_mL nm) 429 [(0, ov_r (-4)), (1, ov_r 0), (2, ov_r 90), (3, ov_i x3)] [] z h ov_LQ := by
  have I := ov_LK_I K
  have hW := ov_LK_W K
  have hJ0 := K.2.2.1
  have s3 := s103_2 K.2.1
  have hb0 : ov_bd (h, z) = 1000 * (j + 1) := gb
  refine ov_blk (ls2 := [(0, ov_r (-4)), (1, ov_r 0), (2, ov_r 90), (3, ov_i x3)]) (st2 := [ov_i (x3 + 1), ov_r (-4), ov_r 0]) (pc2 := 434) b_313_429_5 rfl rfl ?_
  refine ov_scl X d_313_434 (by omega) ?_
  have g1 := ov_xs_g xs (x3 + 1)
  refine ov_blk (ls2 := [(0, ov_r (-4)), (1, ov_r 0), (2, ov_r 90), (3, ov_i x3)]) (st2 := [ov_i (x3 + 2), ov_r (-4), ov_i (ov_xs xs (x3 + 1)), ov_r 0]) (pc2 := 439) b_313_435_4 rfl rfl ?_
  refine ov_scl X d_313_439 (by omega) ?_
  have g2 := ov_xs_g xs (x3 + 2)
  refine ov_blk (ls2 := [(0, ov_r (-4)), (1, ov_r 0), (2, ov_r 90), (3, ov_i x3)]) (st2 := [ov_i (x3 + 3), ov_r (-4), ov_i (ov_xs xs (x3 + 2)), ov_i (ov_xs xs (x3 + 1)), ov_r 0]) (pc2 := 444) b_313_440_4 rfl rfl ?_
  refine ov_scl X d_313_444 (by omega) ?_
  have g3 := ov_xs_g xs (x3 + 3)
  refine ov_blk (ls2 := [(0, ov_r (-4)), (1, ov_r 0), (2, ov_r 90), (3, ov_i x3)]) (st2 := [ov_i (x3 + 4), ov_r (-4), ov_i (ov_xs xs (x3 + 3)), ov_i (ov_xs xs (x3 + 2)), ov_i (ov_xs xs (x3 + 1)), ov_r 0]) (pc2 := 449) b_313_445_4 rfl rfl ?_
  refine ov_scl X d_313_449 (by omega) ?_
  have g4 := ov_xs_g xs (x3 + 4)
  refine ov_cV (as := [ov_i (ov_xs xs (x3 + 1)), ov_i (ov_xs xs (x3 + 2)), ov_i (ov_xs xs (x3 + 3)), ov_i (ov_xs xs (x3 + 4))]) (st := []) (d2 := d - 1) d_313_450 lk_Law_39 rfl (Nat.le_of_ble_eq_true rfl) (c := 0) (zb_0 I) (zs_0 I) ⟨by decide, rfl⟩ (by omega) (c_OF_until_0 (d - 1) (by omega) U I (ov_xs xs (x3 + 1)) (ov_xs xs (x3 + 2)) (ov_xs xs (x3 + 3)) (ov_xs xs (x3 + 4)) (by omega) (by omega) (by omega) (by omega)) ?_
  rintro _ _ _ ⟨v6, rfl, rfl, rfl, f5⟩
  show ov_R u d (ov_mL nm) 453 [(0, ov_r (-4)), (1, ov_r 0), (2, ov_r 90), (3, ov_i x3)] [ov_i v6] z h ov_LQ
  clear f5
  have K1 := ov_LK_c (B := (1000 * (j + 2))) K I (fun b h0 _ => ov_FF_ge h0) (by omega) K.2.2.2.1 (by omega)
  refine ov_gho (ov_up h (-77) 0 (1000 * (j + 2))) (fun a ha => (ov_up77 ha).symm) ?_
  have a1 : (ov_up h (-77) 0 (1000 * (j + 2))) 1 1 = h 1 1 := congrFun (ov_up77 (by decide)) 1
  have a2 : (ov_up h (-77) 0 (1000 * (j + 2))) 90 2 = h 90 2 := congrFun (ov_up77 (by decide)) 2
  have a3 : (ov_up h (-77) 0 (1000 * (j + 2))) (-77) 0 = (1000 * (j + 2)) := ov_uj.1 rfl
  have a4 : (ov_up h (-77) 0 (1000 * (j + 2))) 103 2 = h 103 2 := (congrFun (ov_up77 (by decide)) 2).trans (congrFun ((I.2.1 103 (by decide) (by decide)).trans (ov_FF_ge (by decide))) 2)
  generalize (ov_up h (-77) 0 (1000 * (j + 2))) = hg at K1 a1 a2 a3 a4 ⊢
  have N1 := K1.2.1
  have hWT := K1.2.2.2.2.1
  have hCD := K1.2.2.2.2.2.1
  have hWK := K1.2.2.2.2.2.2.1
  have hPM : ov_PM (hg 96) (hg 103) (hg 97) (hg 98) (hg 105) (hg 106) (hg 90 22) (hg 90 25) (hg 90 26) (hg 90 28) (hg 90 29) (hg 90 30) := K1.2.2.2.2.2.2.2.1
  have hq1 := K1.2.2.2.2.2.2.2.2.1
  have hq2 := K1.2.2.2.2.2.2.2.2.2
  have hbd : ov_bd (hg, z) = (1000 * (j + 2)) := a3
  have g103 := s103_2 N1
  show ov_R u d (ov_mL nm) 453 [(0, ov_r (-4)), (1, ov_r 0), (2, ov_r 90), (3, ov_i x3)] [ov_i v6] z hg ov_LQ
  refine ov_blk (ls2 := [(0, ov_r (-4)), (1, ov_r 0), (2, ov_r 90), (3, ov_i x3)]) (st2 := [ov_i (x3 + 1), ov_r (-4), ov_r 90]) (pc2 := 459) b_313_453_6 rfl rfl ?_
  refine ov_scl X d_313_459 (by omega) ?_
  refine ov_blk (ls2 := [(0, ov_r (-4)), (1, ov_r 0), (2, ov_r 90), (3, ov_i x3)]) (st2 := [ov_i (x3 + 2), ov_r (-4), ov_i (ov_xs xs (x3 + 1)), ov_r 90]) (pc2 := 464) b_313_460_4 rfl rfl ?_
  refine ov_scl X d_313_464 (by omega) ?_
  refine ov_blk (ls2 := [(0, ov_r (-4)), (1, ov_r 0), (2, ov_r 90), (3, ov_i x3)]) (st2 := [ov_i (x3 + 3), ov_r (-4), ov_i (ov_xs xs (x3 + 2)), ov_i (ov_xs xs (x3 + 1)), ov_r 90]) (pc2 := 469) b_313_465_4 rfl rfl ?_
  refine ov_scl X d_313_469 (by omega) ?_
  refine ov_blk (ls2 := [(0, ov_r (-4)), (1, ov_r 0), (2, ov_r 90), (3, ov_i x3)]) (st2 := [ov_i (x3 + 4), ov_r (-4), ov_i (ov_xs xs (x3 + 3)), ov_i (ov_xs xs (x3 + 2)), ov_i (ov_xs xs (x3 + 1)), ov_r 90]) (pc2 := 474) b_313_470_4 rfl rfl ?_
  refine ov_scl X d_313_474 (by omega) ?_
  refine ov_cV (as := [ov_i (ov_xs xs (x3 + 1)), ov_i (ov_xs xs (x3 + 2)), ov_i (ov_xs xs (x3 + 3)), ov_i (ov_xs xs (x3 + 4))]) (st := []) (d2 := d - 1) d_313_475 lk_Law_42 rfl (Nat.le_of_ble_eq_true rfl) (c := 1) (zb_90 N1) (zs_90 N1) ⟨by decide, rfl⟩ (by omega) (c_Mo_until_90 (d - 1) (by omega) U N1 (ov_xs xs (x3 + 1)) (ov_xs xs (x3 + 2)) (ov_xs xs (x3 + 3)) (ov_xs xs (x3 + 4)) (by omega) (by omega) (by omega) (by omega) hWT) ?_
  rintro _ z27 h28 ⟨v12, rfl, I29, f11, e13, e14, e15, e16, e17, e18, e19, e20, e21, e22, e23, e24, e25, e26⟩
  have E30 : h28 92 = hg 92 := e13
  have E31 : h28 93 = hg 93 := e14
  have E32 : h28 94 = hg 94 := e15
  have E33 : h28 95 = hg 95 := e16
  have E34 : h28 96 = hg 96 := e17
  have E35 : h28 97 = hg 97 := e18
  have E36 : h28 98 = hg 98 := e19
  have E37 : h28 99 = hg 99 := e20
  have E38 : h28 100 = hg 100 := e21
  have E39 : h28 103 = hg 103 := e22
  have E40 : h28 105 = hg 105 := e23
  have E41 : h28 106 = hg 106 := e24
  have E42 : h28 109 = hg 109 := e25
  have E43 : h28 114 = hg 114 := e26
  show ov_R u d (ov_mL nm) 478 [(0, ov_r (-4)), (1, ov_r 0), (2, ov_r 90), (3, ov_i x3)] [ov_i v12] z27 h28 ov_LQ
  have f44 : (h28 90 2) = (hg 90 2) ∧ (h28 90 7) = (hg 90 7) ∧ (h28 90 8) = (hg 90 8) ∧ (h28 90 13) = (hg 90 13) ∧ (h28 90 20) = (hg 90 20) ∧ (h28 90 22) = (hg 90 22) ∧ (h28 90 25) = (hg 90 25) ∧ (h28 90 26) = (hg 90 26) ∧ (h28 90 28) = (hg 90 28) ∧ (h28 90 29) = (hg 90 29) ∧ (h28 90 30) = (hg 90 30) ∧ (h28 90 34) = (hg 90 34) ∧ -2147483648 ≤ v12 ∧ v12 ≤ 2147483647 := f11
  clear f11
  have K2 : ov_LK (1 + (j + 1)) (4000 * (j + 1)) z27 h28 := ov_LK_r0 K1 I29 E34 E35 E36 E38 E39 E40 E41 (by omega) (by omega) (by omega)
  have b1 : h28 1 1 = hg 1 1 := congrFun (I29.2.2.2 1 (Or.inl (by decide))) 1
  have b7 : h28 (-77) 0 = hg (-77) 0 := congrFun (I29.2.2.2 (-77) (Or.inl (by decide))) 0
  refine ov_blk (ls2 := [(0, ov_r (-4)), (1, ov_r 0), (2, ov_r 90), (3, ov_i x3)]) (st2 := []) (pc2 := 479) b_313_478_1 rfl rfl ?_
  refine ov_goto (tgt := 1461) d_313_479 (by decide) ?_
  exact BK _ _ K2 (by omega) (by omega)
set_option maxHeartbeats 4000000 in
theorem lw_case_6 {u : ov_U} {nm : String} {d : Nat} (hd : 1000 ≤ d) (U : ov_cap u) {L : Nat} {xs : Nat → Int32} (X : ov_SC u L xs) (hL : L ≤ 3584) (x3 j : Int) (z : ov_Z) (h : ov_H) (K : ov_LK (1 + j) (4000 * j) z h) (e0 : h 1 1 = h 90 2) (gb : h (-77) 0 = 1000 * (j + 1)) (q : 0 ≤ j ∧ x3 = 7 * j ∧ x3 ≤ L - 7) (BK : ∀ (z5 : ov_Z) (h5 : ov_H), ov_LK (1 + (j + 1)) (4000 * (j + 1)) z5 h5 → h5 1 1 = h5 90 2 → h5 (-77) 0 = 1000 * (j + 2) → ov_R u d (ov_mL nm) 1461 [(0, ov_r (-4)), (1, ov_r 0), (2, ov_r 90), (3, ov_i x3)] [] z5 h5 ov_LQ) : ov_R u d (ov_mL nm) 482 [(0, ov_r (-4)), (1, ov_r 0), (2, ov_r 90), (3, ov_i x3)] [] z h ov_LQ := by
  have I := ov_LK_I K
  have hW := ov_LK_W K
  have hJ0 := K.2.2.1
  have s3 := s103_2 K.2.1
  have hb0 : ov_bd (h, z) = 1000 * (j + 1) := gb
  refine ov_blk (ls2 := [(0, ov_r (-4)), (1, ov_r 0), (2, ov_r 90), (3, ov_i x3)]) (st2 := [ov_i (x3 + 1), ov_r (-4), ov_r 0]) (pc2 := 487) b_313_482_5 rfl rfl ?_
  refine ov_scl X d_313_487 (by omega) ?_
  have g1 := ov_xs_g xs (x3 + 1)
  refine ov_blk (ls2 := [(0, ov_r (-4)), (1, ov_r 0), (2, ov_r 90), (3, ov_i x3)]) (st2 := [ov_i (x3 + 2), ov_r (-4), ov_i (ov_xs xs (x3 + 1)), ov_r 0]) (pc2 := 492) b_313_488_4 rfl rfl ?_
  refine ov_scl X d_313_492 (by omega) ?_
  have g2 := ov_xs_g xs (x3 + 2)
  refine ov_ifeq (tgt := 500) d_313_493 (by decide) (by omega) (fun c3 => ?_) (fun c3 => ?_)
  · skip
    refine ov_blk (ls2 := [(0, ov_r (-4)), (1, ov_r 0), (2, ov_r 90), (3, ov_i x3)]) (st2 := [ov_i 0, ov_i (ov_xs xs (x3 + 1)), ov_r 0]) (pc2 := 501) b_313_500_1 rfl rfl ?_
    refine ov_cV (as := [ov_i (ov_xs xs (x3 + 1)), ov_i 0]) (st := []) (d2 := d - 1) d_313_501 lk_Law_43 rfl (Nat.le_of_ble_eq_true rfl) (c := 0) (zb_0 I) (zs_0 I) ⟨by decide, rfl⟩ (by omega) (c_OF_go_0 (d - 1) (by omega) U I (ov_xs xs (x3 + 1)) 0 (by omega) (by omega)) ?_
    rintro _ z6 h7 ⟨v5, rfl, I8, f4⟩
    show ov_R u d (ov_mL nm) 504 [(0, ov_r (-4)), (1, ov_r 0), (2, ov_r 90), (3, ov_i x3)] [ov_i v5] z6 h7 ov_LQ
    have f9 : (h7 36 7) = (h 36 7) ∧ (h7 1 1) = (h 1 1) ∧ (h7 90 2) = (h 90 2) ∧ (h7 0 10) = (h 0 10) ∧ (h7 0 11) = (h 0 11) ∧ (h7 0 12) = (h 0 12) ∧ (h7 0 13) = (h 0 13) ∧ (h7 3 1) = (h 3 1) ∧ (h7 36 8) = (h 36 8) ∧ (h7 46 3) = (h 46 3) ∧ (h7 46 4) = (h 46 4) ∧ (h7 49 4) = (h 49 4) ∧ (h7 49 5) = (h 49 5) ∧ (h7 64 0) = (h 64 0) ∧ (h7 76 0) = (h 76 0) := f4
    clear f4
    have K1 := ov_LK_c (B := (1000 * (j + 2))) K I8 (fun b h0 _ => ov_FF_ge h0) (by omega) (ov_HR_k hW I8 (by omega) (by omega) (by omega) (by omega)) (by omega)
    refine ov_gho (ov_up h7 (-77) 0 (1000 * (j + 2))) (fun a ha => (ov_up77 ha).symm) ?_
    have a1 : (ov_up h7 (-77) 0 (1000 * (j + 2))) 1 1 = h7 1 1 := congrFun (ov_up77 (by decide)) 1
    have a2 : (ov_up h7 (-77) 0 (1000 * (j + 2))) 90 2 = h7 90 2 := congrFun (ov_up77 (by decide)) 2
    have a3 : (ov_up h7 (-77) 0 (1000 * (j + 2))) (-77) 0 = (1000 * (j + 2)) := ov_uj.1 rfl
    have a4 : (ov_up h7 (-77) 0 (1000 * (j + 2))) 103 2 = h 103 2 := (congrFun (ov_up77 (by decide)) 2).trans (congrFun ((I8.2.1 103 (by decide) (by decide)).trans (ov_FF_ge (by decide))) 2)
    generalize (ov_up h7 (-77) 0 (1000 * (j + 2))) = hg at K1 a1 a2 a3 a4 ⊢
    have N1 := K1.2.1
    have hWT := K1.2.2.2.2.1
    have hCD := K1.2.2.2.2.2.1
    have hWK := K1.2.2.2.2.2.2.1
    have hPM : ov_PM (hg 96) (hg 103) (hg 97) (hg 98) (hg 105) (hg 106) (hg 90 22) (hg 90 25) (hg 90 26) (hg 90 28) (hg 90 29) (hg 90 30) := K1.2.2.2.2.2.2.2.1
    have hq1 := K1.2.2.2.2.2.2.2.2.1
    have hq2 := K1.2.2.2.2.2.2.2.2.2
    have hbd : ov_bd (hg, z6) = (1000 * (j + 2)) := a3
    have g103 := s103_2 N1
    show ov_R u d (ov_mL nm) 504 [(0, ov_r (-4)), (1, ov_r 0), (2, ov_r 90), (3, ov_i x3)] [ov_i v5] z6 hg ov_LQ
    refine ov_blk (ls2 := [(0, ov_r (-4)), (1, ov_r 0), (2, ov_r 90), (3, ov_i x3)]) (st2 := [ov_i (x3 + 1), ov_r (-4), ov_r 90]) (pc2 := 510) b_313_504_6 rfl rfl ?_
    refine ov_scl X d_313_510 (by omega) ?_
    refine ov_blk (ls2 := [(0, ov_r (-4)), (1, ov_r 0), (2, ov_r 90), (3, ov_i x3)]) (st2 := [ov_i (x3 + 2), ov_r (-4), ov_i (ov_xs xs (x3 + 1)), ov_r 90]) (pc2 := 515) b_313_511_4 rfl rfl ?_
    refine ov_scl X d_313_515 (by omega) ?_
    refine ov_ifeq (tgt := 523) d_313_516 (by decide) (by omega) (fun c12 => ?_) (fun c12 => ?_)
    · skip
      refine ov_blk (ls2 := [(0, ov_r (-4)), (1, ov_r 0), (2, ov_r 90), (3, ov_i x3)]) (st2 := [ov_i 0, ov_i (ov_xs xs (x3 + 1)), ov_r 90]) (pc2 := 524) b_313_523_1 rfl rfl ?_
      refine ov_cV (as := [ov_i (ov_xs xs (x3 + 1)), ov_i 0]) (st := []) (d2 := d - 1) d_313_524 lk_Law_47 rfl (Nat.le_of_ble_eq_true rfl) (c := 1) (zb_90 N1) (zs_90 N1) ⟨by decide, rfl⟩ (by omega) (c_Mo_go_90 (d - 1) (by omega) U N1 (ov_xs xs (x3 + 1)) 0 (by omega) (by omega) (by show (hg 103 2) ≤ ov_bd (hg, z6) - 1000; omega) (by omega) hWT) ?_
      rintro _ z29 h30 ⟨v14, rfl, I31, f13, e15, e16, e17, e18, e19, e20, e21, e22, e23, e24, e25, e26, e27, y28⟩
      have E32 : h30 92 = hg 92 := e15
      have E33 : h30 93 = hg 93 := e16
      have E34 : h30 94 = hg 94 := e17
      have E35 : h30 95 = hg 95 := e18
      have E36 : h30 96 = hg 96 := e19
      have E37 : h30 97 = hg 97 := e20
      have E38 : h30 98 = hg 98 := e21
      have E39 : h30 99 = hg 99 := e22
      have E40 : h30 100 = hg 100 := e23
      have E41 : h30 105 = hg 105 := e24
      have E42 : h30 106 = hg 106 := e25
      have E43 : h30 109 = hg 109 := e26
      have E44 : h30 114 = hg 114 := e27
      show ov_R u d (ov_mL nm) 527 [(0, ov_r (-4)), (1, ov_r 0), (2, ov_r 90), (3, ov_i x3)] [ov_i v14] z29 h30 ov_LQ
      have f45 : (h30 90 2) = (hg 90 2) ∧ (h30 90 7) = (hg 90 7) ∧ (h30 90 8) = (hg 90 8) ∧ (h30 90 13) = (hg 90 13) ∧ (h30 90 22) = (hg 90 22) ∧ (h30 90 25) = (hg 90 25) ∧ (h30 90 26) = (hg 90 26) ∧ (h30 90 28) = (hg 90 28) ∧ (h30 90 29) = (hg 90 29) ∧ (h30 90 30) = (hg 90 30) ∧ (h30 90 34) = (hg 90 34) ∧ -2147483648 ≤ v14 ∧ v14 ≤ 2147483647 := f13
      clear f13
      have y28_ : ∀ j : Int, 4 ≤ j → j ≤ 57 → (h30 103) j = (hg 103) j := y28
      have K2 : ov_LK (1 + (j + 1)) (4000 * (j + 1)) z29 h30 := ov_LK_r4 K1 I31 E36 E37 E38 E40 y28_ E41 E42 (by omega) (by omega) (by omega)
      have b1 : h30 1 1 = hg 1 1 := congrFun (I31.2.2.2 1 (Or.inl (by decide))) 1
      have b7 : h30 (-77) 0 = hg (-77) 0 := congrFun (I31.2.2.2 (-77) (Or.inl (by decide))) 0
      refine ov_blk (ls2 := [(0, ov_r (-4)), (1, ov_r 0), (2, ov_r 90), (3, ov_i x3)]) (st2 := []) (pc2 := 528) b_313_527_1 rfl rfl ?_
      refine ov_goto (tgt := 1461) d_313_528 (by decide) ?_
      exact BK _ _ K2 (by omega) (by omega)
    · omega
  · skip
    refine ov_blk (ls2 := [(0, ov_r (-4)), (1, ov_r 0), (2, ov_r 90), (3, ov_i x3)]) (st2 := [ov_i 1, ov_i (ov_xs xs (x3 + 1)), ov_r 0]) (pc2 := 497) b_313_496_1 rfl rfl ?_
    refine ov_goto (tgt := 501) d_313_497 (by decide) ?_
    refine ov_cV (as := [ov_i (ov_xs xs (x3 + 1)), ov_i 1]) (st := []) (d2 := d - 1) d_313_501 lk_Law_43 rfl (Nat.le_of_ble_eq_true rfl) (c := 0) (zb_0 I) (zs_0 I) ⟨by decide, rfl⟩ (by omega) (c_OF_go_0 (d - 1) (by omega) U I (ov_xs xs (x3 + 1)) 1 (by omega) (by omega)) ?_
    rintro _ z48 h49 ⟨v47, rfl, I50, f46⟩
    show ov_R u d (ov_mL nm) 504 [(0, ov_r (-4)), (1, ov_r 0), (2, ov_r 90), (3, ov_i x3)] [ov_i v47] z48 h49 ov_LQ
    have f51 : (h49 36 7) = (h 36 7) ∧ (h49 1 1) = (h 1 1) ∧ (h49 90 2) = (h 90 2) ∧ (h49 0 10) = (h 0 10) ∧ (h49 0 11) = (h 0 11) ∧ (h49 0 12) = (h 0 12) ∧ (h49 0 13) = (h 0 13) ∧ (h49 3 1) = (h 3 1) ∧ (h49 36 8) = (h 36 8) ∧ (h49 46 3) = (h 46 3) ∧ (h49 46 4) = (h 46 4) ∧ (h49 49 4) = (h 49 4) ∧ (h49 49 5) = (h 49 5) ∧ (h49 64 0) = (h 64 0) ∧ (h49 76 0) = (h 76 0) := f46
    clear f46
    have K1 := ov_LK_c (B := (1000 * (j + 2))) K I50 (fun b h0 _ => ov_FF_ge h0) (by omega) (ov_HR_k hW I50 (by omega) (by omega) (by omega) (by omega)) (by omega)
    refine ov_gho (ov_up h49 (-77) 0 (1000 * (j + 2))) (fun a ha => (ov_up77 ha).symm) ?_
    have a1 : (ov_up h49 (-77) 0 (1000 * (j + 2))) 1 1 = h49 1 1 := congrFun (ov_up77 (by decide)) 1
    have a2 : (ov_up h49 (-77) 0 (1000 * (j + 2))) 90 2 = h49 90 2 := congrFun (ov_up77 (by decide)) 2
    have a3 : (ov_up h49 (-77) 0 (1000 * (j + 2))) (-77) 0 = (1000 * (j + 2)) := ov_uj.1 rfl
    have a4 : (ov_up h49 (-77) 0 (1000 * (j + 2))) 103 2 = h 103 2 := (congrFun (ov_up77 (by decide)) 2).trans (congrFun ((I50.2.1 103 (by decide) (by decide)).trans (ov_FF_ge (by decide))) 2)
    generalize (ov_up h49 (-77) 0 (1000 * (j + 2))) = hg at K1 a1 a2 a3 a4 ⊢
    have N1 := K1.2.1
    have hWT := K1.2.2.2.2.1
    have hCD := K1.2.2.2.2.2.1
    have hWK := K1.2.2.2.2.2.2.1
    have hPM : ov_PM (hg 96) (hg 103) (hg 97) (hg 98) (hg 105) (hg 106) (hg 90 22) (hg 90 25) (hg 90 26) (hg 90 28) (hg 90 29) (hg 90 30) := K1.2.2.2.2.2.2.2.1
    have hq1 := K1.2.2.2.2.2.2.2.2.1
    have hq2 := K1.2.2.2.2.2.2.2.2.2
    have hbd : ov_bd (hg, z48) = (1000 * (j + 2)) := a3
    have g103 := s103_2 N1
    show ov_R u d (ov_mL nm) 504 [(0, ov_r (-4)), (1, ov_r 0), (2, ov_r 90), (3, ov_i x3)] [ov_i v47] z48 hg ov_LQ
    refine ov_blk (ls2 := [(0, ov_r (-4)), (1, ov_r 0), (2, ov_r 90), (3, ov_i x3)]) (st2 := [ov_i (x3 + 1), ov_r (-4), ov_r 90]) (pc2 := 510) b_313_504_6 rfl rfl ?_
    refine ov_scl X d_313_510 (by omega) ?_
    refine ov_blk (ls2 := [(0, ov_r (-4)), (1, ov_r 0), (2, ov_r 90), (3, ov_i x3)]) (st2 := [ov_i (x3 + 2), ov_r (-4), ov_i (ov_xs xs (x3 + 1)), ov_r 90]) (pc2 := 515) b_313_511_4 rfl rfl ?_
    refine ov_scl X d_313_515 (by omega) ?_
    refine ov_ifeq (tgt := 523) d_313_516 (by decide) (by omega) (fun c54 => ?_) (fun c54 => ?_)
    · omega
    · skip
      refine ov_blk (ls2 := [(0, ov_r (-4)), (1, ov_r 0), (2, ov_r 90), (3, ov_i x3)]) (st2 := [ov_i 1, ov_i (ov_xs xs (x3 + 1)), ov_r 90]) (pc2 := 520) b_313_519_1 rfl rfl ?_
      refine ov_goto (tgt := 524) d_313_520 (by decide) ?_
      refine ov_cV (as := [ov_i (ov_xs xs (x3 + 1)), ov_i 1]) (st := []) (d2 := d - 1) d_313_524 lk_Law_47 rfl (Nat.le_of_ble_eq_true rfl) (c := 1) (zb_90 N1) (zs_90 N1) ⟨by decide, rfl⟩ (by omega) (c_Mo_go_90 (d - 1) (by omega) U N1 (ov_xs xs (x3 + 1)) 1 (by omega) (by omega) (by show (hg 103 2) ≤ ov_bd (hg, z48) - 1000; omega) (by omega) hWT) ?_
      rintro _ z71 h72 ⟨v56, rfl, I73, f55, e57, e58, e59, e60, e61, e62, e63, e64, e65, e66, e67, e68, e69, y70⟩
      have E74 : h72 92 = hg 92 := e57
      have E75 : h72 93 = hg 93 := e58
      have E76 : h72 94 = hg 94 := e59
      have E77 : h72 95 = hg 95 := e60
      have E78 : h72 96 = hg 96 := e61
      have E79 : h72 97 = hg 97 := e62
      have E80 : h72 98 = hg 98 := e63
      have E81 : h72 99 = hg 99 := e64
      have E82 : h72 100 = hg 100 := e65
      have E83 : h72 105 = hg 105 := e66
      have E84 : h72 106 = hg 106 := e67
      have E85 : h72 109 = hg 109 := e68
      have E86 : h72 114 = hg 114 := e69
      show ov_R u d (ov_mL nm) 527 [(0, ov_r (-4)), (1, ov_r 0), (2, ov_r 90), (3, ov_i x3)] [ov_i v56] z71 h72 ov_LQ
      have f87 : (h72 90 2) = (hg 90 2) ∧ (h72 90 7) = (hg 90 7) ∧ (h72 90 8) = (hg 90 8) ∧ (h72 90 13) = (hg 90 13) ∧ (h72 90 22) = (hg 90 22) ∧ (h72 90 25) = (hg 90 25) ∧ (h72 90 26) = (hg 90 26) ∧ (h72 90 28) = (hg 90 28) ∧ (h72 90 29) = (hg 90 29) ∧ (h72 90 30) = (hg 90 30) ∧ (h72 90 34) = (hg 90 34) ∧ -2147483648 ≤ v56 ∧ v56 ≤ 2147483647 := f55
      clear f55
      have y70_ : ∀ j : Int, 4 ≤ j → j ≤ 57 → (h72 103) j = (hg 103) j := y70
      have K2 : ov_LK (1 + (j + 1)) (4000 * (j + 1)) z71 h72 := ov_LK_r4 K1 I73 E78 E79 E80 E82 y70_ E83 E84 (by omega) (by omega) (by omega)
      have b1 : h72 1 1 = hg 1 1 := congrFun (I73.2.2.2 1 (Or.inl (by decide))) 1
      have b7 : h72 (-77) 0 = hg (-77) 0 := congrFun (I73.2.2.2 (-77) (Or.inl (by decide))) 0
      refine ov_blk (ls2 := [(0, ov_r (-4)), (1, ov_r 0), (2, ov_r 90), (3, ov_i x3)]) (st2 := []) (pc2 := 528) b_313_527_1 rfl rfl ?_
      refine ov_goto (tgt := 1461) d_313_528 (by decide) ?_
      exact BK _ _ K2 (by omega) (by omega)
set_option maxHeartbeats 4000000 in
theorem lw_case_7 {u : ov_U} {nm : String} {d : Nat} (hd : 1000 ≤ d) (U : ov_cap u) {L : Nat} {xs : Nat → Int32} (X : ov_SC u L xs) (hL : L ≤ 3584) (x3 j : Int) (z : ov_Z) (h : ov_H) (K : ov_LK (1 + j) (4000 * j) z h) (e0 : h 1 1 = h 90 2) (gb : h (-77) 0 = 1000 * (j + 1)) (q : 0 ≤ j ∧ x3 = 7 * j ∧ x3 ≤ L - 7) (BK : ∀ (z5 : ov_Z) (h5 : ov_H), ov_LK (1 + (j + 1)) (4000 * (j + 1)) z5 h5 → h5 1 1 = h5 90 2 → h5 (-77) 0 = 1000 * (j + 2) → ov_R u d (ov_mL nm) 1461 [(0, ov_r (-4)), (1, ov_r 0), (2, ov_r 90), (3, ov_i x3)] [] z5 h5 ov_LQ) : ov_R u d (ov_mL nm) 531 [(0, ov_r (-4)), (1, ov_r 0), (2, ov_r 90), (3, ov_i x3)] [] z h ov_LQ := by
  have I := ov_LK_I K
  have hW := ov_LK_W K
  have hJ0 := K.2.2.1
  have s3 := s103_2 K.2.1
  have hb0 : ov_bd (h, z) = 1000 * (j + 1) := gb
  refine ov_blk (ls2 := [(0, ov_r (-4)), (1, ov_r 0), (2, ov_r 90), (3, ov_i x3)]) (st2 := [ov_i (x3 + 1), ov_r (-4), ov_r 0]) (pc2 := 536) b_313_531_5 rfl rfl ?_
  refine ov_scl X d_313_536 (by omega) ?_
  have g1 := ov_xs_g xs (x3 + 1)
  refine ov_cV (as := [ov_i (ov_xs xs (x3 + 1))]) (st := []) (d2 := d - 1) d_313_537 lk_Law_48 rfl (Nat.le_of_ble_eq_true rfl) (c := 0) (zb_0 I) (zs_0 I) ⟨by decide, rfl⟩ (by omega) (c_OF_stay_0 (d - 1) (by omega) U I (ov_xs xs (x3 + 1)) (by omega)) ?_
  rintro _ z4 h5 ⟨v3, rfl, I6, f2⟩
  show ov_R u d (ov_mL nm) 540 [(0, ov_r (-4)), (1, ov_r 0), (2, ov_r 90), (3, ov_i x3)] [ov_i v3] z4 h5 ov_LQ
  have f7 : (h5 36 7) = (h 36 7) ∧ (h5 1 1) = (h 1 1) ∧ (h5 90 2) = (h 90 2) ∧ (h5 0 10) = (h 0 10) ∧ (h5 0 11) = (h 0 11) ∧ (h5 0 12) = (h 0 12) ∧ (h5 0 13) = (h 0 13) ∧ (h5 3 1) = (h 3 1) ∧ (h5 36 8) = (h 36 8) ∧ (h5 46 3) = (h 46 3) ∧ (h5 46 4) = (h 46 4) ∧ (h5 49 4) = (h 49 4) ∧ (h5 49 5) = (h 49 5) ∧ (h5 64 0) = (h 64 0) ∧ (h5 76 0) = (h 76 0) := f2
  clear f2
  have K1 := ov_LK_c (B := (1000 * (j + 2))) K I6 (fun b h0 _ => ov_FF_ge h0) (by omega) (ov_HR_k hW I6 (by omega) (by omega) (by omega) (by omega)) (by omega)
  refine ov_gho (ov_up h5 (-77) 0 (1000 * (j + 2))) (fun a ha => (ov_up77 ha).symm) ?_
  have a1 : (ov_up h5 (-77) 0 (1000 * (j + 2))) 1 1 = h5 1 1 := congrFun (ov_up77 (by decide)) 1
  have a2 : (ov_up h5 (-77) 0 (1000 * (j + 2))) 90 2 = h5 90 2 := congrFun (ov_up77 (by decide)) 2
  have a3 : (ov_up h5 (-77) 0 (1000 * (j + 2))) (-77) 0 = (1000 * (j + 2)) := ov_uj.1 rfl
  have a4 : (ov_up h5 (-77) 0 (1000 * (j + 2))) 103 2 = h 103 2 := (congrFun (ov_up77 (by decide)) 2).trans (congrFun ((I6.2.1 103 (by decide) (by decide)).trans (ov_FF_ge (by decide))) 2)
  generalize (ov_up h5 (-77) 0 (1000 * (j + 2))) = hg at K1 a1 a2 a3 a4 ⊢
  have N1 := K1.2.1
  have hWT := K1.2.2.2.2.1
  have hCD := K1.2.2.2.2.2.1
  have hWK := K1.2.2.2.2.2.2.1
  have hPM : ov_PM (hg 96) (hg 103) (hg 97) (hg 98) (hg 105) (hg 106) (hg 90 22) (hg 90 25) (hg 90 26) (hg 90 28) (hg 90 29) (hg 90 30) := K1.2.2.2.2.2.2.2.1
  have hq1 := K1.2.2.2.2.2.2.2.2.1
  have hq2 := K1.2.2.2.2.2.2.2.2.2
  have hbd : ov_bd (hg, z4) = (1000 * (j + 2)) := a3
  have g103 := s103_2 N1
  show ov_R u d (ov_mL nm) 540 [(0, ov_r (-4)), (1, ov_r 0), (2, ov_r 90), (3, ov_i x3)] [ov_i v3] z4 hg ov_LQ
  refine ov_blk (ls2 := [(0, ov_r (-4)), (1, ov_r 0), (2, ov_r 90), (3, ov_i x3)]) (st2 := [ov_i (x3 + 1), ov_r (-4), ov_r 90]) (pc2 := 546) b_313_540_6 rfl rfl ?_
  refine ov_scl X d_313_546 (by omega) ?_
  refine ov_cV (as := [ov_i (ov_xs xs (x3 + 1))]) (st := []) (d2 := d - 1) d_313_547 lk_Law_52 rfl (Nat.le_of_ble_eq_true rfl) (c := 1) (zb_90 N1) (zs_90 N1) ⟨by decide, rfl⟩ (by omega) (c_Mo_stay_90 (d - 1) (by omega) U N1 (ov_xs xs (x3 + 1)) (by omega) (by show (hg 103 2) ≤ ov_bd (hg, z4) - 1000; omega) (by omega)) ?_
  rintro _ z25 h26 ⟨v10, rfl, I27, f9, e11, e12, e13, e14, e15, e16, e17, e18, e19, e20, e21, e22, e23, y24⟩
  have E28 : h26 92 = hg 92 := e11
  have E29 : h26 93 = hg 93 := e12
  have E30 : h26 94 = hg 94 := e13
  have E31 : h26 95 = hg 95 := e14
  have E32 : h26 96 = hg 96 := e15
  have E33 : h26 97 = hg 97 := e16
  have E34 : h26 98 = hg 98 := e17
  have E35 : h26 99 = hg 99 := e18
  have E36 : h26 100 = hg 100 := e19
  have E37 : h26 105 = hg 105 := e20
  have E38 : h26 106 = hg 106 := e21
  have E39 : h26 109 = hg 109 := e22
  have E40 : h26 114 = hg 114 := e23
  show ov_R u d (ov_mL nm) 550 [(0, ov_r (-4)), (1, ov_r 0), (2, ov_r 90), (3, ov_i x3)] [ov_i v10] z25 h26 ov_LQ
  have f41 : (h26 90 2) = (hg 90 2) ∧ (h26 90 7) = (hg 90 7) ∧ (h26 90 8) = (hg 90 8) ∧ (h26 90 13) = (hg 90 13) ∧ (h26 90 22) = (hg 90 22) ∧ (h26 90 25) = (hg 90 25) ∧ (h26 90 26) = (hg 90 26) ∧ (h26 90 28) = (hg 90 28) ∧ (h26 90 29) = (hg 90 29) ∧ (h26 90 30) = (hg 90 30) ∧ (h26 90 34) = (hg 90 34) ∧ -2147483648 ≤ v10 ∧ v10 ≤ 2147483647 := f9
  clear f9
  have y24_ : ∀ j : Int, 4 ≤ j → j ≤ 57 → (h26 103) j = (hg 103) j := y24
  have K2 : ov_LK (1 + (j + 1)) (4000 * (j + 1)) z25 h26 := ov_LK_r4 K1 I27 E32 E33 E34 E36 y24_ E37 E38 (by omega) (by omega) (by omega)
  have b1 : h26 1 1 = hg 1 1 := congrFun (I27.2.2.2 1 (Or.inl (by decide))) 1
  have b7 : h26 (-77) 0 = hg (-77) 0 := congrFun (I27.2.2.2 (-77) (Or.inl (by decide))) 0
  refine ov_blk (ls2 := [(0, ov_r (-4)), (1, ov_r 0), (2, ov_r 90), (3, ov_i x3)]) (st2 := []) (pc2 := 551) b_313_550_1 rfl rfl ?_
  refine ov_goto (tgt := 1461) d_313_551 (by decide) ?_
  exact BK _ _ K2 (by omega) (by omega)
set_option maxHeartbeats 4000000 in
theorem lw_case_8 {u : ov_U} {nm : String} {d : Nat} (hd : 1000 ≤ d) (U : ov_cap u) {L : Nat} {xs : Nat → Int32} (X : ov_SC u L xs) (hL : L ≤ 3584) (x3 j : Int) (z : ov_Z) (h : ov_H) (K : ov_LK (1 + j) (4000 * j) z h) (e0 : h 1 1 = h 90 2) (gb : h (-77) 0 = 1000 * (j + 1)) (q : 0 ≤ j ∧ x3 = 7 * j ∧ x3 ≤ L - 7) (BK : ∀ (z5 : ov_Z) (h5 : ov_H), ov_LK (1 + (j + 1)) (4000 * (j + 1)) z5 h5 → h5 1 1 = h5 90 2 → h5 (-77) 0 = 1000 * (j + 2) → ov_R u d (ov_mL nm) 1461 [(0, ov_r (-4)), (1, ov_r 0), (2, ov_r 90), (3, ov_i x3)] [] z5 h5 ov_LQ) : ov_R u d (ov_mL nm) 554 [(0, ov_r (-4)), (1, ov_r 0), (2, ov_r 90), (3, ov_i x3)] [] z h ov_LQ := by
  have I := ov_LK_I K
  have hW := ov_LK_W K
  have hJ0 := K.2.2.1
  have s3 := s103_2 K.2.1
  have hb0 : ov_bd (h, z) = 1000 * (j + 1) := gb
  refine ov_blk (ls2 := [(0, ov_r (-4)), (1, ov_r 0), (2, ov_r 90), (3, ov_i x3)]) (st2 := [ov_r 0]) (pc2 := 555) b_313_554_1 rfl rfl ?_
  refine ov_cV (as := []) (st := []) (d2 := d - 1) d_313_555 lk_Law_53 rfl (Nat.le_of_ble_eq_true rfl) (c := 0) (zb_0 I) (zs_0 I) ⟨by decide, rfl⟩ (by omega) (c_OF_look_0 (d - 1) (by omega) U I) ?_
  rintro _ z3 h4 ⟨v2, rfl, I5, f1⟩
  show ov_R u d (ov_mL nm) 558 [(0, ov_r (-4)), (1, ov_r 0), (2, ov_r 90), (3, ov_i x3)] [ov_i v2] z3 h4 ov_LQ
  have f6 : (v2 = 0 ∨ v2 = 1) ∧ (h4 36 7) = (h 36 7) ∧ (h4 1 1) = (h 1 1) ∧ (h4 90 2) = (h 90 2) ∧ (h4 0 10) = (h 0 10) ∧ (h4 0 11) = (h 0 11) ∧ (h4 0 12) = (h 0 12) ∧ (h4 0 13) = (h 0 13) ∧ (h4 3 1) = (h 3 1) ∧ (h4 36 8) = (h 36 8) ∧ (h4 46 3) = (h 46 3) ∧ (h4 46 4) = (h 46 4) ∧ (h4 49 4) = (h 49 4) ∧ (h4 49 5) = (h 49 5) ∧ (h4 64 0) = (h 64 0) ∧ (h4 76 0) = (h 76 0) := f1
  clear f1
  have K1 := ov_LK_c (B := (1000 * (j + 2))) K I5 (fun b h0 _ => ov_FF_ge h0) (by omega) (ov_HR_k hW I5 (by omega) (by omega) (by omega) (by omega)) (by omega)
  refine ov_gho (ov_up h4 (-77) 0 (1000 * (j + 2))) (fun a ha => (ov_up77 ha).symm) ?_
  have a1 : (ov_up h4 (-77) 0 (1000 * (j + 2))) 1 1 = h4 1 1 := congrFun (ov_up77 (by decide)) 1
  have a2 : (ov_up h4 (-77) 0 (1000 * (j + 2))) 90 2 = h4 90 2 := congrFun (ov_up77 (by decide)) 2
  have a3 : (ov_up h4 (-77) 0 (1000 * (j + 2))) (-77) 0 = (1000 * (j + 2)) := ov_uj.1 rfl
  have a4 : (ov_up h4 (-77) 0 (1000 * (j + 2))) 103 2 = h 103 2 := (congrFun (ov_up77 (by decide)) 2).trans (congrFun ((I5.2.1 103 (by decide) (by decide)).trans (ov_FF_ge (by decide))) 2)
  generalize (ov_up h4 (-77) 0 (1000 * (j + 2))) = hg at K1 a1 a2 a3 a4 ⊢
  have N1 := K1.2.1
  have hWT := K1.2.2.2.2.1
  have hCD := K1.2.2.2.2.2.1
  have hWK := K1.2.2.2.2.2.2.1
  have hPM : ov_PM (hg 96) (hg 103) (hg 97) (hg 98) (hg 105) (hg 106) (hg 90 22) (hg 90 25) (hg 90 26) (hg 90 28) (hg 90 29) (hg 90 30) := K1.2.2.2.2.2.2.2.1
  have hq1 := K1.2.2.2.2.2.2.2.2.1
  have hq2 := K1.2.2.2.2.2.2.2.2.2
  have hbd : ov_bd (hg, z3) = (1000 * (j + 2)) := a3
  have g103 := s103_2 N1
  show ov_R u d (ov_mL nm) 558 [(0, ov_r (-4)), (1, ov_r 0), (2, ov_r 90), (3, ov_i x3)] [ov_i v2] z3 hg ov_LQ
  refine ov_blk (ls2 := [(0, ov_r (-4)), (1, ov_r 0), (2, ov_r 90), (3, ov_i x3)]) (st2 := [ov_r 90]) (pc2 := 560) b_313_558_2 rfl rfl ?_
  refine ov_cV (as := []) (st := []) (d2 := d - 1) d_313_560 lk_Law_57 rfl (Nat.le_of_ble_eq_true rfl) (c := 1) (zb_90 N1) (zs_90 N1) ⟨by decide, rfl⟩ (by omega) (c_Mo_look_90 (d - 1) (by omega) U N1 (by show 0 ≤ (hg 90 22) ∧ (hg 90 22) ≤ 2000000000; omega)) ?_
  rintro _ z23 h24 ⟨v8, rfl, I25, f7, e9, e10, e11, e12, e13, e14, e15, e16, e17, e18, e19, e20, e21, y22⟩
  have E26 : h24 92 = hg 92 := e9
  have E27 : h24 93 = hg 93 := e10
  have E28 : h24 94 = hg 94 := e11
  have E29 : h24 95 = hg 95 := e12
  have E30 : h24 96 = hg 96 := e13
  have E31 : h24 97 = hg 97 := e14
  have E32 : h24 98 = hg 98 := e15
  have E33 : h24 99 = hg 99 := e16
  have E34 : h24 100 = hg 100 := e17
  have E35 : h24 105 = hg 105 := e18
  have E36 : h24 106 = hg 106 := e19
  have E37 : h24 109 = hg 109 := e20
  have E38 : h24 114 = hg 114 := e21
  show ov_R u d (ov_mL nm) 563 [(0, ov_r (-4)), (1, ov_r 0), (2, ov_r 90), (3, ov_i x3)] [ov_i v8] z23 h24 ov_LQ
  have f39 : (h24 90 2) = (hg 90 2) ∧ (h24 90 7) = (hg 90 7) ∧ (h24 90 8) = (hg 90 8) ∧ (h24 90 13) = (hg 90 13) ∧ (h24 90 25) = (hg 90 25) ∧ (h24 90 26) = (hg 90 26) ∧ (h24 90 28) = (hg 90 28) ∧ (h24 90 29) = (hg 90 29) ∧ (h24 90 30) = (hg 90 30) ∧ (h24 90 34) = (hg 90 34) ∧ (v8 = 0 ∨ v8 = 1) ∧ (hg 90 22) ≤ (h24 90 22) ∧ (h24 90 22) ≤ (hg 90 22) + 1 := f7
  clear f7
  have y22_ : ((h24 90 22) = (hg 90 22) ∧ (h24 103) = (hg 103)) ∨ (h24 90 22) = (hg 90 22) + 1 := y22
  have K2 : ov_LK (1 + (j + 1)) (4000 * (j + 1)) z23 h24 := ov_LK_rv K1 I25 E30 E31 E32 E34 y22_ E35 E36 (by omega) (by omega) (by omega)
  have b1 : h24 1 1 = hg 1 1 := congrFun (I25.2.2.2 1 (Or.inl (by decide))) 1
  have b7 : h24 (-77) 0 = hg (-77) 0 := congrFun (I25.2.2.2 (-77) (Or.inl (by decide))) 0
  refine ov_blk (ls2 := [(0, ov_r (-4)), (1, ov_r 0), (2, ov_r 90), (3, ov_i x3)]) (st2 := []) (pc2 := 564) b_313_563_1 rfl rfl ?_
  refine ov_goto (tgt := 1461) d_313_564 (by decide) ?_
  exact BK _ _ K2 (by omega) (by omega)
set_option maxHeartbeats 4000000 in
theorem lw_case_9 {u : ov_U} {nm : String} {d : Nat} (hd : 1000 ≤ d) (U : ov_cap u) {L : Nat} {xs : Nat → Int32} (X : ov_SC u L xs) (hL : L ≤ 3584) (x3 j : Int) (z : ov_Z) (h : ov_H) (K : ov_LK (1 + j) (4000 * j) z h) (e0 : h 1 1 = h 90 2) (gb : h (-77) 0 = 1000 * (j + 1)) (q : 0 ≤ j ∧ x3 = 7 * j ∧ x3 ≤ L - 7) (BK : ∀ (z5 : ov_Z) (h5 : ov_H), ov_LK (1 + (j + 1)) (4000 * (j + 1)) z5 h5 → h5 1 1 = h5 90 2 → h5 (-77) 0 = 1000 * (j + 2) → ov_R u d (ov_mL nm) 1461 [(0, ov_r (-4)), (1, ov_r 0), (2, ov_r 90), (3, ov_i x3)] [] z5 h5 ov_LQ) : ov_R u d (ov_mL nm) 567 [(0, ov_r (-4)), (1, ov_r 0), (2, ov_r 90), (3, ov_i x3)] [] z h ov_LQ := by
  have I := ov_LK_I K
  have hW := ov_LK_W K
  have hJ0 := K.2.2.1
  have s3 := s103_2 K.2.1
  have hb0 : ov_bd (h, z) = 1000 * (j + 1) := gb
  refine ov_blk (ls2 := [(0, ov_r (-4)), (1, ov_r 0), (2, ov_r 90), (3, ov_i x3)]) (st2 := [ov_r 0]) (pc2 := 568) b_313_567_1 rfl rfl ?_
  refine ov_cV (as := []) (st := []) (d2 := d - 1) d_313_568 lk_Law_58 rfl (Nat.le_of_ble_eq_true rfl) (c := 0) (zb_0 I) (zs_0 I) ⟨by decide, rfl⟩ (by omega) (c_OF_undo_0 (d - 1) (by omega) U I) ?_
  rintro _ z3 h4 ⟨v2, rfl, I5, f1⟩
  show ov_R u d (ov_mL nm) 571 [(0, ov_r (-4)), (1, ov_r 0), (2, ov_r 90), (3, ov_i x3)] [ov_i v2] z3 h4 ov_LQ
  have f6 : (v2 = 0 ∨ v2 = 1) ∧ (h4 36 7) = (h 36 7) ∧ (h4 1 1) = (h 1 1) ∧ (h4 90 2) = (h 90 2) ∧ (h4 0 10) = (h 0 10) ∧ (h4 0 11) = (h 0 11) ∧ (h4 0 12) = (h 0 12) ∧ (h4 0 13) = (h 0 13) ∧ (h4 3 1) = (h 3 1) ∧ (h4 36 8) = (h 36 8) ∧ (h4 46 3) = (h 46 3) ∧ (h4 46 4) = (h 46 4) ∧ (h4 49 4) = (h 49 4) ∧ (h4 49 5) = (h 49 5) ∧ (h4 64 0) = (h 64 0) ∧ (h4 76 0) = (h 76 0) := f1
  clear f1
  have K1 := ov_LK_c (B := (1000 * (j + 2))) K I5 (fun b h0 _ => ov_FF_ge h0) (by omega) (ov_HR_k hW I5 (by omega) (by omega) (by omega) (by omega)) (by omega)
  refine ov_gho (ov_up h4 (-77) 0 (1000 * (j + 2))) (fun a ha => (ov_up77 ha).symm) ?_
  have a1 : (ov_up h4 (-77) 0 (1000 * (j + 2))) 1 1 = h4 1 1 := congrFun (ov_up77 (by decide)) 1
  have a2 : (ov_up h4 (-77) 0 (1000 * (j + 2))) 90 2 = h4 90 2 := congrFun (ov_up77 (by decide)) 2
  have a3 : (ov_up h4 (-77) 0 (1000 * (j + 2))) (-77) 0 = (1000 * (j + 2)) := ov_uj.1 rfl
  have a4 : (ov_up h4 (-77) 0 (1000 * (j + 2))) 103 2 = h 103 2 := (congrFun (ov_up77 (by decide)) 2).trans (congrFun ((I5.2.1 103 (by decide) (by decide)).trans (ov_FF_ge (by decide))) 2)
  generalize (ov_up h4 (-77) 0 (1000 * (j + 2))) = hg at K1 a1 a2 a3 a4 ⊢
  have N1 := K1.2.1
  have hWT := K1.2.2.2.2.1
  have hCD := K1.2.2.2.2.2.1
  have hWK := K1.2.2.2.2.2.2.1
  have hPM : ov_PM (hg 96) (hg 103) (hg 97) (hg 98) (hg 105) (hg 106) (hg 90 22) (hg 90 25) (hg 90 26) (hg 90 28) (hg 90 29) (hg 90 30) := K1.2.2.2.2.2.2.2.1
  have hq1 := K1.2.2.2.2.2.2.2.2.1
  have hq2 := K1.2.2.2.2.2.2.2.2.2
  have hbd : ov_bd (hg, z3) = (1000 * (j + 2)) := a3
  have g103 := s103_2 N1
  show ov_R u d (ov_mL nm) 571 [(0, ov_r (-4)), (1, ov_r 0), (2, ov_r 90), (3, ov_i x3)] [ov_i v2] z3 hg ov_LQ
  refine ov_blk (ls2 := [(0, ov_r (-4)), (1, ov_r 0), (2, ov_r 90), (3, ov_i x3)]) (st2 := [ov_r 90]) (pc2 := 573) b_313_571_2 rfl rfl ?_
  refine ov_cV (as := []) (st := []) (d2 := d - 1) d_313_573 lk_Law_61 rfl (Nat.le_of_ble_eq_true rfl) (c := 1) (zb_90 N1) (zs_90 N1) ⟨by decide, rfl⟩ (by omega) (c_Mo_undo_90 (d - 1) (by omega) U N1 (by show 0 ≤ (hg 90 22) ∧ (hg 90 22) ≤ 2000000000; omega)) ?_
  rintro _ z23 h24 ⟨v8, rfl, I25, f7, e9, e10, e11, e12, e13, e14, e15, e16, e17, e18, e19, e20, e21, y22⟩
  have E26 : h24 92 = hg 92 := e9
  have E27 : h24 93 = hg 93 := e10
  have E28 : h24 94 = hg 94 := e11
  have E29 : h24 95 = hg 95 := e12
  have E30 : h24 96 = hg 96 := e13
  have E31 : h24 97 = hg 97 := e14
  have E32 : h24 98 = hg 98 := e15
  have E33 : h24 99 = hg 99 := e16
  have E34 : h24 100 = hg 100 := e17
  have E35 : h24 105 = hg 105 := e18
  have E36 : h24 106 = hg 106 := e19
  have E37 : h24 109 = hg 109 := e20
  have E38 : h24 114 = hg 114 := e21
  show ov_R u d (ov_mL nm) 576 [(0, ov_r (-4)), (1, ov_r 0), (2, ov_r 90), (3, ov_i x3)] [ov_i v8] z23 h24 ov_LQ
  have f39 : (h24 90 2) = (hg 90 2) ∧ (h24 90 7) = (hg 90 7) ∧ (h24 90 8) = (hg 90 8) ∧ (h24 90 13) = (hg 90 13) ∧ (h24 90 25) = (hg 90 25) ∧ (h24 90 26) = (hg 90 26) ∧ (h24 90 28) = (hg 90 28) ∧ (h24 90 29) = (hg 90 29) ∧ (h24 90 30) = (hg 90 30) ∧ (h24 90 34) = (hg 90 34) ∧ (v8 = 0 ∨ v8 = 1) ∧ (hg 90 22) ≤ (h24 90 22) ∧ (h24 90 22) ≤ (hg 90 22) + 1 := f7
  clear f7
  have y22_ : ((h24 90 22) = (hg 90 22) ∧ (h24 103) = (hg 103)) ∨ (h24 90 22) = (hg 90 22) + 1 := y22
  have K2 : ov_LK (1 + (j + 1)) (4000 * (j + 1)) z23 h24 := ov_LK_rv K1 I25 E30 E31 E32 E34 y22_ E35 E36 (by omega) (by omega) (by omega)
  have b1 : h24 1 1 = hg 1 1 := congrFun (I25.2.2.2 1 (Or.inl (by decide))) 1
  have b7 : h24 (-77) 0 = hg (-77) 0 := congrFun (I25.2.2.2 (-77) (Or.inl (by decide))) 0
  refine ov_blk (ls2 := [(0, ov_r (-4)), (1, ov_r 0), (2, ov_r 90), (3, ov_i x3)]) (st2 := []) (pc2 := 577) b_313_576_1 rfl rfl ?_
  refine ov_goto (tgt := 1461) d_313_577 (by decide) ?_
  exact BK _ _ K2 (by omega) (by omega)
set_option maxHeartbeats 4000000 in
theorem lw_case_10 {u : ov_U} {nm : String} {d : Nat} (hd : 1000 ≤ d) (U : ov_cap u) {L : Nat} {xs : Nat → Int32} (X : ov_SC u L xs) (hL : L ≤ 3584) (x3 j : Int) (z : ov_Z) (h : ov_H) (K : ov_LK (1 + j) (4000 * j) z h) (e0 : h 1 1 = h 90 2) (gb : h (-77) 0 = 1000 * (j + 1)) (q : 0 ≤ j ∧ x3 = 7 * j ∧ x3 ≤ L - 7) (BK : ∀ (z5 : ov_Z) (h5 : ov_H), ov_LK (1 + (j + 1)) (4000 * (j + 1)) z5 h5 → h5 1 1 = h5 90 2 → h5 (-77) 0 = 1000 * (j + 2) → ov_R u d (ov_mL nm) 1461 [(0, ov_r (-4)), (1, ov_r 0), (2, ov_r 90), (3, ov_i x3)] [] z5 h5 ov_LQ) : ov_R u d (ov_mL nm) 580 [(0, ov_r (-4)), (1, ov_r 0), (2, ov_r 90), (3, ov_i x3)] [] z h ov_LQ := by
  have I := ov_LK_I K
  have hW := ov_LK_W K
  have hJ0 := K.2.2.1
  have s3 := s103_2 K.2.1
  have hb0 : ov_bd (h, z) = 1000 * (j + 1) := gb
  refine ov_blk (ls2 := [(0, ov_r (-4)), (1, ov_r 0), (2, ov_r 90), (3, ov_i x3)]) (st2 := [ov_r 0]) (pc2 := 581) b_313_580_1 rfl rfl ?_
  refine ov_cV (as := []) (st := []) (d2 := d - 1) d_313_581 lk_Law_62 rfl (Nat.le_of_ble_eq_true rfl) (c := 0) (zb_0 I) (zs_0 I) ⟨by decide, rfl⟩ (by omega) (c_OF_judged_0 (d - 1) (by omega) U I) ?_
  rintro _ _ _ ⟨v2, rfl, rfl, rfl, f1⟩
  show ov_R u d (ov_mL nm) 584 [(0, ov_r (-4)), (1, ov_r 0), (2, ov_r 90), (3, ov_i x3)] [ov_i v2] z h ov_LQ
  clear f1
  have K1 := ov_LK_c (B := (1000 * (j + 2))) K I (fun b h0 _ => ov_FF_ge h0) (by omega) K.2.2.2.1 (by omega)
  refine ov_gho (ov_up h (-77) 0 (1000 * (j + 2))) (fun a ha => (ov_up77 ha).symm) ?_
  have a1 : (ov_up h (-77) 0 (1000 * (j + 2))) 1 1 = h 1 1 := congrFun (ov_up77 (by decide)) 1
  have a2 : (ov_up h (-77) 0 (1000 * (j + 2))) 90 2 = h 90 2 := congrFun (ov_up77 (by decide)) 2
  have a3 : (ov_up h (-77) 0 (1000 * (j + 2))) (-77) 0 = (1000 * (j + 2)) := ov_uj.1 rfl
  have a4 : (ov_up h (-77) 0 (1000 * (j + 2))) 103 2 = h 103 2 := (congrFun (ov_up77 (by decide)) 2).trans (congrFun ((I.2.1 103 (by decide) (by decide)).trans (ov_FF_ge (by decide))) 2)
  generalize (ov_up h (-77) 0 (1000 * (j + 2))) = hg at K1 a1 a2 a3 a4 ⊢
  have N1 := K1.2.1
  have hWT := K1.2.2.2.2.1
  have hCD := K1.2.2.2.2.2.1
  have hWK := K1.2.2.2.2.2.2.1
  have hPM : ov_PM (hg 96) (hg 103) (hg 97) (hg 98) (hg 105) (hg 106) (hg 90 22) (hg 90 25) (hg 90 26) (hg 90 28) (hg 90 29) (hg 90 30) := K1.2.2.2.2.2.2.2.1
  have hq1 := K1.2.2.2.2.2.2.2.2.1
  have hq2 := K1.2.2.2.2.2.2.2.2.2
  have hbd : ov_bd (hg, z) = (1000 * (j + 2)) := a3
  have g103 := s103_2 N1
  show ov_R u d (ov_mL nm) 584 [(0, ov_r (-4)), (1, ov_r 0), (2, ov_r 90), (3, ov_i x3)] [ov_i v2] z hg ov_LQ
  refine ov_blk (ls2 := [(0, ov_r (-4)), (1, ov_r 0), (2, ov_r 90), (3, ov_i x3)]) (st2 := [ov_r 90]) (pc2 := 586) b_313_584_2 rfl rfl ?_
  refine ov_cV (as := []) (st := []) (d2 := d - 1) d_313_586 lk_Law_65 rfl (Nat.le_of_ble_eq_true rfl) (c := 1) (zb_90 N1) (zs_90 N1) ⟨by decide, rfl⟩ (by omega) (c_Mo_judged_90 (d - 1) (by omega) U N1 hWT hWK) ?_
  rintro _ z19 h20 ⟨v4, rfl, I21, f3, e5, e6, e7, e8, e9, e10, e11, e12, e13, e14, e15, e16, e17, e18⟩
  have E22 : h20 92 = hg 92 := e5
  have E23 : h20 93 = hg 93 := e6
  have E24 : h20 94 = hg 94 := e7
  have E25 : h20 95 = hg 95 := e8
  have E26 : h20 96 = hg 96 := e9
  have E27 : h20 97 = hg 97 := e10
  have E28 : h20 98 = hg 98 := e11
  have E29 : h20 99 = hg 99 := e12
  have E30 : h20 100 = hg 100 := e13
  have E31 : h20 103 = hg 103 := e14
  have E32 : h20 105 = hg 105 := e15
  have E33 : h20 106 = hg 106 := e16
  have E34 : h20 109 = hg 109 := e17
  have E35 : h20 114 = hg 114 := e18
  show ov_R u d (ov_mL nm) 589 [(0, ov_r (-4)), (1, ov_r 0), (2, ov_r 90), (3, ov_i x3)] [ov_i v4] z19 h20 ov_LQ
  have f36 : (h20 90 2) = (hg 90 2) ∧ (h20 90 7) = (hg 90 7) ∧ (h20 90 8) = (hg 90 8) ∧ (h20 90 13) = (hg 90 13) ∧ (h20 90 20) = (hg 90 20) ∧ (h20 90 22) = (hg 90 22) ∧ (h20 90 25) = (hg 90 25) ∧ (h20 90 26) = (hg 90 26) ∧ (h20 90 28) = (hg 90 28) ∧ (h20 90 29) = (hg 90 29) ∧ (h20 90 30) = (hg 90 30) ∧ (h20 90 34) = (hg 90 34) ∧ -2147483648 ≤ v4 ∧ v4 ≤ 2147483647 := f3
  clear f3
  have K2 : ov_LK (1 + (j + 1)) (4000 * (j + 1)) z19 h20 := ov_LK_r0 K1 I21 E26 E27 E28 E30 E31 E32 E33 (by omega) (by omega) (by omega)
  have b1 : h20 1 1 = hg 1 1 := congrFun (I21.2.2.2 1 (Or.inl (by decide))) 1
  have b7 : h20 (-77) 0 = hg (-77) 0 := congrFun (I21.2.2.2 (-77) (Or.inl (by decide))) 0
  refine ov_blk (ls2 := [(0, ov_r (-4)), (1, ov_r 0), (2, ov_r 90), (3, ov_i x3)]) (st2 := []) (pc2 := 590) b_313_589_1 rfl rfl ?_
  refine ov_goto (tgt := 1461) d_313_590 (by decide) ?_
  exact BK _ _ K2 (by omega) (by omega)
set_option maxHeartbeats 4000000 in
theorem lw_case_11 {u : ov_U} {nm : String} {d : Nat} (hd : 1000 ≤ d) (U : ov_cap u) {L : Nat} {xs : Nat → Int32} (X : ov_SC u L xs) (hL : L ≤ 3584) (x3 j : Int) (z : ov_Z) (h : ov_H) (K : ov_LK (1 + j) (4000 * j) z h) (e0 : h 1 1 = h 90 2) (gb : h (-77) 0 = 1000 * (j + 1)) (q : 0 ≤ j ∧ x3 = 7 * j ∧ x3 ≤ L - 7) (BK : ∀ (z5 : ov_Z) (h5 : ov_H), ov_LK (1 + (j + 1)) (4000 * (j + 1)) z5 h5 → h5 1 1 = h5 90 2 → h5 (-77) 0 = 1000 * (j + 2) → ov_R u d (ov_mL nm) 1461 [(0, ov_r (-4)), (1, ov_r 0), (2, ov_r 90), (3, ov_i x3)] [] z5 h5 ov_LQ) : ov_R u d (ov_mL nm) 593 [(0, ov_r (-4)), (1, ov_r 0), (2, ov_r 90), (3, ov_i x3)] [] z h ov_LQ := by
  have I := ov_LK_I K
  have hW := ov_LK_W K
  have hJ0 := K.2.2.1
  have s3 := s103_2 K.2.1
  have hb0 : ov_bd (h, z) = 1000 * (j + 1) := gb
  refine ov_blk (ls2 := [(0, ov_r (-4)), (1, ov_r 0), (2, ov_r 90), (3, ov_i x3)]) (st2 := [ov_i (x3 + 1), ov_r (-4), ov_r 0]) (pc2 := 598) b_313_593_5 rfl rfl ?_
  refine ov_scl X d_313_598 (by omega) ?_
  have g1 := ov_xs_g xs (x3 + 1)
  refine ov_blk (ls2 := [(0, ov_r (-4)), (1, ov_r 0), (2, ov_r 90), (3, ov_i x3)]) (st2 := [ov_i (x3 + 2), ov_r (-4), ov_i (ov_xs xs (x3 + 1)), ov_r 0]) (pc2 := 603) b_313_599_4 rfl rfl ?_
  refine ov_scl X d_313_603 (by omega) ?_
  have g2 := ov_xs_g xs (x3 + 2)
  refine ov_blk (ls2 := [(0, ov_r (-4)), (1, ov_r 0), (2, ov_r 90), (3, ov_i x3)]) (st2 := [ov_i (x3 + 3), ov_r (-4), ov_i (ov_xs xs (x3 + 2)), ov_i (ov_xs xs (x3 + 1)), ov_r 0]) (pc2 := 608) b_313_604_4 rfl rfl ?_
  refine ov_scl X d_313_608 (by omega) ?_
  have g3 := ov_xs_g xs (x3 + 3)
  refine ov_blk (ls2 := [(0, ov_r (-4)), (1, ov_r 0), (2, ov_r 90), (3, ov_i x3)]) (st2 := [ov_i (x3 + 4), ov_r (-4), ov_i (ov_xs xs (x3 + 3)), ov_i (ov_xs xs (x3 + 2)), ov_i (ov_xs xs (x3 + 1)), ov_r 0]) (pc2 := 613) b_313_609_4 rfl rfl ?_
  refine ov_scl X d_313_613 (by omega) ?_
  have g4 := ov_xs_g xs (x3 + 4)
  refine ov_cV (as := [ov_i (ov_xs xs (x3 + 1)), ov_i (ov_xs xs (x3 + 2)), ov_i (ov_xs xs (x3 + 3)), ov_i (ov_xs xs (x3 + 4))]) (st := []) (d2 := d - 1) d_313_614 lk_Law_66 rfl (Nat.le_of_ble_eq_true rfl) (c := 0) (zb_0 I) (zs_0 I) ⟨by decide, rfl⟩ (by omega) (c_OF_soonest_0 (d - 1) (by omega) U I (ov_xs xs (x3 + 1)) (ov_xs xs (x3 + 2)) (ov_xs xs (x3 + 3)) (ov_xs xs (x3 + 4)) (by omega) (by omega) (by omega) (by omega) (by omega) (by omega)) ?_
  rintro _ z7 h8 ⟨v6, rfl, I9, f5⟩
  show ov_R u d (ov_mL nm) 617 [(0, ov_r (-4)), (1, ov_r 0), (2, ov_r 90), (3, ov_i x3)] [ov_i v6] z7 h8 ov_LQ
  have f10 : (h8 36 7) = (h 36 7) ∧ (h8 1 1) = (h 1 1) ∧ (h8 90 2) = (h 90 2) ∧ (h8 0 10) = (h 0 10) ∧ (h8 0 11) = (h 0 11) ∧ (h8 0 12) = (h 0 12) ∧ (h8 0 13) = (h 0 13) ∧ (h8 3 1) = (h 3 1) ∧ (h8 36 8) = (h 36 8) ∧ (h8 46 4) = (h 46 4) ∧ (h8 49 4) = (h 49 4) ∧ (h8 49 5) = (h 49 5) ∧ (h8 64 0) = (h 64 0) ∧ (h8 76 0) = (h 76 0) := f5
  clear f5
  have K1 := ov_LK_c (B := (1000 * (j + 2))) K I9 (fun b h0 _ => ov_FF_ge h0) (by omega) (ov_HR_k hW I9 (by omega) (by omega) (by omega) (by omega)) (by omega)
  refine ov_gho (ov_up h8 (-77) 0 (1000 * (j + 2))) (fun a ha => (ov_up77 ha).symm) ?_
  have a1 : (ov_up h8 (-77) 0 (1000 * (j + 2))) 1 1 = h8 1 1 := congrFun (ov_up77 (by decide)) 1
  have a2 : (ov_up h8 (-77) 0 (1000 * (j + 2))) 90 2 = h8 90 2 := congrFun (ov_up77 (by decide)) 2
  have a3 : (ov_up h8 (-77) 0 (1000 * (j + 2))) (-77) 0 = (1000 * (j + 2)) := ov_uj.1 rfl
  have a4 : (ov_up h8 (-77) 0 (1000 * (j + 2))) 103 2 = h 103 2 := (congrFun (ov_up77 (by decide)) 2).trans (congrFun ((I9.2.1 103 (by decide) (by decide)).trans (ov_FF_ge (by decide))) 2)
  generalize (ov_up h8 (-77) 0 (1000 * (j + 2))) = hg at K1 a1 a2 a3 a4 ⊢
  have N1 := K1.2.1
  have hWT := K1.2.2.2.2.1
  have hCD := K1.2.2.2.2.2.1
  have hWK := K1.2.2.2.2.2.2.1
  have hPM : ov_PM (hg 96) (hg 103) (hg 97) (hg 98) (hg 105) (hg 106) (hg 90 22) (hg 90 25) (hg 90 26) (hg 90 28) (hg 90 29) (hg 90 30) := K1.2.2.2.2.2.2.2.1
  have hq1 := K1.2.2.2.2.2.2.2.2.1
  have hq2 := K1.2.2.2.2.2.2.2.2.2
  have hbd : ov_bd (hg, z7) = (1000 * (j + 2)) := a3
  have g103 := s103_2 N1
  show ov_R u d (ov_mL nm) 617 [(0, ov_r (-4)), (1, ov_r 0), (2, ov_r 90), (3, ov_i x3)] [ov_i v6] z7 hg ov_LQ
  refine ov_blk (ls2 := [(0, ov_r (-4)), (1, ov_r 0), (2, ov_r 90), (3, ov_i x3)]) (st2 := [ov_i (x3 + 1), ov_r (-4), ov_r 90]) (pc2 := 623) b_313_617_6 rfl rfl ?_
  refine ov_scl X d_313_623 (by omega) ?_
  refine ov_blk (ls2 := [(0, ov_r (-4)), (1, ov_r 0), (2, ov_r 90), (3, ov_i x3)]) (st2 := [ov_i (x3 + 2), ov_r (-4), ov_i (ov_xs xs (x3 + 1)), ov_r 90]) (pc2 := 628) b_313_624_4 rfl rfl ?_
  refine ov_scl X d_313_628 (by omega) ?_
  refine ov_blk (ls2 := [(0, ov_r (-4)), (1, ov_r 0), (2, ov_r 90), (3, ov_i x3)]) (st2 := [ov_i (x3 + 3), ov_r (-4), ov_i (ov_xs xs (x3 + 2)), ov_i (ov_xs xs (x3 + 1)), ov_r 90]) (pc2 := 633) b_313_629_4 rfl rfl ?_
  refine ov_scl X d_313_633 (by omega) ?_
  refine ov_blk (ls2 := [(0, ov_r (-4)), (1, ov_r 0), (2, ov_r 90), (3, ov_i x3)]) (st2 := [ov_i (x3 + 4), ov_r (-4), ov_i (ov_xs xs (x3 + 3)), ov_i (ov_xs xs (x3 + 2)), ov_i (ov_xs xs (x3 + 1)), ov_r 90]) (pc2 := 638) b_313_634_4 rfl rfl ?_
  refine ov_scl X d_313_638 (by omega) ?_
  refine ov_cV (as := [ov_i (ov_xs xs (x3 + 1)), ov_i (ov_xs xs (x3 + 2)), ov_i (ov_xs xs (x3 + 3)), ov_i (ov_xs xs (x3 + 4))]) (st := []) (d2 := d - 1) d_313_639 lk_Law_69 rfl (Nat.le_of_ble_eq_true rfl) (c := 1) (zb_90 N1) (zs_90 N1) ⟨by decide, rfl⟩ (by omega) (c_Mo_soonest_90 (d - 1) (by omega) U N1 (ov_xs xs (x3 + 1)) (ov_xs xs (x3 + 2)) (ov_xs xs (x3 + 3)) (ov_xs xs (x3 + 4)) (by omega) (by omega) (by omega) (by omega) hWT) ?_
  rintro _ z31 h32 ⟨v16, rfl, I33, f15, e17, e18, e19, e20, e21, e22, e23, e24, e25, e26, e27, e28, e29, e30⟩
  have E34 : h32 92 = hg 92 := e17
  have E35 : h32 93 = hg 93 := e18
  have E36 : h32 94 = hg 94 := e19
  have E37 : h32 95 = hg 95 := e20
  have E38 : h32 96 = hg 96 := e21
  have E39 : h32 97 = hg 97 := e22
  have E40 : h32 98 = hg 98 := e23
  have E41 : h32 99 = hg 99 := e24
  have E42 : h32 100 = hg 100 := e25
  have E43 : h32 103 = hg 103 := e26
  have E44 : h32 105 = hg 105 := e27
  have E45 : h32 106 = hg 106 := e28
  have E46 : h32 109 = hg 109 := e29
  have E47 : h32 114 = hg 114 := e30
  show ov_R u d (ov_mL nm) 642 [(0, ov_r (-4)), (1, ov_r 0), (2, ov_r 90), (3, ov_i x3)] [ov_i v16] z31 h32 ov_LQ
  have f48 : (h32 90 2) = (hg 90 2) ∧ (h32 90 7) = (hg 90 7) ∧ (h32 90 8) = (hg 90 8) ∧ (h32 90 13) = (hg 90 13) ∧ (h32 90 20) = (hg 90 20) ∧ (h32 90 22) = (hg 90 22) ∧ (h32 90 25) = (hg 90 25) ∧ (h32 90 26) = (hg 90 26) ∧ (h32 90 28) = (hg 90 28) ∧ (h32 90 29) = (hg 90 29) ∧ (h32 90 30) = (hg 90 30) ∧ (h32 90 34) = (hg 90 34) ∧ -2147483648 ≤ v16 ∧ v16 ≤ 2147483647 := f15
  clear f15
  have K2 : ov_LK (1 + (j + 1)) (4000 * (j + 1)) z31 h32 := ov_LK_r0 K1 I33 E38 E39 E40 E42 E43 E44 E45 (by omega) (by omega) (by omega)
  have b1 : h32 1 1 = hg 1 1 := congrFun (I33.2.2.2 1 (Or.inl (by decide))) 1
  have b7 : h32 (-77) 0 = hg (-77) 0 := congrFun (I33.2.2.2 (-77) (Or.inl (by decide))) 0
  refine ov_blk (ls2 := [(0, ov_r (-4)), (1, ov_r 0), (2, ov_r 90), (3, ov_i x3)]) (st2 := []) (pc2 := 643) b_313_642_1 rfl rfl ?_
  refine ov_goto (tgt := 1461) d_313_643 (by decide) ?_
  exact BK _ _ K2 (by omega) (by omega)
set_option maxHeartbeats 4000000 in
theorem lw_case_12 {u : ov_U} {nm : String} {d : Nat} (hd : 1000 ≤ d) (U : ov_cap u) {L : Nat} {xs : Nat → Int32} (X : ov_SC u L xs) (hL : L ≤ 3584) (x3 j : Int) (z : ov_Z) (h : ov_H) (K : ov_LK (1 + j) (4000 * j) z h) (e0 : h 1 1 = h 90 2) (gb : h (-77) 0 = 1000 * (j + 1)) (q : 0 ≤ j ∧ x3 = 7 * j ∧ x3 ≤ L - 7) (BK : ∀ (z5 : ov_Z) (h5 : ov_H), ov_LK (1 + (j + 1)) (4000 * (j + 1)) z5 h5 → h5 1 1 = h5 90 2 → h5 (-77) 0 = 1000 * (j + 2) → ov_R u d (ov_mL nm) 1461 [(0, ov_r (-4)), (1, ov_r 0), (2, ov_r 90), (3, ov_i x3)] [] z5 h5 ov_LQ) : ov_R u d (ov_mL nm) 646 [(0, ov_r (-4)), (1, ov_r 0), (2, ov_r 90), (3, ov_i x3)] [] z h ov_LQ := by
  have I := ov_LK_I K
  have hW := ov_LK_W K
  have hJ0 := K.2.2.1
  have s3 := s103_2 K.2.1
  have hb0 : ov_bd (h, z) = 1000 * (j + 1) := gb
  refine ov_blk (ls2 := [(0, ov_r (-4)), (1, ov_r 0), (2, ov_r 90), (3, ov_i x3)]) (st2 := [ov_i (x3 + 1), ov_r (-4), ov_r 0]) (pc2 := 651) b_313_646_5 rfl rfl ?_
  refine ov_scl X d_313_651 (by omega) ?_
  have g1 := ov_xs_g xs (x3 + 1)
  refine ov_blk (ls2 := [(0, ov_r (-4)), (1, ov_r 0), (2, ov_r 90), (3, ov_i x3)]) (st2 := [ov_i (x3 + 2), ov_r (-4), ov_i (ov_xs xs (x3 + 1)), ov_r 0]) (pc2 := 656) b_313_652_4 rfl rfl ?_
  refine ov_scl X d_313_656 (by omega) ?_
  have g2 := ov_xs_g xs (x3 + 2)
  refine ov_blk (ls2 := [(0, ov_r (-4)), (1, ov_r 0), (2, ov_r 90), (3, ov_i x3)]) (st2 := [ov_i (x3 + 3), ov_r (-4), ov_i (ov_xs xs (x3 + 2)), ov_i (ov_xs xs (x3 + 1)), ov_r 0]) (pc2 := 661) b_313_657_4 rfl rfl ?_
  refine ov_scl X d_313_661 (by omega) ?_
  have g3 := ov_xs_g xs (x3 + 3)
  refine ov_blk (ls2 := [(0, ov_r (-4)), (1, ov_r 0), (2, ov_r 90), (3, ov_i x3)]) (st2 := [ov_i (x3 + 4), ov_r (-4), ov_i (ov_xs xs (x3 + 3)), ov_i (ov_xs xs (x3 + 2)), ov_i (ov_xs xs (x3 + 1)), ov_r 0]) (pc2 := 666) b_313_662_4 rfl rfl ?_
  refine ov_scl X d_313_666 (by omega) ?_
  have g4 := ov_xs_g xs (x3 + 4)
  refine ov_cV (as := [ov_i (ov_xs xs (x3 + 1)), ov_i (ov_xs xs (x3 + 2)), ov_i (ov_xs xs (x3 + 3)), ov_i (ov_xs xs (x3 + 4))]) (st := []) (d2 := d - 1) d_313_667 lk_Law_70 rfl (Nat.le_of_ble_eq_true rfl) (c := 0) (zb_0 I) (zs_0 I) ⟨by decide, rfl⟩ (by omega) (c_OF_mean_0 (d - 1) (by omega) U I (ov_xs xs (x3 + 1)) (ov_xs xs (x3 + 2)) (ov_xs xs (x3 + 3)) (ov_xs xs (x3 + 4)) (by omega) (by omega) (by omega) (by omega) (by omega) (by omega)) ?_
  rintro _ z7 h8 ⟨v6, rfl, I9, f5⟩
  show ov_R u d (ov_mL nm) 670 [(0, ov_r (-4)), (1, ov_r 0), (2, ov_r 90), (3, ov_i x3)] [ov_i v6] z7 h8 ov_LQ
  have f10 : -2147483648 ≤ v6 ∧ v6 ≤ 2147483647 ∧ ((h8 36 7) = 1 → (h8 36 8) = (h8 0 10)) ∧ (h8 1 1) = (h 1 1) ∧ (h8 90 2) = (h 90 2) ∧ (h8 0 10) = (h 0 10) ∧ (h8 0 11) = (h 0 11) ∧ (h8 0 12) = (h 0 12) ∧ (h8 0 13) = (h 0 13) ∧ (h8 3 1) = (h 3 1) ∧ (h8 46 3) = (h 46 3) ∧ (h8 46 4) = (h 46 4) ∧ (h8 49 4) = (h 49 4) ∧ (h8 49 5) = (h 49 5) ∧ (h8 64 0) = (h 64 0) ∧ (h8 76 0) = (h 76 0) := f5
  clear f5
  have K1 := ov_LK_c (B := (1000 * (j + 2))) K I9 (fun b h0 _ => ov_FF_ge h0) (by omega) (ov_HR_k hW I9 (by omega) (by omega) (by omega) (by omega)) (by omega)
  refine ov_gho (ov_up h8 (-77) 0 (1000 * (j + 2))) (fun a ha => (ov_up77 ha).symm) ?_
  have a1 : (ov_up h8 (-77) 0 (1000 * (j + 2))) 1 1 = h8 1 1 := congrFun (ov_up77 (by decide)) 1
  have a2 : (ov_up h8 (-77) 0 (1000 * (j + 2))) 90 2 = h8 90 2 := congrFun (ov_up77 (by decide)) 2
  have a3 : (ov_up h8 (-77) 0 (1000 * (j + 2))) (-77) 0 = (1000 * (j + 2)) := ov_uj.1 rfl
  have a4 : (ov_up h8 (-77) 0 (1000 * (j + 2))) 103 2 = h 103 2 := (congrFun (ov_up77 (by decide)) 2).trans (congrFun ((I9.2.1 103 (by decide) (by decide)).trans (ov_FF_ge (by decide))) 2)
  generalize (ov_up h8 (-77) 0 (1000 * (j + 2))) = hg at K1 a1 a2 a3 a4 ⊢
  have N1 := K1.2.1
  have hWT := K1.2.2.2.2.1
  have hCD := K1.2.2.2.2.2.1
  have hWK := K1.2.2.2.2.2.2.1
  have hPM : ov_PM (hg 96) (hg 103) (hg 97) (hg 98) (hg 105) (hg 106) (hg 90 22) (hg 90 25) (hg 90 26) (hg 90 28) (hg 90 29) (hg 90 30) := K1.2.2.2.2.2.2.2.1
  have hq1 := K1.2.2.2.2.2.2.2.2.1
  have hq2 := K1.2.2.2.2.2.2.2.2.2
  have hbd : ov_bd (hg, z7) = (1000 * (j + 2)) := a3
  have g103 := s103_2 N1
  show ov_R u d (ov_mL nm) 670 [(0, ov_r (-4)), (1, ov_r 0), (2, ov_r 90), (3, ov_i x3)] [ov_i v6] z7 hg ov_LQ
  refine ov_blk (ls2 := [(0, ov_r (-4)), (1, ov_r 0), (2, ov_r 90), (3, ov_i x3)]) (st2 := [ov_i (x3 + 1), ov_r (-4), ov_r 90]) (pc2 := 676) b_313_670_6 rfl rfl ?_
  refine ov_scl X d_313_676 (by omega) ?_
  refine ov_blk (ls2 := [(0, ov_r (-4)), (1, ov_r 0), (2, ov_r 90), (3, ov_i x3)]) (st2 := [ov_i (x3 + 2), ov_r (-4), ov_i (ov_xs xs (x3 + 1)), ov_r 90]) (pc2 := 681) b_313_677_4 rfl rfl ?_
  refine ov_scl X d_313_681 (by omega) ?_
  refine ov_blk (ls2 := [(0, ov_r (-4)), (1, ov_r 0), (2, ov_r 90), (3, ov_i x3)]) (st2 := [ov_i (x3 + 3), ov_r (-4), ov_i (ov_xs xs (x3 + 2)), ov_i (ov_xs xs (x3 + 1)), ov_r 90]) (pc2 := 686) b_313_682_4 rfl rfl ?_
  refine ov_scl X d_313_686 (by omega) ?_
  refine ov_blk (ls2 := [(0, ov_r (-4)), (1, ov_r 0), (2, ov_r 90), (3, ov_i x3)]) (st2 := [ov_i (x3 + 4), ov_r (-4), ov_i (ov_xs xs (x3 + 3)), ov_i (ov_xs xs (x3 + 2)), ov_i (ov_xs xs (x3 + 1)), ov_r 90]) (pc2 := 691) b_313_687_4 rfl rfl ?_
  refine ov_scl X d_313_691 (by omega) ?_
  refine ov_cV (as := [ov_i (ov_xs xs (x3 + 1)), ov_i (ov_xs xs (x3 + 2)), ov_i (ov_xs xs (x3 + 3)), ov_i (ov_xs xs (x3 + 4))]) (st := []) (d2 := d - 1) d_313_692 lk_Law_73 rfl (Nat.le_of_ble_eq_true rfl) (c := 1) (zb_90 N1) (zs_90 N1) ⟨by decide, rfl⟩ (by omega) (c_Mo_mean_90 (d - 1) (by omega) U N1 (ov_xs xs (x3 + 1)) (ov_xs xs (x3 + 2)) (ov_xs xs (x3 + 3)) (ov_xs xs (x3 + 4)) (by omega) (by omega) (by omega) (by omega) (by show 0 ≤ (hg 90 25) ∧ (hg 90 25) ≤ 1000000000; omega) hWT hCD hPM) ?_
  rintro _ z30 h31 ⟨v16, rfl, I32, f15, e17, e18, e19, e20, e21, e22, e23, e24, e25, e26, e27, e28, y29⟩
  have E33 : h31 92 = hg 92 := e17
  have E34 : h31 93 = hg 93 := e18
  have E35 : h31 94 = hg 94 := e19
  have E36 : h31 95 = hg 95 := e20
  have E37 : h31 96 = hg 96 := e21
  have E38 : h31 97 = hg 97 := e22
  have E39 : h31 98 = hg 98 := e23
  have E40 : h31 99 = hg 99 := e24
  have E41 : h31 100 = hg 100 := e25
  have E42 : h31 103 = hg 103 := e26
  have E43 : h31 109 = hg 109 := e27
  have E44 : h31 114 = hg 114 := e28
  show ov_R u d (ov_mL nm) 695 [(0, ov_r (-4)), (1, ov_r 0), (2, ov_r 90), (3, ov_i x3)] [ov_i v16] z30 h31 ov_LQ
  have f45 : (h31 90 2) = (hg 90 2) ∧ (h31 90 7) = (hg 90 7) ∧ (h31 90 8) = (hg 90 8) ∧ (h31 90 13) = (hg 90 13) ∧ (h31 90 20) = (hg 90 20) ∧ (h31 90 22) = (hg 90 22) ∧ (h31 90 34) = (hg 90 34) ∧ (hg 90 25) ≤ (h31 90 25) ∧ (h31 90 25) ≤ (hg 90 25) + 1 ∧ -1 ≤ v16 ∧ v16 ≤ 1200000 := f15
  clear f15
  have y29_ : ov_PM (hg 96) (hg 103) (hg 97) (hg 98) (h31 105) (h31 106) (h31 90 22) (h31 90 25) (h31 90 26) (h31 90 28) (h31 90 29) (h31 90 30) := y29
  have K2 : ov_LK (1 + (j + 1)) (4000 * (j + 1)) z30 h31 := ov_LK_rm (g := 1) K1 I32 E37 E38 E39 E41 E42 y29_ (by omega) (by omega) (by omega)
  have b1 : h31 1 1 = hg 1 1 := congrFun (I32.2.2.2 1 (Or.inl (by decide))) 1
  have b7 : h31 (-77) 0 = hg (-77) 0 := congrFun (I32.2.2.2 (-77) (Or.inl (by decide))) 0
  refine ov_blk (ls2 := [(0, ov_r (-4)), (1, ov_r 0), (2, ov_r 90), (3, ov_i x3)]) (st2 := []) (pc2 := 696) b_313_695_1 rfl rfl ?_
  refine ov_goto (tgt := 1461) d_313_696 (by decide) ?_
  exact BK _ _ K2 (by omega) (by omega)
set_option maxHeartbeats 4000000 in
theorem lw_case_13 {u : ov_U} {nm : String} {d : Nat} (hd : 1000 ≤ d) (U : ov_cap u) {L : Nat} {xs : Nat → Int32} (X : ov_SC u L xs) (hL : L ≤ 3584) (x3 j : Int) (z : ov_Z) (h : ov_H) (K : ov_LK (1 + j) (4000 * j) z h) (e0 : h 1 1 = h 90 2) (gb : h (-77) 0 = 1000 * (j + 1)) (q : 0 ≤ j ∧ x3 = 7 * j ∧ x3 ≤ L - 7) (BK : ∀ (z5 : ov_Z) (h5 : ov_H), ov_LK (1 + (j + 1)) (4000 * (j + 1)) z5 h5 → h5 1 1 = h5 90 2 → h5 (-77) 0 = 1000 * (j + 2) → ov_R u d (ov_mL nm) 1461 [(0, ov_r (-4)), (1, ov_r 0), (2, ov_r 90), (3, ov_i x3)] [] z5 h5 ov_LQ) : ov_R u d (ov_mL nm) 699 [(0, ov_r (-4)), (1, ov_r 0), (2, ov_r 90), (3, ov_i x3)] [] z h ov_LQ := by
  have I := ov_LK_I K
  have hW := ov_LK_W K
  have hJ0 := K.2.2.1
  have s3 := s103_2 K.2.1
  have hb0 : ov_bd (h, z) = 1000 * (j + 1) := gb
  refine ov_blk (ls2 := [(0, ov_r (-4)), (1, ov_r 0), (2, ov_r 90), (3, ov_i x3)]) (st2 := [ov_i (x3 + 1), ov_r (-4), ov_r 0]) (pc2 := 704) b_313_699_5 rfl rfl ?_
  refine ov_scl X d_313_704 (by omega) ?_
  have g1 := ov_xs_g xs (x3 + 1)
  refine ov_blk (ls2 := [(0, ov_r (-4)), (1, ov_r 0), (2, ov_r 90), (3, ov_i x3)]) (st2 := [ov_i (x3 + 2), ov_r (-4), ov_i (ov_xs xs (x3 + 1)), ov_r 0]) (pc2 := 709) b_313_705_4 rfl rfl ?_
  refine ov_scl X d_313_709 (by omega) ?_
  have g2 := ov_xs_g xs (x3 + 2)
  refine ov_blk (ls2 := [(0, ov_r (-4)), (1, ov_r 0), (2, ov_r 90), (3, ov_i x3)]) (st2 := [ov_i (x3 + 3), ov_r (-4), ov_i (ov_xs xs (x3 + 2)), ov_i (ov_xs xs (x3 + 1)), ov_r 0]) (pc2 := 714) b_313_710_4 rfl rfl ?_
  refine ov_scl X d_313_714 (by omega) ?_
  have g3 := ov_xs_g xs (x3 + 3)
  refine ov_blk (ls2 := [(0, ov_r (-4)), (1, ov_r 0), (2, ov_r 90), (3, ov_i x3)]) (st2 := [ov_i (x3 + 4), ov_r (-4), ov_i (ov_xs xs (x3 + 3)), ov_i (ov_xs xs (x3 + 2)), ov_i (ov_xs xs (x3 + 1)), ov_r 0]) (pc2 := 719) b_313_715_4 rfl rfl ?_
  refine ov_scl X d_313_719 (by omega) ?_
  have g4 := ov_xs_g xs (x3 + 4)
  refine ov_cV (as := [ov_i (ov_xs xs (x3 + 1)), ov_i (ov_xs xs (x3 + 2)), ov_i (ov_xs xs (x3 + 3)), ov_i (ov_xs xs (x3 + 4))]) (st := []) (d2 := d - 1) d_313_720 lk_Law_74 rfl (Nat.le_of_ble_eq_true rfl) (c := 0) (zb_0 I) (zs_0 I) ⟨by decide, rfl⟩ (by omega) (c_OF_worst_0 (d - 1) (by omega) U I (ov_xs xs (x3 + 1)) (ov_xs xs (x3 + 2)) (ov_xs xs (x3 + 3)) (ov_xs xs (x3 + 4)) (by omega) (by omega) (by omega) (by omega) (by omega) (by omega)) ?_
  rintro _ z7 h8 ⟨v6, rfl, I9, f5⟩
  show ov_R u d (ov_mL nm) 723 [(0, ov_r (-4)), (1, ov_r 0), (2, ov_r 90), (3, ov_i x3)] [ov_i v6] z7 h8 ov_LQ
  have f10 : -2147483648 ≤ v6 ∧ v6 ≤ 2147483647 ∧ ((h8 36 7) = 1 → (h8 36 8) = (h8 0 10)) ∧ (h8 1 1) = (h 1 1) ∧ (h8 90 2) = (h 90 2) ∧ (h8 0 10) = (h 0 10) ∧ (h8 0 11) = (h 0 11) ∧ (h8 0 12) = (h 0 12) ∧ (h8 0 13) = (h 0 13) ∧ (h8 3 1) = (h 3 1) ∧ (h8 46 3) = (h 46 3) ∧ (h8 46 4) = (h 46 4) ∧ (h8 49 4) = (h 49 4) ∧ (h8 49 5) = (h 49 5) ∧ (h8 64 0) = (h 64 0) ∧ (h8 76 0) = (h 76 0) := f5
  clear f5
  have K1 := ov_LK_c (B := (1000 * (j + 2))) K I9 (fun b h0 _ => ov_FF_ge h0) (by omega) (ov_HR_k hW I9 (by omega) (by omega) (by omega) (by omega)) (by omega)
  refine ov_gho (ov_up h8 (-77) 0 (1000 * (j + 2))) (fun a ha => (ov_up77 ha).symm) ?_
  have a1 : (ov_up h8 (-77) 0 (1000 * (j + 2))) 1 1 = h8 1 1 := congrFun (ov_up77 (by decide)) 1
  have a2 : (ov_up h8 (-77) 0 (1000 * (j + 2))) 90 2 = h8 90 2 := congrFun (ov_up77 (by decide)) 2
  have a3 : (ov_up h8 (-77) 0 (1000 * (j + 2))) (-77) 0 = (1000 * (j + 2)) := ov_uj.1 rfl
  have a4 : (ov_up h8 (-77) 0 (1000 * (j + 2))) 103 2 = h 103 2 := (congrFun (ov_up77 (by decide)) 2).trans (congrFun ((I9.2.1 103 (by decide) (by decide)).trans (ov_FF_ge (by decide))) 2)
  generalize (ov_up h8 (-77) 0 (1000 * (j + 2))) = hg at K1 a1 a2 a3 a4 ⊢
  have N1 := K1.2.1
  have hWT := K1.2.2.2.2.1
  have hCD := K1.2.2.2.2.2.1
  have hWK := K1.2.2.2.2.2.2.1
  have hPM : ov_PM (hg 96) (hg 103) (hg 97) (hg 98) (hg 105) (hg 106) (hg 90 22) (hg 90 25) (hg 90 26) (hg 90 28) (hg 90 29) (hg 90 30) := K1.2.2.2.2.2.2.2.1
  have hq1 := K1.2.2.2.2.2.2.2.2.1
  have hq2 := K1.2.2.2.2.2.2.2.2.2
  have hbd : ov_bd (hg, z7) = (1000 * (j + 2)) := a3
  have g103 := s103_2 N1
  show ov_R u d (ov_mL nm) 723 [(0, ov_r (-4)), (1, ov_r 0), (2, ov_r 90), (3, ov_i x3)] [ov_i v6] z7 hg ov_LQ
  refine ov_blk (ls2 := [(0, ov_r (-4)), (1, ov_r 0), (2, ov_r 90), (3, ov_i x3)]) (st2 := [ov_i (x3 + 1), ov_r (-4), ov_r 90]) (pc2 := 729) b_313_723_6 rfl rfl ?_
  refine ov_scl X d_313_729 (by omega) ?_
  refine ov_blk (ls2 := [(0, ov_r (-4)), (1, ov_r 0), (2, ov_r 90), (3, ov_i x3)]) (st2 := [ov_i (x3 + 2), ov_r (-4), ov_i (ov_xs xs (x3 + 1)), ov_r 90]) (pc2 := 734) b_313_730_4 rfl rfl ?_
  refine ov_scl X d_313_734 (by omega) ?_
  refine ov_blk (ls2 := [(0, ov_r (-4)), (1, ov_r 0), (2, ov_r 90), (3, ov_i x3)]) (st2 := [ov_i (x3 + 3), ov_r (-4), ov_i (ov_xs xs (x3 + 2)), ov_i (ov_xs xs (x3 + 1)), ov_r 90]) (pc2 := 739) b_313_735_4 rfl rfl ?_
  refine ov_scl X d_313_739 (by omega) ?_
  refine ov_blk (ls2 := [(0, ov_r (-4)), (1, ov_r 0), (2, ov_r 90), (3, ov_i x3)]) (st2 := [ov_i (x3 + 4), ov_r (-4), ov_i (ov_xs xs (x3 + 3)), ov_i (ov_xs xs (x3 + 2)), ov_i (ov_xs xs (x3 + 1)), ov_r 90]) (pc2 := 744) b_313_740_4 rfl rfl ?_
  refine ov_scl X d_313_744 (by omega) ?_
  refine ov_cV (as := [ov_i (ov_xs xs (x3 + 1)), ov_i (ov_xs xs (x3 + 2)), ov_i (ov_xs xs (x3 + 3)), ov_i (ov_xs xs (x3 + 4))]) (st := []) (d2 := d - 1) d_313_745 lk_Law_77 rfl (Nat.le_of_ble_eq_true rfl) (c := 1) (zb_90 N1) (zs_90 N1) ⟨by decide, rfl⟩ (by omega) (c_Mo_worst_90 (d - 1) (by omega) U N1 (ov_xs xs (x3 + 1)) (ov_xs xs (x3 + 2)) (ov_xs xs (x3 + 3)) (ov_xs xs (x3 + 4)) (by omega) (by omega) (by omega) (by omega) (by show 0 ≤ (hg 90 25) ∧ (hg 90 25) ≤ 1000000000; omega) hWT hCD hPM) ?_
  rintro _ z30 h31 ⟨v16, rfl, I32, f15, e17, e18, e19, e20, e21, e22, e23, e24, e25, e26, e27, e28, y29⟩
  have E33 : h31 92 = hg 92 := e17
  have E34 : h31 93 = hg 93 := e18
  have E35 : h31 94 = hg 94 := e19
  have E36 : h31 95 = hg 95 := e20
  have E37 : h31 96 = hg 96 := e21
  have E38 : h31 97 = hg 97 := e22
  have E39 : h31 98 = hg 98 := e23
  have E40 : h31 99 = hg 99 := e24
  have E41 : h31 100 = hg 100 := e25
  have E42 : h31 103 = hg 103 := e26
  have E43 : h31 109 = hg 109 := e27
  have E44 : h31 114 = hg 114 := e28
  show ov_R u d (ov_mL nm) 748 [(0, ov_r (-4)), (1, ov_r 0), (2, ov_r 90), (3, ov_i x3)] [ov_i v16] z30 h31 ov_LQ
  have f45 : (h31 90 2) = (hg 90 2) ∧ (h31 90 7) = (hg 90 7) ∧ (h31 90 8) = (hg 90 8) ∧ (h31 90 13) = (hg 90 13) ∧ (h31 90 20) = (hg 90 20) ∧ (h31 90 22) = (hg 90 22) ∧ (h31 90 34) = (hg 90 34) ∧ (hg 90 25) ≤ (h31 90 25) ∧ (h31 90 25) ≤ (hg 90 25) + 1 ∧ -1 ≤ v16 ∧ v16 ≤ 1200000 := f15
  clear f15
  have y29_ : ov_PM (hg 96) (hg 103) (hg 97) (hg 98) (h31 105) (h31 106) (h31 90 22) (h31 90 25) (h31 90 26) (h31 90 28) (h31 90 29) (h31 90 30) := y29
  have K2 : ov_LK (1 + (j + 1)) (4000 * (j + 1)) z30 h31 := ov_LK_rm (g := 1) K1 I32 E37 E38 E39 E41 E42 y29_ (by omega) (by omega) (by omega)
  have b1 : h31 1 1 = hg 1 1 := congrFun (I32.2.2.2 1 (Or.inl (by decide))) 1
  have b7 : h31 (-77) 0 = hg (-77) 0 := congrFun (I32.2.2.2 (-77) (Or.inl (by decide))) 0
  refine ov_blk (ls2 := [(0, ov_r (-4)), (1, ov_r 0), (2, ov_r 90), (3, ov_i x3)]) (st2 := []) (pc2 := 749) b_313_748_1 rfl rfl ?_
  refine ov_goto (tgt := 1461) d_313_749 (by decide) ?_
  exact BK _ _ K2 (by omega) (by omega)
set_option maxHeartbeats 4000000 in
theorem lw_case_14 {u : ov_U} {nm : String} {d : Nat} (hd : 1000 ≤ d) (U : ov_cap u) {L : Nat} {xs : Nat → Int32} (X : ov_SC u L xs) (hL : L ≤ 3584) (x3 j : Int) (z : ov_Z) (h : ov_H) (K : ov_LK (1 + j) (4000 * j) z h) (e0 : h 1 1 = h 90 2) (gb : h (-77) 0 = 1000 * (j + 1)) (q : 0 ≤ j ∧ x3 = 7 * j ∧ x3 ≤ L - 7) (BK : ∀ (z5 : ov_Z) (h5 : ov_H), ov_LK (1 + (j + 1)) (4000 * (j + 1)) z5 h5 → h5 1 1 = h5 90 2 → h5 (-77) 0 = 1000 * (j + 2) → ov_R u d (ov_mL nm) 1461 [(0, ov_r (-4)), (1, ov_r 0), (2, ov_r 90), (3, ov_i x3)] [] z5 h5 ov_LQ) : ov_R u d (ov_mL nm) 752 [(0, ov_r (-4)), (1, ov_r 0), (2, ov_r 90), (3, ov_i x3)] [] z h ov_LQ := by
  have I := ov_LK_I K
  have hW := ov_LK_W K
  have hJ0 := K.2.2.1
  have s3 := s103_2 K.2.1
  have hb0 : ov_bd (h, z) = 1000 * (j + 1) := gb
  refine ov_blk (ls2 := [(0, ov_r (-4)), (1, ov_r 0), (2, ov_r 90), (3, ov_i x3)]) (st2 := [ov_i (x3 + 1), ov_r (-4), ov_r 0]) (pc2 := 757) b_313_752_5 rfl rfl ?_
  refine ov_scl X d_313_757 (by omega) ?_
  have g1 := ov_xs_g xs (x3 + 1)
  refine ov_blk (ls2 := [(0, ov_r (-4)), (1, ov_r 0), (2, ov_r 90), (3, ov_i x3)]) (st2 := [ov_i (x3 + 2), ov_r (-4), ov_i (ov_xs xs (x3 + 1)), ov_r 0]) (pc2 := 762) b_313_758_4 rfl rfl ?_
  refine ov_scl X d_313_762 (by omega) ?_
  have g2 := ov_xs_g xs (x3 + 2)
  refine ov_blk (ls2 := [(0, ov_r (-4)), (1, ov_r 0), (2, ov_r 90), (3, ov_i x3)]) (st2 := [ov_i (x3 + 3), ov_r (-4), ov_i (ov_xs xs (x3 + 2)), ov_i (ov_xs xs (x3 + 1)), ov_r 0]) (pc2 := 767) b_313_763_4 rfl rfl ?_
  refine ov_scl X d_313_767 (by omega) ?_
  have g3 := ov_xs_g xs (x3 + 3)
  refine ov_blk (ls2 := [(0, ov_r (-4)), (1, ov_r 0), (2, ov_r 90), (3, ov_i x3)]) (st2 := [ov_i (x3 + 4), ov_r (-4), ov_i (ov_xs xs (x3 + 3)), ov_i (ov_xs xs (x3 + 2)), ov_i (ov_xs xs (x3 + 1)), ov_r 0]) (pc2 := 772) b_313_768_4 rfl rfl ?_
  refine ov_scl X d_313_772 (by omega) ?_
  have g4 := ov_xs_g xs (x3 + 4)
  refine ov_cV (as := [ov_i (ov_xs xs (x3 + 1)), ov_i (ov_xs xs (x3 + 2)), ov_i (ov_xs xs (x3 + 3)), ov_i (ov_xs xs (x3 + 4))]) (st := []) (d2 := d - 1) d_313_773 lk_Law_78 rfl (Nat.le_of_ble_eq_true rfl) (c := 0) (zb_0 I) (zs_0 I) ⟨by decide, rfl⟩ (by omega) (c_OF_choice_0 (d - 1) (by omega) U I (ov_xs xs (x3 + 1)) (ov_xs xs (x3 + 2)) (ov_xs xs (x3 + 3)) (ov_xs xs (x3 + 4)) (by omega) (by omega) (by omega) (by omega) (by omega) (by omega)) ?_
  rintro _ z7 h8 ⟨v6, rfl, I9, f5⟩
  show ov_R u d (ov_mL nm) 776 [(0, ov_r (-4)), (1, ov_r 0), (2, ov_r 90), (3, ov_i x3)] [ov_i v6] z7 h8 ov_LQ
  have f10 : ((h8 36 7) = 1 → (h8 36 8) = (h8 0 10)) ∧ (h8 1 1) = (h 1 1) ∧ (h8 90 2) = (h 90 2) ∧ (h8 0 10) = (h 0 10) ∧ (h8 0 11) = (h 0 11) ∧ (h8 0 12) = (h 0 12) ∧ (h8 0 13) = (h 0 13) ∧ (h8 3 1) = (h 3 1) ∧ (h8 46 3) = (h 46 3) ∧ (h8 46 4) = (h 46 4) ∧ (h8 49 4) = (h 49 4) ∧ (h8 49 5) = (h 49 5) ∧ (h8 64 0) = (h 64 0) ∧ (h8 76 0) = (h 76 0) := f5
  clear f5
  have K1 := ov_LK_c (B := (1000 * (j + 2))) K I9 (fun b h0 _ => ov_FF_ge h0) (by omega) (ov_HR_k hW I9 (by omega) (by omega) (by omega) (by omega)) (by omega)
  refine ov_gho (ov_up h8 (-77) 0 (1000 * (j + 2))) (fun a ha => (ov_up77 ha).symm) ?_
  have a1 : (ov_up h8 (-77) 0 (1000 * (j + 2))) 1 1 = h8 1 1 := congrFun (ov_up77 (by decide)) 1
  have a2 : (ov_up h8 (-77) 0 (1000 * (j + 2))) 90 2 = h8 90 2 := congrFun (ov_up77 (by decide)) 2
  have a3 : (ov_up h8 (-77) 0 (1000 * (j + 2))) (-77) 0 = (1000 * (j + 2)) := ov_uj.1 rfl
  have a4 : (ov_up h8 (-77) 0 (1000 * (j + 2))) 103 2 = h 103 2 := (congrFun (ov_up77 (by decide)) 2).trans (congrFun ((I9.2.1 103 (by decide) (by decide)).trans (ov_FF_ge (by decide))) 2)
  generalize (ov_up h8 (-77) 0 (1000 * (j + 2))) = hg at K1 a1 a2 a3 a4 ⊢
  have N1 := K1.2.1
  have hWT := K1.2.2.2.2.1
  have hCD := K1.2.2.2.2.2.1
  have hWK := K1.2.2.2.2.2.2.1
  have hPM : ov_PM (hg 96) (hg 103) (hg 97) (hg 98) (hg 105) (hg 106) (hg 90 22) (hg 90 25) (hg 90 26) (hg 90 28) (hg 90 29) (hg 90 30) := K1.2.2.2.2.2.2.2.1
  have hq1 := K1.2.2.2.2.2.2.2.2.1
  have hq2 := K1.2.2.2.2.2.2.2.2.2
  have hbd : ov_bd (hg, z7) = (1000 * (j + 2)) := a3
  have g103 := s103_2 N1
  show ov_R u d (ov_mL nm) 776 [(0, ov_r (-4)), (1, ov_r 0), (2, ov_r 90), (3, ov_i x3)] [ov_i v6] z7 hg ov_LQ
  refine ov_blk (ls2 := [(0, ov_r (-4)), (1, ov_r 0), (2, ov_r 90), (3, ov_i x3)]) (st2 := [ov_i (x3 + 1), ov_r (-4), ov_r 90]) (pc2 := 782) b_313_776_6 rfl rfl ?_
  refine ov_scl X d_313_782 (by omega) ?_
  refine ov_blk (ls2 := [(0, ov_r (-4)), (1, ov_r 0), (2, ov_r 90), (3, ov_i x3)]) (st2 := [ov_i (x3 + 2), ov_r (-4), ov_i (ov_xs xs (x3 + 1)), ov_r 90]) (pc2 := 787) b_313_783_4 rfl rfl ?_
  refine ov_scl X d_313_787 (by omega) ?_
  refine ov_blk (ls2 := [(0, ov_r (-4)), (1, ov_r 0), (2, ov_r 90), (3, ov_i x3)]) (st2 := [ov_i (x3 + 3), ov_r (-4), ov_i (ov_xs xs (x3 + 2)), ov_i (ov_xs xs (x3 + 1)), ov_r 90]) (pc2 := 792) b_313_788_4 rfl rfl ?_
  refine ov_scl X d_313_792 (by omega) ?_
  refine ov_blk (ls2 := [(0, ov_r (-4)), (1, ov_r 0), (2, ov_r 90), (3, ov_i x3)]) (st2 := [ov_i (x3 + 4), ov_r (-4), ov_i (ov_xs xs (x3 + 3)), ov_i (ov_xs xs (x3 + 2)), ov_i (ov_xs xs (x3 + 1)), ov_r 90]) (pc2 := 797) b_313_793_4 rfl rfl ?_
  refine ov_scl X d_313_797 (by omega) ?_
  refine ov_cV (as := [ov_i (ov_xs xs (x3 + 1)), ov_i (ov_xs xs (x3 + 2)), ov_i (ov_xs xs (x3 + 3)), ov_i (ov_xs xs (x3 + 4))]) (st := []) (d2 := d - 1) d_313_798 lk_Law_81 rfl (Nat.le_of_ble_eq_true rfl) (c := 1) (zb_90 N1) (zs_90 N1) ⟨by decide, rfl⟩ (by omega) (c_Mo_choice_90 (d - 1) (by omega) U N1 (ov_xs xs (x3 + 1)) (ov_xs xs (x3 + 2)) (ov_xs xs (x3 + 3)) (ov_xs xs (x3 + 4)) (by omega) (by omega) (by omega) (by omega) (by show 0 ≤ (hg 90 25) ∧ (hg 90 25) ≤ 1000000000; omega) hWT hCD hPM) ?_
  rintro _ z30 h31 ⟨v16, rfl, I32, f15, e17, e18, e19, e20, e21, e22, e23, e24, e25, e26, e27, e28, y29⟩
  have E33 : h31 92 = hg 92 := e17
  have E34 : h31 93 = hg 93 := e18
  have E35 : h31 94 = hg 94 := e19
  have E36 : h31 95 = hg 95 := e20
  have E37 : h31 96 = hg 96 := e21
  have E38 : h31 97 = hg 97 := e22
  have E39 : h31 98 = hg 98 := e23
  have E40 : h31 99 = hg 99 := e24
  have E41 : h31 100 = hg 100 := e25
  have E42 : h31 103 = hg 103 := e26
  have E43 : h31 109 = hg 109 := e27
  have E44 : h31 114 = hg 114 := e28
  show ov_R u d (ov_mL nm) 801 [(0, ov_r (-4)), (1, ov_r 0), (2, ov_r 90), (3, ov_i x3)] [ov_i v16] z30 h31 ov_LQ
  have f45 : (h31 90 2) = (hg 90 2) ∧ (h31 90 7) = (hg 90 7) ∧ (h31 90 8) = (hg 90 8) ∧ (h31 90 13) = (hg 90 13) ∧ (h31 90 20) = (hg 90 20) ∧ (h31 90 22) = (hg 90 22) ∧ (h31 90 34) = (hg 90 34) ∧ (hg 90 25) ≤ (h31 90 25) ∧ (h31 90 25) ≤ (hg 90 25) + 1 ∧ -1 ≤ v16 ∧ v16 ≤ 1 := f15
  clear f15
  have y29_ : ov_PM (hg 96) (hg 103) (hg 97) (hg 98) (h31 105) (h31 106) (h31 90 22) (h31 90 25) (h31 90 26) (h31 90 28) (h31 90 29) (h31 90 30) := y29
  have K2 : ov_LK (1 + (j + 1)) (4000 * (j + 1)) z30 h31 := ov_LK_rm (g := 1) K1 I32 E37 E38 E39 E41 E42 y29_ (by omega) (by omega) (by omega)
  have b1 : h31 1 1 = hg 1 1 := congrFun (I32.2.2.2 1 (Or.inl (by decide))) 1
  have b7 : h31 (-77) 0 = hg (-77) 0 := congrFun (I32.2.2.2 (-77) (Or.inl (by decide))) 0
  refine ov_blk (ls2 := [(0, ov_r (-4)), (1, ov_r 0), (2, ov_r 90), (3, ov_i x3)]) (st2 := []) (pc2 := 802) b_313_801_1 rfl rfl ?_
  refine ov_goto (tgt := 1461) d_313_802 (by decide) ?_
  exact BK _ _ K2 (by omega) (by omega)

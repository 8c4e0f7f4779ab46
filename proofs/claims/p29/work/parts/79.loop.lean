theorem ov_LK_le {v s v' s' : Int} {z : ov_Z} {h : ov_H} (K : ov_LK v s z h) (hv : v ≤ v') (hs : s ≤ s') : ov_LK v' s' z h := by
  obtain ⟨a, b, c, e, f, g, i, j, k, l⟩ := K
  exact ⟨a, b, c, e, f, g, i, j, ⟨k.1, by omega⟩, ⟨l.1, by omega⟩⟩
set_option maxHeartbeats 4000000 in
theorem lw_loop {u : ov_U} {nm : String} {d : Nat} (hd : 1000 ≤ d) (U : ov_cap u) {L : Nat} {xs : Nat → Int32} (X : ov_SC u L xs) (hL : L ≤ 3584) : ∀ (n : Nat) (x3 j : Int) (z : ov_Z) (h : ov_H), ov_LK (1 + j) (4000 * j) z h → h 1 1 = h 90 2 → h (-77) 0 = 1000 * (j + 1) → ov_S3 h → (0 ≤ j ∧ x3 = 7 * j ∧ x3 ≤ L) → L - x3 < (n : Int) → ov_R u d (ov_mL nm) 18 [(0, ov_r (-4)), (1, ov_r 0), (2, ov_r 90), (3, ov_i x3)] [] z h ov_LQ := by
  intro n
  induction n with
  | zero =>
    intro x3 j z h K e0 gb s0 q hn
    exact absurd hn (by omega)
  | succ n ih =>
    intro x3 j z h K e0 gb s0 q hn
    refine ov_blk (ls2 := [(0, ov_r (-4)), (1, ov_r 0), (2, ov_r 90), (3, ov_i x3)]) (st2 := [ov_r (-4), ov_i x3]) (pc2 := 20) b_313_18_2 rfl rfl ?_
    refine ov_scn X d_313_20 ?_
    refine ov_blk (ls2 := [(0, ov_r (-4)), (1, ov_r 0), (2, ov_r 90), (3, ov_i x3)]) (st2 := [ov_i ((L : Int) - 7), ov_i x3]) (pc2 := 24) b_313_21_2 rfl rfl ?_
    refine ov_icgt (tgt := 1468) d_313_24 (by decide) (by omega) (by omega) (fun c1 => ?_) (fun c1 => ?_)
    · refine ov_blk (ls2 := [(0, ov_r (-4)), (1, ov_r 0), (2, ov_r 90), (3, ov_i x3)]) (st2 := [ov_i 1]) (pc2 := 1469) b_313_1468_1 rfl rfl ?_
      exact ov_retz (st := []) d_313_1469 rfl (by omega) rfl
    · have BK : ∀ (z5 : ov_Z) (h5 : ov_H), ov_LK (1 + (j + 1)) (4000 * (j + 1)) z5 h5 → h5 1 1 = h5 90 2 → h5 (-77) 0 = 1000 * (j + 2) → ov_S3 h5 → ov_R u d (ov_mL nm) 1462 [(0, ov_r (-4)), (1, ov_r 0), (2, ov_r 90), (3, ov_i x3)] [] z5 h5 ov_LQ := by
        intro z5 h5 K5 e5 g5 s5
        refine ov_blk (ls2 := [(0, ov_r (-4)), (1, ov_r 0), (2, ov_r 90), (3, ov_i (x3 + 7))]) (st2 := []) (pc2 := 1465) b_313_1462_1 rfl rfl ?_
        refine ov_goto (tgt := 18) d_313_1465 (by decide) ?_
        exact ih (x3 + 7) (j + 1) z5 h5 K5 e5 (by omega) s5 (by omega) (by omega)
      refine ov_blk (ls2 := [(0, ov_r (-4)), (1, ov_r 0), (2, ov_r 90), (3, ov_i x3)]) (st2 := [ov_i x3, ov_r (-4)]) (pc2 := 29) b_313_27_2 rfl rfl ?_
      refine ov_scl X d_313_29 (by omega) ?_
      refine ov_blk (ls2 := [(0, ov_r (-4)), (1, ov_r 0), (2, ov_r 90), (3, ov_i x3)]) (st2 := [ov_i (ov_and (ov_xs xs x3) 31)]) (pc2 := 33) b_313_30_2 rfl rfl ?_
      have gA := ov_andg (ov_xs xs x3) 31
      generalize ov_and (ov_xs xs x3) 31 = A at gA ⊢
      by_cases q0 : A = 0
      · refine ov_tin (off := 139) (tgt := 172) d_313_33 (by omega) (by omega) (by rw [q0]; rfl) (by decide) ?_
        exact lw_case_0 hd U X hL x3 j z h K e0 gb s0 (by omega) BK
      by_cases q1 : A = 1
      · refine ov_tin (off := 274) (tgt := 307) d_313_33 (by omega) (by omega) (by rw [q1]; rfl) (by decide) ?_
        exact lw_case_1 hd U X hL x3 j z h K e0 gb s0 (by omega) BK
      by_cases q2 : A = 2
      · refine ov_tin (off := 287) (tgt := 320) d_313_33 (by omega) (by omega) (by rw [q2]; rfl) (by decide) ?_
        exact lw_case_2 hd U X hL x3 j z h K e0 gb s0 (by omega) BK
      by_cases q3 : A = 3
      · refine ov_tin (off := 300) (tgt := 333) d_313_33 (by omega) (by omega) (by rw [q3]; rfl) (by decide) ?_
        exact lw_case_3 hd U X hL x3 j z h K e0 gb s0 (by omega) BK
      by_cases q4 : A = 4
      · refine ov_tin (off := 343) (tgt := 376) d_313_33 (by omega) (by omega) (by rw [q4]; rfl) (by decide) ?_
        exact lw_case_4 hd U X hL x3 j z h K e0 gb s0 (by omega) BK
      by_cases q5 : A = 5
      · refine ov_tin (off := 396) (tgt := 429) d_313_33 (by omega) (by omega) (by rw [q5]; rfl) (by decide) ?_
        exact lw_case_5 hd U X hL x3 j z h K e0 gb s0 (by omega) BK
      by_cases q6 : A = 6
      · refine ov_tin (off := 449) (tgt := 482) d_313_33 (by omega) (by omega) (by rw [q6]; rfl) (by decide) ?_
        exact lw_case_6 hd U X hL x3 j z h K e0 gb s0 (by omega) BK
      by_cases q7 : A = 7
      · refine ov_tin (off := 498) (tgt := 531) d_313_33 (by omega) (by omega) (by rw [q7]; rfl) (by decide) ?_
        exact lw_case_7 hd U X hL x3 j z h K e0 gb s0 (by omega) BK
      by_cases q8 : A = 8
      · refine ov_tin (off := 521) (tgt := 554) d_313_33 (by omega) (by omega) (by rw [q8]; rfl) (by decide) ?_
        exact lw_case_8 hd U X hL x3 j z h K e0 gb s0 (by omega) BK
      by_cases q9 : A = 9
      · refine ov_tin (off := 534) (tgt := 567) d_313_33 (by omega) (by omega) (by rw [q9]; rfl) (by decide) ?_
        exact lw_case_9 hd U X hL x3 j z h K e0 gb s0 (by omega) BK
      by_cases q10 : A = 10
      · refine ov_tin (off := 547) (tgt := 580) d_313_33 (by omega) (by omega) (by rw [q10]; rfl) (by decide) ?_
        exact lw_case_10 hd U X hL x3 j z h K e0 gb s0 (by omega) BK
      by_cases q11 : A = 11
      · refine ov_tin (off := 560) (tgt := 593) d_313_33 (by omega) (by omega) (by rw [q11]; rfl) (by decide) ?_
        exact lw_case_11 hd U X hL x3 j z h K e0 gb s0 (by omega) BK
      by_cases q12 : A = 12
      · refine ov_tin (off := 613) (tgt := 646) d_313_33 (by omega) (by omega) (by rw [q12]; rfl) (by decide) ?_
        exact lw_case_12 hd U X hL x3 j z h K e0 gb s0 (by omega) BK
      by_cases q13 : A = 13
      · refine ov_tin (off := 666) (tgt := 699) d_313_33 (by omega) (by omega) (by rw [q13]; rfl) (by decide) ?_
        exact lw_case_13 hd U X hL x3 j z h K e0 gb s0 (by omega) BK
      by_cases q14 : A = 14
      · refine ov_tin (off := 719) (tgt := 752) d_313_33 (by omega) (by omega) (by rw [q14]; rfl) (by decide) ?_
        exact lw_case_14 hd U X hL x3 j z h K e0 gb s0 (by omega) BK
      by_cases q15 : A = 15
      · refine ov_tin (off := 772) (tgt := 805) d_313_33 (by omega) (by omega) (by rw [q15]; rfl) (by decide) ?_
        exact lw_case_15 hd U X hL x3 j z h K e0 gb s0 (by omega) BK
      by_cases q16 : A = 16
      · refine ov_tin (off := 815) (tgt := 848) d_313_33 (by omega) (by omega) (by rw [q16]; rfl) (by decide) ?_
        exact lw_case_16 hd U X hL x3 j z h K e0 gb s0 (by omega) BK
      by_cases q17 : A = 17
      · refine ov_tin (off := 858) (tgt := 891) d_313_33 (by omega) (by omega) (by rw [q17]; rfl) (by decide) ?_
        exact lw_case_17 hd U X hL x3 j z h K e0 gb s0 (by omega) BK
      by_cases q18 : A = 18
      · refine ov_tin (off := 901) (tgt := 934) d_313_33 (by omega) (by omega) (by rw [q18]; rfl) (by decide) ?_
        exact lw_case_18 hd U X hL x3 j z h K e0 gb s0 (by omega) BK
      by_cases q19 : A = 19
      · refine ov_tin (off := 934) (tgt := 967) d_313_33 (by omega) (by omega) (by rw [q19]; rfl) (by decide) ?_
        exact lw_case_19 hd U X hL x3 j z h K e0 gb s0 (by omega) BK
      by_cases q20 : A = 20
      · refine ov_tin (off := 957) (tgt := 990) d_313_33 (by omega) (by omega) (by rw [q20]; rfl) (by decide) ?_
        exact lw_case_20 hd U X hL x3 j z h K e0 gb s0 (by omega) BK
      by_cases q21 : A = 21
      · refine ov_tin (off := 1000) (tgt := 1033) d_313_33 (by omega) (by omega) (by rw [q21]; rfl) (by decide) ?_
        exact lw_case_21 hd U X hL x3 j z h K e0 gb s0 (by omega) BK
      by_cases q22 : A = 22
      · refine ov_tin (off := 1033) (tgt := 1066) d_313_33 (by omega) (by omega) (by rw [q22]; rfl) (by decide) ?_
        exact lw_case_22 hd U X hL x3 j z h K e0 gb s0 (by omega) BK
      by_cases q23 : A = 23
      · refine ov_tin (off := 1102) (tgt := 1135) d_313_33 (by omega) (by omega) (by rw [q23]; rfl) (by decide) ?_
        exact lw_case_23 hd U X hL x3 j z h K e0 gb s0 (by omega) BK
      by_cases q24 : A = 24
      · refine ov_tin (off := 1145) (tgt := 1178) d_313_33 (by omega) (by omega) (by rw [q24]; rfl) (by decide) ?_
        exact lw_case_24 hd U X hL x3 j z h K e0 gb s0 (by omega) BK
      by_cases q25 : A = 25
      · refine ov_tin (off := 1224) (tgt := 1257) d_313_33 (by omega) (by omega) (by rw [q25]; rfl) (by decide) ?_
        exact lw_case_25 hd U X hL x3 j z h K e0 gb s0 (by omega) BK
      by_cases q26 : A = 26
      · refine ov_tin (off := 1237) (tgt := 1270) d_313_33 (by omega) (by omega) (by rw [q26]; rfl) (by decide) ?_
        exact lw_case_26 hd U X hL x3 j z h K e0 gb s0 (by omega) BK
      by_cases q27 : A = 27
      · refine ov_tin (off := 1280) (tgt := 1313) d_313_33 (by omega) (by omega) (by rw [q27]; rfl) (by decide) ?_
        exact lw_case_27 hd U X hL x3 j z h K e0 gb s0 (by omega) BK
      by_cases q28 : A = 28
      · refine ov_tin (off := 1304) (tgt := 1337) d_313_33 (by omega) (by omega) (by rw [q28]; rfl) (by decide) ?_
        exact lw_case_28 hd U X hL x3 j z h K e0 gb s0 (by omega) BK
      by_cases q29 : A = 29
      · refine ov_tin (off := 1357) (tgt := 1390) d_313_33 (by omega) (by omega) (by rw [q29]; rfl) (by decide) ?_
        exact lw_case_29 hd U X hL x3 j z h K e0 gb s0 (by omega) BK
      by_cases q30 : A = 30
      · refine ov_tin (off := 1406) (tgt := 1439) d_313_33 (by omega) (by omega) (by rw [q30]; rfl) (by decide) ?_
        exact lw_case_30 hd U X hL x3 j z h K e0 gb s0 (by omega) BK
      refine ov_tout (tgt := 1462) d_313_33 (by omega) (by omega) (by decide) ?_
      have K1 := ov_LK_c (B := 1000 * (j + 2)) K (ov_LK_I (M := 0) K) (fun b h0 _ => ov_FF_ge (by omega)) K.2.2.1 K.2.2.2.1 (by omega)
      refine ov_gho (ov_up h (-77) 0 (1000 * (j + 2))) (fun a ha => (ov_up77 ha).symm) ?_
      have a1 : ov_up h (-77) 0 (1000 * (j + 2)) 1 1 = h 1 1 := congrFun (ov_up77 (by decide)) 1
      have a2 : ov_up h (-77) 0 (1000 * (j + 2)) 90 2 = h 90 2 := congrFun (ov_up77 (by decide)) 2
      exact BK _ _ (ov_LK_le K1 (by omega) (by omega)) (by omega) (ov_uj.1 rfl) ⟨by rw [ov_up77 (by decide), ov_up77 (by decide)]; exact s0.1, by rw [ov_up77 (by decide)]; exact s0.2.1, by rw [ov_up77 (by decide)]; exact ov_HT_rw s0.2.2.1 (fun b hb _ => ov_up77 hb), st_R77 s0.2.2.2⟩

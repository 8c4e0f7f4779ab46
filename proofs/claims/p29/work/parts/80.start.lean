/-! the law from its entry -/
theorem ov_WT0 : ov_WT ov_R96 := by
  intro c h0 h1 h2
  have e : ov_R96 (10 + 4 * c) = 0 := by
    show ov_rs (ov_rs (ov_rs (ov_rs (ov_rs (ov_rs (fun _ => 0) 2 10) 3 (-1)) 4 (-1)) 9 1) 0 1) 1 1 (10 + 4 * c) = 0
    rw [ov_rs_ne (by omega), ov_rs_ne (by omega), ov_rs_ne (by omega), ov_rs_ne (by omega), ov_rs_ne (by omega), ov_rs_ne (by omega)]
  omega
set_option maxHeartbeats 4000000 in
theorem lw_K0 {z4 : ov_Z} {h2 h4 : ov_H} (C4 : ov_SH 115 z4) (kb : ∀ b : Int, b < 90 → h4 b = h2 b) (t2 : ∀ b : Int, 0 ≤ b → b < 90 → (b < 58 ∨ 69 < b) → h2 b = ov_T0 b) (y2 : ∀ a k : Int, 58 ≤ a → a ≤ 69 → ov_pr a.toNat k (h2 a k)) (s2 : 0 ≤ h2 64 0) (w2 : h2 58 0 = 1) (q2 : h2 58 1 = 1) (N4 : ov_N (h4, z4) z4 h4) (r96 : h4 96 = ov_R96) (r106 : h4 106 = fun _ => 0) (f22 : h4 90 22 = 1) (f25 : h4 90 25 = 0) (f28 : h4 90 28 = 0) (f100 : h4 100 0 = 0) : ov_LK 1 0 z4 h4 := by
  have J4 : ov_J z4 h4 := by
    refine ⟨⟨by rw [C4.1]; decide, fun a h0 h1 => C4.2.2 a h0 (by omega)⟩, fun a k h0 h1 => ?_, ?_⟩
    · by_cases q : a < 90
      · rw [kb a q]
        by_cases y : 58 ≤ a ∧ a ≤ 69
        · exact y2 a k y.1 y.2
        · rw [t2 a h0 q (by omega)]
          have w := ov_T0_ok a.toNat k (by omega)
          rw [Int.toNat_of_nonneg h0] at w
          exact w
      · have q3 := ov_pr_ref (a.toNat - 90) k (h4 a k) (by omega)
        rw [show 90 + (a.toNat - 90) = a.toNat by omega] at q3
        exact q3
    · refine ⟨0, 0, 0, ?_⟩
      rw [kb 37 (by decide), kb 40 (by decide), kb 51 (by decide), t2 37 (by decide) (by decide) (by decide), t2 40 (by decide) (by decide) (by decide), t2 51 (by decide) (by decide) (by decide)]
      have e1 : ov_T0 37 0 = 38 := rfl
      have e2 : ov_T0 40 0 = 41 := rfl
      have e3 : ov_T0 51 0 = 52 := rfl
      rw [e1, e2, e3]
      have c1 : (z4.1 : Int) = 115 := by rw [C4.1]; rfl
      refine ⟨⟨C4.2.2 38 (by decide) (by decide), Or.inl rfl, by omega, by decide⟩, ⟨C4.2.2 41 (by decide) (by decide), Or.inl rfl, by omega, by decide⟩, ⟨C4.2.2 52 (by decide) (by decide), Or.inl rfl, by omega, by decide⟩, by rw [C4.1]; decide, ?_⟩
      rw [C4.2.1]
      decide +kernel
  refine ⟨J4, N4, fun e => ?_, Or.inl ⟨?_, ?_, ?_, ?_, ?_⟩, ?_, ?_, ?_, ⟨fun j => ?_, ?_, fun e => ?_⟩, by omega, by omega⟩
  · rw [kb 36 (by decide), t2 36 (by decide) (by decide) (by decide)] at e
    exact absurd e (by decide +kernel)
  · rw [kb 0 (by decide), t2 0 (by decide) (by decide) (by decide)]
    rfl
  · rw [kb 0 (by decide), t2 0 (by decide) (by decide) (by decide)]
    rfl
  · rw [kb 64 (by decide)]
    exact s2
  · rw [kb 58 (by decide)]
    omega
  · rw [kb 58 (by decide)]
    omega
  · rw [r96]
    exact ov_WT0
  · rw [r96]
    intro r h0 h1
    have e : ov_R96 8 = 0 := rfl
    omega
  · unfold ov_WK
    rw [f100]
    show (0 : Int) ≤ 5 ∧ (0 : Int) - 0 ≤ 8
    decide
  · rw [r106, f25]
    exact Int.le_refl _
  · rw [f28, f22]
    decide
  · rw [f28, f22] at e
    omega
theorem pt_WD0n : ∀ n, n < 22 → ov_T0 95 ((n : Nat) : Int) = pt_D ((n : Nat) : Int) := by decide +kernel
theorem pt_WD0 : pt_WD (ov_T0 95) := fun c h0 h1 => by
  obtain ⟨n, rfl⟩ := Int.eq_ofNat_of_zero_le h0
  exact pt_WD0n n (by omega)
set_option maxHeartbeats 4000000 in
theorem lw_start {u : ov_U} {nm : String} {d : Nat} (hd : 1001 ≤ d) (U : ov_cap u) {L : Nat} {xs : Nat → Int32} (X : ov_SC u L xs) (hL : L ≤ 3584) : ov_R u d (ov_mL nm) 0 [(0, ov_r (-4))] [] ((0 : Nat), (0 : Nat), fun _ => ((0 : Nat), (0 : Nat))) (fun _ _ => 0) ov_LQ := by
  have C0 : ov_SH 0 ((0 : Nat), (0 : Nat), fun _ => ((0 : Nat), (0 : Nat))) := ⟨rfl, rfl, fun b h0 h1 => by omega⟩
  refine ov_new (c := 0) d_313_0 nl_Law_7 (by rw [U.1]; decide) (by rw [U.2.1]; decide +kernel) ?_
  have C1 : ov_SH 1 (ov_zn ((0 : Nat), (0 : Nat), fun _ => ((0 : Nat), (0 : Nat))) (5 + 0, ov_nf 0)) := ov_SH_n C0 rfl (by decide +kernel)
  show ov_R u d (ov_mL nm) 3 [(0, ov_r (-4))] [ov_r 0] _ (ov_nw (fun _ _ => 0) 0 (ov_df 0)) ov_LQ
  have r1 : ov_nw (fun _ _ => 0) 0 (ov_df 0) 0 = ov_df 0 := ov_nw_eq rfl
  have k1 : ∀ b : Int, b < 0 → ov_nw (fun _ _ => 0) 0 (ov_df 0) b = fun _ => 0 := fun b hb => ov_nw_ne (by omega)
  generalize ov_zn ((0 : Nat), (0 : Nat), fun _ => ((0 : Nat), (0 : Nat))) (5 + 0, ov_nf 0) = z1 at C1 ⊢
  generalize ov_nw (fun _ _ => 0) 0 (ov_df 0) = h1 at r1 k1 ⊢
  refine ov_blk (ls2 := [(0, ov_r (-4))]) (st2 := [ov_r 0, ov_r 0]) (pc2 := 4) b_313_3_1 rfl rfl ?_
  refine ov_cI (as := []) (st := [ov_r 0]) (d2 := d - 1) rfl d_313_4 lk_Law_9 rfl (Nat.le_of_ble_eq_true rfl) (by decide) (by omega) (i_OF_0_t (d - 1) (by omega) U C1 r1) ?_
  rintro _ z2 h2 ⟨rfl, C2, k2, t2, y2, s2, w2, q2, tb2⟩
  show ov_R u d (ov_mL nm) 7 [(0, ov_r (-4))] [ov_r 0] z2 h2 ov_LQ
  refine ov_blk (ls2 := [(0, ov_r (-4)), (1, ov_r 0)]) (st2 := []) (pc2 := 8) b_313_7_1 rfl rfl ?_
  refine ov_new (c := 1) d_313_8 nl_Law_10 (by rw [C2.1, U.1]; decide) (by rw [C2.2.1, U.2.1]; decide +kernel) ?_
  rw [show ((z2.1 : Nat) : Int) = 90 by rw [C2.1]; rfl]
  have C3 : ov_SH 91 (ov_zn z2 (5 + 1, ov_nf 1)) := ov_SH_n C2 rfl (by decide +kernel)
  have r3 : ov_nw h2 90 (ov_df 1) 90 = ov_df 1 := ov_nw_eq rfl
  have k3 : ∀ b : Int, b < 90 → ov_nw h2 90 (ov_df 1) b = h2 b := fun b hb => ov_nw_ne (by omega)
  generalize ov_zn z2 (5 + 1, ov_nf 1) = z3 at C3 ⊢
  generalize ov_nw h2 90 (ov_df 1) = h3 at r3 k3 ⊢
  refine ov_blk (ls2 := [(0, ov_r (-4)), (1, ov_r 0)]) (st2 := [ov_r 90, ov_r 90]) (pc2 := 12) b_313_11_1 rfl rfl ?_
  refine ov_cI (as := []) (st := [ov_r 90]) (d2 := d - 1) rfl d_313_12 lk_Law_12 rfl (Nat.le_of_ble_eq_true rfl) (by decide) (by omega) (i_Mo_90 (d - 1) (by omega) U C3 r3 (by rw [k3 (-77) (by decide), k2 (-77) (by decide), k1 (-77) (by decide)]; decide)) ?_
  rintro _ z4 h4 ⟨rfl, C4, k4, N4, r96, r97, r98, r106, f2, f22, f25, f28, f100, r91, r95, b4⟩
  show ov_R u d (ov_mL nm) 15 [(0, ov_r (-4)), (1, ov_r 0)] [ov_r 90] z4 h4 ov_LQ
  refine ov_blk (ls2 := [(0, ov_r (-4)), (1, ov_r 0), (2, ov_r 90), (3, ov_i 0)]) (st2 := []) (pc2 := 18) b_313_15_3 rfl rfl ?_
  have kb : ∀ b : Int, b < 90 → h4 b = h2 b := fun b hb => by rw [k4 b hb, k3 b hb]
  have K4 := lw_K0 C4 kb t2 y2 s2 w2 q2 N4 r96 r106 f22 f25 f28 f100
  have g4 : h4 (-77) 0 = 0 := by rw [kb (-77) (by decide), k2 (-77) (by decide), k1 (-77) (by decide)]
  have e4 : h4 1 1 = h4 90 2 := by
    rw [f2, kb 1 (by decide), t2 1 (by decide) (by decide) (by decide)]
    rfl
  have K1 := ov_LK_c (B := 1000) K4 (ov_LK_I (M := 0) K4) (fun b h0 _ => ov_FF_ge (by omega)) K4.2.2.1 K4.2.2.2.1 (by omega)
  refine ov_gho (ov_up h4 (-77) 0 1000) (fun a ha => (ov_up77 ha).symm) ?_
  have a1 : ov_up h4 (-77) 0 1000 1 1 = h4 1 1 := congrFun (ov_up77 (by decide)) 1
  have a2 : ov_up h4 (-77) 0 1000 90 2 = h4 90 2 := congrFun (ov_up77 (by decide)) 2
  have s4 : ov_S3 h4 := by
    refine ⟨by rw [r91, kb 2 (by decide), t2 2 (by decide) (by decide) (by decide)]; rfl, by rw [r95]; exact pt_WD0, ⟨fun _ => by rw [r96, kb 58 (by decide), kb 59 (by decide), kb 60 (by decide), kb 61 (by decide), kb 62 (by decide), kb 63 (by decide), kb 64 (by decide), kb 65 (by decide)]; exact tb2, fun q => by rw [kb 0 (by decide), t2 0 (by decide) (by decide) (by decide)] at q; exact absurd q (by decide +kernel)⟩, st_begin (fun m m0 m1 => ?_) (by rw [kb 4 (by decide), t2 4 (by decide) (by decide) (by decide)]; rfl) (by rw [kb 4 (by decide), t2 4 (by decide) (by decide) (by decide)]; rfl) (by rw [kb 4 (by decide), t2 4 (by decide) (by decide) (by decide)]; rfl) (by rw [kb 4 (by decide), t2 4 (by decide) (by decide) (by decide)]; rfl) (by rw [kb 4 (by decide), t2 4 (by decide) (by decide) (by decide)]; rfl) (by rw [kb 4 (by decide), t2 4 (by decide) (by decide) (by decide)]; rfl) (by rw [kb 9 (by decide), t2 9 (by decide) (by decide) (by decide)]; rfl) (by rw [kb 9 (by decide), t2 9 (by decide) (by decide) (by decide)]; decide +kernel) b4.1 b4.2.2 b4.2.1 (t96_5 N4).1⟩
    rw [kb 35 (by decide), t2 35 (by decide) (by decide) (by decide)]
    rfl
  have s5 : ov_S3 (ov_up h4 (-77) 0 1000) := ⟨by rw [ov_up77 (by decide), ov_up77 (by decide)]; exact s4.1, by rw [ov_up77 (by decide)]; exact s4.2.1, by rw [ov_up77 (by decide)]; exact ov_HT_rw s4.2.2.1 (fun b hb _ => ov_up77 hb), st_R77 s4.2.2.2⟩
  exact lw_loop (by omega) U X hL (L + 1) 0 0 _ _ (ov_LK_le K1 (by omega) (by omega)) (by omega) (ov_uj.1 rfl) s5 (by omega) (by omega)

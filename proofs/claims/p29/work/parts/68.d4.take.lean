
abbrev P_fMo_takeSign_90 (F : ov_H × ov_Z) (z : ov_Z) (h : ov_H) (t : Int → Int) (m : Int) (N : Int) (p : Int) (c : Int) : Option ov_V → ov_Z → ov_H → Prop := fun r0 z' h' => r0 = none ∧ ov_N F z' h' ∧ (∀ a : Int, a ≠ 90 → h' a = h a) ∧ (∀ k : Int, k ≠ 7 → k ≠ 8 → (h' 90) k = (h 90) k) ∧ ((((h 90 8) ≠ 0 ∧ (h' 90 8) = (h 90 8) ∧ (h' 90 7) = (h 90 7) ∧ (h' 93 ((h' 90 7))) = p)) ∨ (((h 90 8) = 0 ∧ pt_is t m p c = 0 ∧ (h' 90 8) = 1 + 16 * p ∧ 1 ≤ (h' 90 8) ∧ (h' 90 7) = (h 90 7) ∧ (h' 93 ((h' 90 7))) = p)) ∨ (((h 90 8) = 0 ∧ pt_is t m p c = 1 ∧ (h' 90 8) = 0 ∧ (h' 90 7) = (h 90 7) + 1 ∧ (h' 90 7) ≤ N ∧ (h' 93 ((h' 90 7))) = pt_nt t m p)))
set_option maxHeartbeats 4000000 in
theorem c_fMo_takeSign_90 {u : ov_U} {F : ov_H × ov_Z} (t : Int → Int) (m : Int) (N : Int) (p : Int) {z : ov_Z} {h : ov_H} (d : Nat) (hd : 1 ≤ d) (U : ov_cap u) (I : ov_N F z h) (c : Int) (g_c : ov_g c) (p0 : 0 ≤ (h 90 7) ∧ (h 90 7) ≤ N) (p1 : (h 93 ((h 90 7))) = p) (p2 : 0 ≤ (h 90 8)) (p3 : 0 ≤ c ∧ c ≤ 65535) (mt : pt_MT t m (h 92) (h 93) (h 94) N) : ov_T u d ov_m216 [ov_r 90, ov_i c] z h (P_fMo_takeSign_90 F z h t m N p c) := by
  refine ov_en rfl (Nat.le_of_ble_eq_true rfl) ?_
  show ov_R u d ov_m216 0 [(0, ov_r 90), (1, ov_i c)] [] z h (P_fMo_takeSign_90 F z h t m N p c)
  have ma := pt_MT_at mt (k := h 90 7) (by omega)
  rw [p1] at ma
  have mp := ma.2.1
  have m2 := ma.2.2.1
  have m3 := ma.2.2.2
  have mc := pt_cm_f (t := t) (m := m) (p := p)
  have mN := mt.1.2.1
  clear ma
  refine ov_blk (ls2 := [(0, ov_r 90), (1, ov_i c)]) (st2 := [ov_i c, ov_r 90]) (pc2 := 2) b_216_0_2 rfl rfl ?_
  refine ov_cV (as := [ov_i c]) (st := []) (d2 := d - 1) d_216_2 lk_Mo_183 rfl (Nat.le_of_ble_eq_true rfl) (c := 1) (zb_90 I) (zs_90 I) ⟨by decide, rfl⟩ (by omega) (c_fMo_isSign_90 t m N p (d - 1) (by omega) U I c (by omega) (by show 0 ≤ (h 90 7) ∧ (h 90 7) ≤ N; omega) (by show (h 93 ((h 90 7))) = p; omega) (by show 0 ≤ (h 90 8); omega) (by show 0 ≤ c ∧ c ≤ 65535; omega) mt) ?_
  rintro _ _ _ ⟨v1, rfl, rfl, rfl, y2⟩
  rcases y2 with ⟨rfl, f3⟩ | ⟨rfl, f4⟩
  · skip
    show ov_R u d ov_m216 5 [(0, ov_r 90), (1, ov_i c)] [ov_i 0] z h (P_fMo_takeSign_90 F z h t m N p c)
    have f5 : (h 90 8) ≠ 0 ∨ pt_is t m p c = 0 := f3
    clear f3
    refine ov_ifeq (tgt := 21) d_216_5 (by decide) (by omega) (fun c6 => ?_) (fun c6 => ?_)
    · skip
      refine ov_blk (ls2 := [(0, ov_r 90), (1, ov_i c)]) (st2 := [ov_i 1, ov_r 90]) (pc2 := 23) b_216_21_2 rfl rfl ?_
      refine ov_cV (as := [ov_i 1]) (st := []) (d2 := d - 1) d_216_23 lk_Mo_186 rfl (Nat.le_of_ble_eq_true rfl) (c := 1) (zb_90 I) (zs_90 I) ⟨by decide, rfl⟩ (by omega) (c_fMo_wrong_90 t m N p (d - 1) (by omega) U I 1 (by omega) (by show 0 ≤ (h 90 7) ∧ (h 90 7) ≤ N; omega) (by show (h 93 ((h 90 7))) = p; omega) (by show 0 ≤ (h 90 8); omega) (by show 1 ≤ (1 : Int) ∧ (1 : Int) ≤ 5; omega) mt) ?_
      rintro _ z7 h8 ⟨rfl, I9, y10, y11, y12⟩
      have E13 : h8 92 = h 92 := Eq.trans (y10 92 (by decide)) (show h 92 = h 92 from rfl)
      have E14 : h8 93 = h 93 := Eq.trans (y10 93 (by decide)) (show h 93 = h 93 from rfl)
      have E15 : h8 94 = h 94 := Eq.trans (y10 94 (by decide)) (show h 94 = h 94 from rfl)
      have E16 : h8 95 = h 95 := Eq.trans (y10 95 (by decide)) (show h 95 = h 95 from rfl)
      have fr17 : ∀ a : Int, a ≠ 90 → h8 a = h a := fun a ca => Eq.trans (y10 a (by omega)) rfl
      have y11_ : ∀ k : Int, k ≠ 8 → (h8 90) k = (h 90) k := y11
      have rk18 : ∀ k : Int, k ≠ 7 → k ≠ 8 → h8 90 k = h 90 k := fun k n0 n1 => Eq.trans (y11_ k n1) rfl
      have g19 : h8 90 2 = (h 90 2) := y11_ 2 (by decide)
      have g20 : h8 90 3 = (h 90 3) := y11_ 3 (by decide)
      have g21 : h8 90 7 = (h 90 7) := y11_ 7 (by decide)
      have g22 : h8 90 13 = (h 90 13) := y11_ 13 (by decide)
      have g23 : h8 90 15 = (h 90 15) := y11_ 15 (by decide)
      rcases y12 with f24 | f25
      · skip
        show ov_R u d ov_m216 26 [(0, ov_r 90), (1, ov_i c)] [] z7 h8 (P_fMo_takeSign_90 F z h t m N p c)
        have f26 : (h 90 8) ≠ 0 ∧ (h8 90 8) = (h 90 8) ∧ (h8 93 ((h8 90 7))) = p := f24
        clear f24
        exact ov_retv (st := []) d_216_26 rfl ⟨rfl, I9, (fun a ca => (fr17 a ca)), (fun k n0 n1 => (rk18 k n0 n1)), (Or.inl (by show (h 90 8) ≠ 0 ∧ (h8 90 8) = (h 90 8) ∧ (h8 90 7) = (h 90 7) ∧ (h8 93 ((h8 90 7))) = p; omega))⟩
      · skip
        show ov_R u d ov_m216 26 [(0, ov_r 90), (1, ov_i c)] [] z7 h8 (P_fMo_takeSign_90 F z h t m N p c)
        have f27 : (h 90 8) = 0 ∧ (h8 90 8) = (1 : Int) + 16 * p ∧ (h8 93 ((h8 90 7))) = p := f25
        clear f25
        exact ov_retv (st := []) d_216_26 rfl ⟨rfl, I9, (fun a ca => (fr17 a ca)), (fun k n0 n1 => (rk18 k n0 n1)), (Or.inr (Or.inl (by show (h 90 8) = 0 ∧ pt_is t m p c = 0 ∧ (h8 90 8) = 1 + 16 * p ∧ 1 ≤ (h8 90 8) ∧ (h8 90 7) = (h 90 7) ∧ (h8 93 ((h8 90 7))) = p; omega)))⟩
    · omega
  · skip
    show ov_R u d ov_m216 5 [(0, ov_r 90), (1, ov_i c)] [ov_i 1] z h (P_fMo_takeSign_90 F z h t m N p c)
    have f28 : (h 90 8) = 0 ∧ pt_is t m p c = 1 ∧ pt_ty t m p = 4 := f4
    clear f4
    refine ov_ifeq (tgt := 21) d_216_5 (by decide) (by omega) (fun c29 => ?_) (fun c29 => ?_)
    · omega
    · skip
      refine ov_blk (ls2 := [(0, ov_r 90), (1, ov_i c)]) (st2 := [ov_r 90, ov_r 90]) (pc2 := 10) b_216_8_2 rfl rfl ?_
      refine ov_getf (v := ov_i (h 90 7)) d_216_10 fl_Mo_177 (zb_90 I) (zs_90 I) rfl ?_
      have g30 := rg_90_7 I
      refine ov_blk (ls2 := [(0, ov_r 90), (1, ov_i c)]) (st2 := [ov_i ((h 90 7) + 1), ov_r 90]) (pc2 := 15) b_216_13_2 rfl rfl ?_
      have kn := pt_MT_lt mt (k := h 90 7) (by omega) (by rw [p1]; omega)
      have mn := pt_MT_nx mt (k := h 90 7) ⟨by omega, by omega⟩
      rw [p1] at mn
      have nb := pt_nt_le (t := t) (n := m) (p := p) (by omega)
      refine ov_putf (x := ((h 90 7) + 1)) d_216_15 fl_Mo_177 (zb_90 I) (zs_90 I) rfl nk_0 rfl ?_
      have I31 := up_90_7 (x := ((h 90 7) + 1)) I (by omega)
      show ov_R u d ov_m216 18 [(0, ov_r 90), (1, ov_i c)] [] z (ov_up h 90 7 ((h 90 7) + 1)) (P_fMo_takeSign_90 F z h t m N p c)
      refine ov_goto (tgt := 26) d_216_18 (by decide) ?_
      exact ov_retv (st := []) d_216_26 rfl ⟨rfl, I31, (fun a ca => Eq.trans (by show (ov_up h 90 7 ((h 90 7) + 1)) a = h a; rw [ov_up_ne (by omega)]) rfl), (fun k n0 n1 => (Eq.trans (by show (ov_up h 90 7 ((h 90 7) + 1)) 90 k = h 90 k; rw [ov_up_j n0]) rfl)), (Or.inr (Or.inr (by show (h 90 8) = 0 ∧ pt_is t m p c = 1 ∧ (h 90 8) = 0 ∧ ((h 90 7) + 1) = (h 90 7) + 1 ∧ ((h 90 7) + 1) ≤ N ∧ (h 93 (((h 90 7) + 1))) = pt_nt t m p; omega)))⟩
abbrev P_fMo_hasSign_90 (F : ov_H × ov_Z) (z : ov_Z) (h : ov_H) (t : Int → Int) (m : Int) (N : Int) (p : Int) (c : Int) : Option ov_V → ov_Z → ov_H → Prop := fun r0 z' h' => ∃ r : Int, r0 = some (ov_i r) ∧ ov_N F z' h' ∧ (∀ a : Int, a ≠ 90 → h' a = h a) ∧ (∀ k : Int, k ≠ 7 → (h' 90) k = (h 90) k) ∧ ((r = 0 ∧ ((h' 90 8) = (h 90 8) ∧ ((h 90 8) ≠ 0 ∨ pt_is t m p c = 0) ∧ (h' 90 7) = (h 90 7) ∧ (h' 93 ((h' 90 7))) = p)) ∨ (r = 1 ∧ ((h 90 8) = 0 ∧ pt_is t m p c = 1 ∧ pt_ty t m p = 4 ∧ (h' 90 7) = (h 90 7) + 1 ∧ (h' 90 7) ≤ N ∧ (h' 93 ((h' 90 7))) = pt_nt t m p)))
set_option maxHeartbeats 4000000 in
theorem c_fMo_hasSign_90 {u : ov_U} {F : ov_H × ov_Z} (t : Int → Int) (m : Int) (N : Int) (p : Int) {z : ov_Z} {h : ov_H} (d : Nat) (hd : 1 ≤ d) (U : ov_cap u) (I : ov_N F z h) (c : Int) (g_c : ov_g c) (p0 : 0 ≤ (h 90 7) ∧ (h 90 7) ≤ N) (p1 : (h 93 ((h 90 7))) = p) (p2 : 0 ≤ (h 90 8)) (p3 : 0 ≤ c ∧ c ≤ 65535) (mt : pt_MT t m (h 92) (h 93) (h 94) N) : ov_T u d ov_m232 [ov_r 90, ov_i c] z h (P_fMo_hasSign_90 F z h t m N p c) := by
  refine ov_en rfl (Nat.le_of_ble_eq_true rfl) ?_
  show ov_R u d ov_m232 0 [(0, ov_r 90), (1, ov_i c)] [] z h (P_fMo_hasSign_90 F z h t m N p c)
  have ma := pt_MT_at mt (k := h 90 7) (by omega)
  rw [p1] at ma
  have mp := ma.2.1
  have m2 := ma.2.2.1
  have m3 := ma.2.2.2
  have mc := pt_cm_f (t := t) (m := m) (p := p)
  have mN := mt.1.2.1
  clear ma
  refine ov_blk (ls2 := [(0, ov_r 90), (1, ov_i c)]) (st2 := [ov_i c, ov_r 90]) (pc2 := 2) b_232_0_2 rfl rfl ?_
  refine ov_cV (as := [ov_i c]) (st := []) (d2 := d - 1) d_232_2 lk_Mo_183 rfl (Nat.le_of_ble_eq_true rfl) (c := 1) (zb_90 I) (zs_90 I) ⟨by decide, rfl⟩ (by omega) (c_fMo_isSign_90 t m N p (d - 1) (by omega) U I c (by omega) (by show 0 ≤ (h 90 7) ∧ (h 90 7) ≤ N; omega) (by show (h 93 ((h 90 7))) = p; omega) (by show 0 ≤ (h 90 8); omega) (by show 0 ≤ c ∧ c ≤ 65535; omega) mt) ?_
  rintro _ _ _ ⟨v1, rfl, rfl, rfl, y2⟩
  rcases y2 with ⟨rfl, f3⟩ | ⟨rfl, f4⟩
  · skip
    show ov_R u d ov_m232 5 [(0, ov_r 90), (1, ov_i c)] [ov_i 0] z h (P_fMo_hasSign_90 F z h t m N p c)
    have f5 : (h 90 8) ≠ 0 ∨ pt_is t m p c = 0 := f3
    clear f3
    refine ov_blk (ls2 := [(0, ov_r 90), (1, ov_i c), (2, ov_i 0)]) (st2 := [ov_r 90, ov_r 90]) (pc2 := 8) b_232_5_3 rfl rfl ?_
    refine ov_getf (v := ov_i (h 90 7)) d_232_8 fl_Mo_177 (zb_90 I) (zs_90 I) rfl ?_
    have g6 := rg_90_7 I
    refine ov_blk (ls2 := [(0, ov_r 90), (1, ov_i c), (2, ov_i 0)]) (st2 := [ov_i 0, ov_i (h 90 7), ov_r 90]) (pc2 := 12) b_232_11_1 rfl rfl ?_
    refine ov_ifeq (tgt := 19) d_232_12 (by decide) (by omega) (fun c7 => ?_) (fun c7 => ?_)
    · skip
      have z0 : h 93 (h 90 7 + 0) = p := by rw [Int.add_zero]; exact p1
      refine ov_blk (ls2 := [(0, ov_r 90), (1, ov_i c), (2, ov_i 0)]) (st2 := [ov_i ((h 90 7) + 0), ov_r 90]) (pc2 := 21) b_232_19_2 rfl rfl ?_
      refine ov_putf (x := ((h 90 7) + 0)) d_232_21 fl_Mo_177 (zb_90 I) (zs_90 I) rfl nk_0 rfl ?_
      have I8 := up_90_7 (x := ((h 90 7) + 0)) I (by omega)
      show ov_R u d ov_m232 24 [(0, ov_r 90), (1, ov_i c), (2, ov_i 0)] [] z (ov_up h 90 7 ((h 90 7) + 0)) (P_fMo_hasSign_90 F z h t m N p c)
      refine ov_blk (ls2 := [(0, ov_r 90), (1, ov_i c), (2, ov_i 0)]) (st2 := [ov_i 0]) (pc2 := 25) b_232_24_1 rfl rfl ?_
      exact ov_retz (st := []) d_232_25 rfl (by omega) ⟨_, rfl, I8, (fun a ca => Eq.trans (by show (ov_up h 90 7 ((h 90 7) + 0)) a = h a; rw [ov_up_ne (by omega)]) rfl), (fun k n0 => (Eq.trans (by show (ov_up h 90 7 ((h 90 7) + 0)) 90 k = h 90 k; rw [ov_up_j n0]) rfl)), (Or.inl ⟨rfl, (by show (h 90 8) = (h 90 8) ∧ ((h 90 8) ≠ 0 ∨ pt_is t m p c = 0) ∧ ((h 90 7) + 0) = (h 90 7) ∧ (h 93 (((h 90 7) + 0))) = p; omega)⟩)⟩
    · omega
  · skip
    show ov_R u d ov_m232 5 [(0, ov_r 90), (1, ov_i c)] [ov_i 1] z h (P_fMo_hasSign_90 F z h t m N p c)
    have f9 : (h 90 8) = 0 ∧ pt_is t m p c = 1 ∧ pt_ty t m p = 4 := f4
    clear f4
    refine ov_blk (ls2 := [(0, ov_r 90), (1, ov_i c), (2, ov_i 1)]) (st2 := [ov_r 90, ov_r 90]) (pc2 := 8) b_232_5_3 rfl rfl ?_
    refine ov_getf (v := ov_i (h 90 7)) d_232_8 fl_Mo_177 (zb_90 I) (zs_90 I) rfl ?_
    have g10 := rg_90_7 I
    refine ov_blk (ls2 := [(0, ov_r 90), (1, ov_i c), (2, ov_i 1)]) (st2 := [ov_i 1, ov_i (h 90 7), ov_r 90]) (pc2 := 12) b_232_11_1 rfl rfl ?_
    refine ov_ifeq (tgt := 19) d_232_12 (by decide) (by omega) (fun c11 => ?_) (fun c11 => ?_)
    · omega
    · skip
      have kn := pt_MT_lt mt (k := h 90 7) (by omega) (by rw [p1]; omega)
      have mn := pt_MT_nx mt (k := h 90 7) ⟨by omega, by omega⟩
      rw [p1] at mn
      have nb := pt_nt_le (t := t) (n := m) (p := p) (by omega)
      refine ov_blk (ls2 := [(0, ov_r 90), (1, ov_i c), (2, ov_i 1)]) (st2 := [ov_i 1, ov_i (h 90 7), ov_r 90]) (pc2 := 16) b_232_15_1 rfl rfl ?_
      refine ov_goto (tgt := 20) d_232_16 (by decide) ?_
      refine ov_blk (ls2 := [(0, ov_r 90), (1, ov_i c), (2, ov_i 1)]) (st2 := [ov_i ((h 90 7) + 1), ov_r 90]) (pc2 := 21) b_232_20_1 rfl rfl ?_
      refine ov_putf (x := ((h 90 7) + 1)) d_232_21 fl_Mo_177 (zb_90 I) (zs_90 I) rfl nk_0 rfl ?_
      have I12 := up_90_7 (x := ((h 90 7) + 1)) I (by omega)
      show ov_R u d ov_m232 24 [(0, ov_r 90), (1, ov_i c), (2, ov_i 1)] [] z (ov_up h 90 7 ((h 90 7) + 1)) (P_fMo_hasSign_90 F z h t m N p c)
      refine ov_blk (ls2 := [(0, ov_r 90), (1, ov_i c), (2, ov_i 1)]) (st2 := [ov_i 1]) (pc2 := 25) b_232_24_1 rfl rfl ?_
      exact ov_retz (st := []) d_232_25 rfl (by omega) ⟨_, rfl, I12, (fun a ca => Eq.trans (by show (ov_up h 90 7 ((h 90 7) + 1)) a = h a; rw [ov_up_ne (by omega)]) rfl), (fun k n0 => (Eq.trans (by show (ov_up h 90 7 ((h 90 7) + 1)) 90 k = h 90 k; rw [ov_up_j n0]) rfl)), (Or.inr ⟨rfl, (by show (h 90 8) = 0 ∧ pt_is t m p c = 1 ∧ pt_ty t m p = 4 ∧ ((h 90 7) + 1) = (h 90 7) + 1 ∧ ((h 90 7) + 1) ≤ N ∧ (h 93 (((h 90 7) + 1))) = pt_nt t m p; omega)⟩)⟩
abbrev P_fMo_hasWord_90 (F : ov_H × ov_Z) (z : ov_Z) (h : ov_H) (t : Int → Int) (m : Int) (N : Int) (p : Int) (wv : Int) (c : Int) : Option ov_V → ov_Z → ov_H → Prop := fun r0 z' h' => ∃ r : Int, r0 = some (ov_i r) ∧ ov_N F z' h' ∧ (∀ a : Int, a ≠ 90 → h' a = h a) ∧ (∀ k : Int, k ≠ 7 → (h' 90) k = (h 90) k) ∧ ((r = 0 ∧ ((h' 90 8) = (h 90 8) ∧ ((h 90 8) ≠ 0 ∨ pt_iw t m p wv = 0) ∧ (h' 90 7) = (h 90 7) ∧ (h' 93 ((h' 90 7))) = p)) ∨ (r = 1 ∧ ((h 90 8) = 0 ∧ pt_iw t m p wv = 1 ∧ pt_ty t m p = 2 ∧ (h' 90 7) = (h 90 7) + 1 ∧ (h' 90 7) ≤ N ∧ (h' 93 ((h' 90 7))) = pt_nt t m p)))
set_option maxHeartbeats 4000000 in
theorem c_fMo_hasWord_90 {u : ov_U} {F : ov_H × ov_Z} (t : Int → Int) (m : Int) (N : Int) (p : Int) (wv : Int) {z : ov_Z} {h : ov_H} (d : Nat) (hd : 1 ≤ d) (U : ov_cap u) (I : ov_N F z h) (c : Int) (g_c : ov_g c) (p0 : 0 ≤ (h 90 7) ∧ (h 90 7) ≤ N) (p1 : (h 93 ((h 90 7))) = p) (p2 : 0 ≤ (h 90 8)) (p3 : 0 ≤ c ∧ c ≤ 21) (mt : pt_MT t m (h 92) (h 93) (h 94) N) (wd : pt_WD (h 95)) (ew : pt_C c = wv) : ov_T u d ov_m212 [ov_r 90, ov_i c] z h (P_fMo_hasWord_90 F z h t m N p wv c) := by
  refine ov_en rfl (Nat.le_of_ble_eq_true rfl) ?_
  show ov_R u d ov_m212 0 [(0, ov_r 90), (1, ov_i c)] [] z h (P_fMo_hasWord_90 F z h t m N p wv c)
  have ma := pt_MT_at mt (k := h 90 7) (by omega)
  rw [p1] at ma
  have mp := ma.2.1
  have m2 := ma.2.2.1
  have m3 := ma.2.2.2
  have mc := pt_cm_f (t := t) (m := m) (p := p)
  have mN := mt.1.2.1
  clear ma
  refine ov_blk (ls2 := [(0, ov_r 90), (1, ov_i c)]) (st2 := [ov_i c, ov_r 90]) (pc2 := 2) b_212_0_2 rfl rfl ?_
  refine ov_cV (as := [ov_i c]) (st := []) (d2 := d - 1) d_212_2 lk_Mo_189 rfl (Nat.le_of_ble_eq_true rfl) (c := 1) (zb_90 I) (zs_90 I) ⟨by decide, rfl⟩ (by omega) (c_fMo_isWord_90 t m N p wv (d - 1) (by omega) U I c (by omega) (by show 0 ≤ (h 90 7) ∧ (h 90 7) ≤ N; omega) (by show (h 93 ((h 90 7))) = p; omega) (by show 0 ≤ (h 90 8); omega) (by show 0 ≤ c ∧ c ≤ 21; omega) mt wd ew) ?_
  rintro _ _ _ ⟨v1, rfl, rfl, rfl, y2⟩
  rcases y2 with ⟨rfl, f3⟩ | ⟨rfl, f4⟩
  · skip
    show ov_R u d ov_m212 5 [(0, ov_r 90), (1, ov_i c)] [ov_i 0] z h (P_fMo_hasWord_90 F z h t m N p wv c)
    have f5 : (h 90 8) ≠ 0 ∨ pt_iw t m p wv = 0 := f3
    clear f3
    refine ov_blk (ls2 := [(0, ov_r 90), (1, ov_i c), (2, ov_i 0)]) (st2 := [ov_r 90, ov_r 90]) (pc2 := 8) b_212_5_3 rfl rfl ?_
    refine ov_getf (v := ov_i (h 90 7)) d_212_8 fl_Mo_177 (zb_90 I) (zs_90 I) rfl ?_
    have g6 := rg_90_7 I
    refine ov_blk (ls2 := [(0, ov_r 90), (1, ov_i c), (2, ov_i 0)]) (st2 := [ov_i 0, ov_i (h 90 7), ov_r 90]) (pc2 := 12) b_212_11_1 rfl rfl ?_
    refine ov_ifeq (tgt := 19) d_212_12 (by decide) (by omega) (fun c7 => ?_) (fun c7 => ?_)
    · skip
      have z0 : h 93 (h 90 7 + 0) = p := by rw [Int.add_zero]; exact p1
      refine ov_blk (ls2 := [(0, ov_r 90), (1, ov_i c), (2, ov_i 0)]) (st2 := [ov_i ((h 90 7) + 0), ov_r 90]) (pc2 := 21) b_212_19_2 rfl rfl ?_
      refine ov_putf (x := ((h 90 7) + 0)) d_212_21 fl_Mo_177 (zb_90 I) (zs_90 I) rfl nk_0 rfl ?_
      have I8 := up_90_7 (x := ((h 90 7) + 0)) I (by omega)
      show ov_R u d ov_m212 24 [(0, ov_r 90), (1, ov_i c), (2, ov_i 0)] [] z (ov_up h 90 7 ((h 90 7) + 0)) (P_fMo_hasWord_90 F z h t m N p wv c)
      refine ov_blk (ls2 := [(0, ov_r 90), (1, ov_i c), (2, ov_i 0)]) (st2 := [ov_i 0]) (pc2 := 25) b_212_24_1 rfl rfl ?_
      exact ov_retz (st := []) d_212_25 rfl (by omega) ⟨_, rfl, I8, (fun a ca => Eq.trans (by show (ov_up h 90 7 ((h 90 7) + 0)) a = h a; rw [ov_up_ne (by omega)]) rfl), (fun k n0 => (Eq.trans (by show (ov_up h 90 7 ((h 90 7) + 0)) 90 k = h 90 k; rw [ov_up_j n0]) rfl)), (Or.inl ⟨rfl, (by show (h 90 8) = (h 90 8) ∧ ((h 90 8) ≠ 0 ∨ pt_iw t m p wv = 0) ∧ ((h 90 7) + 0) = (h 90 7) ∧ (h 93 (((h 90 7) + 0))) = p; omega)⟩)⟩
    · omega
  · skip
    show ov_R u d ov_m212 5 [(0, ov_r 90), (1, ov_i c)] [ov_i 1] z h (P_fMo_hasWord_90 F z h t m N p wv c)
    have f9 : (h 90 8) = 0 ∧ pt_iw t m p wv = 1 ∧ pt_ty t m p = 2 := f4
    clear f4
    refine ov_blk (ls2 := [(0, ov_r 90), (1, ov_i c), (2, ov_i 1)]) (st2 := [ov_r 90, ov_r 90]) (pc2 := 8) b_212_5_3 rfl rfl ?_
    refine ov_getf (v := ov_i (h 90 7)) d_212_8 fl_Mo_177 (zb_90 I) (zs_90 I) rfl ?_
    have g10 := rg_90_7 I
    refine ov_blk (ls2 := [(0, ov_r 90), (1, ov_i c), (2, ov_i 1)]) (st2 := [ov_i 1, ov_i (h 90 7), ov_r 90]) (pc2 := 12) b_212_11_1 rfl rfl ?_
    refine ov_ifeq (tgt := 19) d_212_12 (by decide) (by omega) (fun c11 => ?_) (fun c11 => ?_)
    · omega
    · skip
      have kn := pt_MT_lt mt (k := h 90 7) (by omega) (by rw [p1]; omega)
      have mn := pt_MT_nx mt (k := h 90 7) ⟨by omega, by omega⟩
      rw [p1] at mn
      have nb := pt_nt_le (t := t) (n := m) (p := p) (by omega)
      refine ov_blk (ls2 := [(0, ov_r 90), (1, ov_i c), (2, ov_i 1)]) (st2 := [ov_i 1, ov_i (h 90 7), ov_r 90]) (pc2 := 16) b_212_15_1 rfl rfl ?_
      refine ov_goto (tgt := 20) d_212_16 (by decide) ?_
      refine ov_blk (ls2 := [(0, ov_r 90), (1, ov_i c), (2, ov_i 1)]) (st2 := [ov_i ((h 90 7) + 1), ov_r 90]) (pc2 := 21) b_212_20_1 rfl rfl ?_
      refine ov_putf (x := ((h 90 7) + 1)) d_212_21 fl_Mo_177 (zb_90 I) (zs_90 I) rfl nk_0 rfl ?_
      have I12 := up_90_7 (x := ((h 90 7) + 1)) I (by omega)
      show ov_R u d ov_m212 24 [(0, ov_r 90), (1, ov_i c), (2, ov_i 1)] [] z (ov_up h 90 7 ((h 90 7) + 1)) (P_fMo_hasWord_90 F z h t m N p wv c)
      refine ov_blk (ls2 := [(0, ov_r 90), (1, ov_i c), (2, ov_i 1)]) (st2 := [ov_i 1]) (pc2 := 25) b_212_24_1 rfl rfl ?_
      exact ov_retz (st := []) d_212_25 rfl (by omega) ⟨_, rfl, I12, (fun a ca => Eq.trans (by show (ov_up h 90 7 ((h 90 7) + 1)) a = h a; rw [ov_up_ne (by omega)]) rfl), (fun k n0 => (Eq.trans (by show (ov_up h 90 7 ((h 90 7) + 1)) 90 k = h 90 k; rw [ov_up_j n0]) rfl)), (Or.inr ⟨rfl, (by show (h 90 8) = 0 ∧ pt_iw t m p wv = 1 ∧ pt_ty t m p = 2 ∧ ((h 90 7) + 1) = (h 90 7) + 1 ∧ ((h 90 7) + 1) ≤ N ∧ (h 93 (((h 90 7) + 1))) = pt_nt t m p; omega)⟩)⟩
abbrev P_fMo_takeWord_90 (F : ov_H × ov_Z) (z : ov_Z) (h : ov_H) (t : Int → Int) (m : Int) (N : Int) (p : Int) (wv : Int) (c : Int) : Option ov_V → ov_Z → ov_H → Prop := fun r0 z' h' => r0 = none ∧ ov_N F z' h' ∧ (∀ a : Int, a ≠ 90 → h' a = h a) ∧ (∀ k : Int, k ≠ 7 → k ≠ 8 → (h' 90) k = (h 90) k) ∧ ((((h 90 8) ≠ 0 ∧ (h' 90 8) = (h 90 8) ∧ (h' 90 7) = (h 90 7) ∧ (h' 93 ((h' 90 7))) = p)) ∨ (((h 90 8) = 0 ∧ pt_iw t m p wv = 0 ∧ (h' 90 8) = 1 + 16 * p ∧ 1 ≤ (h' 90 8) ∧ (h' 90 7) = (h 90 7) ∧ (h' 93 ((h' 90 7))) = p)) ∨ (((h 90 8) = 0 ∧ pt_iw t m p wv = 1 ∧ (h' 90 8) = 0 ∧ (h' 90 7) = (h 90 7) + 1 ∧ (h' 90 7) ≤ N ∧ (h' 93 ((h' 90 7))) = pt_nt t m p)))
set_option maxHeartbeats 4000000 in
theorem c_fMo_takeWord_90 {u : ov_U} {F : ov_H × ov_Z} (t : Int → Int) (m : Int) (N : Int) (p : Int) (wv : Int) {z : ov_Z} {h : ov_H} (d : Nat) (hd : 2 ≤ d) (U : ov_cap u) (I : ov_N F z h) (c : Int) (g_c : ov_g c) (p0 : 0 ≤ (h 90 7) ∧ (h 90 7) ≤ N) (p1 : (h 93 ((h 90 7))) = p) (p2 : 0 ≤ (h 90 8)) (p3 : 0 ≤ c ∧ c ≤ 21) (mt : pt_MT t m (h 92) (h 93) (h 94) N) (wd : pt_WD (h 95)) (ew : pt_C c = wv) : ov_T u d ov_m211 [ov_r 90, ov_i c] z h (P_fMo_takeWord_90 F z h t m N p wv c) := by
  refine ov_en rfl (Nat.le_of_ble_eq_true rfl) ?_
  show ov_R u d ov_m211 0 [(0, ov_r 90), (1, ov_i c)] [] z h (P_fMo_takeWord_90 F z h t m N p wv c)
  have ma := pt_MT_at mt (k := h 90 7) (by omega)
  rw [p1] at ma
  have mp := ma.2.1
  have m2 := ma.2.2.1
  have m3 := ma.2.2.2
  have mc := pt_cm_f (t := t) (m := m) (p := p)
  have mN := mt.1.2.1
  clear ma
  refine ov_blk (ls2 := [(0, ov_r 90), (1, ov_i c)]) (st2 := [ov_i c, ov_r 90]) (pc2 := 2) b_211_0_2 rfl rfl ?_
  refine ov_cV (as := [ov_i c]) (st := []) (d2 := d - 1) d_211_2 lk_Mo_192 rfl (Nat.le_of_ble_eq_true rfl) (c := 1) (zb_90 I) (zs_90 I) ⟨by decide, rfl⟩ (by omega) (c_fMo_hasWord_90 t m N p wv (d - 1) (by omega) U I c (by omega) (by show 0 ≤ (h 90 7) ∧ (h 90 7) ≤ N; omega) (by show (h 93 ((h 90 7))) = p; omega) (by show 0 ≤ (h 90 8); omega) (by show 0 ≤ c ∧ c ≤ 21; omega) mt wd ew) ?_
  rintro _ z2 h3 ⟨v1, rfl, I4, y5, y6, y7⟩
  have E8 : h3 92 = h 92 := Eq.trans (y5 92 (by decide)) (show h 92 = h 92 from rfl)
  have E9 : h3 93 = h 93 := Eq.trans (y5 93 (by decide)) (show h 93 = h 93 from rfl)
  have E10 : h3 94 = h 94 := Eq.trans (y5 94 (by decide)) (show h 94 = h 94 from rfl)
  have E11 : h3 95 = h 95 := Eq.trans (y5 95 (by decide)) (show h 95 = h 95 from rfl)
  have fr12 : ∀ a : Int, a ≠ 90 → h3 a = h a := fun a ca => Eq.trans (y5 a (by omega)) rfl
  have y6_ : ∀ k : Int, k ≠ 7 → (h3 90) k = (h 90) k := y6
  have rk13 : ∀ k : Int, k ≠ 7 → k ≠ 8 → h3 90 k = h 90 k := fun k n0 n1 => Eq.trans (y6_ k n0) rfl
  have g14 : h3 90 2 = (h 90 2) := y6_ 2 (by decide)
  have g15 : h3 90 3 = (h 90 3) := y6_ 3 (by decide)
  have g16 : h3 90 8 = (h 90 8) := y6_ 8 (by decide)
  have g17 : h3 90 13 = (h 90 13) := y6_ 13 (by decide)
  have g18 : h3 90 15 = (h 90 15) := y6_ 15 (by decide)
  rcases y7 with ⟨rfl, f19⟩ | ⟨rfl, f20⟩
  · skip
    show ov_R u d ov_m211 5 [(0, ov_r 90), (1, ov_i c)] [ov_i 0] z2 h3 (P_fMo_takeWord_90 F z h t m N p wv c)
    have f21 : (h3 90 8) = (h 90 8) ∧ ((h 90 8) ≠ 0 ∨ pt_iw t m p wv = 0) ∧ (h3 90 7) = (h 90 7) ∧ (h3 93 ((h3 90 7))) = p := f19
    clear f19
    refine ov_ifne (tgt := 13) d_211_5 (by decide) (by omega) (fun c22 => ?_) (fun c22 => ?_)
    · omega
    · skip
      refine ov_blk (ls2 := [(0, ov_r 90), (1, ov_i c)]) (st2 := [ov_i 1, ov_r 90]) (pc2 := 10) b_211_8_2 rfl rfl ?_
      have cf23 : h3 93 ((h3 90 7)) = h 93 ((h3 90 7)) := congrFun E9 ((h3 90 7))
      refine ov_cV (as := [ov_i 1]) (st := []) (d2 := d - 1) d_211_10 lk_Mo_186 rfl (Nat.le_of_ble_eq_true rfl) (c := 1) (zb_90 I4) (zs_90 I4) ⟨by decide, rfl⟩ (by omega) (c_fMo_wrong_90 t m N p (d - 1) (by omega) U I4 1 (by omega) (by show 0 ≤ (h3 90 7) ∧ (h3 90 7) ≤ N; omega) (by show (h3 93 ((h3 90 7))) = p; omega) (by show 0 ≤ (h3 90 8); omega) (by show 1 ≤ (1 : Int) ∧ (1 : Int) ≤ 5; omega) (by rw [show h3 92 = h 92 from E8, show h3 93 = h 93 from E9, show h3 94 = h 94 from E10]; exact mt)) ?_
      rintro _ z24 h25 ⟨rfl, I26, y27, y28, y29⟩
      have E30 : h25 92 = h 92 := Eq.trans (y27 92 (by decide)) (show h3 92 = h 92 from E8)
      have E31 : h25 93 = h 93 := Eq.trans (y27 93 (by decide)) (show h3 93 = h 93 from E9)
      have E32 : h25 94 = h 94 := Eq.trans (y27 94 (by decide)) (show h3 94 = h 94 from E10)
      have E33 : h25 95 = h 95 := Eq.trans (y27 95 (by decide)) (show h3 95 = h 95 from E11)
      have fr34 : ∀ a : Int, a ≠ 90 → h25 a = h a := fun a ca => Eq.trans (y27 a (by omega)) (fr12 a ca)
      have y28_ : ∀ k : Int, k ≠ 8 → (h25 90) k = (h3 90) k := y28
      have rk35 : ∀ k : Int, k ≠ 7 → k ≠ 8 → h25 90 k = h 90 k := fun k n0 n1 => Eq.trans (y28_ k n1) (rk13 k n0 n1)
      have g36 : h25 90 2 = (h3 90 2) := y28_ 2 (by decide)
      have g37 : h25 90 3 = (h3 90 3) := y28_ 3 (by decide)
      have g38 : h25 90 7 = (h3 90 7) := y28_ 7 (by decide)
      have g39 : h25 90 13 = (h3 90 13) := y28_ 13 (by decide)
      have g40 : h25 90 15 = (h3 90 15) := y28_ 15 (by decide)
      rcases y29 with f41 | f42
      · skip
        show ov_R u d ov_m211 13 [(0, ov_r 90), (1, ov_i c)] [] z24 h25 (P_fMo_takeWord_90 F z h t m N p wv c)
        have f43 : (h3 90 8) ≠ 0 ∧ (h25 90 8) = (h3 90 8) ∧ (h25 93 ((h25 90 7))) = p := f41
        clear f41
        exact ov_retv (st := []) d_211_13 rfl ⟨rfl, I26, (fun a ca => (fr34 a ca)), (fun k n0 n1 => (rk35 k n0 n1)), (Or.inl (by show (h 90 8) ≠ 0 ∧ (h25 90 8) = (h 90 8) ∧ (h25 90 7) = (h 90 7) ∧ (h25 93 ((h25 90 7))) = p; omega))⟩
      · skip
        show ov_R u d ov_m211 13 [(0, ov_r 90), (1, ov_i c)] [] z24 h25 (P_fMo_takeWord_90 F z h t m N p wv c)
        have f44 : (h3 90 8) = 0 ∧ (h25 90 8) = (1 : Int) + 16 * p ∧ (h25 93 ((h25 90 7))) = p := f42
        clear f42
        exact ov_retv (st := []) d_211_13 rfl ⟨rfl, I26, (fun a ca => (fr34 a ca)), (fun k n0 n1 => (rk35 k n0 n1)), (Or.inr (Or.inl (by show (h 90 8) = 0 ∧ pt_iw t m p wv = 0 ∧ (h25 90 8) = 1 + 16 * p ∧ 1 ≤ (h25 90 8) ∧ (h25 90 7) = (h 90 7) ∧ (h25 93 ((h25 90 7))) = p; omega)))⟩
  · skip
    show ov_R u d ov_m211 5 [(0, ov_r 90), (1, ov_i c)] [ov_i 1] z2 h3 (P_fMo_takeWord_90 F z h t m N p wv c)
    have f45 : (h 90 8) = 0 ∧ pt_iw t m p wv = 1 ∧ pt_ty t m p = 2 ∧ (h3 90 7) = (h 90 7) + 1 ∧ (h3 90 7) ≤ N ∧ (h3 93 ((h3 90 7))) = pt_nt t m p := f20
    clear f20
    refine ov_ifne (tgt := 13) d_211_5 (by decide) (by omega) (fun c46 => ?_) (fun c46 => ?_)
    · skip
      exact ov_retv (st := []) d_211_13 rfl ⟨rfl, I4, (fun a ca => (fr12 a ca)), (fun k n0 n1 => (rk13 k n0 n1)), (Or.inr (Or.inr (by show (h 90 8) = 0 ∧ pt_iw t m p wv = 1 ∧ (h3 90 8) = 0 ∧ (h3 90 7) = (h 90 7) + 1 ∧ (h3 90 7) ≤ N ∧ (h3 93 ((h3 90 7))) = pt_nt t m p; omega)))⟩
    · omega
abbrev P_fMo_takeNumber_90 (F : ov_H × ov_Z) (z : ov_Z) (h : ov_H) (t : Int → Int) (m : Int) (N : Int) (p : Int) (a : Int) (b : Int) : Option ov_V → ov_Z → ov_H → Prop := fun r0 z' h' => ∃ r : Int, r0 = some (ov_i r) ∧ ov_N F z' h' ∧ (∀ a : Int, a ≠ 90 → h' a = h a) ∧ (∀ k : Int, k ≠ 7 → k ≠ 8 → (h' 90) k = (h 90) k) ∧ (((r = 0 ∧ (h 90 8) ≠ 0 ∧ (h' 90 8) = (h 90 8) ∧ (h' 90 7) = (h 90 7) ∧ (h' 93 ((h' 90 7))) = p)) ∨ ((r = 0 ∧ (h 90 8) = 0 ∧ (h' 90 8) = pt_fN t m a b p ∧ 1 ≤ (h' 90 8) ∧ (h' 90 7) = (h 90 7) ∧ (h' 93 ((h' 90 7))) = p)) ∨ (((h 90 8) = 0 ∧ (h' 90 8) = 0 ∧ pt_fN t m a b p = 0 ∧ pt_ty t m p = 3 ∧ a ≤ r ∧ r ≤ b ∧ r = pt_nm t m p ∧ 0 ≤ r ∧ r ≤ 9999 ∧ (h' 90 7) = (h 90 7) + 1 ∧ (h' 90 7) ≤ N ∧ (h' 93 ((h' 90 7))) = pt_nt t m p)))
set_option maxHeartbeats 4000000 in
theorem c_fMo_takeNumber_90 {u : ov_U} {F : ov_H × ov_Z} (t : Int → Int) (m : Int) (N : Int) (p : Int) {z : ov_Z} {h : ov_H} (d : Nat) (hd : 1 ≤ d) (U : ov_cap u) (I : ov_N F z h) (a : Int) (b : Int) (g_a : ov_g a) (g_b : ov_g b) (p0 : 0 ≤ (h 90 7) ∧ (h 90 7) ≤ N) (p1 : (h 93 ((h 90 7))) = p) (p2 : 0 ≤ (h 90 8)) (mt : pt_MT t m (h 92) (h 93) (h 94) N) : ov_T u d ov_m215 [ov_r 90, ov_i a, ov_i b] z h (P_fMo_takeNumber_90 F z h t m N p a b) := by
  refine ov_en rfl (Nat.le_of_ble_eq_true rfl) ?_
  show ov_R u d ov_m215 0 [(0, ov_r 90), (1, ov_i a), (2, ov_i b)] [] z h (P_fMo_takeNumber_90 F z h t m N p a b)
  have ma := pt_MT_at mt (k := h 90 7) (by omega)
  rw [p1] at ma
  have mp := ma.2.1
  have m2 := ma.2.2.1
  have m3 := ma.2.2.2
  have mc := pt_cm_f (t := t) (m := m) (p := p)
  have mN := mt.1.2.1
  clear ma
  refine ov_blk (ls2 := [(0, ov_r 90), (1, ov_i a), (2, ov_i b)]) (st2 := [ov_r 90]) (pc2 := 1) b_215_0_1 rfl rfl ?_
  refine ov_getf (v := ov_i (h 90 8)) d_215_1 fl_Mo_180 (zb_90 I) (zs_90 I) rfl ?_
  have g1 := rg_90_8 I
  refine ov_ifne (tgt := 28) d_215_4 (by decide) (by omega) (fun c2 => ?_) (fun c2 => ?_)
  · skip
    refine ov_blk (ls2 := [(0, ov_r 90), (1, ov_i a), (2, ov_i b)]) (st2 := [ov_r 90]) (pc2 := 29) b_215_28_1 rfl rfl ?_
    refine ov_getf (v := ov_i (h 90 8)) d_215_29 fl_Mo_180 (zb_90 I) (zs_90 I) rfl ?_
    refine ov_ifne (tgt := 70) d_215_32 (by decide) (by omega) (fun c4 => ?_) (fun c4 => ?_)
    · skip
      refine ov_blk (ls2 := [(0, ov_r 90), (1, ov_i a), (2, ov_i b)]) (st2 := [ov_r 90]) (pc2 := 71) b_215_70_1 rfl rfl ?_
      refine ov_getf (v := ov_i (h 90 8)) d_215_71 fl_Mo_180 (zb_90 I) (zs_90 I) rfl ?_
      refine ov_ifle (tgt := 79) d_215_74 (by decide) (by omega) (fun c6 => ?_) (fun c6 => ?_)
      · omega
      · skip
        refine ov_blk (ls2 := [(0, ov_r 90), (1, ov_i a), (2, ov_i b)]) (st2 := [ov_i 0]) (pc2 := 78) b_215_77_1 rfl rfl ?_
        exact ov_reti (st := []) d_215_78 rfl ⟨_, rfl, I, (fun a ca => rfl), (fun k n0 n1 => rfl), (Or.inl (by show 0 = 0 ∧ (h 90 8) ≠ 0 ∧ (h 90 8) = (h 90 8) ∧ (h 90 7) = (h 90 7) ∧ (h 93 ((h 90 7))) = p; first | omega | (unfold pt_fN; rw [if_neg (by omega)]; omega) | (unfold pt_fN; rw [if_pos (by omega), if_neg (by omega)]; omega) | (unfold pt_fN; rw [if_pos (by omega), if_pos (by omega)]; omega)))⟩
    · omega
  · skip
    refine ov_blk (ls2 := [(0, ov_r 90), (1, ov_i a), (2, ov_i b)]) (st2 := [ov_r 90]) (pc2 := 8) b_215_7_1 rfl rfl ?_
    refine ov_getf (v := ov_r 92) d_215_8 fl_Mo_24 (zb_90 I) (zs_90 I) (congrArg ov_r (rg_90_4 I)) ?_
    refine ov_blk (ls2 := [(0, ov_r 90), (1, ov_i a), (2, ov_i b)]) (st2 := [ov_r 90, ov_r 92]) (pc2 := 12) b_215_11_1 rfl rfl ?_
    refine ov_getf (v := ov_i (h 90 7)) d_215_12 fl_Mo_177 (zb_90 I) (zs_90 I) rfl ?_
    have g7 := rg_90_7 I
    refine ov_iald d_215_15 (zb_92 I) (zs_92 I) (by omega) ?_
    have g9 := ra_92 I (h 90 7)
    have e8 : h 92 (h 90 7) = (pt_cm (pt_ty t m p)) := m2
    rw [e8] at g9
    rw [e8]
    show ov_R u d ov_m215 16 [(0, ov_r 90), (1, ov_i a), (2, ov_i b)] [ov_i (pt_cm (pt_ty t m p))] z h (P_fMo_takeNumber_90 F z h t m N p a b)
    refine ov_blk (ls2 := [(0, ov_r 90), (1, ov_i a), (2, ov_i b)]) (st2 := [ov_i 2, ov_i (pt_cm (pt_ty t m p))]) (pc2 := 17) b_215_16_1 rfl rfl ?_
    refine ov_iceq (tgt := 28) d_215_17 (by decide) (by omega) (by omega) (fun c10 => ?_) (fun c10 => ?_)
    · skip
      refine ov_blk (ls2 := [(0, ov_r 90), (1, ov_i a), (2, ov_i b)]) (st2 := [ov_r 90]) (pc2 := 29) b_215_28_1 rfl rfl ?_
      refine ov_getf (v := ov_i (h 90 8)) d_215_29 fl_Mo_180 (zb_90 I) (zs_90 I) rfl ?_
      refine ov_ifne (tgt := 70) d_215_32 (by decide) (by omega) (fun c12 => ?_) (fun c12 => ?_)
      · omega
      · skip
        have mv := m3.2.1 (by omega)
        have nv := pt_nm_b (t := t) (m := m) (p := p) (by omega)
        have wa := ov_wq a g_a
        have wb := ov_wq b g_b
        refine ov_blk (ls2 := [(0, ov_r 90), (1, ov_i a), (2, ov_i b)]) (st2 := [ov_r 90]) (pc2 := 36) b_215_35_1 rfl rfl ?_
        refine ov_getf (v := ov_r 94) d_215_36 fl_Mo_30 (zb_90 I) (zs_90 I) (congrArg ov_r (rg_90_6 I)) ?_
        refine ov_blk (ls2 := [(0, ov_r 90), (1, ov_i a), (2, ov_i b)]) (st2 := [ov_r 90, ov_r 94]) (pc2 := 40) b_215_39_1 rfl rfl ?_
        refine ov_getf (v := ov_i (h 90 7)) d_215_40 fl_Mo_177 (zb_90 I) (zs_90 I) rfl ?_
        refine ov_lald d_215_43 (zb_94 I) (zs_94 I) (by omega) ?_
        show ov_R u d ov_m215 44 [(0, ov_r 90), (1, ov_i a), (2, ov_i b)] [ov_l (h 94 (h 90 7))] z h (P_fMo_takeNumber_90 F z h t m N p a b)
        have g14 := ra_94 I (h 90 7)
        refine ov_blk (ls2 := [(0, ov_r 90), (1, ov_i a), (2, ov_i b)]) (st2 := [ov_i (ov_lcmp (h 94 (h 90 7)) (ov_w a))]) (pc2 := 47) b_215_44_3 rfl rfl ?_
        have g15 := ov_wg a
        have g16 := ov_wq a
        have g17 := ov_lcg (h 94 (h 90 7)) (ov_w a)
        have g18 := ov_lcs (a := (h 94 (h 90 7))) (b := (ov_w a)) (by omega) (by omega)
        refine ov_iflt (tgt := 65) d_215_47 (by decide) (by omega) (fun c19 => ?_) (fun c19 => ?_)
        · skip
          refine ov_blk (ls2 := [(0, ov_r 90), (1, ov_i a), (2, ov_i b)]) (st2 := [ov_i 4, ov_r 90]) (pc2 := 67) b_215_65_2 rfl rfl ?_
          refine ov_cV (as := [ov_i 4]) (st := []) (d2 := d - 1) d_215_67 lk_Mo_186 rfl (Nat.le_of_ble_eq_true rfl) (c := 1) (zb_90 I) (zs_90 I) ⟨by decide, rfl⟩ (by omega) (c_fMo_wrong_90 t m N p (d - 1) (by omega) U I 4 (by omega) (by show 0 ≤ (h 90 7) ∧ (h 90 7) ≤ N; omega) (by show (h 93 ((h 90 7))) = p; omega) (by show 0 ≤ (h 90 8); omega) (by show 1 ≤ (4 : Int) ∧ (4 : Int) ≤ 5; omega) mt) ?_
          rintro _ z20 h21 ⟨rfl, I22, y23, y24, y25⟩
          have E26 : h21 92 = h 92 := Eq.trans (y23 92 (by decide)) (show h 92 = h 92 from rfl)
          have E27 : h21 93 = h 93 := Eq.trans (y23 93 (by decide)) (show h 93 = h 93 from rfl)
          have E28 : h21 94 = h 94 := Eq.trans (y23 94 (by decide)) (show h 94 = h 94 from rfl)
          have E29 : h21 95 = h 95 := Eq.trans (y23 95 (by decide)) (show h 95 = h 95 from rfl)
          have fr30 : ∀ a : Int, a ≠ 90 → h21 a = h a := fun a ca => Eq.trans (y23 a (by omega)) rfl
          have y24_ : ∀ k : Int, k ≠ 8 → (h21 90) k = (h 90) k := y24
          have rk31 : ∀ k : Int, k ≠ 7 → k ≠ 8 → h21 90 k = h 90 k := fun k n0 n1 => Eq.trans (y24_ k n1) rfl
          have g32 : h21 90 2 = (h 90 2) := y24_ 2 (by decide)
          have g33 : h21 90 3 = (h 90 3) := y24_ 3 (by decide)
          have g34 : h21 90 7 = (h 90 7) := y24_ 7 (by decide)
          have g35 : h21 90 13 = (h 90 13) := y24_ 13 (by decide)
          have g36 : h21 90 15 = (h 90 15) := y24_ 15 (by decide)
          rcases y25 with f37 | f38
          · omega
          · skip
            show ov_R u d ov_m215 70 [(0, ov_r 90), (1, ov_i a), (2, ov_i b)] [] z20 h21 (P_fMo_takeNumber_90 F z h t m N p a b)
            have f39 : (h 90 8) = 0 ∧ (h21 90 8) = (4 : Int) + 16 * p ∧ (h21 93 ((h21 90 7))) = p := f38
            clear f38
            refine ov_blk (ls2 := [(0, ov_r 90), (1, ov_i a), (2, ov_i b)]) (st2 := [ov_r 90]) (pc2 := 71) b_215_70_1 rfl rfl ?_
            refine ov_getf (v := ov_i (h21 90 8)) d_215_71 fl_Mo_180 (zb_90 I22) (zs_90 I22) rfl ?_
            have g40 := rg_90_8 I22
            refine ov_ifle (tgt := 79) d_215_74 (by decide) (by omega) (fun c41 => ?_) (fun c41 => ?_)
            · omega
            · skip
              refine ov_blk (ls2 := [(0, ov_r 90), (1, ov_i a), (2, ov_i b)]) (st2 := [ov_i 0]) (pc2 := 78) b_215_77_1 rfl rfl ?_
              exact ov_reti (st := []) d_215_78 rfl ⟨_, rfl, I22, (fun a ca => (fr30 a ca)), (fun k n0 n1 => (rk31 k n0 n1)), (Or.inr (Or.inl (by show 0 = 0 ∧ (h 90 8) = 0 ∧ (h21 90 8) = pt_fN t m a b p ∧ 1 ≤ (h21 90 8) ∧ (h21 90 7) = (h 90 7) ∧ (h21 93 ((h21 90 7))) = p; first | omega | (unfold pt_fN; rw [if_neg (by omega)]; omega) | (unfold pt_fN; rw [if_pos (by omega), if_neg (by omega)]; omega) | (unfold pt_fN; rw [if_pos (by omega), if_pos (by omega)]; omega))))⟩
        · skip
          refine ov_blk (ls2 := [(0, ov_r 90), (1, ov_i a), (2, ov_i b)]) (st2 := [ov_r 90]) (pc2 := 51) b_215_50_1 rfl rfl ?_
          refine ov_getf (v := ov_r 94) d_215_51 fl_Mo_30 (zb_90 I) (zs_90 I) (congrArg ov_r (rg_90_6 I)) ?_
          refine ov_blk (ls2 := [(0, ov_r 90), (1, ov_i a), (2, ov_i b)]) (st2 := [ov_r 90, ov_r 94]) (pc2 := 55) b_215_54_1 rfl rfl ?_
          refine ov_getf (v := ov_i (h 90 7)) d_215_55 fl_Mo_177 (zb_90 I) (zs_90 I) rfl ?_
          refine ov_lald d_215_58 (zb_94 I) (zs_94 I) (by omega) ?_
          show ov_R u d ov_m215 59 [(0, ov_r 90), (1, ov_i a), (2, ov_i b)] [ov_l (h 94 (h 90 7))] z h (P_fMo_takeNumber_90 F z h t m N p a b)
          have g43 := ra_94 I (h 90 7)
          refine ov_blk (ls2 := [(0, ov_r 90), (1, ov_i a), (2, ov_i b)]) (st2 := [ov_i (ov_lcmp (h 94 (h 90 7)) (ov_w b))]) (pc2 := 62) b_215_59_3 rfl rfl ?_
          have g44 := ov_wg b
          have g45 := ov_wq b
          have g46 := ov_lcg (h 94 (h 90 7)) (ov_w b)
          have g47 := ov_lcs (a := (h 94 (h 90 7))) (b := (ov_w b)) (by omega) (by omega)
          refine ov_ifle (tgt := 70) d_215_62 (by decide) (by omega) (fun c48 => ?_) (fun c48 => ?_)
          · skip
            refine ov_blk (ls2 := [(0, ov_r 90), (1, ov_i a), (2, ov_i b)]) (st2 := [ov_r 90]) (pc2 := 71) b_215_70_1 rfl rfl ?_
            refine ov_getf (v := ov_i (h 90 8)) d_215_71 fl_Mo_180 (zb_90 I) (zs_90 I) rfl ?_
            refine ov_ifle (tgt := 79) d_215_74 (by decide) (by omega) (fun c50 => ?_) (fun c50 => ?_)
            · skip
              refine ov_blk (ls2 := [(0, ov_r 90), (1, ov_i a), (2, ov_i b)]) (st2 := [ov_r 90, ov_r 90]) (pc2 := 81) b_215_79_2 rfl rfl ?_
              refine ov_getf (v := ov_i (h 90 7)) d_215_81 fl_Mo_177 (zb_90 I) (zs_90 I) rfl ?_
              refine ov_blk (ls2 := [(0, ov_r 90), (1, ov_i a), (2, ov_i b)]) (st2 := [ov_i ((h 90 7) + 1), ov_r 90]) (pc2 := 86) b_215_84_2 rfl rfl ?_
              have kn := pt_MT_lt mt (k := h 90 7) (by omega) (by rw [p1]; omega)
              have mn := pt_MT_nx mt (k := h 90 7) ⟨by omega, by omega⟩
              rw [p1] at mn
              have nb := pt_nt_le (t := t) (n := m) (p := p) (by omega)
              refine ov_putf (x := ((h 90 7) + 1)) d_215_86 fl_Mo_177 (zb_90 I) (zs_90 I) rfl nk_0 rfl ?_
              have I52 := up_90_7 (x := ((h 90 7) + 1)) I (by omega)
              show ov_R u d ov_m215 89 [(0, ov_r 90), (1, ov_i a), (2, ov_i b)] [] z (ov_up h 90 7 ((h 90 7) + 1)) (P_fMo_takeNumber_90 F z h t m N p a b)
              refine ov_blk (ls2 := [(0, ov_r 90), (1, ov_i a), (2, ov_i b)]) (st2 := [ov_r 90]) (pc2 := 90) b_215_89_1 rfl rfl ?_
              refine ov_getf (v := ov_r 94) d_215_90 fl_Mo_30 (zb_90 I52) (zs_90 I52) (congrArg ov_r (rg_90_6 I52)) ?_
              refine ov_blk (ls2 := [(0, ov_r 90), (1, ov_i a), (2, ov_i b)]) (st2 := [ov_r 90, ov_r 94]) (pc2 := 94) b_215_93_1 rfl rfl ?_
              refine ov_getf (v := ov_i ((h 90 7) + 1)) d_215_94 fl_Mo_177 (zb_90 I52) (zs_90 I52) rfl ?_
              refine ov_blk (ls2 := [(0, ov_r 90), (1, ov_i a), (2, ov_i b)]) (st2 := [ov_i (((h 90 7) + 1) - 1), ov_r 94]) (pc2 := 99) b_215_97_2 rfl rfl ?_
              refine ov_lald d_215_99 (zb_94 I52) (zs_94 I52) (by omega) ?_
              show ov_R u d ov_m215 100 [(0, ov_r 90), (1, ov_i a), (2, ov_i b)] [ov_l ((ov_up h 90 7 ((h 90 7) + 1)) 94 (((h 90 7) + 1) - 1))] z (ov_up h 90 7 ((h 90 7) + 1)) (P_fMo_takeNumber_90 F z h t m N p a b)
              have g53 := ra_94 I52 (((h 90 7) + 1) - 1)
              have lv : ((ov_up h 90 7 ((h 90 7) + 1)) 94 (((h 90 7) + 1) - 1)) = pt_nm t m p := by show h 94 (h 90 7 + 1 - 1) = _; rw [Int.add_sub_cancel]; exact mv
              rw [lv]
              show ov_R u d ov_m215 100 [(0, ov_r 90), (1, ov_i a), (2, ov_i b)] [ov_l (pt_nm t m p)] z (ov_up h 90 7 ((h 90 7) + 1)) (P_fMo_takeNumber_90 F z h t m N p a b)
              refine ov_blk (ls2 := [(0, ov_r 90), (1, ov_i a), (2, ov_i b)]) (st2 := [ov_i (pt_nm t m p)]) (pc2 := 101) b_215_100_1 rfl rfl ?_
              refine ov_havw (fun w54 gw54 qw54 => ?_)
              exact ov_reti (st := []) d_215_101 rfl ⟨_, rfl, I52, (fun a ca => Eq.trans (by show (ov_up h 90 7 ((h 90 7) + 1)) a = h a; rw [ov_up_ne (by omega)]) rfl), (fun k n0 n1 => (Eq.trans (by show (ov_up h 90 7 ((h 90 7) + 1)) 90 k = h 90 k; rw [ov_up_j n0]) rfl)), (Or.inr (Or.inr (by show (h 90 8) = 0 ∧ (h 90 8) = 0 ∧ pt_fN t m a b p = 0 ∧ pt_ty t m p = 3 ∧ a ≤ w54 ∧ w54 ≤ b ∧ w54 = pt_nm t m p ∧ 0 ≤ w54 ∧ w54 ≤ 9999 ∧ ((h 90 7) + 1) = (h 90 7) + 1 ∧ ((h 90 7) + 1) ≤ N ∧ (h 93 (((h 90 7) + 1))) = pt_nt t m p; first | omega | (unfold pt_fN; rw [if_neg (by omega)]; omega) | (unfold pt_fN; rw [if_pos (by omega), if_neg (by omega)]; omega) | (unfold pt_fN; rw [if_pos (by omega), if_pos (by omega)]; omega))))⟩
            · omega
          · skip
            refine ov_blk (ls2 := [(0, ov_r 90), (1, ov_i a), (2, ov_i b)]) (st2 := [ov_i 4, ov_r 90]) (pc2 := 67) b_215_65_2 rfl rfl ?_
            refine ov_cV (as := [ov_i 4]) (st := []) (d2 := d - 1) d_215_67 lk_Mo_186 rfl (Nat.le_of_ble_eq_true rfl) (c := 1) (zb_90 I) (zs_90 I) ⟨by decide, rfl⟩ (by omega) (c_fMo_wrong_90 t m N p (d - 1) (by omega) U I 4 (by omega) (by show 0 ≤ (h 90 7) ∧ (h 90 7) ≤ N; omega) (by show (h 93 ((h 90 7))) = p; omega) (by show 0 ≤ (h 90 8); omega) (by show 1 ≤ (4 : Int) ∧ (4 : Int) ≤ 5; omega) mt) ?_
            rintro _ z55 h56 ⟨rfl, I57, y58, y59, y60⟩
            have E61 : h56 92 = h 92 := Eq.trans (y58 92 (by decide)) (show h 92 = h 92 from rfl)
            have E62 : h56 93 = h 93 := Eq.trans (y58 93 (by decide)) (show h 93 = h 93 from rfl)
            have E63 : h56 94 = h 94 := Eq.trans (y58 94 (by decide)) (show h 94 = h 94 from rfl)
            have E64 : h56 95 = h 95 := Eq.trans (y58 95 (by decide)) (show h 95 = h 95 from rfl)
            have fr65 : ∀ a : Int, a ≠ 90 → h56 a = h a := fun a ca => Eq.trans (y58 a (by omega)) rfl
            have y59_ : ∀ k : Int, k ≠ 8 → (h56 90) k = (h 90) k := y59
            have rk66 : ∀ k : Int, k ≠ 7 → k ≠ 8 → h56 90 k = h 90 k := fun k n0 n1 => Eq.trans (y59_ k n1) rfl
            have g67 : h56 90 2 = (h 90 2) := y59_ 2 (by decide)
            have g68 : h56 90 3 = (h 90 3) := y59_ 3 (by decide)
            have g69 : h56 90 7 = (h 90 7) := y59_ 7 (by decide)
            have g70 : h56 90 13 = (h 90 13) := y59_ 13 (by decide)
            have g71 : h56 90 15 = (h 90 15) := y59_ 15 (by decide)
            rcases y60 with f72 | f73
            · omega
            · skip
              show ov_R u d ov_m215 70 [(0, ov_r 90), (1, ov_i a), (2, ov_i b)] [] z55 h56 (P_fMo_takeNumber_90 F z h t m N p a b)
              have f74 : (h 90 8) = 0 ∧ (h56 90 8) = (4 : Int) + 16 * p ∧ (h56 93 ((h56 90 7))) = p := f73
              clear f73
              refine ov_blk (ls2 := [(0, ov_r 90), (1, ov_i a), (2, ov_i b)]) (st2 := [ov_r 90]) (pc2 := 71) b_215_70_1 rfl rfl ?_
              refine ov_getf (v := ov_i (h56 90 8)) d_215_71 fl_Mo_180 (zb_90 I57) (zs_90 I57) rfl ?_
              have g75 := rg_90_8 I57
              refine ov_ifle (tgt := 79) d_215_74 (by decide) (by omega) (fun c76 => ?_) (fun c76 => ?_)
              · omega
              · skip
                refine ov_blk (ls2 := [(0, ov_r 90), (1, ov_i a), (2, ov_i b)]) (st2 := [ov_i 0]) (pc2 := 78) b_215_77_1 rfl rfl ?_
                exact ov_reti (st := []) d_215_78 rfl ⟨_, rfl, I57, (fun a ca => (fr65 a ca)), (fun k n0 n1 => (rk66 k n0 n1)), (Or.inr (Or.inl (by show 0 = 0 ∧ (h 90 8) = 0 ∧ (h56 90 8) = pt_fN t m a b p ∧ 1 ≤ (h56 90 8) ∧ (h56 90 7) = (h 90 7) ∧ (h56 93 ((h56 90 7))) = p; first | omega | (unfold pt_fN; rw [if_neg (by omega)]; omega) | (unfold pt_fN; rw [if_pos (by omega), if_neg (by omega)]; omega) | (unfold pt_fN; rw [if_pos (by omega), if_pos (by omega)]; omega))))⟩
    · skip
      refine ov_blk (ls2 := [(0, ov_r 90), (1, ov_i a), (2, ov_i b)]) (st2 := [ov_i 1, ov_r 90]) (pc2 := 22) b_215_20_2 rfl rfl ?_
      refine ov_cV (as := [ov_i 1]) (st := []) (d2 := d - 1) d_215_22 lk_Mo_186 rfl (Nat.le_of_ble_eq_true rfl) (c := 1) (zb_90 I) (zs_90 I) ⟨by decide, rfl⟩ (by omega) (c_fMo_wrong_90 t m N p (d - 1) (by omega) U I 1 (by omega) (by show 0 ≤ (h 90 7) ∧ (h 90 7) ≤ N; omega) (by show (h 93 ((h 90 7))) = p; omega) (by show 0 ≤ (h 90 8); omega) (by show 1 ≤ (1 : Int) ∧ (1 : Int) ≤ 5; omega) mt) ?_
      rintro _ z77 h78 ⟨rfl, I79, y80, y81, y82⟩
      have E83 : h78 92 = h 92 := Eq.trans (y80 92 (by decide)) (show h 92 = h 92 from rfl)
      have E84 : h78 93 = h 93 := Eq.trans (y80 93 (by decide)) (show h 93 = h 93 from rfl)
      have E85 : h78 94 = h 94 := Eq.trans (y80 94 (by decide)) (show h 94 = h 94 from rfl)
      have E86 : h78 95 = h 95 := Eq.trans (y80 95 (by decide)) (show h 95 = h 95 from rfl)
      have fr87 : ∀ a : Int, a ≠ 90 → h78 a = h a := fun a ca => Eq.trans (y80 a (by omega)) rfl
      have y81_ : ∀ k : Int, k ≠ 8 → (h78 90) k = (h 90) k := y81
      have rk88 : ∀ k : Int, k ≠ 7 → k ≠ 8 → h78 90 k = h 90 k := fun k n0 n1 => Eq.trans (y81_ k n1) rfl
      have g89 : h78 90 2 = (h 90 2) := y81_ 2 (by decide)
      have g90 : h78 90 3 = (h 90 3) := y81_ 3 (by decide)
      have g91 : h78 90 7 = (h 90 7) := y81_ 7 (by decide)
      have g92 : h78 90 13 = (h 90 13) := y81_ 13 (by decide)
      have g93 : h78 90 15 = (h 90 15) := y81_ 15 (by decide)
      rcases y82 with f94 | f95
      · omega
      · skip
        show ov_R u d ov_m215 25 [(0, ov_r 90), (1, ov_i a), (2, ov_i b)] [] z77 h78 (P_fMo_takeNumber_90 F z h t m N p a b)
        have f96 : (h 90 8) = 0 ∧ (h78 90 8) = (1 : Int) + 16 * p ∧ (h78 93 ((h78 90 7))) = p := f95
        clear f95
        refine ov_goto (tgt := 70) d_215_25 (by decide) ?_
        refine ov_blk (ls2 := [(0, ov_r 90), (1, ov_i a), (2, ov_i b)]) (st2 := [ov_r 90]) (pc2 := 71) b_215_70_1 rfl rfl ?_
        refine ov_getf (v := ov_i (h78 90 8)) d_215_71 fl_Mo_180 (zb_90 I79) (zs_90 I79) rfl ?_
        have g97 := rg_90_8 I79
        refine ov_ifle (tgt := 79) d_215_74 (by decide) (by omega) (fun c98 => ?_) (fun c98 => ?_)
        · omega
        · skip
          refine ov_blk (ls2 := [(0, ov_r 90), (1, ov_i a), (2, ov_i b)]) (st2 := [ov_i 0]) (pc2 := 78) b_215_77_1 rfl rfl ?_
          exact ov_reti (st := []) d_215_78 rfl ⟨_, rfl, I79, (fun a ca => (fr87 a ca)), (fun k n0 n1 => (rk88 k n0 n1)), (Or.inr (Or.inl (by show 0 = 0 ∧ (h 90 8) = 0 ∧ (h78 90 8) = pt_fN t m a b p ∧ 1 ≤ (h78 90 8) ∧ (h78 90 7) = (h 90 7) ∧ (h78 93 ((h78 90 7))) = p; first | omega | (unfold pt_fN; rw [if_neg (by omega)]; omega) | (unfold pt_fN; rw [if_pos (by omega), if_neg (by omega)]; omega) | (unfold pt_fN; rw [if_pos (by omega), if_pos (by omega)]; omega))))⟩

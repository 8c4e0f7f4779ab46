theorem b_217_29_2 : ov_ds ov_m217.2.1 29 [.iload_n 1, .i2l] = true := by decide +kernel
theorem b_217_31_1 : ov_ds ov_m217.2.1 31 [.lcmp] = true := by decide +kernel
abbrev P_fMo_wrong_90 (F : ov_H × ov_Z) (z : ov_Z) (h : ov_H) (t : Int → Int) (m : Int) (N : Int) (p : Int) (w : Int) : Option ov_V → ov_Z → ov_H → Prop := fun r0 z' h' => r0 = none ∧ ov_N F z' h' ∧ (∀ a : Int, a ≠ 90 → h' a = h a) ∧ (∀ k : Int, k ≠ 8 → (h' 90) k = (h 90) k) ∧ ((((h 90 8) ≠ 0 ∧ (h' 90 8) = (h 90 8) ∧ (h' 93 ((h' 90 7))) = p)) ∨ (((h 90 8) = 0 ∧ (h' 90 8) = w + 16 * p ∧ (h' 93 ((h' 90 7))) = p)))
set_option maxHeartbeats 4000000 in
theorem c_fMo_wrong_90 {u : ov_U} {F : ov_H × ov_Z} (t : Int → Int) (m : Int) (N : Int) (p : Int) {z : ov_Z} {h : ov_H} (d : Nat) (hd : 0 ≤ d) (U : ov_cap u) (I : ov_N F z h) (w : Int) (g_w : ov_g w) (p0 : 0 ≤ (h 90 7) ∧ (h 90 7) ≤ N) (p1 : (h 93 ((h 90 7))) = p) (p2 : 0 ≤ (h 90 8)) (p3 : 1 ≤ w ∧ w ≤ 5) (mt : pt_MT t m (h 92) (h 93) (h 94) N) : ov_T u d ov_m214 [ov_r 90, ov_i w] z h (P_fMo_wrong_90 F z h t m N p w) := by
  refine ov_en rfl (Nat.le_of_ble_eq_true rfl) ?_
  show ov_R u d ov_m214 0 [(0, ov_r 90), (1, ov_i w)] [] z h (P_fMo_wrong_90 F z h t m N p w)
  have ma := pt_MT_at mt (k := h 90 7) (by omega)
  rw [p1] at ma
  have mp := ma.2.1
  have m2 := ma.2.2.1
  have m3 := ma.2.2.2
  have mc := pt_cm_f (t := t) (m := m) (p := p)
  have mN := mt.1.2.1
  clear ma
  refine ov_blk (ls2 := [(0, ov_r 90), (1, ov_i w)]) (st2 := [ov_r 90]) (pc2 := 1) b_214_0_1 rfl rfl ?_
  refine ov_getf (v := ov_i (h 90 8)) d_214_1 fl_Mo_180 (zb_90 I) (zs_90 I) rfl ?_
  have g1 := rg_90_8 I
  refine ov_ifne (tgt := 25) d_214_4 (by decide) (by omega) (fun c2 => ?_) (fun c2 => ?_)
  · skip
    exact ov_retv (st := []) d_214_25 rfl ⟨rfl, I, (fun a ca => rfl), (fun k n0 => rfl), (Or.inl (by show (h 90 8) ≠ 0 ∧ (h 90 8) = (h 90 8) ∧ (h 93 ((h 90 7))) = p; omega))⟩
  · skip
    refine ov_blk (ls2 := [(0, ov_r 90), (1, ov_i w)]) (st2 := [ov_r 90, ov_i 16, ov_i w, ov_r 90]) (pc2 := 12) b_214_7_4 rfl rfl ?_
    refine ov_getf (v := ov_r 93) d_214_12 fl_Mo_27 (zb_90 I) (zs_90 I) (congrArg ov_r (rg_90_5 I)) ?_
    refine ov_blk (ls2 := [(0, ov_r 90), (1, ov_i w)]) (st2 := [ov_r 90, ov_r 93, ov_i 16, ov_i w, ov_r 90]) (pc2 := 16) b_214_15_1 rfl rfl ?_
    refine ov_getf (v := ov_i (h 90 7)) d_214_16 fl_Mo_177 (zb_90 I) (zs_90 I) rfl ?_
    have g3 := rg_90_7 I
    refine ov_iald d_214_19 (zb_93 I) (zs_93 I) (by omega) ?_
    have g5 := ra_93 I (h 90 7)
    have e4 : h 93 (h 90 7) = p := p1
    rw [e4] at g5
    rw [e4]
    show ov_R u d ov_m214 20 [(0, ov_r 90), (1, ov_i w)] [ov_i p, ov_i 16, ov_i w, ov_r 90] z h (P_fMo_wrong_90 F z h t m N p w)
    refine ov_blk (ls2 := [(0, ov_r 90), (1, ov_i w)]) (st2 := [ov_i (w + (16 * p)), ov_r 90]) (pc2 := 22) b_214_20_2 rfl rfl ?_
    refine ov_putf (x := (w + (16 * p))) d_214_22 fl_Mo_180 (zb_90 I) (zs_90 I) rfl nk_0 rfl ?_
    have I6 := up_90_8 (x := (w + (16 * p))) I (by omega)
    show ov_R u d ov_m214 25 [(0, ov_r 90), (1, ov_i w)] [] z (ov_up h 90 8 (w + (16 * p))) (P_fMo_wrong_90 F z h t m N p w)
    exact ov_retv (st := []) d_214_25 rfl ⟨rfl, I6, (fun a ca => Eq.trans (by show (ov_up h 90 8 (w + (16 * p))) a = h a; rw [ov_up_ne (by omega)]) rfl), (fun k n0 => (Eq.trans (by show (ov_up h 90 8 (w + (16 * p))) 90 k = h 90 k; rw [ov_up_j n0]) rfl)), (Or.inr (by show (h 90 8) = 0 ∧ (w + (16 * p)) = w + 16 * p ∧ (h 93 ((h 90 7))) = p; omega))⟩
abbrev P_fMo_isSign_90 (F : ov_H × ov_Z) (z : ov_Z) (h : ov_H) (t : Int → Int) (m : Int) (N : Int) (p : Int) (c : Int) : Option ov_V → ov_Z → ov_H → Prop := fun r0 z' h' => ∃ r : Int, r0 = some (ov_i r) ∧ z = z' ∧ h = h' ∧ ((r = 0 ∧ ((h 90 8) ≠ 0 ∨ pt_is t m p c = 0)) ∨ (r = 1 ∧ ((h 90 8) = 0 ∧ pt_is t m p c = 1 ∧ pt_ty t m p = 4)))
set_option maxHeartbeats 4000000 in
theorem c_fMo_isSign_90 {u : ov_U} {F : ov_H × ov_Z} (t : Int → Int) (m : Int) (N : Int) (p : Int) {z : ov_Z} {h : ov_H} (d : Nat) (hd : 0 ≤ d) (U : ov_cap u) (I : ov_N F z h) (c : Int) (g_c : ov_g c) (p0 : 0 ≤ (h 90 7) ∧ (h 90 7) ≤ N) (p1 : (h 93 ((h 90 7))) = p) (p2 : 0 ≤ (h 90 8)) (p3 : 0 ≤ c ∧ c ≤ 65535) (mt : pt_MT t m (h 92) (h 93) (h 94) N) : ov_T u d ov_m217 [ov_r 90, ov_i c] z h (P_fMo_isSign_90 F z h t m N p c) := by
  refine ov_en rfl (Nat.le_of_ble_eq_true rfl) ?_
  show ov_R u d ov_m217 0 [(0, ov_r 90), (1, ov_i c)] [] z h (P_fMo_isSign_90 F z h t m N p c)
  have ma := pt_MT_at mt (k := h 90 7) (by omega)
  rw [p1] at ma
  have mp := ma.2.1
  have m2 := ma.2.2.1
  have m3 := ma.2.2.2
  have mc := pt_cm_f (t := t) (m := m) (p := p)
  have mN := mt.1.2.1
  clear ma
  refine ov_blk (ls2 := [(0, ov_r 90), (1, ov_i c)]) (st2 := [ov_r 90]) (pc2 := 1) b_217_0_1 rfl rfl ?_
  refine ov_getf (v := ov_i (h 90 8)) d_217_1 fl_Mo_180 (zb_90 I) (zs_90 I) rfl ?_
  have g1 := rg_90_8 I
  refine ov_ifne (tgt := 39) d_217_4 (by decide) (by omega) (fun c2 => ?_) (fun c2 => ?_)
  · skip
    refine ov_blk (ls2 := [(0, ov_r 90), (1, ov_i c)]) (st2 := [ov_i 0]) (pc2 := 40) b_217_39_1 rfl rfl ?_
    exact ov_retz (st := []) d_217_40 rfl (by omega) ⟨_, rfl, rfl, rfl, (Or.inl ⟨rfl, (by show (h 90 8) ≠ 0 ∨ pt_is t m p c = 0; first | (unfold pt_is; rw [if_pos (by omega)]; omega) | (unfold pt_is; rw [if_neg (by omega)]; omega) | omega)⟩)⟩
  · skip
    refine ov_blk (ls2 := [(0, ov_r 90), (1, ov_i c)]) (st2 := [ov_r 90]) (pc2 := 8) b_217_7_1 rfl rfl ?_
    refine ov_getf (v := ov_r 92) d_217_8 fl_Mo_24 (zb_90 I) (zs_90 I) (congrArg ov_r (rg_90_4 I)) ?_
    refine ov_blk (ls2 := [(0, ov_r 90), (1, ov_i c)]) (st2 := [ov_r 90, ov_r 92]) (pc2 := 12) b_217_11_1 rfl rfl ?_
    refine ov_getf (v := ov_i (h 90 7)) d_217_12 fl_Mo_177 (zb_90 I) (zs_90 I) rfl ?_
    have g3 := rg_90_7 I
    refine ov_iald d_217_15 (zb_92 I) (zs_92 I) (by omega) ?_
    have g5 := ra_92 I (h 90 7)
    have e4 : h 92 (h 90 7) = (pt_cm (pt_ty t m p)) := m2
    rw [e4] at g5
    rw [e4]
    show ov_R u d ov_m217 16 [(0, ov_r 90), (1, ov_i c)] [ov_i (pt_cm (pt_ty t m p))] z h (P_fMo_isSign_90 F z h t m N p c)
    refine ov_blk (ls2 := [(0, ov_r 90), (1, ov_i c)]) (st2 := [ov_i 3, ov_i (pt_cm (pt_ty t m p))]) (pc2 := 17) b_217_16_1 rfl rfl ?_
    refine ov_icne (tgt := 39) d_217_17 (by decide) (by omega) (by omega) (fun c6 => ?_) (fun c6 => ?_)
    · skip
      refine ov_blk (ls2 := [(0, ov_r 90), (1, ov_i c)]) (st2 := [ov_i 0]) (pc2 := 40) b_217_39_1 rfl rfl ?_
      exact ov_retz (st := []) d_217_40 rfl (by omega) ⟨_, rfl, rfl, rfl, (Or.inl ⟨rfl, (by show (h 90 8) ≠ 0 ∨ pt_is t m p c = 0; first | (unfold pt_is; rw [if_pos (by omega)]; omega) | (unfold pt_is; rw [if_neg (by omega)]; omega) | omega)⟩)⟩
    · skip
      refine ov_blk (ls2 := [(0, ov_r 90), (1, ov_i c)]) (st2 := [ov_r 90]) (pc2 := 21) b_217_20_1 rfl rfl ?_
      refine ov_getf (v := ov_r 94) d_217_21 fl_Mo_30 (zb_90 I) (zs_90 I) (congrArg ov_r (rg_90_6 I)) ?_
      have mv := m3.2.2 (by omega)
      refine ov_blk (ls2 := [(0, ov_r 90), (1, ov_i c)]) (st2 := [ov_r 90, ov_r 94]) (pc2 := 25) b_217_24_1 rfl rfl ?_
      refine ov_getf (v := ov_i (h 90 7)) d_217_25 fl_Mo_177 (zb_90 I) (zs_90 I) rfl ?_
      refine ov_lald d_217_28 (zb_94 I) (zs_94 I) (by omega) ?_
      show ov_R u d ov_m217 29 [(0, ov_r 90), (1, ov_i c)] [ov_l (h 94 (h 90 7))] z h (P_fMo_isSign_90 F z h t m N p c)
      have g8 := ra_94 I (h 90 7)
      refine ov_blk (ls2 := [(0, ov_r 90), (1, ov_i c)]) (st2 := [ov_l (ov_w c), ov_l (h 94 (h 90 7))]) (pc2 := 31) b_217_29_2 rfl rfl ?_
      have g9 := ov_wg c
      have g10 := ov_wq c
      rw [ov_wq c (by omega)]
      show ov_R u d ov_m217 31 [(0, ov_r 90), (1, ov_i c)] [ov_l c, ov_l (h 94 (h 90 7))] z h (P_fMo_isSign_90 F z h t m N p c)
      have cg := ov_wq c (by omega)
      refine ov_blk (ls2 := [(0, ov_r 90), (1, ov_i c)]) (st2 := [ov_i (ov_lcmp (h 94 (h 90 7)) c)]) (pc2 := 32) b_217_31_1 rfl rfl ?_
      have g11 := ov_lcg (h 94 (h 90 7)) c
      have g12 := ov_lcs (a := (h 94 (h 90 7))) (b := c) (by omega) (by omega)
      refine ov_ifne (tgt := 39) d_217_32 (by decide) (by omega) (fun c13 => ?_) (fun c13 => ?_)
      · skip
        refine ov_blk (ls2 := [(0, ov_r 90), (1, ov_i c)]) (st2 := [ov_i 0]) (pc2 := 40) b_217_39_1 rfl rfl ?_
        exact ov_retz (st := []) d_217_40 rfl (by omega) ⟨_, rfl, rfl, rfl, (Or.inl ⟨rfl, (by show (h 90 8) ≠ 0 ∨ pt_is t m p c = 0; first | (unfold pt_is; rw [if_pos (by omega)]; omega) | (unfold pt_is; rw [if_neg (by omega)]; omega) | omega)⟩)⟩
      · skip
        refine ov_blk (ls2 := [(0, ov_r 90), (1, ov_i c)]) (st2 := [ov_i 1]) (pc2 := 36) b_217_35_1 rfl rfl ?_
        refine ov_goto (tgt := 40) d_217_36 (by decide) ?_
        exact ov_retz (st := []) d_217_40 rfl (by omega) ⟨_, rfl, rfl, rfl, (Or.inr ⟨rfl, (by show (h 90 8) = 0 ∧ pt_is t m p c = 1 ∧ pt_ty t m p = 4; first | (unfold pt_is; rw [if_pos (by omega)]; omega) | (unfold pt_is; rw [if_neg (by omega)]; omega) | omega)⟩)⟩
abbrev P_fMo_isWord_90 (F : ov_H × ov_Z) (z : ov_Z) (h : ov_H) (t : Int → Int) (m : Int) (N : Int) (p : Int) (wv : Int) (c : Int) : Option ov_V → ov_Z → ov_H → Prop := fun r0 z' h' => ∃ r : Int, r0 = some (ov_i r) ∧ z = z' ∧ h = h' ∧ ((r = 0 ∧ ((h 90 8) ≠ 0 ∨ pt_iw t m p wv = 0)) ∨ (r = 1 ∧ ((h 90 8) = 0 ∧ pt_iw t m p wv = 1 ∧ pt_ty t m p = 2)))
set_option maxHeartbeats 4000000 in
theorem c_fMo_isWord_90 {u : ov_U} {F : ov_H × ov_Z} (t : Int → Int) (m : Int) (N : Int) (p : Int) (wv : Int) {z : ov_Z} {h : ov_H} (d : Nat) (hd : 0 ≤ d) (U : ov_cap u) (I : ov_N F z h) (c : Int) (g_c : ov_g c) (p0 : 0 ≤ (h 90 7) ∧ (h 90 7) ≤ N) (p1 : (h 93 ((h 90 7))) = p) (p2 : 0 ≤ (h 90 8)) (p3 : 0 ≤ c ∧ c ≤ 21) (mt : pt_MT t m (h 92) (h 93) (h 94) N) (wd : pt_WD (h 95)) (ew : pt_C c = wv) : ov_T u d ov_m213 [ov_r 90, ov_i c] z h (P_fMo_isWord_90 F z h t m N p wv c) := by
  refine ov_en rfl (Nat.le_of_ble_eq_true rfl) ?_
  show ov_R u d ov_m213 0 [(0, ov_r 90), (1, ov_i c)] [] z h (P_fMo_isWord_90 F z h t m N p wv c)
  have ma := pt_MT_at mt (k := h 90 7) (by omega)
  rw [p1] at ma
  have mp := ma.2.1
  have m2 := ma.2.2.1
  have m3 := ma.2.2.2
  have mc := pt_cm_f (t := t) (m := m) (p := p)
  have mN := mt.1.2.1
  clear ma
  refine ov_blk (ls2 := [(0, ov_r 90), (1, ov_i c)]) (st2 := [ov_r 90]) (pc2 := 1) b_213_0_1 rfl rfl ?_
  refine ov_getf (v := ov_i (h 90 8)) d_213_1 fl_Mo_180 (zb_90 I) (zs_90 I) rfl ?_
  have g1 := rg_90_8 I
  refine ov_ifne (tgt := 43) d_213_4 (by decide) (by omega) (fun c2 => ?_) (fun c2 => ?_)
  · skip
    refine ov_blk (ls2 := [(0, ov_r 90), (1, ov_i c)]) (st2 := [ov_i 0]) (pc2 := 44) b_213_43_1 rfl rfl ?_
    exact ov_retz (st := []) d_213_44 rfl (by omega) ⟨_, rfl, rfl, rfl, (Or.inl ⟨rfl, (by show (h 90 8) ≠ 0 ∨ pt_iw t m p wv = 0; first | (unfold pt_iw; rw [if_pos (by omega)]; omega) | (unfold pt_iw; rw [if_neg (by omega)]; omega) | omega)⟩)⟩
  · skip
    refine ov_blk (ls2 := [(0, ov_r 90), (1, ov_i c)]) (st2 := [ov_r 90]) (pc2 := 8) b_213_7_1 rfl rfl ?_
    refine ov_getf (v := ov_r 92) d_213_8 fl_Mo_24 (zb_90 I) (zs_90 I) (congrArg ov_r (rg_90_4 I)) ?_
    refine ov_blk (ls2 := [(0, ov_r 90), (1, ov_i c)]) (st2 := [ov_r 90, ov_r 92]) (pc2 := 12) b_213_11_1 rfl rfl ?_
    refine ov_getf (v := ov_i (h 90 7)) d_213_12 fl_Mo_177 (zb_90 I) (zs_90 I) rfl ?_
    have g3 := rg_90_7 I
    refine ov_iald d_213_15 (zb_92 I) (zs_92 I) (by omega) ?_
    have g5 := ra_92 I (h 90 7)
    have e4 : h 92 (h 90 7) = (pt_cm (pt_ty t m p)) := m2
    rw [e4] at g5
    rw [e4]
    show ov_R u d ov_m213 16 [(0, ov_r 90), (1, ov_i c)] [ov_i (pt_cm (pt_ty t m p))] z h (P_fMo_isWord_90 F z h t m N p wv c)
    refine ov_blk (ls2 := [(0, ov_r 90), (1, ov_i c)]) (st2 := [ov_i 1, ov_i (pt_cm (pt_ty t m p))]) (pc2 := 17) b_213_16_1 rfl rfl ?_
    refine ov_icne (tgt := 43) d_213_17 (by decide) (by omega) (by omega) (fun c6 => ?_) (fun c6 => ?_)
    · skip
      refine ov_blk (ls2 := [(0, ov_r 90), (1, ov_i c)]) (st2 := [ov_i 0]) (pc2 := 44) b_213_43_1 rfl rfl ?_
      exact ov_retz (st := []) d_213_44 rfl (by omega) ⟨_, rfl, rfl, rfl, (Or.inl ⟨rfl, (by show (h 90 8) ≠ 0 ∨ pt_iw t m p wv = 0; first | (unfold pt_iw; rw [if_pos (by omega)]; omega) | (unfold pt_iw; rw [if_neg (by omega)]; omega) | omega)⟩)⟩
    · skip
      refine ov_blk (ls2 := [(0, ov_r 90), (1, ov_i c)]) (st2 := [ov_r 90]) (pc2 := 21) b_213_20_1 rfl rfl ?_
      refine ov_getf (v := ov_r 94) d_213_21 fl_Mo_30 (zb_90 I) (zs_90 I) (congrArg ov_r (rg_90_6 I)) ?_
      have mv := m3.1 (by omega)
      have pw := pt_word (t := t) (m := m) (p := p) (c := c) (by omega) (by omega)
      rw [ew] at pw
      have b1 := pt_w37_b (t := t) (m := m) (p := p) (by omega)
      have b2 := pt_D_b (c := c) (by omega)
      refine ov_blk (ls2 := [(0, ov_r 90), (1, ov_i c)]) (st2 := [ov_r 90, ov_r 94]) (pc2 := 25) b_213_24_1 rfl rfl ?_
      refine ov_getf (v := ov_i (h 90 7)) d_213_25 fl_Mo_177 (zb_90 I) (zs_90 I) rfl ?_
      refine ov_lald d_213_28 (zb_94 I) (zs_94 I) (by omega) ?_
      show ov_R u d ov_m213 29 [(0, ov_r 90), (1, ov_i c)] [ov_l (h 94 (h 90 7))] z h (P_fMo_isWord_90 F z h t m N p wv c)
      have g8 := ra_94 I (h 90 7)
      refine ov_blk (ls2 := [(0, ov_r 90), (1, ov_i c)]) (st2 := [ov_r 90, ov_l (h 94 (h 90 7))]) (pc2 := 30) b_213_29_1 rfl rfl ?_
      refine ov_getf (v := ov_r 95) d_213_30 fl_Mo_78 (zb_90 I) (zs_90 I) (congrArg ov_r (rg_90_9 I)) ?_
      refine ov_blk (ls2 := [(0, ov_r 90), (1, ov_i c)]) (st2 := [ov_i c, ov_r 95, ov_l (h 94 (h 90 7))]) (pc2 := 34) b_213_33_1 rfl rfl ?_
      refine ov_lald d_213_34 (zb_95 I) (zs_95 I) (by omega) ?_
      have g10 := ra_95 I c
      have e9 : h 95 c = (pt_D c) := (wd c (by omega) (by omega))
      rw [e9] at g10
      rw [e9]
      show ov_R u d ov_m213 35 [(0, ov_r 90), (1, ov_i c)] [ov_l (pt_D c), ov_l (h 94 (h 90 7))] z h (P_fMo_isWord_90 F z h t m N p wv c)
      refine ov_blk (ls2 := [(0, ov_r 90), (1, ov_i c)]) (st2 := [ov_i (ov_lcmp (h 94 (h 90 7)) (pt_D c))]) (pc2 := 36) b_213_35_1 rfl rfl ?_
      have g11 := ov_lcg (h 94 (h 90 7)) (pt_D c)
      have g12 := ov_lcs (a := (h 94 (h 90 7))) (b := (pt_D c)) (by omega) (by omega)
      refine ov_ifne (tgt := 43) d_213_36 (by decide) (by omega) (fun c13 => ?_) (fun c13 => ?_)
      · skip
        refine ov_blk (ls2 := [(0, ov_r 90), (1, ov_i c)]) (st2 := [ov_i 0]) (pc2 := 44) b_213_43_1 rfl rfl ?_
        exact ov_retz (st := []) d_213_44 rfl (by omega) ⟨_, rfl, rfl, rfl, (Or.inl ⟨rfl, (by show (h 90 8) ≠ 0 ∨ pt_iw t m p wv = 0; first | (unfold pt_iw; rw [if_pos (by omega)]; omega) | (unfold pt_iw; rw [if_neg (by omega)]; omega) | omega)⟩)⟩
      · skip
        refine ov_blk (ls2 := [(0, ov_r 90), (1, ov_i c)]) (st2 := [ov_i 1]) (pc2 := 40) b_213_39_1 rfl rfl ?_
        refine ov_goto (tgt := 44) d_213_40 (by decide) ?_
        exact ov_retz (st := []) d_213_44 rfl (by omega) ⟨_, rfl, rfl, rfl, (Or.inr ⟨rfl, (by show (h 90 8) = 0 ∧ pt_iw t m p wv = 1 ∧ pt_ty t m p = 2; first | (unfold pt_iw; rw [if_pos (by omega)]; omega) | (unfold pt_iw; rw [if_neg (by omega)]; omega) | omega)⟩)⟩

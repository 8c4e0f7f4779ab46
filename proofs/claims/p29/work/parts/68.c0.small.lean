theorem b_61_0_2 : ov_ds ov_m61.2.1 0 [.iload_n 0, .i2l] = true := by decide +kernel
theorem b_61_2_2 : ov_ds ov_m61.2.1 2 [.iload_n 1, .i2l] = true := by decide +kernel
theorem b_61_7_3 : ov_ds ov_m61.2.1 7 [.lstore_n 2, .lload_n 2, .lconst 0] = true := by decide +kernel
theorem b_61_10_1 : ov_ds ov_m61.2.1 10 [.lcmp] = true := by decide +kernel
theorem b_61_14_2 : ov_ds ov_m61.2.1 14 [.iload_n 0, .i2l] = true := by decide +kernel
theorem b_61_16_1 : ov_ds ov_m61.2.1 16 [.lload_n 2] = true := by decide +kernel
theorem b_61_18_2 : ov_ds ov_m61.2.1 18 [.iload_n 1, .i2l] = true := by decide +kernel
theorem b_61_20_2 : ov_ds ov_m61.2.1 20 [.lmul, .l2i] = true := by decide +kernel
abbrev P_fReader_fail_3 (F : ov_H) (z : ov_Z) (h : ov_H) (t : Int → Int) (m : Int) (p : Int) (k : Int) : Option ov_V → ov_Z → ov_H → Prop := fun r0 z' h' => ∃ r : Int, r0 = some (ov_i r) ∧ ov_I F z' h' ∧ (∀ a : Int, a ≠ 3 → h' a = h a) ∧ ((r = 0 ∧ ((h' 3 2) = k + 16 * p ∧ (h' 3 1) = (h 3 1))))
set_option maxHeartbeats 4000000 in
theorem c_fReader_fail_3 {u : ov_U} {F : ov_H} (t : Int → Int) (m : Int) (p : Int) {z : ov_Z} {h : ov_H} (d : Nat) (hd : 0 ≤ d) (U : ov_cap u) (I : ov_I F z h) (hw : ov_kw 8 F) (k : Int) (g_k : ov_g k) (p0 : 1 ≤ k ∧ k ≤ 5) (et : (h 2) = t) (tc : pt_TC t m (h 1) p) : ov_T u d ov_m52 [ov_r 3, ov_i k] z h (P_fReader_fail_3 F z h t m p k) := by
  refine ov_en rfl (Nat.le_of_ble_eq_true rfl) ?_
  show ov_R u d ov_m52 0 [(0, ov_r 3), (1, ov_i k)] [] z h (P_fReader_fail_3 F z h t m p k)
  have tb := pt_TC_b tc
  refine ov_blk (ls2 := [(0, ov_r 3), (1, ov_i k)]) (st2 := [ov_r 3, ov_i 16, ov_i k, ov_r 3]) (pc2 := 5) b_52_0_4 rfl rfl ?_
  refine ov_getf (v := ov_r 1) d_52_5 fl_Reader_9 (zb_3 I) (zs_3 I) (congrArg ov_r (rg_3_0 I)) ?_
  have e1 : h 1 3 = p := (pt_TC_p tc)
  refine ov_getf (v := ov_i p) d_52_8 fl_Reader_263 (zb_1 I) (zs_1 I) (congrArg ov_i e1) ?_
  have g2 := rg_1_3 I
  rw [e1] at g2
  refine ov_blk (ls2 := [(0, ov_r 3), (1, ov_i k)]) (st2 := [ov_i (k + (16 * p)), ov_r 3]) (pc2 := 13) b_52_11_2 rfl rfl ?_
  refine ov_putf (x := (k + (16 * p))) d_52_13 fl_Reader_24 (zb_3 I) (zs_3 I) rfl nk_0 rfl ?_
  have I3 := up_3_2 (x := (k + (16 * p))) I (by omega) (hw 3 (by decide +kernel))
  show ov_R u d ov_m52 16 [(0, ov_r 3), (1, ov_i k)] [] z (ov_up h 3 2 (k + (16 * p))) (P_fReader_fail_3 F z h t m p k)
  refine ov_blk (ls2 := [(0, ov_r 3), (1, ov_i k)]) (st2 := [ov_i 0]) (pc2 := 17) b_52_16_1 rfl rfl ?_
  exact ov_retz (st := []) d_52_17 rfl (by omega) ⟨_, rfl, I3, (fun a ca => Eq.trans (by show (ov_up h 3 2 (k + (16 * p))) a = h a; rw [ov_up_ne (by omega)]) rfl), ⟨rfl, (by show (k + (16 * p)) = k + 16 * p ∧ (h 3 1) = (h 3 1); omega)⟩⟩
abbrev P_fReader_isNumber_3 (F : ov_H) (z : ov_Z) (h : ov_H) (t : Int → Int) (m : Int) (p : Int) (a : Int) (b : Int) : Option ov_V → ov_Z → ov_H → Prop := fun r0 z' h' => ∃ r : Int, r0 = some (ov_i r) ∧ ov_I F z' h' ∧ (∀ a : Int, a ≠ 3 → h' a = h a) ∧ ((r = 0 ∧ ((h' 3 2) = (pt_fN t m a b p) ∧ 1 ≤ (pt_fN t m a b p) ∧ (h' 3 1) = (h 3 1))) ∨ (r = 1 ∧ ((pt_fN t m a b p) = 0 ∧ pt_ty t m p = 3 ∧ a ≤ (pt_nm t m p) ∧ (pt_nm t m p) ≤ b ∧ (h' 3 1) = (h 3 1) ∧ (h' 3 2) = (h 3 2))))
set_option maxHeartbeats 4000000 in
theorem c_fReader_isNumber_3 {u : ov_U} {F : ov_H} (t : Int → Int) (m : Int) (p : Int) {z : ov_Z} {h : ov_H} (d : Nat) (hd : 1 ≤ d) (U : ov_cap u) (I : ov_I F z h) (hw : ov_kw 8 F) (a : Int) (b : Int) (g_a : ov_g a) (g_b : ov_g b) (et : (h 2) = t) (tc : pt_TC t m (h 1) p) : ov_T u d ov_m54 [ov_r 3, ov_i a, ov_i b] z h (P_fReader_isNumber_3 F z h t m p a b) := by
  refine ov_en rfl (Nat.le_of_ble_eq_true rfl) ?_
  show ov_R u d ov_m54 0 [(0, ov_r 3), (1, ov_i a), (2, ov_i b)] [] z h (P_fReader_isNumber_3 F z h t m p a b)
  have tb := pt_TC_b tc
  refine ov_blk (ls2 := [(0, ov_r 3), (1, ov_i a), (2, ov_i b)]) (st2 := [ov_r 3]) (pc2 := 1) b_54_0_1 rfl rfl ?_
  refine ov_getf (v := ov_r 1) d_54_1 fl_Reader_9 (zb_3 I) (zs_3 I) (congrArg ov_r (rg_3_0 I)) ?_
  have e1 : h 1 2 = (pt_ty t m p) := (pt_TC_t tc)
  refine ov_getf (v := ov_i (pt_ty t m p)) d_54_4 fl_Reader_37 (zb_1 I) (zs_1 I) (congrArg ov_i e1) ?_
  have g2 := rg_1_2 I
  rw [e1] at g2
  refine ov_blk (ls2 := [(0, ov_r 3), (1, ov_i a), (2, ov_i b)]) (st2 := [ov_i 3, ov_i (pt_ty t m p)]) (pc2 := 8) b_54_7_1 rfl rfl ?_
  refine ov_iceq (tgt := 17) d_54_8 (by decide) (by omega) (by omega) (fun c3 => ?_) (fun c3 => ?_)
  · skip
    refine ov_blk (ls2 := [(0, ov_r 3), (1, ov_i a), (2, ov_i b)]) (st2 := [ov_r 3]) (pc2 := 18) b_54_17_1 rfl rfl ?_
    refine ov_getf (v := ov_r 1) d_54_18 fl_Reader_9 (zb_3 I) (zs_3 I) (congrArg ov_r (rg_3_0 I)) ?_
    have e4 : h 1 4 = (pt_nm t m p) := (pt_TC_n tc (by omega))
    refine ov_getf (v := ov_i (pt_nm t m p)) d_54_21 fl_Reader_146 (zb_1 I) (zs_1 I) (congrArg ov_i e4) ?_
    have g5 := rg_1_4 I
    rw [e4] at g5
    refine ov_blk (ls2 := [(0, ov_r 3), (1, ov_i a), (2, ov_i b)]) (st2 := [ov_i a, ov_i (pt_nm t m p)]) (pc2 := 25) b_54_24_1 rfl rfl ?_
    refine ov_iclt (tgt := 39) d_54_25 (by decide) (by omega) (by omega) (fun c6 => ?_) (fun c6 => ?_)
    · skip
      refine ov_blk (ls2 := [(0, ov_r 3), (1, ov_i a), (2, ov_i b)]) (st2 := [ov_i 4, ov_r 3]) (pc2 := 41) b_54_39_2 rfl rfl ?_
      refine ov_cV (as := [ov_i 4]) (st := []) (d2 := d - 1) d_54_41 lk_Reader_58 rfl (Nat.le_of_ble_eq_true rfl) (c := 6) (zb_3 I) (zs_3 I) ⟨by decide, rfl⟩ (by omega) (c_fReader_fail_3 t m p (d - 1) (by omega) U I (ov_kws hw (by decide +kernel)) 4 (by omega) (by show 1 ≤ (4 : Int) ∧ (4 : Int) ≤ 5; omega) (show h 2 = t from Eq.trans (show h 2 = h 2 from rfl) et) tc) ?_
      rintro _ z8 h9 ⟨v7, rfl, I10, y11, y12⟩
      have E13 : h9 1 = h 1 := Eq.trans (y11 1 (by decide)) (show h 1 = h 1 from rfl)
      have E14 : h9 2 = h 2 := Eq.trans (y11 2 (by decide)) (show h 2 = h 2 from rfl)
      have fr15 : ∀ a : Int, a ≠ 3 → h9 a = h a := fun a ca => Eq.trans (y11 a (by omega)) rfl
      rcases y12 with ⟨rfl, f16⟩
      · skip
        show ov_R u d ov_m54 44 [(0, ov_r 3), (1, ov_i a), (2, ov_i b)] [ov_i 0] z8 h9 (P_fReader_isNumber_3 F z h t m p a b)
        have f17 : (h9 3 2) = (4 : Int) + 16 * p ∧ (h9 3 1) = (h 3 1) := f16
        clear f16
        refine ov_ifeq (tgt := 51) d_54_44 (by decide) (by omega) (fun c18 => ?_) (fun c18 => ?_)
        · skip
          refine ov_blk (ls2 := [(0, ov_r 3), (1, ov_i a), (2, ov_i b)]) (st2 := [ov_i 0]) (pc2 := 52) b_54_51_1 rfl rfl ?_
          exact ov_retz (st := []) d_54_52 rfl (by omega) ⟨_, rfl, I10, (fun a ca => (fr15 a ca)), (Or.inl ⟨rfl, (by show (h9 3 2) = (pt_fN t m a b p) ∧ 1 ≤ (pt_fN t m a b p) ∧ (h9 3 1) = (h 3 1); unfold pt_fN; (repeat' split) <;> omega)⟩)⟩
        · omega
    · skip
      refine ov_blk (ls2 := [(0, ov_r 3), (1, ov_i a), (2, ov_i b)]) (st2 := [ov_r 3]) (pc2 := 29) b_54_28_1 rfl rfl ?_
      refine ov_getf (v := ov_r 1) d_54_29 fl_Reader_9 (zb_3 I) (zs_3 I) (congrArg ov_r (rg_3_0 I)) ?_
      have e19 : h 1 4 = (pt_nm t m p) := (pt_TC_n tc (by omega))
      refine ov_getf (v := ov_i (pt_nm t m p)) d_54_32 fl_Reader_146 (zb_1 I) (zs_1 I) (congrArg ov_i e19) ?_
      refine ov_blk (ls2 := [(0, ov_r 3), (1, ov_i a), (2, ov_i b)]) (st2 := [ov_i b, ov_i (pt_nm t m p)]) (pc2 := 36) b_54_35_1 rfl rfl ?_
      refine ov_icle (tgt := 47) d_54_36 (by decide) (by omega) (by omega) (fun c20 => ?_) (fun c20 => ?_)
      · skip
        refine ov_blk (ls2 := [(0, ov_r 3), (1, ov_i a), (2, ov_i b)]) (st2 := [ov_i 1]) (pc2 := 48) b_54_47_1 rfl rfl ?_
        refine ov_goto (tgt := 52) d_54_48 (by decide) ?_
        exact ov_retz (st := []) d_54_52 rfl (by omega) ⟨_, rfl, I, (fun a ca => rfl), (Or.inr ⟨rfl, (by show (pt_fN t m a b p) = 0 ∧ pt_ty t m p = 3 ∧ a ≤ (pt_nm t m p) ∧ (pt_nm t m p) ≤ b ∧ (h 3 1) = (h 3 1) ∧ (h 3 2) = (h 3 2); unfold pt_fN; (repeat' split) <;> omega)⟩)⟩
      · skip
        refine ov_blk (ls2 := [(0, ov_r 3), (1, ov_i a), (2, ov_i b)]) (st2 := [ov_i 4, ov_r 3]) (pc2 := 41) b_54_39_2 rfl rfl ?_
        refine ov_cV (as := [ov_i 4]) (st := []) (d2 := d - 1) d_54_41 lk_Reader_58 rfl (Nat.le_of_ble_eq_true rfl) (c := 6) (zb_3 I) (zs_3 I) ⟨by decide, rfl⟩ (by omega) (c_fReader_fail_3 t m p (d - 1) (by omega) U I (ov_kws hw (by decide +kernel)) 4 (by omega) (by show 1 ≤ (4 : Int) ∧ (4 : Int) ≤ 5; omega) (show h 2 = t from Eq.trans (show h 2 = h 2 from rfl) et) tc) ?_
        rintro _ z22 h23 ⟨v21, rfl, I24, y25, y26⟩
        have E27 : h23 1 = h 1 := Eq.trans (y25 1 (by decide)) (show h 1 = h 1 from rfl)
        have E28 : h23 2 = h 2 := Eq.trans (y25 2 (by decide)) (show h 2 = h 2 from rfl)
        have fr29 : ∀ a : Int, a ≠ 3 → h23 a = h a := fun a ca => Eq.trans (y25 a (by omega)) rfl
        rcases y26 with ⟨rfl, f30⟩
        · skip
          show ov_R u d ov_m54 44 [(0, ov_r 3), (1, ov_i a), (2, ov_i b)] [ov_i 0] z22 h23 (P_fReader_isNumber_3 F z h t m p a b)
          have f31 : (h23 3 2) = (4 : Int) + 16 * p ∧ (h23 3 1) = (h 3 1) := f30
          clear f30
          refine ov_ifeq (tgt := 51) d_54_44 (by decide) (by omega) (fun c32 => ?_) (fun c32 => ?_)
          · skip
            refine ov_blk (ls2 := [(0, ov_r 3), (1, ov_i a), (2, ov_i b)]) (st2 := [ov_i 0]) (pc2 := 52) b_54_51_1 rfl rfl ?_
            exact ov_retz (st := []) d_54_52 rfl (by omega) ⟨_, rfl, I24, (fun a ca => (fr29 a ca)), (Or.inl ⟨rfl, (by show (h23 3 2) = (pt_fN t m a b p) ∧ 1 ≤ (pt_fN t m a b p) ∧ (h23 3 1) = (h 3 1); unfold pt_fN; (repeat' split) <;> omega)⟩)⟩
          · omega
  · skip
    refine ov_blk (ls2 := [(0, ov_r 3), (1, ov_i a), (2, ov_i b)]) (st2 := [ov_i 1, ov_r 3]) (pc2 := 13) b_54_11_2 rfl rfl ?_
    refine ov_cV (as := [ov_i 1]) (st := []) (d2 := d - 1) d_54_13 lk_Reader_58 rfl (Nat.le_of_ble_eq_true rfl) (c := 6) (zb_3 I) (zs_3 I) ⟨by decide, rfl⟩ (by omega) (c_fReader_fail_3 t m p (d - 1) (by omega) U I (ov_kws hw (by decide +kernel)) 1 (by omega) (by show 1 ≤ (1 : Int) ∧ (1 : Int) ≤ 5; omega) (show h 2 = t from Eq.trans (show h 2 = h 2 from rfl) et) tc) ?_
    rintro _ z34 h35 ⟨v33, rfl, I36, y37, y38⟩
    have E39 : h35 1 = h 1 := Eq.trans (y37 1 (by decide)) (show h 1 = h 1 from rfl)
    have E40 : h35 2 = h 2 := Eq.trans (y37 2 (by decide)) (show h 2 = h 2 from rfl)
    have fr41 : ∀ a : Int, a ≠ 3 → h35 a = h a := fun a ca => Eq.trans (y37 a (by omega)) rfl
    rcases y38 with ⟨rfl, f42⟩
    · skip
      show ov_R u d ov_m54 16 [(0, ov_r 3), (1, ov_i a), (2, ov_i b)] [ov_i 0] z34 h35 (P_fReader_isNumber_3 F z h t m p a b)
      have f43 : (h35 3 2) = (1 : Int) + 16 * p ∧ (h35 3 1) = (h 3 1) := f42
      clear f42
      exact ov_retz (st := []) d_54_16 rfl (by omega) ⟨_, rfl, I36, (fun a ca => (fr41 a ca)), (Or.inl ⟨rfl, (by show (h35 3 2) = (pt_fN t m a b p) ∧ 1 ≤ (pt_fN t m a b p) ∧ (h35 3 1) = (h 3 1); unfold pt_fN; (repeat' split) <;> omega)⟩)⟩
abbrev P_fReader_takeNumber_3 (F : ov_H) (z : ov_Z) (h : ov_H) (t : Int → Int) (m : Int) (p : Int) (a : Int) (b : Int) : Option ov_V → ov_Z → ov_H → Prop := fun r0 z' h' => ∃ r : Int, r0 = some (ov_i r) ∧ ov_I F z' h' ∧ (∀ a : Int, a ≠ 1 ∧ a ≠ 3 → h' a = h a) ∧ ((r = 0 ∧ ((h' 3 2) = (pt_fN t m a b p) ∧ 1 ≤ (pt_fN t m a b p) ∧ (h' 3 1) = (h 3 1))) ∨ (r = 1 ∧ ((pt_fN t m a b p) = 0 ∧ a ≤ (pt_nm t m p) ∧ (pt_nm t m p) ≤ b ∧ (h' 3 3) = (pt_nm t m p) ∧ 0 ≤ (pt_nm t m p) ∧ (pt_nm t m p) ≤ 9999 ∧ (h' 3 1) = (h 3 1) ∧ (h' 3 2) = (h 3 2)) ∧ (pt_TC t m (h' 1) (pt_nt t m p))))
set_option maxHeartbeats 4000000 in
theorem c_fReader_takeNumber_3 {u : ov_U} {F : ov_H} (t : Int → Int) (m : Int) (p : Int) {z : ov_Z} {h : ov_H} (d : Nat) (hd : 5 ≤ d) (U : ov_cap u) (I : ov_I F z h) (hw : ov_kw 10 F) (a : Int) (b : Int) (g_a : ov_g a) (g_b : ov_g b) (et : (h 2) = t) (tc : pt_TC t m (h 1) p) : ov_T u d ov_m53 [ov_r 3, ov_i a, ov_i b] z h (P_fReader_takeNumber_3 F z h t m p a b) := by
  refine ov_en rfl (Nat.le_of_ble_eq_true rfl) ?_
  show ov_R u d ov_m53 0 [(0, ov_r 3), (1, ov_i a), (2, ov_i b)] [] z h (P_fReader_takeNumber_3 F z h t m p a b)
  have tb := pt_TC_b tc
  refine ov_blk (ls2 := [(0, ov_r 3), (1, ov_i a), (2, ov_i b)]) (st2 := [ov_i b, ov_i a, ov_r 3]) (pc2 := 3) b_53_0_3 rfl rfl ?_
  refine ov_cV (as := [ov_i a, ov_i b]) (st := []) (d2 := d - 1) d_53_3 lk_Reader_143 rfl (Nat.le_of_ble_eq_true rfl) (c := 6) (zb_3 I) (zs_3 I) ⟨by decide, rfl⟩ (by omega) (c_fReader_isNumber_3 t m p (d - 1) (by omega) U I (ov_kws hw (by decide +kernel)) a b (by omega) (by omega) (show h 2 = t from Eq.trans (show h 2 = h 2 from rfl) et) tc) ?_
  rintro _ z2 h3 ⟨v1, rfl, I4, y5, y6⟩
  have E7 : h3 1 = h 1 := Eq.trans (y5 1 (by decide)) (show h 1 = h 1 from rfl)
  have E8 : h3 2 = h 2 := Eq.trans (y5 2 (by decide)) (show h 2 = h 2 from rfl)
  have fr9 : ∀ a : Int, a ≠ 1 ∧ a ≠ 3 → h3 a = h a := fun a ca => Eq.trans (y5 a (by omega)) rfl
  rcases y6 with ⟨rfl, f10⟩ | ⟨rfl, f11⟩
  · skip
    show ov_R u d ov_m53 6 [(0, ov_r 3), (1, ov_i a), (2, ov_i b)] [ov_i 0] z2 h3 (P_fReader_takeNumber_3 F z h t m p a b)
    have f12 : (h3 3 2) = (pt_fN t m a b p) ∧ 1 ≤ (pt_fN t m a b p) ∧ (h3 3 1) = (h 3 1) := f10
    clear f10
    refine ov_ifne (tgt := 11) d_53_6 (by decide) (by omega) (fun c13 => ?_) (fun c13 => ?_)
    · omega
    · skip
      refine ov_blk (ls2 := [(0, ov_r 3), (1, ov_i a), (2, ov_i b)]) (st2 := [ov_i 0]) (pc2 := 10) b_53_9_1 rfl rfl ?_
      exact ov_retz (st := []) d_53_10 rfl (by omega) ⟨_, rfl, I4, (fun a ca => (fr9 a ca)), (Or.inl ⟨rfl, (by show (h3 3 2) = (pt_fN t m a b p) ∧ 1 ≤ (pt_fN t m a b p) ∧ (h3 3 1) = (h 3 1); omega)⟩)⟩
  · skip
    show ov_R u d ov_m53 6 [(0, ov_r 3), (1, ov_i a), (2, ov_i b)] [ov_i 1] z2 h3 (P_fReader_takeNumber_3 F z h t m p a b)
    have f14 : (pt_fN t m a b p) = 0 ∧ pt_ty t m p = 3 ∧ a ≤ (pt_nm t m p) ∧ (pt_nm t m p) ≤ b ∧ (h3 3 1) = (h 3 1) ∧ (h3 3 2) = (h 3 2) := f11
    clear f11
    refine ov_ifne (tgt := 11) d_53_6 (by decide) (by omega) (fun c15 => ?_) (fun c15 => ?_)
    · skip
      have gn := pt_nm_b (t := t) (m := m) (p := p) (by omega)
      refine ov_blk (ls2 := [(0, ov_r 3), (1, ov_i a), (2, ov_i b)]) (st2 := [ov_r 3, ov_r 3]) (pc2 := 13) b_53_11_2 rfl rfl ?_
      refine ov_getf (v := ov_r 1) d_53_13 fl_Reader_9 (zb_3 I4) (zs_3 I4) (congrArg ov_r (rg_3_0 I4)) ?_
      have e16 : h3 1 4 = (pt_nm t m p) := Eq.trans (congrFun (show h3 1 = h 1 from E7) 4) (pt_TC_n tc (by omega))
      refine ov_getf (v := ov_i (pt_nm t m p)) d_53_16 fl_Reader_146 (zb_1 I4) (zs_1 I4) (congrArg ov_i e16) ?_
      have g17 := rg_1_4 I4
      rw [e16] at g17
      refine ov_putf (x := (pt_nm t m p)) d_53_19 fl_Reader_81 (zb_3 I4) (zs_3 I4) rfl nk_0 rfl ?_
      have I18 := up_3_3 (x := (pt_nm t m p)) I4 (by omega) (hw 3 (by decide +kernel))
      show ov_R u d ov_m53 22 [(0, ov_r 3), (1, ov_i a), (2, ov_i b)] [] z2 (ov_up h3 3 3 (pt_nm t m p)) (P_fReader_takeNumber_3 F z h t m p a b)
      refine ov_blk (ls2 := [(0, ov_r 3), (1, ov_i a), (2, ov_i b)]) (st2 := [ov_r 3]) (pc2 := 23) b_53_22_1 rfl rfl ?_
      refine ov_getf (v := ov_r 1) d_53_23 fl_Reader_9 (zb_3 I18) (zs_3 I18) (congrArg ov_r (rg_3_0 I18)) ?_
      refine ov_cV (as := []) (st := []) (d2 := d - 1) d_53_26 lk_Reader_75 rfl (Nat.le_of_ble_eq_true rfl) (c := 8) (zb_1 I18) (zs_1 I18) ⟨by decide, rfl⟩ (by omega) (c_fTape_advance_1_t t m p (d - 1) (by omega) U I18 (ov_kws hw (by decide +kernel)) (show (ov_up h3 3 3 (pt_nm t m p)) 2 = t from Eq.trans (show (ov_up h3 3 3 (pt_nm t m p)) 2 = h 2 from E8) et) (by rw [show (ov_up h3 3 3 (pt_nm t m p)) 1 = h 1 from E7]; exact tc)) ?_
      rintro _ z19 h20 ⟨rfl, I21, y22, y23⟩
      have E24 : h20 2 = h 2 := Eq.trans (y22 2 (by decide)) (show (ov_up h3 3 3 (pt_nm t m p)) 2 = h 2 from E8)
      have R26 : h20 3 = (ov_rs (h3 3) 3 (pt_nm t m p)) := Eq.trans (y22 3 (by decide)) (Eq.trans (ov_up_row h3 3 3 (pt_nm t m p)) (congrArg (fun f => ov_rs f 3 (pt_nm t m p)) rfl))
      have fr27 : ∀ a : Int, a ≠ 1 ∧ a ≠ 3 → h20 a = h a := fun a ca => Eq.trans (y22 a (by omega)) (Eq.trans (by show (ov_up h3 3 3 (pt_nm t m p)) a = h3 a; rw [ov_up_ne (by omega)]) (fr9 a ca))
      have y23_ : pt_TC t m (h20 1) (pt_nt t m p) := y23
      have g28 := pt_TC_b y23_
      have g29 := pt_nt_le (t := t) (n := m) (p := p) (by omega)
      show ov_R u d ov_m53 29 [(0, ov_r 3), (1, ov_i a), (2, ov_i b)] [] z19 h20 (P_fReader_takeNumber_3 F z h t m p a b)
      refine ov_blk (ls2 := [(0, ov_r 3), (1, ov_i a), (2, ov_i b)]) (st2 := [ov_i 1]) (pc2 := 30) b_53_29_1 rfl rfl ?_
      have q30 : h20 3 1 = (h3 3) 1 := by rw [show h20 3 = (ov_rs (h3 3) 3 (pt_nm t m p)) from R26, ov_rs_ne (by decide)]
      have q31 : h20 3 2 = (h3 3) 2 := by rw [show h20 3 = (ov_rs (h3 3) 3 (pt_nm t m p)) from R26, ov_rs_ne (by decide)]
      have q32 : h20 3 3 = (pt_nm t m p) := by rw [show h20 3 = (ov_rs (h3 3) 3 (pt_nm t m p)) from R26, ov_rs_eq]
      exact ov_retz (st := []) d_53_30 rfl (by omega) ⟨_, rfl, I21, (fun a ca => (fr27 a ca)), (Or.inr ⟨rfl, (by show (pt_fN t m a b p) = 0 ∧ a ≤ (pt_nm t m p) ∧ (pt_nm t m p) ≤ b ∧ (h20 3 3) = (pt_nm t m p) ∧ 0 ≤ (pt_nm t m p) ∧ (pt_nm t m p) ≤ 9999 ∧ (h20 3 1) = (h 3 1) ∧ (h20 3 2) = (h 3 2); omega), y23_⟩)⟩
    · omega
abbrev P_fReader_takeSign_3 (F : ov_H) (z : ov_Z) (h : ov_H) (t : Int → Int) (m : Int) (p : Int) (c : Int) : Option ov_V → ov_Z → ov_H → Prop := fun r0 z' h' => ∃ r : Int, r0 = some (ov_i r) ∧ ov_I F z' h' ∧ (∀ a : Int, a ≠ 1 ∧ a ≠ 3 → h' a = h a) ∧ ((r = 0 ∧ ((h' 3 2) = (pt_fS t m c p) ∧ 1 ≤ (pt_fS t m c p) ∧ (h' 3 2) = 1 + 16 * p ∧ pt_is t m p c = 0 ∧ (h' 3 1) = (h 3 1))) ∨ (r = 1 ∧ ((pt_fS t m c p) = 0 ∧ pt_is t m p c = 1 ∧ (h' 3 1) = (h 3 1) ∧ (h' 3 2) = (h 3 2)) ∧ (pt_TC t m (h' 1) (pt_nt t m p))))
set_option maxHeartbeats 4000000 in
theorem c_fReader_takeSign_3 {u : ov_U} {F : ov_H} (t : Int → Int) (m : Int) (p : Int) {z : ov_Z} {h : ov_H} (d : Nat) (hd : 5 ≤ d) (U : ov_cap u) (I : ov_I F z h) (hw : ov_kw 10 F) (c : Int) (g_c : 0 ≤ c ∧ c ≤ 65535) (et : (h 2) = t) (tc : pt_TC t m (h 1) p) : ov_T u d ov_m55 [ov_r 3, ov_i c] z h (P_fReader_takeSign_3 F z h t m p c) := by
  refine ov_en rfl (Nat.le_of_ble_eq_true rfl) ?_
  show ov_R u d ov_m55 0 [(0, ov_r 3), (1, ov_i c)] [] z h (P_fReader_takeSign_3 F z h t m p c)
  have tb := pt_TC_b tc
  refine ov_blk (ls2 := [(0, ov_r 3), (1, ov_i c)]) (st2 := [ov_r 3]) (pc2 := 1) b_55_0_1 rfl rfl ?_
  refine ov_getf (v := ov_r 1) d_55_1 fl_Reader_9 (zb_3 I) (zs_3 I) (congrArg ov_r (rg_3_0 I)) ?_
  refine ov_blk (ls2 := [(0, ov_r 3), (1, ov_i c)]) (st2 := [ov_i c, ov_r 1]) (pc2 := 5) b_55_4_1 rfl rfl ?_
  refine ov_cV (as := [ov_i c]) (st := []) (d2 := d - 1) d_55_5 lk_Reader_231 rfl (Nat.le_of_ble_eq_true rfl) (c := 8) (zb_1 I) (zs_1 I) ⟨by decide, rfl⟩ (by omega) (c_fTape_isSign_1 t m p (d - 1) (by omega) U I c (by omega) tc) ?_
  rintro _ _ _ ⟨v1, rfl, rfl, rfl, y2⟩
  rcases y2 with ⟨rfl, f3⟩ | ⟨rfl, f4⟩
  · skip
    show ov_R u d ov_m55 8 [(0, ov_r 3), (1, ov_i c)] [ov_i 0] z h (P_fReader_takeSign_3 F z h t m p c)
    have f5 : pt_is t m p c = 0 := f3
    clear f3
    refine ov_ifne (tgt := 17) d_55_8 (by decide) (by omega) (fun c6 => ?_) (fun c6 => ?_)
    · omega
    · skip
      refine ov_blk (ls2 := [(0, ov_r 3), (1, ov_i c)]) (st2 := [ov_i 1, ov_r 3]) (pc2 := 13) b_55_11_2 rfl rfl ?_
      refine ov_cV (as := [ov_i 1]) (st := []) (d2 := d - 1) d_55_13 lk_Reader_58 rfl (Nat.le_of_ble_eq_true rfl) (c := 6) (zb_3 I) (zs_3 I) ⟨by decide, rfl⟩ (by omega) (c_fReader_fail_3 t m p (d - 1) (by omega) U I (ov_kws hw (by decide +kernel)) 1 (by omega) (by show 1 ≤ (1 : Int) ∧ (1 : Int) ≤ 5; omega) (show h 2 = t from Eq.trans (show h 2 = h 2 from rfl) et) tc) ?_
      rintro _ z8 h9 ⟨v7, rfl, I10, y11, y12⟩
      have E13 : h9 1 = h 1 := Eq.trans (y11 1 (by decide)) (show h 1 = h 1 from rfl)
      have E14 : h9 2 = h 2 := Eq.trans (y11 2 (by decide)) (show h 2 = h 2 from rfl)
      have fr15 : ∀ a : Int, a ≠ 1 ∧ a ≠ 3 → h9 a = h a := fun a ca => Eq.trans (y11 a (by omega)) rfl
      rcases y12 with ⟨rfl, f16⟩
      · skip
        show ov_R u d ov_m55 16 [(0, ov_r 3), (1, ov_i c)] [ov_i 0] z8 h9 (P_fReader_takeSign_3 F z h t m p c)
        have f17 : (h9 3 2) = (1 : Int) + 16 * p ∧ (h9 3 1) = (h 3 1) := f16
        clear f16
        exact ov_retz (st := []) d_55_16 rfl (by omega) ⟨_, rfl, I10, (fun a ca => (fr15 a ca)), (Or.inl ⟨rfl, (by show (h9 3 2) = (pt_fS t m c p) ∧ 1 ≤ (pt_fS t m c p) ∧ (h9 3 2) = 1 + 16 * p ∧ pt_is t m p c = 0 ∧ (h9 3 1) = (h 3 1); unfold pt_fS; (repeat' split) <;> omega)⟩)⟩
  · skip
    show ov_R u d ov_m55 8 [(0, ov_r 3), (1, ov_i c)] [ov_i 1] z h (P_fReader_takeSign_3 F z h t m p c)
    have f18 : pt_is t m p c = 1 ∧ pt_ty t m p = 4 ∧ t p = c := f4
    clear f4
    refine ov_ifne (tgt := 17) d_55_8 (by decide) (by omega) (fun c19 => ?_) (fun c19 => ?_)
    · skip
      refine ov_blk (ls2 := [(0, ov_r 3), (1, ov_i c)]) (st2 := [ov_r 3]) (pc2 := 18) b_55_17_1 rfl rfl ?_
      refine ov_getf (v := ov_r 1) d_55_18 fl_Reader_9 (zb_3 I) (zs_3 I) (congrArg ov_r (rg_3_0 I)) ?_
      refine ov_cV (as := []) (st := []) (d2 := d - 1) d_55_21 lk_Reader_75 rfl (Nat.le_of_ble_eq_true rfl) (c := 8) (zb_1 I) (zs_1 I) ⟨by decide, rfl⟩ (by omega) (c_fTape_advance_1_t t m p (d - 1) (by omega) U I (ov_kws hw (by decide +kernel)) (show h 2 = t from Eq.trans (show h 2 = h 2 from rfl) et) tc) ?_
      rintro _ z20 h21 ⟨rfl, I22, y23, y24⟩
      have E25 : h21 2 = h 2 := Eq.trans (y23 2 (by decide)) (show h 2 = h 2 from rfl)
      have E26 : h21 3 = h 3 := Eq.trans (y23 3 (by decide)) (show h 3 = h 3 from rfl)
      have fr27 : ∀ a : Int, a ≠ 1 ∧ a ≠ 3 → h21 a = h a := fun a ca => Eq.trans (y23 a (by omega)) rfl
      have y24_ : pt_TC t m (h21 1) (pt_nt t m p) := y24
      have g28 := pt_TC_b y24_
      have g29 := pt_nt_le (t := t) (n := m) (p := p) (by omega)
      show ov_R u d ov_m55 24 [(0, ov_r 3), (1, ov_i c)] [] z20 h21 (P_fReader_takeSign_3 F z h t m p c)
      refine ov_blk (ls2 := [(0, ov_r 3), (1, ov_i c)]) (st2 := [ov_i 1]) (pc2 := 25) b_55_24_1 rfl rfl ?_
      have cf30 : h21 3 1 = h 3 1 := congrFun (E26) 1
      have cf31 : h21 3 2 = h 3 2 := congrFun (E26) 2
      exact ov_retz (st := []) d_55_25 rfl (by omega) ⟨_, rfl, I22, (fun a ca => (fr27 a ca)), (Or.inr ⟨rfl, (by show (pt_fS t m c p) = 0 ∧ pt_is t m p c = 1 ∧ (h21 3 1) = (h 3 1) ∧ (h21 3 2) = (h 3 2); unfold pt_fS; (repeat' split) <;> omega), y24_⟩)⟩
    · omega
abbrev P_fReader_takeWord_3 (F : ov_H) (z : ov_Z) (h : ov_H) (t : Int → Int) (m : Int) (p : Int) (w : Int) : Option ov_V → ov_Z → ov_H → Prop := fun r0 z' h' => ∃ r : Int, r0 = some (ov_i r) ∧ ov_I F z' h' ∧ (∀ a : Int, a ≠ 1 ∧ a ≠ 3 → h' a = h a) ∧ ((r = 0 ∧ ((h' 3 2) = (pt_fW t m w p) ∧ 1 ≤ (pt_fW t m w p) ∧ pt_iw t m p w = 0 ∧ (h' 3 1) = (h 3 1))) ∨ (r = 1 ∧ ((pt_fW t m w p) = 0 ∧ pt_iw t m p w = 1 ∧ (h' 3 1) = (h 3 1) ∧ (h' 3 2) = (h 3 2)) ∧ (pt_TC t m (h' 1) (pt_nt t m p))))
set_option maxHeartbeats 4000000 in
theorem c_fReader_takeWord_3 {u : ov_U} {F : ov_H} (t : Int → Int) (m : Int) (p : Int) {z : ov_Z} {h : ov_H} (d : Nat) (hd : 5 ≤ d) (U : ov_cap u) (I : ov_I F z h) (hw : ov_kw 10 F) (w : Int) (p0 : -9223372036854775808 ≤ w ∧ w ≤ 9223372036854775807) (et : (h 2) = t) (tc : pt_TC t m (h 1) p) : ov_T u d ov_m50 [ov_r 3, ov_l w] z h (P_fReader_takeWord_3 F z h t m p w) := by
  refine ov_en rfl (Nat.le_of_ble_eq_true rfl) ?_
  show ov_R u d ov_m50 0 [(0, ov_r 3), (1, ov_l w)] [] z h (P_fReader_takeWord_3 F z h t m p w)
  have tb := pt_TC_b tc
  refine ov_blk (ls2 := [(0, ov_r 3), (1, ov_l w)]) (st2 := [ov_r 3]) (pc2 := 1) b_50_0_1 rfl rfl ?_
  refine ov_getf (v := ov_r 1) d_50_1 fl_Reader_9 (zb_3 I) (zs_3 I) (congrArg ov_r (rg_3_0 I)) ?_
  refine ov_blk (ls2 := [(0, ov_r 3), (1, ov_l w)]) (st2 := [ov_l w, ov_r 1]) (pc2 := 5) b_50_4_1 rfl rfl ?_
  refine ov_cV (as := [ov_l w]) (st := []) (d2 := d - 1) d_50_5 lk_Reader_110 rfl (Nat.le_of_ble_eq_true rfl) (c := 8) (zb_1 I) (zs_1 I) ⟨by decide, rfl⟩ (by omega) (c_fTape_isWord_1 t m p (d - 1) (by omega) U I w (by show -9223372036854775808 ≤ w ∧ w ≤ 9223372036854775807; omega) tc) ?_
  rintro _ _ _ ⟨v1, rfl, rfl, rfl, y2⟩
  rcases y2 with ⟨rfl, f3⟩ | ⟨rfl, f4⟩
  · skip
    show ov_R u d ov_m50 8 [(0, ov_r 3), (1, ov_l w)] [ov_i 0] z h (P_fReader_takeWord_3 F z h t m p w)
    have f5 : pt_iw t m p w = 0 := f3
    clear f3
    refine ov_ifne (tgt := 17) d_50_8 (by decide) (by omega) (fun c6 => ?_) (fun c6 => ?_)
    · omega
    · skip
      refine ov_blk (ls2 := [(0, ov_r 3), (1, ov_l w)]) (st2 := [ov_i 1, ov_r 3]) (pc2 := 13) b_50_11_2 rfl rfl ?_
      refine ov_cV (as := [ov_i 1]) (st := []) (d2 := d - 1) d_50_13 lk_Reader_58 rfl (Nat.le_of_ble_eq_true rfl) (c := 6) (zb_3 I) (zs_3 I) ⟨by decide, rfl⟩ (by omega) (c_fReader_fail_3 t m p (d - 1) (by omega) U I (ov_kws hw (by decide +kernel)) 1 (by omega) (by show 1 ≤ (1 : Int) ∧ (1 : Int) ≤ 5; omega) (show h 2 = t from Eq.trans (show h 2 = h 2 from rfl) et) tc) ?_
      rintro _ z8 h9 ⟨v7, rfl, I10, y11, y12⟩
      have E13 : h9 1 = h 1 := Eq.trans (y11 1 (by decide)) (show h 1 = h 1 from rfl)
      have E14 : h9 2 = h 2 := Eq.trans (y11 2 (by decide)) (show h 2 = h 2 from rfl)
      have fr15 : ∀ a : Int, a ≠ 1 ∧ a ≠ 3 → h9 a = h a := fun a ca => Eq.trans (y11 a (by omega)) rfl
      rcases y12 with ⟨rfl, f16⟩
      · skip
        show ov_R u d ov_m50 16 [(0, ov_r 3), (1, ov_l w)] [ov_i 0] z8 h9 (P_fReader_takeWord_3 F z h t m p w)
        have f17 : (h9 3 2) = (1 : Int) + 16 * p ∧ (h9 3 1) = (h 3 1) := f16
        clear f16
        exact ov_retz (st := []) d_50_16 rfl (by omega) ⟨_, rfl, I10, (fun a ca => (fr15 a ca)), (Or.inl ⟨rfl, (by show (h9 3 2) = (pt_fW t m w p) ∧ 1 ≤ (pt_fW t m w p) ∧ pt_iw t m p w = 0 ∧ (h9 3 1) = (h 3 1); unfold pt_fW; (repeat' split) <;> omega)⟩)⟩
  · skip
    show ov_R u d ov_m50 8 [(0, ov_r 3), (1, ov_l w)] [ov_i 1] z h (P_fReader_takeWord_3 F z h t m p w)
    have f18 : pt_iw t m p w = 1 ∧ pt_ty t m p = 2 ∧ pt_w256 t m p = w := f4
    clear f4
    refine ov_ifne (tgt := 17) d_50_8 (by decide) (by omega) (fun c19 => ?_) (fun c19 => ?_)
    · skip
      refine ov_blk (ls2 := [(0, ov_r 3), (1, ov_l w)]) (st2 := [ov_r 3]) (pc2 := 18) b_50_17_1 rfl rfl ?_
      refine ov_getf (v := ov_r 1) d_50_18 fl_Reader_9 (zb_3 I) (zs_3 I) (congrArg ov_r (rg_3_0 I)) ?_
      refine ov_cV (as := []) (st := []) (d2 := d - 1) d_50_21 lk_Reader_75 rfl (Nat.le_of_ble_eq_true rfl) (c := 8) (zb_1 I) (zs_1 I) ⟨by decide, rfl⟩ (by omega) (c_fTape_advance_1_t t m p (d - 1) (by omega) U I (ov_kws hw (by decide +kernel)) (show h 2 = t from Eq.trans (show h 2 = h 2 from rfl) et) tc) ?_
      rintro _ z20 h21 ⟨rfl, I22, y23, y24⟩
      have E25 : h21 2 = h 2 := Eq.trans (y23 2 (by decide)) (show h 2 = h 2 from rfl)
      have E26 : h21 3 = h 3 := Eq.trans (y23 3 (by decide)) (show h 3 = h 3 from rfl)
      have fr27 : ∀ a : Int, a ≠ 1 ∧ a ≠ 3 → h21 a = h a := fun a ca => Eq.trans (y23 a (by omega)) rfl
      have y24_ : pt_TC t m (h21 1) (pt_nt t m p) := y24
      have g28 := pt_TC_b y24_
      have g29 := pt_nt_le (t := t) (n := m) (p := p) (by omega)
      show ov_R u d ov_m50 24 [(0, ov_r 3), (1, ov_l w)] [] z20 h21 (P_fReader_takeWord_3 F z h t m p w)
      refine ov_blk (ls2 := [(0, ov_r 3), (1, ov_l w)]) (st2 := [ov_i 1]) (pc2 := 25) b_50_24_1 rfl rfl ?_
      have cf30 : h21 3 1 = h 3 1 := congrFun (E26) 1
      have cf31 : h21 3 2 = h 3 2 := congrFun (E26) 2
      exact ov_retz (st := []) d_50_25 rfl (by omega) ⟨_, rfl, I22, (fun a ca => (fr27 a ca)), (Or.inr ⟨rfl, (by show (pt_fW t m w p) = 0 ∧ pt_iw t m p w = 1 ∧ (h21 3 1) = (h 3 1) ∧ (h21 3 2) = (h 3 2); unfold pt_fW; (repeat' split) <;> omega), y24_⟩)⟩
    · omega
abbrev P_fReader_wayTold_3 (F : ov_H) (z : ov_Z) (h : ov_H) (t : Int → Int) (m : Int) (p : Int) : Option ov_V → ov_Z → ov_H → Prop := fun r0 z' h' => ∃ r : Int, r0 = some (ov_i r) ∧ z = z' ∧ h = h' ∧ r = pt_wt t m p
set_option maxHeartbeats 4000000 in
theorem c_fReader_wayTold_3 {u : ov_U} {F : ov_H} (t : Int → Int) (m : Int) (p : Int) {z : ov_Z} {h : ov_H} (d : Nat) (hd : 1 ≤ d) (U : ov_cap u) (I : ov_I F z h) (tc : pt_TC t m (h 1) p) : ov_T u d ov_m65 [ov_r 3] z h (P_fReader_wayTold_3 F z h t m p) := by
  refine ov_en rfl (Nat.le_of_ble_eq_true rfl) ?_
  show ov_R u d ov_m65 0 [(0, ov_r 3)] [] z h (P_fReader_wayTold_3 F z h t m p)
  have tb := pt_TC_b tc
  refine ov_blk (ls2 := [(0, ov_r 3)]) (st2 := [ov_r 3]) (pc2 := 1) b_65_0_1 rfl rfl ?_
  refine ov_getf (v := ov_r 1) d_65_1 fl_Reader_9 (zb_3 I) (zs_3 I) (congrArg ov_r (rg_3_0 I)) ?_
  refine ov_ldc2 (n := 1870030194) d_65_4 kc_Reader_177 ?_
  refine ov_cV (as := [ov_l 1870030194]) (st := []) (d2 := d - 1) d_65_7 lk_Reader_110 rfl (Nat.le_of_ble_eq_true rfl) (c := 8) (zb_1 I) (zs_1 I) ⟨by decide, rfl⟩ (by omega) (c_fTape_isWord_1 t m p (d - 1) (by omega) U I 1870030194 (by show -9223372036854775808 ≤ (1870030194 : Int) ∧ (1870030194 : Int) ≤ 9223372036854775807; omega) tc) ?_
  rintro _ _ _ ⟨v1, rfl, rfl, rfl, y2⟩
  rcases y2 with ⟨rfl, f3⟩ | ⟨rfl, f4⟩
  · skip
    show ov_R u d ov_m65 10 [(0, ov_r 3)] [ov_i 0] z h (P_fReader_wayTold_3 F z h t m p)
    have f5 : pt_iw t m p (1870030194 : Int) = 0 := f3
    clear f3
    refine ov_ifeq (tgt := 15) d_65_10 (by decide) (by omega) (fun c6 => ?_) (fun c6 => ?_)
    · skip
      refine ov_blk (ls2 := [(0, ov_r 3)]) (st2 := [ov_r 3]) (pc2 := 16) b_65_15_1 rfl rfl ?_
      refine ov_getf (v := ov_r 1) d_65_16 fl_Reader_9 (zb_3 I) (zs_3 I) (congrArg ov_r (rg_3_0 I)) ?_
      refine ov_ldc2 (n := 28526) d_65_19 kc_Reader_249 ?_
      refine ov_cV (as := [ov_l 28526]) (st := []) (d2 := d - 1) d_65_22 lk_Reader_110 rfl (Nat.le_of_ble_eq_true rfl) (c := 8) (zb_1 I) (zs_1 I) ⟨by decide, rfl⟩ (by omega) (c_fTape_isWord_1 t m p (d - 1) (by omega) U I 28526 (by show -9223372036854775808 ≤ (28526 : Int) ∧ (28526 : Int) ≤ 9223372036854775807; omega) tc) ?_
      rintro _ _ _ ⟨v7, rfl, rfl, rfl, y8⟩
      rcases y8 with ⟨rfl, f9⟩ | ⟨rfl, f10⟩
      · skip
        show ov_R u d ov_m65 25 [(0, ov_r 3)] [ov_i 0] z h (P_fReader_wayTold_3 F z h t m p)
        have f11 : pt_iw t m p (28526 : Int) = 0 := f9
        clear f9
        refine ov_ifeq (tgt := 32) d_65_25 (by decide) (by omega) (fun c12 => ?_) (fun c12 => ?_)
        · skip
          refine ov_blk (ls2 := [(0, ov_r 3)]) (st2 := [ov_i (-1)]) (pc2 := 33) b_65_32_1 rfl rfl ?_
          exact ov_reti (st := []) d_65_33 rfl ⟨_, rfl, rfl, rfl, (by show (-1) = pt_wt t m p; unfold pt_wt; (repeat' split) <;> omega)⟩
        · omega
      · skip
        show ov_R u d ov_m65 25 [(0, ov_r 3)] [ov_i 1] z h (P_fReader_wayTold_3 F z h t m p)
        have f13 : pt_iw t m p (28526 : Int) = 1 ∧ pt_ty t m p = 2 ∧ pt_w256 t m p = (28526 : Int) := f10
        clear f10
        refine ov_ifeq (tgt := 32) d_65_25 (by decide) (by omega) (fun c14 => ?_) (fun c14 => ?_)
        · omega
        · skip
          refine ov_blk (ls2 := [(0, ov_r 3)]) (st2 := [ov_i 1]) (pc2 := 29) b_65_28_1 rfl rfl ?_
          refine ov_goto (tgt := 33) d_65_29 (by decide) ?_
          exact ov_reti (st := []) d_65_33 rfl ⟨_, rfl, rfl, rfl, (by show 1 = pt_wt t m p; unfold pt_wt; (repeat' split) <;> omega)⟩
    · omega
  · skip
    show ov_R u d ov_m65 10 [(0, ov_r 3)] [ov_i 1] z h (P_fReader_wayTold_3 F z h t m p)
    have f15 : pt_iw t m p (1870030194 : Int) = 1 ∧ pt_ty t m p = 2 ∧ pt_w256 t m p = (1870030194 : Int) := f4
    clear f4
    refine ov_ifeq (tgt := 15) d_65_10 (by decide) (by omega) (fun c16 => ?_) (fun c16 => ?_)
    · omega
    · skip
      refine ov_blk (ls2 := [(0, ov_r 3)]) (st2 := [ov_i 0]) (pc2 := 14) b_65_13_1 rfl rfl ?_
      exact ov_reti (st := []) d_65_14 rfl ⟨_, rfl, rfl, rfl, (by show 0 = pt_wt t m p; unfold pt_wt; (repeat' split) <;> omega)⟩
abbrev P_fReader_kindTold_3 (F : ov_H) (z : ov_Z) (h : ov_H) (t : Int → Int) (m : Int) (p : Int) : Option ov_V → ov_Z → ov_H → Prop := fun r0 z' h' => ∃ r : Int, r0 = some (ov_i r) ∧ z = z' ∧ h = h' ∧ r = pt_kt t m p
set_option maxHeartbeats 4000000 in
theorem c_fReader_kindTold_3 {u : ov_U} {F : ov_H} (t : Int → Int) (m : Int) (p : Int) {z : ov_Z} {h : ov_H} (d : Nat) (hd : 1 ≤ d) (U : ov_cap u) (I : ov_I F z h) (tc : pt_TC t m (h 1) p) : ov_T u d ov_m59 [ov_r 3] z h (P_fReader_kindTold_3 F z h t m p) := by
  refine ov_en rfl (Nat.le_of_ble_eq_true rfl) ?_
  show ov_R u d ov_m59 0 [(0, ov_r 3)] [] z h (P_fReader_kindTold_3 F z h t m p)
  have tb := pt_TC_b tc
  refine ov_blk (ls2 := [(0, ov_r 3)]) (st2 := [ov_r 3]) (pc2 := 1) b_59_0_1 rfl rfl ?_
  refine ov_getf (v := ov_r 1) d_59_1 fl_Reader_9 (zb_3 I) (zs_3 I) (congrArg ov_r (rg_3_0 I)) ?_
  refine ov_ldc2 (n := 427021001579) d_59_4 kc_Reader_251 ?_
  refine ov_cV (as := [ov_l 427021001579]) (st := []) (d2 := d - 1) d_59_7 lk_Reader_110 rfl (Nat.le_of_ble_eq_true rfl) (c := 8) (zb_1 I) (zs_1 I) ⟨by decide, rfl⟩ (by omega) (c_fTape_isWord_1 t m p (d - 1) (by omega) U I 427021001579 (by show -9223372036854775808 ≤ (427021001579 : Int) ∧ (427021001579 : Int) ≤ 9223372036854775807; omega) tc) ?_
  rintro _ _ _ ⟨v1, rfl, rfl, rfl, y2⟩
  rcases y2 with ⟨rfl, f3⟩ | ⟨rfl, f4⟩
  · skip
    show ov_R u d ov_m59 10 [(0, ov_r 3)] [ov_i 0] z h (P_fReader_kindTold_3 F z h t m p)
    have f5 : pt_iw t m p (427021001579 : Int) = 0 := f3
    clear f3
    refine ov_ifeq (tgt := 15) d_59_10 (by decide) (by omega) (fun c6 => ?_) (fun c6 => ?_)
    · skip
      refine ov_blk (ls2 := [(0, ov_r 3)]) (st2 := [ov_r 3]) (pc2 := 16) b_59_15_1 rfl rfl ?_
      refine ov_getf (v := ov_r 1) d_59_16 fl_Reader_9 (zb_3 I) (zs_3 I) (congrArg ov_r (rg_3_0 I)) ?_
      refine ov_ldc2 (n := 114801865155950) d_59_19 kc_Reader_253 ?_
      refine ov_cV (as := [ov_l 114801865155950]) (st := []) (d2 := d - 1) d_59_22 lk_Reader_110 rfl (Nat.le_of_ble_eq_true rfl) (c := 8) (zb_1 I) (zs_1 I) ⟨by decide, rfl⟩ (by omega) (c_fTape_isWord_1 t m p (d - 1) (by omega) U I 114801865155950 (by show -9223372036854775808 ≤ (114801865155950 : Int) ∧ (114801865155950 : Int) ≤ 9223372036854775807; omega) tc) ?_
      rintro _ _ _ ⟨v7, rfl, rfl, rfl, y8⟩
      rcases y8 with ⟨rfl, f9⟩ | ⟨rfl, f10⟩
      · skip
        show ov_R u d ov_m59 25 [(0, ov_r 3)] [ov_i 0] z h (P_fReader_kindTold_3 F z h t m p)
        have f11 : pt_iw t m p (114801865155950 : Int) = 0 := f9
        clear f9
        refine ov_ifeq (tgt := 30) d_59_25 (by decide) (by omega) (fun c12 => ?_) (fun c12 => ?_)
        · skip
          refine ov_blk (ls2 := [(0, ov_r 3)]) (st2 := [ov_r 3]) (pc2 := 31) b_59_30_1 rfl rfl ?_
          refine ov_getf (v := ov_r 1) d_59_31 fl_Reader_9 (zb_3 I) (zs_3 I) (congrArg ov_r (rg_3_0 I)) ?_
          refine ov_ldc2 (n := 108256604483438) d_59_34 kc_Reader_255 ?_
          refine ov_cV (as := [ov_l 108256604483438]) (st := []) (d2 := d - 1) d_59_37 lk_Reader_110 rfl (Nat.le_of_ble_eq_true rfl) (c := 8) (zb_1 I) (zs_1 I) ⟨by decide, rfl⟩ (by omega) (c_fTape_isWord_1 t m p (d - 1) (by omega) U I 108256604483438 (by show -9223372036854775808 ≤ (108256604483438 : Int) ∧ (108256604483438 : Int) ≤ 9223372036854775807; omega) tc) ?_
          rintro _ _ _ ⟨v13, rfl, rfl, rfl, y14⟩
          rcases y14 with ⟨rfl, f15⟩ | ⟨rfl, f16⟩
          · skip
            show ov_R u d ov_m59 40 [(0, ov_r 3)] [ov_i 0] z h (P_fReader_kindTold_3 F z h t m p)
            have f17 : pt_iw t m p (108256604483438 : Int) = 0 := f15
            clear f15
            refine ov_ifeq (tgt := 45) d_59_40 (by decide) (by omega) (fun c18 => ?_) (fun c18 => ?_)
            · skip
              refine ov_blk (ls2 := [(0, ov_r 3)]) (st2 := [ov_r 3]) (pc2 := 46) b_59_45_1 rfl rfl ?_
              refine ov_getf (v := ov_r 1) d_59_46 fl_Reader_9 (zb_3 I) (zs_3 I) (congrArg ov_r (rg_3_0 I)) ?_
              refine ov_ldc2 (n := 123623862526821) d_59_49 kc_Reader_257 ?_
              refine ov_cV (as := [ov_l 123623862526821]) (st := []) (d2 := d - 1) d_59_52 lk_Reader_110 rfl (Nat.le_of_ble_eq_true rfl) (c := 8) (zb_1 I) (zs_1 I) ⟨by decide, rfl⟩ (by omega) (c_fTape_isWord_1 t m p (d - 1) (by omega) U I 123623862526821 (by show -9223372036854775808 ≤ (123623862526821 : Int) ∧ (123623862526821 : Int) ≤ 9223372036854775807; omega) tc) ?_
              rintro _ _ _ ⟨v19, rfl, rfl, rfl, y20⟩
              rcases y20 with ⟨rfl, f21⟩ | ⟨rfl, f22⟩
              · skip
                show ov_R u d ov_m59 55 [(0, ov_r 3)] [ov_i 0] z h (P_fReader_kindTold_3 F z h t m p)
                have f23 : pt_iw t m p (123623862526821 : Int) = 0 := f21
                clear f21
                refine ov_ifeq (tgt := 62) d_59_55 (by decide) (by omega) (fun c24 => ?_) (fun c24 => ?_)
                · skip
                  refine ov_blk (ls2 := [(0, ov_r 3)]) (st2 := [ov_i (-1)]) (pc2 := 63) b_59_62_1 rfl rfl ?_
                  exact ov_reti (st := []) d_59_63 rfl ⟨_, rfl, rfl, rfl, (by show (-1) = pt_kt t m p; unfold pt_kt; (repeat' split) <;> omega)⟩
                · omega
              · skip
                show ov_R u d ov_m59 55 [(0, ov_r 3)] [ov_i 1] z h (P_fReader_kindTold_3 F z h t m p)
                have f25 : pt_iw t m p (123623862526821 : Int) = 1 ∧ pt_ty t m p = 2 ∧ pt_w256 t m p = (123623862526821 : Int) := f22
                clear f22
                refine ov_ifeq (tgt := 62) d_59_55 (by decide) (by omega) (fun c26 => ?_) (fun c26 => ?_)
                · omega
                · skip
                  refine ov_blk (ls2 := [(0, ov_r 3)]) (st2 := [ov_i 3]) (pc2 := 59) b_59_58_1 rfl rfl ?_
                  refine ov_goto (tgt := 63) d_59_59 (by decide) ?_
                  exact ov_reti (st := []) d_59_63 rfl ⟨_, rfl, rfl, rfl, (by show 3 = pt_kt t m p; unfold pt_kt; (repeat' split) <;> omega)⟩
            · omega
          · skip
            show ov_R u d ov_m59 40 [(0, ov_r 3)] [ov_i 1] z h (P_fReader_kindTold_3 F z h t m p)
            have f27 : pt_iw t m p (108256604483438 : Int) = 1 ∧ pt_ty t m p = 2 ∧ pt_w256 t m p = (108256604483438 : Int) := f16
            clear f16
            refine ov_ifeq (tgt := 45) d_59_40 (by decide) (by omega) (fun c28 => ?_) (fun c28 => ?_)
            · omega
            · skip
              refine ov_blk (ls2 := [(0, ov_r 3)]) (st2 := [ov_i 2]) (pc2 := 44) b_59_43_1 rfl rfl ?_
              exact ov_reti (st := []) d_59_44 rfl ⟨_, rfl, rfl, rfl, (by show 2 = pt_kt t m p; unfold pt_kt; (repeat' split) <;> omega)⟩
        · omega
      · skip
        show ov_R u d ov_m59 25 [(0, ov_r 3)] [ov_i 1] z h (P_fReader_kindTold_3 F z h t m p)
        have f29 : pt_iw t m p (114801865155950 : Int) = 1 ∧ pt_ty t m p = 2 ∧ pt_w256 t m p = (114801865155950 : Int) := f10
        clear f10
        refine ov_ifeq (tgt := 30) d_59_25 (by decide) (by omega) (fun c30 => ?_) (fun c30 => ?_)
        · omega
        · skip
          refine ov_blk (ls2 := [(0, ov_r 3)]) (st2 := [ov_i 1]) (pc2 := 29) b_59_28_1 rfl rfl ?_
          exact ov_reti (st := []) d_59_29 rfl ⟨_, rfl, rfl, rfl, (by show 1 = pt_kt t m p; unfold pt_kt; (repeat' split) <;> omega)⟩
    · omega
  · skip
    show ov_R u d ov_m59 10 [(0, ov_r 3)] [ov_i 1] z h (P_fReader_kindTold_3 F z h t m p)
    have f31 : pt_iw t m p (427021001579 : Int) = 1 ∧ pt_ty t m p = 2 ∧ pt_w256 t m p = (427021001579 : Int) := f4
    clear f4
    refine ov_ifeq (tgt := 15) d_59_10 (by decide) (by omega) (fun c32 => ?_) (fun c32 => ?_)
    · omega
    · skip
      refine ov_blk (ls2 := [(0, ov_r 3)]) (st2 := [ov_i 0]) (pc2 := 14) b_59_13_1 rfl rfl ?_
      exact ov_reti (st := []) d_59_14 rfl ⟨_, rfl, rfl, rfl, (by show 0 = pt_kt t m p; unfold pt_kt; (repeat' split) <;> omega)⟩
abbrev P_fReader_plainPart_3 (F : ov_H) (z : ov_Z) (h : ov_H) (t : Int → Int) (m : Int) (p : Int) : Option ov_V → ov_Z → ov_H → Prop := fun r0 z' h' => ∃ r : Int, r0 = some (ov_i r) ∧ z = z' ∧ h = h' ∧ r = pt_pp t m p
set_option maxHeartbeats 4000000 in
theorem c_fReader_plainPart_3 {u : ov_U} {F : ov_H} (t : Int → Int) (m : Int) (p : Int) {z : ov_Z} {h : ov_H} (d : Nat) (hd : 2 ≤ d) (U : ov_cap u) (I : ov_I F z h) (tc : pt_TC t m (h 1) p) : ov_T u d ov_m74 [ov_r 3] z h (P_fReader_plainPart_3 F z h t m p) := by
  refine ov_en rfl (Nat.le_of_ble_eq_true rfl) ?_
  show ov_R u d ov_m74 0 [(0, ov_r 3)] [] z h (P_fReader_plainPart_3 F z h t m p)
  have tb := pt_TC_b tc
  refine ov_blk (ls2 := [(0, ov_r 3)]) (st2 := [ov_r 3]) (pc2 := 1) b_74_0_1 rfl rfl ?_
  refine ov_getf (v := ov_r 1) d_74_1 fl_Reader_9 (zb_3 I) (zs_3 I) (congrArg ov_r (rg_3_0 I)) ?_
  have e1 : h 1 2 = (pt_ty t m p) := (pt_TC_t tc)
  refine ov_getf (v := ov_i (pt_ty t m p)) d_74_4 fl_Reader_37 (zb_1 I) (zs_1 I) (congrArg ov_i e1) ?_
  have g2 := rg_1_2 I
  rw [e1] at g2
  refine ov_blk (ls2 := [(0, ov_r 3)]) (st2 := [ov_i 3, ov_i (pt_ty t m p)]) (pc2 := 8) b_74_7_1 rfl rfl ?_
  refine ov_icne (tgt := 22) d_74_8 (by decide) (by omega) (by omega) (fun c3 => ?_) (fun c3 => ?_)
  · skip
    refine ov_blk (ls2 := [(0, ov_r 3)]) (st2 := [ov_r 3]) (pc2 := 23) b_74_22_1 rfl rfl ?_
    refine ov_getf (v := ov_r 1) d_74_23 fl_Reader_9 (zb_3 I) (zs_3 I) (congrArg ov_r (rg_3_0 I)) ?_
    refine ov_ldc2 (n := 1818584692) d_74_26 kc_Reader_245 ?_
    refine ov_cV (as := [ov_l 1818584692]) (st := []) (d2 := d - 1) d_74_29 lk_Reader_110 rfl (Nat.le_of_ble_eq_true rfl) (c := 8) (zb_1 I) (zs_1 I) ⟨by decide, rfl⟩ (by omega) (c_fTape_isWord_1 t m p (d - 1) (by omega) U I 1818584692 (by show -9223372036854775808 ≤ (1818584692 : Int) ∧ (1818584692 : Int) ≤ 9223372036854775807; omega) tc) ?_
    rintro _ _ _ ⟨v4, rfl, rfl, rfl, y5⟩
    rcases y5 with ⟨rfl, f6⟩ | ⟨rfl, f7⟩
    · skip
      show ov_R u d ov_m74 32 [(0, ov_r 3)] [ov_i 0] z h (P_fReader_plainPart_3 F z h t m p)
      have f8 : pt_iw t m p (1818584692 : Int) = 0 := f6
      clear f6
      refine ov_ifeq (tgt := 38) d_74_32 (by decide) (by omega) (fun c9 => ?_) (fun c9 => ?_)
      · skip
        refine ov_blk (ls2 := [(0, ov_r 3)]) (st2 := [ov_r 3]) (pc2 := 39) b_74_38_1 rfl rfl ?_
        refine ov_getf (v := ov_r 1) d_74_39 fl_Reader_9 (zb_3 I) (zs_3 I) (congrArg ov_r (rg_3_0 I)) ?_
        refine ov_ldc2 (n := 30064) d_74_42 kc_Reader_247 ?_
        refine ov_cV (as := [ov_l 30064]) (st := []) (d2 := d - 1) d_74_45 lk_Reader_110 rfl (Nat.le_of_ble_eq_true rfl) (c := 8) (zb_1 I) (zs_1 I) ⟨by decide, rfl⟩ (by omega) (c_fTape_isWord_1 t m p (d - 1) (by omega) U I 30064 (by show -9223372036854775808 ≤ (30064 : Int) ∧ (30064 : Int) ≤ 9223372036854775807; omega) tc) ?_
        rintro _ _ _ ⟨v10, rfl, rfl, rfl, y11⟩
        rcases y11 with ⟨rfl, f12⟩ | ⟨rfl, f13⟩
        · skip
          show ov_R u d ov_m74 48 [(0, ov_r 3)] [ov_i 0] z h (P_fReader_plainPart_3 F z h t m p)
          have f14 : pt_iw t m p (30064 : Int) = 0 := f12
          clear f12
          refine ov_ifeq (tgt := 54) d_74_48 (by decide) (by omega) (fun c15 => ?_) (fun c15 => ?_)
          · skip
            refine ov_blk (ls2 := [(0, ov_r 3)]) (st2 := [ov_r 3]) (pc2 := 55) b_74_54_1 rfl rfl ?_
            refine ov_cV (as := []) (st := []) (d2 := d - 1) d_74_55 lk_Reader_54 rfl (Nat.le_of_ble_eq_true rfl) (c := 6) (zb_3 I) (zs_3 I) ⟨by decide, rfl⟩ (by omega) (c_fReader_wayTold_3 t m p (d - 1) (by omega) U I tc) ?_
            rintro _ _ _ ⟨v16, rfl, rfl, rfl, rfl⟩
            have g17 := @pt_wt_b t m p
            show ov_R u d ov_m74 58 [(0, ov_r 3)] [ov_i (pt_wt t m p)] z h (P_fReader_plainPart_3 F z h t m p)
            refine ov_blk (ls2 := [(0, ov_r 3), (1, ov_i (pt_wt t m p))]) (st2 := [ov_i (-1), ov_i (pt_wt t m p)]) (pc2 := 61) b_74_58_3 rfl rfl ?_
            refine ov_icne (tgt := 68) d_74_61 (by decide) (by omega) (by omega) (fun c18 => ?_) (fun c18 => ?_)
            · skip
              refine ov_blk (ls2 := [(0, ov_r 3), (1, ov_i (pt_wt t m p))]) (st2 := [ov_i (pt_wt t m p)]) (pc2 := 69) b_74_68_1 rfl rfl ?_
              refine ov_ifne (tgt := 77) d_74_69 (by decide) (by omega) (fun c19 => ?_) (fun c19 => ?_)
              · skip
                refine ov_blk (ls2 := [(0, ov_r 3), (1, ov_i (pt_wt t m p))]) (st2 := [ov_i 9]) (pc2 := 79) b_74_77_1 rfl rfl ?_
                exact ov_reti (st := []) d_74_79 rfl ⟨_, rfl, rfl, rfl, (by show 9 = pt_pp t m p; unfold pt_pp; (repeat' split) <;> omega)⟩
              · skip
                refine ov_blk (ls2 := [(0, ov_r 3), (1, ov_i (pt_wt t m p))]) (st2 := [ov_i 8]) (pc2 := 74) b_74_72_1 rfl rfl ?_
                refine ov_goto (tgt := 79) d_74_74 (by decide) ?_
                exact ov_reti (st := []) d_74_79 rfl ⟨_, rfl, rfl, rfl, (by show 8 = pt_pp t m p; unfold pt_pp; (repeat' split) <;> omega)⟩
            · skip
              refine ov_blk (ls2 := [(0, ov_r 3), (1, ov_i (pt_wt t m p))]) (st2 := [ov_i (-1)]) (pc2 := 65) b_74_64_1 rfl rfl ?_
              refine ov_goto (tgt := 79) d_74_65 (by decide) ?_
              exact ov_reti (st := []) d_74_79 rfl ⟨_, rfl, rfl, rfl, (by show (-1) = pt_pp t m p; unfold pt_pp; (repeat' split) <;> omega)⟩
          · omega
        · skip
          show ov_R u d ov_m74 48 [(0, ov_r 3)] [ov_i 1] z h (P_fReader_plainPart_3 F z h t m p)
          have f20 : pt_iw t m p (30064 : Int) = 1 ∧ pt_ty t m p = 2 ∧ pt_w256 t m p = (30064 : Int) := f13
          clear f13
          refine ov_ifeq (tgt := 54) d_74_48 (by decide) (by omega) (fun c21 => ?_) (fun c21 => ?_)
          · omega
          · skip
            refine ov_blk (ls2 := [(0, ov_r 3)]) (st2 := [ov_i 11]) (pc2 := 53) b_74_51_1 rfl rfl ?_
            exact ov_reti (st := []) d_74_53 rfl ⟨_, rfl, rfl, rfl, (by show 11 = pt_pp t m p; unfold pt_pp; (repeat' split) <;> omega)⟩
      · omega
    · skip
      show ov_R u d ov_m74 32 [(0, ov_r 3)] [ov_i 1] z h (P_fReader_plainPart_3 F z h t m p)
      have f22 : pt_iw t m p (1818584692 : Int) = 1 ∧ pt_ty t m p = 2 ∧ pt_w256 t m p = (1818584692 : Int) := f7
      clear f7
      refine ov_ifeq (tgt := 38) d_74_32 (by decide) (by omega) (fun c23 => ?_) (fun c23 => ?_)
      · omega
      · skip
        refine ov_blk (ls2 := [(0, ov_r 3)]) (st2 := [ov_i 10]) (pc2 := 37) b_74_35_1 rfl rfl ?_
        exact ov_reti (st := []) d_74_37 rfl ⟨_, rfl, rfl, rfl, (by show 10 = pt_pp t m p; unfold pt_pp; (repeat' split) <;> omega)⟩
  · skip
    refine ov_blk (ls2 := [(0, ov_r 3)]) (st2 := [ov_r 3, ov_i 16]) (pc2 := 14) b_74_11_2 rfl rfl ?_
    refine ov_getf (v := ov_r 1) d_74_14 fl_Reader_9 (zb_3 I) (zs_3 I) (congrArg ov_r (rg_3_0 I)) ?_
    have e24 : h 1 4 = (pt_nm t m p) := (pt_TC_n tc (by omega))
    refine ov_getf (v := ov_i (pt_nm t m p)) d_74_17 fl_Reader_146 (zb_1 I) (zs_1 I) (congrArg ov_i e24) ?_
    have g25 := rg_1_4 I
    rw [e24] at g25
    refine ov_blk (ls2 := [(0, ov_r 3)]) (st2 := [ov_i (16 + (pt_nm t m p))]) (pc2 := 21) b_74_20_1 rfl rfl ?_
    exact ov_reti (st := []) d_74_21 rfl ⟨_, rfl, rfl, rfl, (by show (16 + (pt_nm t m p)) = pt_pp t m p; unfold pt_pp; (repeat' split) <;> omega)⟩
abbrev P_fReader_isReserved (F : ov_H) (z : ov_Z) (h : ov_H) (w : Int) : Option ov_V → ov_Z → ov_H → Prop := fun r0 z' h' => ∃ r : Int, r0 = some (ov_i r) ∧ z = z' ∧ h = h' ∧ ((r = 0 ∧ (¬ ∃ j : Int, 0 ≤ j ∧ j < 20 ∧ pt_rv j = w)) ∨ (r = 1 ∧ (∃ j : Int, 0 ≤ j ∧ j < 20 ∧ pt_rv j = w)))
set_option maxHeartbeats 4000000 in
theorem c_fReader_isReserved {u : ov_U} {F : ov_H} {z : ov_Z} {h : ov_H} (d : Nat) (hd : 0 ≤ d) (U : ov_cap u) (I : ov_I F z h) (w : Int) (p0 : -9223372036854775808 ≤ w ∧ w ≤ 9223372036854775807) : ov_T u d ov_m67 [ov_l w] z h (P_fReader_isReserved F z h w) := by
  refine ov_en rfl (Nat.le_of_ble_eq_true rfl) ?_
  show ov_R u d ov_m67 0 [(0, ov_l w)] [] z h (P_fReader_isReserved F z h w)
  refine ov_gstR d_67_0 rfl U.2.2 ?_
  refine ov_blk (ls2 := [(0, ov_l w), (2, ov_r (-2))]) (st2 := [ov_r (-2)]) (pc2 := 5) b_67_3_2 rfl rfl ?_
  refine ov_alenR d_67_5 U.2.2 ?_
  refine ov_blk (ls2 := [(0, ov_l w), (2, ov_r (-2)), (3, ov_i 20), (4, ov_i 0)]) (st2 := []) (pc2 := 10) b_67_6_3 rfl rfl ?_
  have L4 : ∀ (n1 : Nat) (x4 : Int) (xj : ∀ j : Int, 0 ≤ j → j < x4 → pt_rv j ≠ w) (q3 : 0 ≤ x4 ∧ x4 ≤ 20), 20 - x4 < (n1 : Int) → ov_R u d ov_m67 10 [(0, ov_l w), (2, ov_r (-2)), (3, ov_i 20), (4, ov_i x4)] [] z h (P_fReader_isReserved F z h w) := by
    intro n1
    induction n1 with
    | zero =>
      intro x4 xj q3 hn5
      exact absurd hn5 (by omega)
    | succ n1 ih2 =>
      intro x4 xj q3 hn5
      refine ov_blk (ls2 := [(0, ov_l w), (2, ov_r (-2)), (3, ov_i 20), (4, ov_i x4)]) (st2 := [ov_i 20, ov_i x4]) (pc2 := 13) b_67_10_2 rfl rfl ?_
      refine ov_icge (tgt := 37) d_67_13 (by decide) (by omega) (by omega) (fun c6 => ?_) (fun c6 => ?_)
      · skip
        refine ov_blk (ls2 := [(0, ov_l w), (2, ov_r (-2)), (3, ov_i 20), (4, ov_i x4)]) (st2 := [ov_i 0]) (pc2 := 38) b_67_37_1 rfl rfl ?_
        exact ov_retz (st := []) d_67_38 rfl (by omega) ⟨_, rfl, rfl, rfl, (Or.inl ⟨rfl, (fun ⟨j, a, b, e⟩ => xj j a (by omega) e)⟩)⟩
      · skip
        refine ov_blk (ls2 := [(0, ov_l w), (2, ov_r (-2)), (3, ov_i 20), (4, ov_i x4)]) (st2 := [ov_i x4, ov_r (-2)]) (pc2 := 19) b_67_16_2 rfl rfl ?_
        have g7 := pt_rv_g x4
        refine pt_laldR d_67_19 U.2.2 (by omega) ?_
        refine ov_blk (ls2 := [(0, ov_l w), (2, ov_r (-2)), (3, ov_i 20), (4, ov_i x4), (5, ov_l (pt_rv x4))]) (st2 := [ov_i (ov_lcmp (pt_rv x4) w)]) (pc2 := 26) b_67_20_4 rfl rfl ?_
        have g8 := ov_lcg (pt_rv x4) w
        have g9 := ov_lcs (a := (pt_rv x4)) (b := w) (by omega) (by omega)
        refine ov_ifne (tgt := 31) d_67_26 (by decide) (by omega) (fun c10 => ?_) (fun c10 => ?_)
        · skip
          refine ov_blk (ls2 := [(0, ov_l w), (2, ov_r (-2)), (3, ov_i 20), (4, ov_i (x4 + 1)), (5, ov_l (pt_rv x4))]) (st2 := []) (pc2 := 34) b_67_31_1 rfl rfl ?_
          refine ov_goto (tgt := 10) d_67_34 (by decide) ?_
          refine ov_sub (ls2 := [(0, ov_l w), (2, ov_r (-2)), (3, ov_i 20), (4, ov_i (x4 + 1))]) (List.Sublist.subset (by repeat (first | exact List.Sublist.refl _ | apply List.Sublist.cons_cons | apply List.Sublist.cons))) ?_
          exact ih2 (x4 + 1) (fun j a b => if e : j = x4 then (by rw [e]; omega) else xj j a (by omega)) (by show 0 ≤ (x4 + 1) ∧ (x4 + 1) ≤ 20; omega) (by omega)
        · skip
          refine ov_blk (ls2 := [(0, ov_l w), (2, ov_r (-2)), (3, ov_i 20), (4, ov_i x4), (5, ov_l (pt_rv x4))]) (st2 := [ov_i 1]) (pc2 := 30) b_67_29_1 rfl rfl ?_
          exact ov_retz (st := []) d_67_30 rfl (by omega) ⟨_, rfl, rfl, rfl, (Or.inr ⟨rfl, ⟨x4, by omega, by omega, by omega⟩⟩)⟩
  exact L4 21 0 (fun j a b => by omega) (by show 0 ≤ 0 ∧ 0 ≤ 20; omega) (by omega)
abbrev P_fOF_commonDivisor (F : ov_H) (z : ov_Z) (h : ov_H) (a : Int) (b : Int) : Option ov_V → ov_Z → ov_H → Prop := fun r0 z' h' => ∃ r : Int, r0 = some (ov_l r) ∧ z = z' ∧ h = h' ∧ r = ((Nat.gcd a.toNat b.toNat : Nat) : Int)
set_option maxHeartbeats 4000000 in
theorem c_fOF_commonDivisor {u : ov_U} {F : ov_H} {z : ov_Z} {h : ov_H} (d : Nat) (hd : 0 ≤ d) (U : ov_cap u) (I : ov_I F z h) (a : Int) (b : Int) (p0 : 1 ≤ a ∧ a ≤ 1200 ∧ 1 ≤ b ∧ b ≤ 60) : ov_T u d ov_m62 [ov_l a, ov_l b] z h (P_fOF_commonDivisor F z h a b) := by
  refine ov_en rfl (Nat.le_of_ble_eq_true rfl) ?_
  show ov_R u d ov_m62 0 [(0, ov_l a), (2, ov_l b)] [] z h (P_fOF_commonDivisor F z h a b)
  refine ov_blk (ls2 := [(0, ov_l a), (2, ov_l b), (4, ov_l a), (6, ov_l b), (8, ov_i 0)]) (st2 := []) (pc2 := 9) b_62_0_6 rfl rfl ?_
  have L4 : ∀ (n1 : Nat) (x4 : Int) (x6 : Int) (x8 : Int) (xg : Nat.gcd x4.toNat x6.toNat = Nat.gcd a.toNat b.toNat) (q3 : 0 ≤ x4 ∧ x4 ≤ 1200 ∧ 0 ≤ x6 ∧ x6 ≤ 60 ∧ 0 ≤ x8 ∧ x6 + x8 ≤ 60), 100 - x8 < (n1 : Int) → ov_R u d ov_m62 9 [(0, ov_l a), (2, ov_l b), (4, ov_l x4), (6, ov_l x6), (8, ov_i x8)] [] z h (P_fOF_commonDivisor F z h a b) := by
    intro n1
    induction n1 with
    | zero =>
      intro x4 x6 x8 xg q3 hn5
      exact absurd hn5 (by omega)
    | succ n1 ih2 =>
      intro x4 x6 x8 xg q3 hn5
      refine ov_blk (ls2 := [(0, ov_l a), (2, ov_l b), (4, ov_l x4), (6, ov_l x6), (8, ov_i x8)]) (st2 := [ov_i 100, ov_i x8]) (pc2 := 13) b_62_9_2 rfl rfl ?_
      refine ov_icge (tgt := 44) d_62_13 (by decide) (by omega) (by omega) (fun c6 => ?_) (fun c6 => ?_)
      · skip
        refine ov_blk (ls2 := [(0, ov_l a), (2, ov_l b), (4, ov_l x4), (6, ov_l x6), (8, ov_i x8)]) (st2 := [ov_l x4]) (pc2 := 46) b_62_44_1 rfl rfl ?_
        exact ov_retl (st := []) d_62_46 rfl ⟨_, rfl, rfl, rfl, (by show x4 = ((Nat.gcd a.toNat b.toNat : Nat) : Int); exact pt_gcd_e (by omega) (by omega) xg)⟩
      · skip
        refine ov_blk (ls2 := [(0, ov_l a), (2, ov_l b), (4, ov_l x4), (6, ov_l x6), (8, ov_i x8)]) (st2 := [ov_i (ov_lcmp x6 0)]) (pc2 := 20) b_62_16_3 rfl rfl ?_
        have g7 := ov_lcg x6 0
        have g8 := ov_lcs (a := x6) (b := 0) (by omega) (by omega)
        refine ov_ifeq (tgt := 44) d_62_20 (by decide) (by omega) (fun c9 => ?_) (fun c9 => ?_)
        · skip
          refine ov_blk (ls2 := [(0, ov_l a), (2, ov_l b), (4, ov_l x4), (6, ov_l x6), (8, ov_i x8)]) (st2 := [ov_l x4]) (pc2 := 46) b_62_44_1 rfl rfl ?_
          exact ov_retl (st := []) d_62_46 rfl ⟨_, rfl, rfl, rfl, (by show x4 = ((Nat.gcd a.toNat b.toNat : Nat) : Int); exact pt_gcd_e (by omega) (by omega) xg)⟩
        · skip
          refine ov_blk (ls2 := [(0, ov_l a), (2, ov_l b), (4, ov_l x4), (6, ov_l x6), (8, ov_i x8)]) (st2 := [ov_l x6, ov_l x4]) (pc2 := 27) b_62_23_2 rfl rfl ?_
          refine ov_lrem d_62_27 (by omega) (by omega) (by omega) ?_
          have g10 := ov_tm (a := x4) (b := x6) (by omega)
          have gm := ov_tmb (a := x4) (b := x6) (by omega) (by omega)
          refine ov_blk (ls2 := [(0, ov_l a), (2, ov_l b), (4, ov_l x6), (6, ov_l (Int.tmod x4 x6)), (8, ov_i (x8 + 1)), (9, ov_l (Int.tmod x4 x6))]) (st2 := []) (pc2 := 41) b_62_28_6 rfl rfl ?_
          refine ov_goto (tgt := 9) d_62_41 (by decide) ?_
          refine ov_sub (ls2 := [(0, ov_l a), (2, ov_l b), (4, ov_l x6), (6, ov_l (Int.tmod x4 x6)), (8, ov_i (x8 + 1))]) (List.Sublist.subset (by repeat (first | exact List.Sublist.refl _ | apply List.Sublist.cons_cons | apply List.Sublist.cons))) ?_
          exact ih2 x6 (Int.tmod x4 x6) (x8 + 1) (Eq.trans (pt_gcd_s (by omega) (by omega)) xg) (by show 0 ≤ x6 ∧ x6 ≤ 1200 ∧ 0 ≤ (Int.tmod x4 x6) ∧ (Int.tmod x4 x6) ≤ 60 ∧ 0 ≤ (x8 + 1) ∧ (Int.tmod x4 x6) + (x8 + 1) ≤ 60; omega) (by omega)
  exact L4 101 a b 0 rfl (by show 0 ≤ a ∧ a ≤ 1200 ∧ 0 ≤ b ∧ b ≤ 60 ∧ 0 ≤ 0 ∧ b + 0 ≤ 60; omega) (by omega)
abbrev P_fOF_commonMultiple (F : ov_H) (z : ov_Z) (h : ov_H) (a : Int) (b : Int) : Option ov_V → ov_Z → ov_H → Prop := fun r0 z' h' => ∃ r : Int, r0 = some (ov_i r) ∧ z = z' ∧ h = h' ∧ r = pt_lc a b
set_option maxHeartbeats 4000000 in
theorem c_fOF_commonMultiple {u : ov_U} {F : ov_H} {z : ov_Z} {h : ov_H} (d : Nat) (hd : 1 ≤ d) (U : ov_cap u) (I : ov_I F z h) (a : Int) (b : Int) (g_a : ov_g a) (g_b : ov_g b) (p0 : 1 ≤ a ∧ a ≤ 1200 ∧ 1 ≤ b ∧ b ≤ 60) : ov_T u d ov_m61 [ov_i a, ov_i b] z h (P_fOF_commonMultiple F z h a b) := by
  refine ov_en rfl (Nat.le_of_ble_eq_true rfl) ?_
  show ov_R u d ov_m61 0 [(0, ov_i a), (1, ov_i b)] [] z h (P_fOF_commonMultiple F z h a b)
  refine ov_blk (ls2 := [(0, ov_i a), (1, ov_i b)]) (st2 := [ov_l (ov_w a)]) (pc2 := 2) b_61_0_2 rfl rfl ?_
  have g1 := ov_wg a
  have g2 := ov_wq a
  rw [ov_wq a (by omega)]
  show ov_R u d ov_m61 2 [(0, ov_i a), (1, ov_i b)] [ov_l a] z h (P_fOF_commonMultiple F z h a b)
  refine ov_blk (ls2 := [(0, ov_i a), (1, ov_i b)]) (st2 := [ov_l (ov_w b), ov_l a]) (pc2 := 4) b_61_2_2 rfl rfl ?_
  have g3 := ov_wg b
  have g4 := ov_wq b
  rw [ov_wq b (by omega)]
  show ov_R u d ov_m61 4 [(0, ov_i a), (1, ov_i b)] [ov_l b, ov_l a] z h (P_fOF_commonMultiple F z h a b)
  refine ov_cS (as := [ov_l a, ov_l b]) (st := []) (d2 := d - 1) d_61_4 lk_OF_355 rfl (Nat.le_of_ble_eq_true rfl) (by omega) (c_fOF_commonDivisor (d - 1) (by omega) U I a b (by show 1 ≤ a ∧ a ≤ 1200 ∧ 1 ≤ b ∧ b ≤ 60; omega)) ?_
  rintro _ _ _ ⟨v5, rfl, rfl, rfl, rfl⟩
  show ov_R u d ov_m61 7 [(0, ov_i a), (1, ov_i b)] [ov_l ((Nat.gcd a.toNat b.toNat : Nat) : Int)] z h (P_fOF_commonMultiple F z h a b)
  refine ov_blk (ls2 := [(0, ov_i a), (1, ov_i b), (2, ov_l ((Nat.gcd a.toNat b.toNat : Nat) : Int))]) (st2 := [ov_l 0, ov_l ((Nat.gcd a.toNat b.toNat : Nat) : Int)]) (pc2 := 10) b_61_7_3 rfl rfl ?_
  have gg := pt_gcd_b (a := a) (b := b) (by omega)
  refine ov_blk (ls2 := [(0, ov_i a), (1, ov_i b), (2, ov_l ((Nat.gcd a.toNat b.toNat : Nat) : Int))]) (st2 := [ov_i (ov_lcmp ((Nat.gcd a.toNat b.toNat : Nat) : Int) 0)]) (pc2 := 11) b_61_10_1 rfl rfl ?_
  have g6 := ov_lcg ((Nat.gcd a.toNat b.toNat : Nat) : Int) 0
  have g7 := ov_lcs (a := ((Nat.gcd a.toNat b.toNat : Nat) : Int)) (b := 0) (by omega) (by omega)
  refine ov_ifle (tgt := 25) d_61_11 (by decide) (by omega) (fun c8 => ?_) (fun c8 => ?_)
  · omega
  · skip
    refine ov_blk (ls2 := [(0, ov_i a), (1, ov_i b), (2, ov_l ((Nat.gcd a.toNat b.toNat : Nat) : Int))]) (st2 := [ov_l (ov_w a)]) (pc2 := 16) b_61_14_2 rfl rfl ?_
    have g9 := ov_wg a
    have g10 := ov_wq a
    rw [ov_wq a (by omega)]
    show ov_R u d ov_m61 16 [(0, ov_i a), (1, ov_i b), (2, ov_l ((Nat.gcd a.toNat b.toNat : Nat) : Int))] [ov_l a] z h (P_fOF_commonMultiple F z h a b)
    refine ov_blk (ls2 := [(0, ov_i a), (1, ov_i b), (2, ov_l ((Nat.gcd a.toNat b.toNat : Nat) : Int))]) (st2 := [ov_l ((Nat.gcd a.toNat b.toNat : Nat) : Int), ov_l a]) (pc2 := 17) b_61_16_1 rfl rfl ?_
    refine ov_ldiv d_61_17 (by omega) (by omega) (by omega) ?_
    refine ov_blk (ls2 := [(0, ov_i a), (1, ov_i b), (2, ov_l ((Nat.gcd a.toNat b.toNat : Nat) : Int))]) (st2 := [ov_l (ov_w b), ov_l (Int.tdiv a ((Nat.gcd a.toNat b.toNat : Nat) : Int))]) (pc2 := 20) b_61_18_2 rfl rfl ?_
    have g11 := ov_wg b
    have g12 := ov_wq b
    rw [ov_wq b (by omega)]
    show ov_R u d ov_m61 20 [(0, ov_i a), (1, ov_i b), (2, ov_l ((Nat.gcd a.toNat b.toNat : Nat) : Int))] [ov_l b, ov_l (Int.tdiv a ((Nat.gcd a.toNat b.toNat : Nat) : Int))] z h (P_fOF_commonMultiple F z h a b)
    refine ov_blk (ls2 := [(0, ov_i a), (1, ov_i b), (2, ov_l ((Nat.gcd a.toNat b.toNat : Nat) : Int))]) (st2 := [ov_i ((Int.tdiv a ((Nat.gcd a.toNat b.toNat : Nat) : Int)) * b)]) (pc2 := 22) b_61_20_2 rfl rfl ?_
    refine ov_goto (tgt := 26) d_61_22 (by decide) ?_
    exact ov_reti (st := []) d_61_26 rfl ⟨_, rfl, rfl, rfl, (by show ((Int.tdiv a ((Nat.gcd a.toNat b.toNat : Nat) : Int)) * b) = pt_lc a b; rfl)⟩
abbrev P_fTown_isBarred_58 (F : ov_H) (z : ov_Z) (h : ov_H) (t : Int → Int) (m : Int) (A : Int → Int) (c : Int) (w : Int) : Option ov_V → ov_Z → ov_H → Prop := fun r0 z' h' => ∃ r : Int, r0 = some (ov_i r) ∧ z = z' ∧ h = h' ∧ ((r = 0 ∧ ((ov_and (ov_shr (A (226 + c)) w) 1) = 0)) ∨ (r = 1 ∧ ((ov_and (ov_shr (A (226 + c)) w) 1) ≠ 0)))
set_option maxHeartbeats 4000000 in
theorem c_fTown_isBarred_58 {u : ov_U} {F : ov_H} (t : Int → Int) (m : Int) (A : Int → Int) {z : ov_Z} {h : ov_H} (d : Nat) (hd : 0 ≤ d) (U : ov_cap u) (I : ov_I F z h) (c : Int) (w : Int) (g_c : ov_g c) (g_w : ov_g w) (p0 : 0 ≤ c ∧ c < 54) (cr : pt_CR t m A (h 58) (h 59) (h 60) (h 61) (h 62) (h 63) (h 64) (h 66)) : ov_T u d ov_m19 [ov_r 58, ov_i c, ov_i w] z h (P_fTown_isBarred_58 F z h t m A c w) := by
  refine ov_en rfl (Nat.le_of_ble_eq_true rfl) ?_
  show ov_R u d ov_m19 0 [(0, ov_r 58), (1, ov_i c), (2, ov_i w)] [] z h (P_fTown_isBarred_58 F z h t m A c w)
  refine ov_blk (ls2 := [(0, ov_r 58), (1, ov_i c), (2, ov_i w)]) (st2 := [ov_r 58]) (pc2 := 1) b_19_0_1 rfl rfl ?_
  refine ov_getf (v := ov_r 63) d_19_1 fl_Town_24 (zb_58 I) (zs_58 I) (congrArg ov_r (rg_58_6 I)) ?_
  refine ov_blk (ls2 := [(0, ov_r 58), (1, ov_i c), (2, ov_i w)]) (st2 := [ov_i c, ov_r 63]) (pc2 := 5) b_19_4_1 rfl rfl ?_
  refine ov_iald d_19_5 (zb_63 I) (zs_63 I) (by omega) ?_
  have g2 := ra_63 I c
  have e1 : h 63 c = (A (226 + c)) := (pt_CR_b cr (by omega))
  rw [e1] at g2
  rw [e1]
  show ov_R u d ov_m19 6 [(0, ov_r 58), (1, ov_i c), (2, ov_i w)] [ov_i (A (226 + c))] z h (P_fTown_isBarred_58 F z h t m A c w)
  refine ov_blk (ls2 := [(0, ov_r 58), (1, ov_i c), (2, ov_i w)]) (st2 := [ov_i (ov_and (ov_shr (A (226 + c)) w) 1)]) (pc2 := 10) b_19_6_4 rfl rfl ?_
  have g3 := ov_shrg (A (226 + c)) w
  have g4 := ov_andg (ov_shr (A (226 + c)) w) 1
  have g5 := ov_and1 (ov_shr (A (226 + c)) w)
  refine ov_ifeq (tgt := 17) d_19_10 (by decide) (by omega) (fun c6 => ?_) (fun c6 => ?_)
  · skip
    refine ov_blk (ls2 := [(0, ov_r 58), (1, ov_i c), (2, ov_i w)]) (st2 := [ov_i 0]) (pc2 := 18) b_19_17_1 rfl rfl ?_
    exact ov_retz (st := []) d_19_18 rfl (by omega) ⟨_, rfl, rfl, rfl, (Or.inl ⟨rfl, (by show (ov_and (ov_shr (A (226 + c)) w) 1) = 0; omega)⟩)⟩
  · skip
    refine ov_blk (ls2 := [(0, ov_r 58), (1, ov_i c), (2, ov_i w)]) (st2 := [ov_i 1]) (pc2 := 14) b_19_13_1 rfl rfl ?_
    refine ov_goto (tgt := 18) d_19_14 (by decide) ?_
    exact ov_retz (st := []) d_19_18 rfl (by omega) ⟨_, rfl, rfl, rfl, (Or.inr ⟨rfl, (by show (ov_and (ov_shr (A (226 + c)) w) 1) ≠ 0; omega)⟩)⟩
abbrev P_fTown_isTimed_58 (F : ov_H) (z : ov_Z) (h : ov_H) (kd : Int) (c : Int) : Option ov_V → ov_Z → ov_H → Prop := fun r0 z' h' => ∃ r : Int, r0 = some (ov_i r) ∧ z = z' ∧ h = h' ∧ ((r = 0 ∧ (kd ≠ 0 ∧ kd ≠ 1)) ∨ (r = 1 ∧ (kd = 0 ∨ kd = 1)))
set_option maxHeartbeats 4000000 in
theorem c_fTown_isTimed_58 {u : ov_U} {F : ov_H} (kd : Int) {z : ov_Z} {h : ov_H} (d : Nat) (hd : 0 ≤ d) (U : ov_cap u) (I : ov_I F z h) (c : Int) (g_c : ov_g c) (p0 : 0 ≤ c ∧ c < 54) (p1 : (h 59 (c)) = kd) : ov_T u d ov_m20 [ov_r 58, ov_i c] z h (P_fTown_isTimed_58 F z h kd c) := by
  refine ov_en rfl (Nat.le_of_ble_eq_true rfl) ?_
  show ov_R u d ov_m20 0 [(0, ov_r 58), (1, ov_i c)] [] z h (P_fTown_isTimed_58 F z h kd c)
  refine ov_blk (ls2 := [(0, ov_r 58), (1, ov_i c)]) (st2 := [ov_r 58]) (pc2 := 1) b_20_0_1 rfl rfl ?_
  refine ov_getf (v := ov_r 59) d_20_1 fl_Town_9 (zb_58 I) (zs_58 I) (congrArg ov_r (rg_58_2 I)) ?_
  refine ov_blk (ls2 := [(0, ov_r 58), (1, ov_i c)]) (st2 := [ov_i c, ov_r 59]) (pc2 := 5) b_20_4_1 rfl rfl ?_
  refine ov_iald d_20_5 (zb_59 I) (zs_59 I) (by omega) ?_
  show ov_R u d ov_m20 6 [(0, ov_r 58), (1, ov_i c)] [ov_i (h 59 c)] z h (P_fTown_isTimed_58 F z h kd c)
  have g1 := ra_59 I c
  refine ov_ifeq (tgt := 19) d_20_6 (by decide) (by omega) (fun c2 => ?_) (fun c2 => ?_)
  · skip
    refine ov_blk (ls2 := [(0, ov_r 58), (1, ov_i c)]) (st2 := [ov_i 1]) (pc2 := 20) b_20_19_1 rfl rfl ?_
    refine ov_goto (tgt := 24) d_20_20 (by decide) ?_
    exact ov_retz (st := []) d_20_24 rfl (by omega) ⟨_, rfl, rfl, rfl, (Or.inr ⟨rfl, (by show kd = 0 ∨ kd = 1; omega)⟩)⟩
  · skip
    refine ov_blk (ls2 := [(0, ov_r 58), (1, ov_i c)]) (st2 := [ov_r 58]) (pc2 := 10) b_20_9_1 rfl rfl ?_
    refine ov_getf (v := ov_r 59) d_20_10 fl_Town_9 (zb_58 I) (zs_58 I) (congrArg ov_r (rg_58_2 I)) ?_
    refine ov_blk (ls2 := [(0, ov_r 58), (1, ov_i c)]) (st2 := [ov_i c, ov_r 59]) (pc2 := 14) b_20_13_1 rfl rfl ?_
    refine ov_iald d_20_14 (zb_59 I) (zs_59 I) (by omega) ?_
    show ov_R u d ov_m20 15 [(0, ov_r 58), (1, ov_i c)] [ov_i (h 59 c)] z h (P_fTown_isTimed_58 F z h kd c)
    have g3 := ra_59 I c
    refine ov_blk (ls2 := [(0, ov_r 58), (1, ov_i c)]) (st2 := [ov_i 1, ov_i (h 59 c)]) (pc2 := 16) b_20_15_1 rfl rfl ?_
    refine ov_icne (tgt := 23) d_20_16 (by decide) (by omega) (by omega) (fun c4 => ?_) (fun c4 => ?_)
    · skip
      refine ov_blk (ls2 := [(0, ov_r 58), (1, ov_i c)]) (st2 := [ov_i 0]) (pc2 := 24) b_20_23_1 rfl rfl ?_
      exact ov_retz (st := []) d_20_24 rfl (by omega) ⟨_, rfl, rfl, rfl, (Or.inl ⟨rfl, (by show kd ≠ 0 ∧ kd ≠ 1; omega)⟩)⟩
    · skip
      refine ov_blk (ls2 := [(0, ov_r 58), (1, ov_i c)]) (st2 := [ov_i 1]) (pc2 := 20) b_20_19_1 rfl rfl ?_
      refine ov_goto (tgt := 24) d_20_20 (by decide) ?_
      exact ov_retz (st := []) d_20_24 rfl (by omega) ⟨_, rfl, rfl, rfl, (Or.inr ⟨rfl, (by show kd = 0 ∨ kd = 1; omega)⟩)⟩
abbrev P_fTown_hasRule_58 (F : ov_H) (z : ov_Z) (h : ov_H) (t : Int → Int) (m : Int) (A : Int → Int) (w : Int) : Option ov_V → ov_Z → ov_H → Prop := fun r0 z' h' => ∃ r : Int, r0 = some (ov_i r) ∧ z = z' ∧ h = h' ∧ ((r = 0 ∧ (¬ ∃ i : Int, 0 ≤ i ∧ i < A 8 ∧ pt_w256 t m (A (310 + i)) = w)) ∨ (r = 1 ∧ (∃ i : Int, 0 ≤ i ∧ i < A 8 ∧ pt_w256 t m (A (310 + i)) = w)))
set_option maxHeartbeats 4000000 in
theorem c_fTown_hasRule_58 {u : ov_U} {F : ov_H} (t : Int → Int) (m : Int) (A : Int → Int) {z : ov_Z} {h : ov_H} (d : Nat) (hd : 0 ≤ d) (U : ov_cap u) (I : ov_I F z h) (w : Int) (p0 : -9223372036854775808 ≤ w ∧ w ≤ 9223372036854775807) (cr : pt_CR t m A (h 58) (h 59) (h 60) (h 61) (h 62) (h 63) (h 64) (h 66)) : ov_T u d ov_m68 [ov_r 58, ov_l w] z h (P_fTown_hasRule_58 F z h t m A w) := by
  refine ov_en rfl (Nat.le_of_ble_eq_true rfl) ?_
  show ov_R u d ov_m68 0 [(0, ov_r 58), (1, ov_l w)] [] z h (P_fTown_hasRule_58 F z h t m A w)
  have gA := pt_CR_r cr
  refine ov_blk (ls2 := [(0, ov_r 58), (1, ov_l w), (3, ov_i 0)]) (st2 := []) (pc2 := 2) b_68_0_2 rfl rfl ?_
  have L4 : ∀ (n1 : Nat) (x3 : Int) (xj : ∀ j : Int, 0 ≤ j → j < x3 → pt_w256 t m (A (310 + j)) ≠ w) (q3 : 0 ≤ x3 ∧ x3 ≤ A 8), A 8 - x3 < (n1 : Int) → ov_R u d ov_m68 2 [(0, ov_r 58), (1, ov_l w), (3, ov_i x3)] [] z h (P_fTown_hasRule_58 F z h t m A w) := by
    intro n1
    induction n1 with
    | zero =>
      intro x3 xj q3 hn5
      exact absurd hn5 (by omega)
    | succ n1 ih2 =>
      intro x3 xj q3 hn5
      refine ov_blk (ls2 := [(0, ov_r 58), (1, ov_l w), (3, ov_i x3)]) (st2 := [ov_r 58, ov_i x3]) (pc2 := 4) b_68_2_2 rfl rfl ?_
      have e6 : h 58 11 = (A 8) := (pt_CR_11 cr)
      refine ov_getf (v := ov_i (A 8)) d_68_4 fl_Town_69 (zb_58 I) (zs_58 I) (congrArg ov_i e6) ?_
      have g7 := rg_58_11 I
      rw [e6] at g7
      refine ov_icge (tgt := 29) d_68_7 (by decide) (by omega) (by omega) (fun c8 => ?_) (fun c8 => ?_)
      · skip
        refine ov_blk (ls2 := [(0, ov_r 58), (1, ov_l w), (3, ov_i x3)]) (st2 := [ov_i 0]) (pc2 := 30) b_68_29_1 rfl rfl ?_
        exact ov_retz (st := []) d_68_30 rfl (by omega) ⟨_, rfl, rfl, rfl, (Or.inl ⟨rfl, (fun ⟨j, a, b, e⟩ => xj j a (by omega) e)⟩)⟩
      · skip
        refine ov_blk (ls2 := [(0, ov_r 58), (1, ov_l w), (3, ov_i x3)]) (st2 := [ov_r 58]) (pc2 := 11) b_68_10_1 rfl rfl ?_
        refine ov_getf (v := ov_r 66) d_68_11 fl_Town_33 (zb_58 I) (zs_58 I) (congrArg ov_r (rg_58_13 I)) ?_
        refine ov_blk (ls2 := [(0, ov_r 58), (1, ov_l w), (3, ov_i x3)]) (st2 := [ov_i x3, ov_r 66]) (pc2 := 15) b_68_14_1 rfl rfl ?_
        refine ov_lald d_68_15 (zb_66 I) (zs_66 I) (by omega) ?_
        have g9 := pt_w256_b (pt_CR_n cr (i := x3) (by omega)).2
        have e10 : h 66 x3 = (pt_w256 t m (A (310 + x3))) := (pt_CR_n cr (by omega)).1
        rw [e10]
        show ov_R u d ov_m68 16 [(0, ov_r 58), (1, ov_l w), (3, ov_i x3)] [ov_l (pt_w256 t m (A (310 + x3)))] z h (P_fTown_hasRule_58 F z h t m A w)
        refine ov_blk (ls2 := [(0, ov_r 58), (1, ov_l w), (3, ov_i x3)]) (st2 := [ov_i (ov_lcmp (pt_w256 t m (A (310 + x3))) w)]) (pc2 := 18) b_68_16_2 rfl rfl ?_
        have g11 := ov_lcg (pt_w256 t m (A (310 + x3))) w
        have g12 := ov_lcs (a := (pt_w256 t m (A (310 + x3)))) (b := w) (by omega) (by omega)
        refine ov_ifne (tgt := 23) d_68_18 (by decide) (by omega) (fun c13 => ?_) (fun c13 => ?_)
        · skip
          refine ov_blk (ls2 := [(0, ov_r 58), (1, ov_l w), (3, ov_i (x3 + 1))]) (st2 := []) (pc2 := 26) b_68_23_1 rfl rfl ?_
          refine ov_goto (tgt := 2) d_68_26 (by decide) ?_
          exact ih2 (x3 + 1) (fun j a b => if e : j = x3 then (by rw [e]; omega) else xj j a (by omega)) (by show 0 ≤ (x3 + 1) ∧ (x3 + 1) ≤ A 8; omega) (by omega)
        · skip
          refine ov_blk (ls2 := [(0, ov_r 58), (1, ov_l w), (3, ov_i x3)]) (st2 := [ov_i 1]) (pc2 := 22) b_68_21_1 rfl rfl ?_
          exact ov_retz (st := []) d_68_22 rfl (by omega) ⟨_, rfl, rfl, rfl, (Or.inr ⟨rfl, ⟨x3, by omega, by omega, by omega⟩⟩)⟩
  exact L4 5 0 (fun j a b => by omega) (by show 0 ≤ 0 ∧ 0 ≤ A 8; omega) (by omega)
abbrev P_fTown_addRule_58 (F : ov_H) (z : ov_Z) (h : ov_H) (nr : Int) (w : Int) : Option ov_V → ov_Z → ov_H → Prop := fun r0 z' h' => r0 = none ∧ ov_I F z' h' ∧ (∀ a : Int, a ≠ 58 ∧ (a < 66 ∨ 67 < a) → h' a = h a) ∧ ((h' 58 11) = nr + 1) ∧ ((h' 66) = ov_rs (h 66) nr w) ∧ (∀ k : Int, k ≠ 11 → (h' 58) k = (h 58) k)
set_option maxHeartbeats 4000000 in
theorem c_fTown_addRule_58 {u : ov_U} {F : ov_H} (nr : Int) {z : ov_Z} {h : ov_H} (d : Nat) (hd : 0 ≤ d) (U : ov_cap u) (I : ov_I F z h) (hw : ov_kw 221649159260666331136 F) (w : Int) (p0 : (h 58 11) = nr) (p1 : 0 ≤ nr ∧ nr < 4) : ov_T u d ov_m76 [ov_r 58, ov_l w] z h (P_fTown_addRule_58 F z h nr w) := by
  refine ov_en rfl (Nat.le_of_ble_eq_true rfl) ?_
  show ov_R u d ov_m76 0 [(0, ov_r 58), (1, ov_l w)] [] z h (P_fTown_addRule_58 F z h nr w)
  have gr := rg_58_16 I
  refine ov_blk (ls2 := [(0, ov_r 58), (1, ov_l w)]) (st2 := [ov_r 58]) (pc2 := 1) b_76_0_1 rfl rfl ?_
  refine ov_getf (v := ov_i (h 58 11)) d_76_1 fl_Town_69 (zb_58 I) (zs_58 I) rfl ?_
  have g1 := rg_58_11 I
  refine ov_blk (ls2 := [(0, ov_r 58), (1, ov_l w)]) (st2 := [ov_i 4, ov_i (h 58 11)]) (pc2 := 5) b_76_4_1 rfl rfl ?_
  refine ov_icge (tgt := 41) d_76_5 (by decide) (by omega) (by omega) (fun c2 => ?_) (fun c2 => ?_)
  · omega
  · skip
    refine ov_blk (ls2 := [(0, ov_r 58), (1, ov_l w)]) (st2 := [ov_r 58]) (pc2 := 9) b_76_8_1 rfl rfl ?_
    refine ov_getf (v := ov_r 66) d_76_9 fl_Town_33 (zb_58 I) (zs_58 I) (congrArg ov_r (rg_58_13 I)) ?_
    refine ov_blk (ls2 := [(0, ov_r 58), (1, ov_l w)]) (st2 := [ov_r 58, ov_r 66]) (pc2 := 13) b_76_12_1 rfl rfl ?_
    refine ov_getf (v := ov_i (h 58 11)) d_76_13 fl_Town_69 (zb_58 I) (zs_58 I) rfl ?_
    refine ov_blk (ls2 := [(0, ov_r 58), (1, ov_l w)]) (st2 := [ov_l w, ov_i (h 58 11), ov_r 66]) (pc2 := 17) b_76_16_1 rfl rfl ?_
    refine ov_last d_76_17 (zb_66 I) (zs_66 I) (by omega) ?_
    have I4 := ua_66 (k := (h 58 11)) (x := w) I (hw 66 (by decide +kernel))
    refine ov_blk (ls2 := [(0, ov_r 58), (1, ov_l w)]) (st2 := [ov_r 58]) (pc2 := 19) b_76_18_1 rfl rfl ?_
    refine ov_getf (v := ov_r 67) d_76_19 fl_Town_37 (zb_58 I4) (zs_58 I4) (congrArg ov_r (rg_58_14 I4)) ?_
    refine ov_blk (ls2 := [(0, ov_r 58), (1, ov_l w)]) (st2 := [ov_r 58, ov_r 67]) (pc2 := 23) b_76_22_1 rfl rfl ?_
    refine ov_getf (v := ov_i (h 58 11)) d_76_23 fl_Town_69 (zb_58 I4) (zs_58 I4) rfl ?_
    refine ov_blk (ls2 := [(0, ov_r 58), (1, ov_l w)]) (st2 := [ov_r 58, ov_i (h 58 11), ov_r 67]) (pc2 := 27) b_76_26_1 rfl rfl ?_
    refine ov_getf (v := ov_i (h 58 16)) d_76_27 fl_Town_72 (zb_58 I4) (zs_58 I4) rfl ?_
    have g6 := rg_58_16 I
    refine ov_iast d_76_30 (zb_67 I4) (zs_67 I4) (by omega) ?_
    have I7 := ua_67 (k := (h 58 11)) (x := (h 58 16)) I4 (by omega) (hw 67 (by decide +kernel))
    refine ov_blk (ls2 := [(0, ov_r 58), (1, ov_l w)]) (st2 := [ov_r 58, ov_r 58]) (pc2 := 33) b_76_31_2 rfl rfl ?_
    refine ov_getf (v := ov_i (h 58 11)) d_76_33 fl_Town_69 (zb_58 I7) (zs_58 I7) rfl ?_
    refine ov_blk (ls2 := [(0, ov_r 58), (1, ov_l w)]) (st2 := [ov_i ((h 58 11) + 1), ov_r 58]) (pc2 := 38) b_76_36_2 rfl rfl ?_
    refine ov_putf (x := ((h 58 11) + 1)) d_76_38 fl_Town_69 (zb_58 I7) (zs_58 I7) rfl nk_0 rfl ?_
    have I9 := up_58_11 (x := ((h 58 11) + 1)) I7 (by omega) (hw 58 (by decide +kernel))
    show ov_R u d ov_m76 41 [(0, ov_r 58), (1, ov_l w)] [] z (ov_up (ov_up (ov_up h 66 (h 58 11) w) 67 (h 58 11) (h 58 16)) 58 11 ((h 58 11) + 1)) (P_fTown_addRule_58 F z h nr w)
    exact ov_retv (st := []) d_76_41 rfl ⟨rfl, I9, (fun a ca => Eq.trans (by show (ov_up (ov_up (ov_up h 66 (h 58 11) w) 67 (h 58 11) (h 58 16)) 58 11 ((h 58 11) + 1)) a = h a; rw [ov_up_ne (by omega), ov_up_ne (by omega), ov_up_ne (by omega)]) rfl), (by show ((h 58 11) + 1) = nr + 1; omega), (Eq.trans (Eq.trans (show (ov_up (ov_up (ov_up h 66 (h 58 11) w) 67 (h 58 11) (h 58 16)) 58 11 ((h 58 11) + 1)) 66 = (ov_up (ov_up h 66 (h 58 11) w) 67 (h 58 11) (h 58 16)) 66 from rfl) (Eq.trans (show (ov_up (ov_up h 66 (h 58 11) w) 67 (h 58 11) (h 58 16)) 66 = (ov_up h 66 (h 58 11) w) 66 from rfl) (Eq.trans (ov_up_row h 66 (h 58 11) w) (congrArg (fun f => ov_rs f (h 58 11) w) rfl)))) (by rw [p0])), (fun k hk => by rw [show (ov_up (ov_up (ov_up h 66 (h 58 11) w) 67 (h 58 11) (h 58 16)) 58 11 ((h 58 11) + 1)) 58 = (ov_rs (h 58) 11 ((h 58 11) + 1)) from (Eq.trans (ov_up_row (ov_up (ov_up h 66 (h 58 11) w) 67 (h 58 11) (h 58 16)) 58 11 ((h 58 11) + 1)) (congrArg (fun f => ov_rs f 11 ((h 58 11) + 1)) (Eq.trans (show (ov_up (ov_up h 66 (h 58 11) w) 67 (h 58 11) (h 58 16)) 58 = (ov_up h 66 (h 58 11) w) 58 from rfl) (Eq.trans (show (ov_up h 66 (h 58 11) w) 58 = h 58 from rfl) rfl)))), ov_rs_ne hk])⟩
abbrev P_fTown_addCode_58 (F : ov_H) (z : ov_Z) (h : ov_H) (w : Int) : Option ov_V → ov_Z → ov_H → Prop := fun r0 z' h' => r0 = none ∧ ov_I F z' h' ∧ (∀ a : Int, a ≠ 58 ∧ a ≠ 68 → h' a = h a) ∧ (∀ k : Int, k ≠ 16 → (h' 58) k = (h 58) k)
set_option maxHeartbeats 4000000 in
theorem c_fTown_addCode_58 {u : ov_U} {F : ov_H} {z : ov_Z} {h : ov_H} (d : Nat) (hd : 0 ≤ d) (U : ov_cap u) (I : ov_I F z h) (hw : ov_kw 295436135555504537600 F) (w : Int) (g_w : ov_g w) : ov_T u d ov_m75 [ov_r 58, ov_i w] z h (P_fTown_addCode_58 F z h w) := by
  refine ov_en rfl (Nat.le_of_ble_eq_true rfl) ?_
  show ov_R u d ov_m75 0 [(0, ov_r 58), (1, ov_i w)] [] z h (P_fTown_addCode_58 F z h w)
  refine ov_blk (ls2 := [(0, ov_r 58), (1, ov_i w)]) (st2 := [ov_r 58]) (pc2 := 1) b_75_0_1 rfl rfl ?_
  refine ov_getf (v := ov_i (h 58 16)) d_75_1 fl_Town_72 (zb_58 I) (zs_58 I) rfl ?_
  have g1 := rg_58_16 I
  refine ov_blk (ls2 := [(0, ov_r 58), (1, ov_i w)]) (st2 := [ov_i 1000, ov_i (h 58 16)]) (pc2 := 7) b_75_4_1 rfl rfl ?_
  refine ov_icge (tgt := 30) d_75_7 (by decide) (by omega) (by omega) (fun c2 => ?_) (fun c2 => ?_)
  · skip
    exact ov_retv (st := []) d_75_30 rfl ⟨rfl, I, (fun a ca => rfl), (fun k hk => rfl)⟩
  · skip
    refine ov_blk (ls2 := [(0, ov_r 58), (1, ov_i w)]) (st2 := [ov_r 58]) (pc2 := 11) b_75_10_1 rfl rfl ?_
    refine ov_getf (v := ov_r 68) d_75_11 fl_Town_40 (zb_58 I) (zs_58 I) (congrArg ov_r (rg_58_15 I)) ?_
    refine ov_blk (ls2 := [(0, ov_r 58), (1, ov_i w)]) (st2 := [ov_r 58, ov_r 68]) (pc2 := 15) b_75_14_1 rfl rfl ?_
    refine ov_getf (v := ov_i (h 58 16)) d_75_15 fl_Town_72 (zb_58 I) (zs_58 I) rfl ?_
    refine ov_blk (ls2 := [(0, ov_r 58), (1, ov_i w)]) (st2 := [ov_i w, ov_i (h 58 16), ov_r 68]) (pc2 := 19) b_75_18_1 rfl rfl ?_
    refine ov_iast d_75_19 (zb_68 I) (zs_68 I) (by omega) ?_
    have I4 := ua_68 (k := (h 58 16)) (x := w) I (by omega) (hw 68 (by decide +kernel))
    refine ov_blk (ls2 := [(0, ov_r 58), (1, ov_i w)]) (st2 := [ov_r 58, ov_r 58]) (pc2 := 22) b_75_20_2 rfl rfl ?_
    refine ov_getf (v := ov_i (h 58 16)) d_75_22 fl_Town_72 (zb_58 I4) (zs_58 I4) rfl ?_
    refine ov_blk (ls2 := [(0, ov_r 58), (1, ov_i w)]) (st2 := [ov_i ((h 58 16) + 1), ov_r 58]) (pc2 := 27) b_75_25_2 rfl rfl ?_
    refine ov_putf (x := ((h 58 16) + 1)) d_75_27 fl_Town_72 (zb_58 I4) (zs_58 I4) rfl nk_0 rfl ?_
    have I6 := up_58_16 (x := ((h 58 16) + 1)) I4 (by omega) (hw 58 (by decide +kernel))
    show ov_R u d ov_m75 30 [(0, ov_r 58), (1, ov_i w)] [] z (ov_up (ov_up h 68 (h 58 16) w) 58 16 ((h 58 16) + 1)) (P_fTown_addCode_58 F z h w)
    exact ov_retv (st := []) d_75_30 rfl ⟨rfl, I6, (fun a ca => Eq.trans (by show (ov_up (ov_up h 68 (h 58 16) w) 58 16 ((h 58 16) + 1)) a = h a; rw [ov_up_ne (by omega), ov_up_ne (by omega)]) rfl), (fun k hk => by rw [show (ov_up (ov_up h 68 (h 58 16) w) 58 16 ((h 58 16) + 1)) 58 = (ov_rs (h 58) 16 ((h 58 16) + 1)) from (Eq.trans (ov_up_row (ov_up h 68 (h 58 16) w) 58 16 ((h 58 16) + 1)) (congrArg (fun f => ov_rs f 16 ((h 58 16) + 1)) (Eq.trans (show (ov_up h 68 (h 58 16) w) 58 = h 58 from rfl) rfl))), ov_rs_ne hk])⟩
abbrev P_fTown_isBarred_70 (F : ov_H) (z : ov_Z) (h : ov_H) (t : Int → Int) (m : Int) (A : Int → Int) (c : Int) (w : Int) : Option ov_V → ov_Z → ov_H → Prop := fun r0 z' h' => ∃ r : Int, r0 = some (ov_i r) ∧ z = z' ∧ h = h' ∧ ((r = 0 ∧ ((ov_and (ov_shr (A (226 + c)) w) 1) = 0)) ∨ (r = 1 ∧ ((ov_and (ov_shr (A (226 + c)) w) 1) ≠ 0)))
set_option maxHeartbeats 4000000 in
theorem c_fTown_isBarred_70 {u : ov_U} {F : ov_H} (t : Int → Int) (m : Int) (A : Int → Int) {z : ov_Z} {h : ov_H} (d : Nat) (hd : 0 ≤ d) (U : ov_cap u) (I : ov_I F z h) (c : Int) (w : Int) (g_c : ov_g c) (g_w : ov_g w) (p0 : 0 ≤ c ∧ c < 54) (cr : pt_CR t m A (h 70) (h 71) (h 72) (h 73) (h 74) (h 75) (h 76) (h 78)) : ov_T u d ov_m19 [ov_r 70, ov_i c, ov_i w] z h (P_fTown_isBarred_70 F z h t m A c w) := by
  refine ov_en rfl (Nat.le_of_ble_eq_true rfl) ?_
  show ov_R u d ov_m19 0 [(0, ov_r 70), (1, ov_i c), (2, ov_i w)] [] z h (P_fTown_isBarred_70 F z h t m A c w)
  refine ov_blk (ls2 := [(0, ov_r 70), (1, ov_i c), (2, ov_i w)]) (st2 := [ov_r 70]) (pc2 := 1) b_19_0_1 rfl rfl ?_
  refine ov_getf (v := ov_r 75) d_19_1 fl_Town_24 (zb_70 I) (zs_70 I) (congrArg ov_r (rg_70_6 I)) ?_
  refine ov_blk (ls2 := [(0, ov_r 70), (1, ov_i c), (2, ov_i w)]) (st2 := [ov_i c, ov_r 75]) (pc2 := 5) b_19_4_1 rfl rfl ?_
  refine ov_iald d_19_5 (zb_75 I) (zs_75 I) (by omega) ?_
  have g2 := ra_75 I c
  have e1 : h 75 c = (A (226 + c)) := (pt_CR_b cr (by omega))
  rw [e1] at g2
  rw [e1]
  show ov_R u d ov_m19 6 [(0, ov_r 70), (1, ov_i c), (2, ov_i w)] [ov_i (A (226 + c))] z h (P_fTown_isBarred_70 F z h t m A c w)
  refine ov_blk (ls2 := [(0, ov_r 70), (1, ov_i c), (2, ov_i w)]) (st2 := [ov_i (ov_and (ov_shr (A (226 + c)) w) 1)]) (pc2 := 10) b_19_6_4 rfl rfl ?_
  have g3 := ov_shrg (A (226 + c)) w
  have g4 := ov_andg (ov_shr (A (226 + c)) w) 1
  have g5 := ov_and1 (ov_shr (A (226 + c)) w)
  refine ov_ifeq (tgt := 17) d_19_10 (by decide) (by omega) (fun c6 => ?_) (fun c6 => ?_)
  · skip
    refine ov_blk (ls2 := [(0, ov_r 70), (1, ov_i c), (2, ov_i w)]) (st2 := [ov_i 0]) (pc2 := 18) b_19_17_1 rfl rfl ?_
    exact ov_retz (st := []) d_19_18 rfl (by omega) ⟨_, rfl, rfl, rfl, (Or.inl ⟨rfl, (by show (ov_and (ov_shr (A (226 + c)) w) 1) = 0; omega)⟩)⟩
  · skip
    refine ov_blk (ls2 := [(0, ov_r 70), (1, ov_i c), (2, ov_i w)]) (st2 := [ov_i 1]) (pc2 := 14) b_19_13_1 rfl rfl ?_
    refine ov_goto (tgt := 18) d_19_14 (by decide) ?_
    exact ov_retz (st := []) d_19_18 rfl (by omega) ⟨_, rfl, rfl, rfl, (Or.inr ⟨rfl, (by show (ov_and (ov_shr (A (226 + c)) w) 1) ≠ 0; omega)⟩)⟩
abbrev P_fTown_isTimed_70 (F : ov_H) (z : ov_Z) (h : ov_H) (kd : Int) (c : Int) : Option ov_V → ov_Z → ov_H → Prop := fun r0 z' h' => ∃ r : Int, r0 = some (ov_i r) ∧ z = z' ∧ h = h' ∧ ((r = 0 ∧ (kd ≠ 0 ∧ kd ≠ 1)) ∨ (r = 1 ∧ (kd = 0 ∨ kd = 1)))
set_option maxHeartbeats 4000000 in
theorem c_fTown_isTimed_70 {u : ov_U} {F : ov_H} (kd : Int) {z : ov_Z} {h : ov_H} (d : Nat) (hd : 0 ≤ d) (U : ov_cap u) (I : ov_I F z h) (c : Int) (g_c : ov_g c) (p0 : 0 ≤ c ∧ c < 54) (p1 : (h 71 (c)) = kd) : ov_T u d ov_m20 [ov_r 70, ov_i c] z h (P_fTown_isTimed_70 F z h kd c) := by
  refine ov_en rfl (Nat.le_of_ble_eq_true rfl) ?_
  show ov_R u d ov_m20 0 [(0, ov_r 70), (1, ov_i c)] [] z h (P_fTown_isTimed_70 F z h kd c)
  refine ov_blk (ls2 := [(0, ov_r 70), (1, ov_i c)]) (st2 := [ov_r 70]) (pc2 := 1) b_20_0_1 rfl rfl ?_
  refine ov_getf (v := ov_r 71) d_20_1 fl_Town_9 (zb_70 I) (zs_70 I) (congrArg ov_r (rg_70_2 I)) ?_
  refine ov_blk (ls2 := [(0, ov_r 70), (1, ov_i c)]) (st2 := [ov_i c, ov_r 71]) (pc2 := 5) b_20_4_1 rfl rfl ?_
  refine ov_iald d_20_5 (zb_71 I) (zs_71 I) (by omega) ?_
  show ov_R u d ov_m20 6 [(0, ov_r 70), (1, ov_i c)] [ov_i (h 71 c)] z h (P_fTown_isTimed_70 F z h kd c)
  have g1 := ra_71 I c
  refine ov_ifeq (tgt := 19) d_20_6 (by decide) (by omega) (fun c2 => ?_) (fun c2 => ?_)
  · skip
    refine ov_blk (ls2 := [(0, ov_r 70), (1, ov_i c)]) (st2 := [ov_i 1]) (pc2 := 20) b_20_19_1 rfl rfl ?_
    refine ov_goto (tgt := 24) d_20_20 (by decide) ?_
    exact ov_retz (st := []) d_20_24 rfl (by omega) ⟨_, rfl, rfl, rfl, (Or.inr ⟨rfl, (by show kd = 0 ∨ kd = 1; omega)⟩)⟩
  · skip
    refine ov_blk (ls2 := [(0, ov_r 70), (1, ov_i c)]) (st2 := [ov_r 70]) (pc2 := 10) b_20_9_1 rfl rfl ?_
    refine ov_getf (v := ov_r 71) d_20_10 fl_Town_9 (zb_70 I) (zs_70 I) (congrArg ov_r (rg_70_2 I)) ?_
    refine ov_blk (ls2 := [(0, ov_r 70), (1, ov_i c)]) (st2 := [ov_i c, ov_r 71]) (pc2 := 14) b_20_13_1 rfl rfl ?_
    refine ov_iald d_20_14 (zb_71 I) (zs_71 I) (by omega) ?_
    show ov_R u d ov_m20 15 [(0, ov_r 70), (1, ov_i c)] [ov_i (h 71 c)] z h (P_fTown_isTimed_70 F z h kd c)
    have g3 := ra_71 I c
    refine ov_blk (ls2 := [(0, ov_r 70), (1, ov_i c)]) (st2 := [ov_i 1, ov_i (h 71 c)]) (pc2 := 16) b_20_15_1 rfl rfl ?_
    refine ov_icne (tgt := 23) d_20_16 (by decide) (by omega) (by omega) (fun c4 => ?_) (fun c4 => ?_)
    · skip
      refine ov_blk (ls2 := [(0, ov_r 70), (1, ov_i c)]) (st2 := [ov_i 0]) (pc2 := 24) b_20_23_1 rfl rfl ?_
      exact ov_retz (st := []) d_20_24 rfl (by omega) ⟨_, rfl, rfl, rfl, (Or.inl ⟨rfl, (by show kd ≠ 0 ∧ kd ≠ 1; omega)⟩)⟩
    · skip
      refine ov_blk (ls2 := [(0, ov_r 70), (1, ov_i c)]) (st2 := [ov_i 1]) (pc2 := 20) b_20_19_1 rfl rfl ?_
      refine ov_goto (tgt := 24) d_20_20 (by decide) ?_
      exact ov_retz (st := []) d_20_24 rfl (by omega) ⟨_, rfl, rfl, rfl, (Or.inr ⟨rfl, (by show kd = 0 ∨ kd = 1; omega)⟩)⟩
abbrev P_fTown_hasRule_70 (F : ov_H) (z : ov_Z) (h : ov_H) (t : Int → Int) (m : Int) (A : Int → Int) (w : Int) : Option ov_V → ov_Z → ov_H → Prop := fun r0 z' h' => ∃ r : Int, r0 = some (ov_i r) ∧ z = z' ∧ h = h' ∧ ((r = 0 ∧ (¬ ∃ i : Int, 0 ≤ i ∧ i < A 8 ∧ pt_w256 t m (A (310 + i)) = w)) ∨ (r = 1 ∧ (∃ i : Int, 0 ≤ i ∧ i < A 8 ∧ pt_w256 t m (A (310 + i)) = w)))
set_option maxHeartbeats 4000000 in
theorem c_fTown_hasRule_70 {u : ov_U} {F : ov_H} (t : Int → Int) (m : Int) (A : Int → Int) {z : ov_Z} {h : ov_H} (d : Nat) (hd : 0 ≤ d) (U : ov_cap u) (I : ov_I F z h) (w : Int) (p0 : -9223372036854775808 ≤ w ∧ w ≤ 9223372036854775807) (cr : pt_CR t m A (h 70) (h 71) (h 72) (h 73) (h 74) (h 75) (h 76) (h 78)) : ov_T u d ov_m68 [ov_r 70, ov_l w] z h (P_fTown_hasRule_70 F z h t m A w) := by
  refine ov_en rfl (Nat.le_of_ble_eq_true rfl) ?_
  show ov_R u d ov_m68 0 [(0, ov_r 70), (1, ov_l w)] [] z h (P_fTown_hasRule_70 F z h t m A w)
  have gA := pt_CR_r cr
  refine ov_blk (ls2 := [(0, ov_r 70), (1, ov_l w), (3, ov_i 0)]) (st2 := []) (pc2 := 2) b_68_0_2 rfl rfl ?_
  have L4 : ∀ (n1 : Nat) (x3 : Int) (xj : ∀ j : Int, 0 ≤ j → j < x3 → pt_w256 t m (A (310 + j)) ≠ w) (q3 : 0 ≤ x3 ∧ x3 ≤ A 8), A 8 - x3 < (n1 : Int) → ov_R u d ov_m68 2 [(0, ov_r 70), (1, ov_l w), (3, ov_i x3)] [] z h (P_fTown_hasRule_70 F z h t m A w) := by
    intro n1
    induction n1 with
    | zero =>
      intro x3 xj q3 hn5
      exact absurd hn5 (by omega)
    | succ n1 ih2 =>
      intro x3 xj q3 hn5
      refine ov_blk (ls2 := [(0, ov_r 70), (1, ov_l w), (3, ov_i x3)]) (st2 := [ov_r 70, ov_i x3]) (pc2 := 4) b_68_2_2 rfl rfl ?_
      have e6 : h 70 11 = (A 8) := (pt_CR_11 cr)
      refine ov_getf (v := ov_i (A 8)) d_68_4 fl_Town_69 (zb_70 I) (zs_70 I) (congrArg ov_i e6) ?_
      have g7 := rg_70_11 I
      rw [e6] at g7
      refine ov_icge (tgt := 29) d_68_7 (by decide) (by omega) (by omega) (fun c8 => ?_) (fun c8 => ?_)
      · skip
        refine ov_blk (ls2 := [(0, ov_r 70), (1, ov_l w), (3, ov_i x3)]) (st2 := [ov_i 0]) (pc2 := 30) b_68_29_1 rfl rfl ?_
        exact ov_retz (st := []) d_68_30 rfl (by omega) ⟨_, rfl, rfl, rfl, (Or.inl ⟨rfl, (fun ⟨j, a, b, e⟩ => xj j a (by omega) e)⟩)⟩
      · skip
        refine ov_blk (ls2 := [(0, ov_r 70), (1, ov_l w), (3, ov_i x3)]) (st2 := [ov_r 70]) (pc2 := 11) b_68_10_1 rfl rfl ?_
        refine ov_getf (v := ov_r 78) d_68_11 fl_Town_33 (zb_70 I) (zs_70 I) (congrArg ov_r (rg_70_13 I)) ?_
        refine ov_blk (ls2 := [(0, ov_r 70), (1, ov_l w), (3, ov_i x3)]) (st2 := [ov_i x3, ov_r 78]) (pc2 := 15) b_68_14_1 rfl rfl ?_
        refine ov_lald d_68_15 (zb_78 I) (zs_78 I) (by omega) ?_
        have g9 := pt_w256_b (pt_CR_n cr (i := x3) (by omega)).2
        have e10 : h 78 x3 = (pt_w256 t m (A (310 + x3))) := (pt_CR_n cr (by omega)).1
        rw [e10]
        show ov_R u d ov_m68 16 [(0, ov_r 70), (1, ov_l w), (3, ov_i x3)] [ov_l (pt_w256 t m (A (310 + x3)))] z h (P_fTown_hasRule_70 F z h t m A w)
        refine ov_blk (ls2 := [(0, ov_r 70), (1, ov_l w), (3, ov_i x3)]) (st2 := [ov_i (ov_lcmp (pt_w256 t m (A (310 + x3))) w)]) (pc2 := 18) b_68_16_2 rfl rfl ?_
        have g11 := ov_lcg (pt_w256 t m (A (310 + x3))) w
        have g12 := ov_lcs (a := (pt_w256 t m (A (310 + x3)))) (b := w) (by omega) (by omega)
        refine ov_ifne (tgt := 23) d_68_18 (by decide) (by omega) (fun c13 => ?_) (fun c13 => ?_)
        · skip
          refine ov_blk (ls2 := [(0, ov_r 70), (1, ov_l w), (3, ov_i (x3 + 1))]) (st2 := []) (pc2 := 26) b_68_23_1 rfl rfl ?_
          refine ov_goto (tgt := 2) d_68_26 (by decide) ?_
          exact ih2 (x3 + 1) (fun j a b => if e : j = x3 then (by rw [e]; omega) else xj j a (by omega)) (by show 0 ≤ (x3 + 1) ∧ (x3 + 1) ≤ A 8; omega) (by omega)
        · skip
          refine ov_blk (ls2 := [(0, ov_r 70), (1, ov_l w), (3, ov_i x3)]) (st2 := [ov_i 1]) (pc2 := 22) b_68_21_1 rfl rfl ?_
          exact ov_retz (st := []) d_68_22 rfl (by omega) ⟨_, rfl, rfl, rfl, (Or.inr ⟨rfl, ⟨x3, by omega, by omega, by omega⟩⟩)⟩
  exact L4 5 0 (fun j a b => by omega) (by show 0 ≤ 0 ∧ 0 ≤ A 8; omega) (by omega)
abbrev P_fTown_addRule_70 (F : ov_H) (z : ov_Z) (h : ov_H) (nr : Int) (w : Int) : Option ov_V → ov_Z → ov_H → Prop := fun r0 z' h' => r0 = none ∧ ov_I F z' h' ∧ (∀ a : Int, a ≠ 70 ∧ (a < 78 ∨ 79 < a) → h' a = h a) ∧ ((h' 70 11) = nr + 1) ∧ ((h' 78) = ov_rs (h 78) nr w) ∧ (∀ k : Int, k ≠ 11 → (h' 70) k = (h 70) k)
set_option maxHeartbeats 4000000 in
theorem c_fTown_addRule_70 {u : ov_U} {F : ov_H} (nr : Int) {z : ov_Z} {h : ov_H} (d : Nat) (hd : 0 ≤ d) (U : ov_cap u) (I : ov_I F z h) (hw : ov_kw 907874956331689292333056 F) (w : Int) (p0 : (h 70 11) = nr) (p1 : 0 ≤ nr ∧ nr < 4) : ov_T u d ov_m76 [ov_r 70, ov_l w] z h (P_fTown_addRule_70 F z h nr w) := by
  refine ov_en rfl (Nat.le_of_ble_eq_true rfl) ?_
  show ov_R u d ov_m76 0 [(0, ov_r 70), (1, ov_l w)] [] z h (P_fTown_addRule_70 F z h nr w)
  have gr := rg_70_16 I
  refine ov_blk (ls2 := [(0, ov_r 70), (1, ov_l w)]) (st2 := [ov_r 70]) (pc2 := 1) b_76_0_1 rfl rfl ?_
  refine ov_getf (v := ov_i (h 70 11)) d_76_1 fl_Town_69 (zb_70 I) (zs_70 I) rfl ?_
  have g1 := rg_70_11 I
  refine ov_blk (ls2 := [(0, ov_r 70), (1, ov_l w)]) (st2 := [ov_i 4, ov_i (h 70 11)]) (pc2 := 5) b_76_4_1 rfl rfl ?_
  refine ov_icge (tgt := 41) d_76_5 (by decide) (by omega) (by omega) (fun c2 => ?_) (fun c2 => ?_)
  · omega
  · skip
    refine ov_blk (ls2 := [(0, ov_r 70), (1, ov_l w)]) (st2 := [ov_r 70]) (pc2 := 9) b_76_8_1 rfl rfl ?_
    refine ov_getf (v := ov_r 78) d_76_9 fl_Town_33 (zb_70 I) (zs_70 I) (congrArg ov_r (rg_70_13 I)) ?_
    refine ov_blk (ls2 := [(0, ov_r 70), (1, ov_l w)]) (st2 := [ov_r 70, ov_r 78]) (pc2 := 13) b_76_12_1 rfl rfl ?_
    refine ov_getf (v := ov_i (h 70 11)) d_76_13 fl_Town_69 (zb_70 I) (zs_70 I) rfl ?_
    refine ov_blk (ls2 := [(0, ov_r 70), (1, ov_l w)]) (st2 := [ov_l w, ov_i (h 70 11), ov_r 78]) (pc2 := 17) b_76_16_1 rfl rfl ?_
    refine ov_last d_76_17 (zb_78 I) (zs_78 I) (by omega) ?_
    have I4 := ua_78 (k := (h 70 11)) (x := w) I (hw 78 (by decide +kernel))
    refine ov_blk (ls2 := [(0, ov_r 70), (1, ov_l w)]) (st2 := [ov_r 70]) (pc2 := 19) b_76_18_1 rfl rfl ?_
    refine ov_getf (v := ov_r 79) d_76_19 fl_Town_37 (zb_70 I4) (zs_70 I4) (congrArg ov_r (rg_70_14 I4)) ?_
    refine ov_blk (ls2 := [(0, ov_r 70), (1, ov_l w)]) (st2 := [ov_r 70, ov_r 79]) (pc2 := 23) b_76_22_1 rfl rfl ?_
    refine ov_getf (v := ov_i (h 70 11)) d_76_23 fl_Town_69 (zb_70 I4) (zs_70 I4) rfl ?_
    refine ov_blk (ls2 := [(0, ov_r 70), (1, ov_l w)]) (st2 := [ov_r 70, ov_i (h 70 11), ov_r 79]) (pc2 := 27) b_76_26_1 rfl rfl ?_
    refine ov_getf (v := ov_i (h 70 16)) d_76_27 fl_Town_72 (zb_70 I4) (zs_70 I4) rfl ?_
    have g6 := rg_70_16 I
    refine ov_iast d_76_30 (zb_79 I4) (zs_79 I4) (by omega) ?_
    have I7 := ua_79 (k := (h 70 11)) (x := (h 70 16)) I4 (by omega) (hw 79 (by decide +kernel))
    refine ov_blk (ls2 := [(0, ov_r 70), (1, ov_l w)]) (st2 := [ov_r 70, ov_r 70]) (pc2 := 33) b_76_31_2 rfl rfl ?_
    refine ov_getf (v := ov_i (h 70 11)) d_76_33 fl_Town_69 (zb_70 I7) (zs_70 I7) rfl ?_
    refine ov_blk (ls2 := [(0, ov_r 70), (1, ov_l w)]) (st2 := [ov_i ((h 70 11) + 1), ov_r 70]) (pc2 := 38) b_76_36_2 rfl rfl ?_
    refine ov_putf (x := ((h 70 11) + 1)) d_76_38 fl_Town_69 (zb_70 I7) (zs_70 I7) rfl nk_0 rfl ?_
    have I9 := up_70_11 (x := ((h 70 11) + 1)) I7 (by omega) (hw 70 (by decide +kernel))
    show ov_R u d ov_m76 41 [(0, ov_r 70), (1, ov_l w)] [] z (ov_up (ov_up (ov_up h 78 (h 70 11) w) 79 (h 70 11) (h 70 16)) 70 11 ((h 70 11) + 1)) (P_fTown_addRule_70 F z h nr w)
    exact ov_retv (st := []) d_76_41 rfl ⟨rfl, I9, (fun a ca => Eq.trans (by show (ov_up (ov_up (ov_up h 78 (h 70 11) w) 79 (h 70 11) (h 70 16)) 70 11 ((h 70 11) + 1)) a = h a; rw [ov_up_ne (by omega), ov_up_ne (by omega), ov_up_ne (by omega)]) rfl), (by show ((h 70 11) + 1) = nr + 1; omega), (Eq.trans (Eq.trans (show (ov_up (ov_up (ov_up h 78 (h 70 11) w) 79 (h 70 11) (h 70 16)) 70 11 ((h 70 11) + 1)) 78 = (ov_up (ov_up h 78 (h 70 11) w) 79 (h 70 11) (h 70 16)) 78 from rfl) (Eq.trans (show (ov_up (ov_up h 78 (h 70 11) w) 79 (h 70 11) (h 70 16)) 78 = (ov_up h 78 (h 70 11) w) 78 from rfl) (Eq.trans (ov_up_row h 78 (h 70 11) w) (congrArg (fun f => ov_rs f (h 70 11) w) rfl)))) (by rw [p0])), (fun k hk => by rw [show (ov_up (ov_up (ov_up h 78 (h 70 11) w) 79 (h 70 11) (h 70 16)) 70 11 ((h 70 11) + 1)) 70 = (ov_rs (h 70) 11 ((h 70 11) + 1)) from (Eq.trans (ov_up_row (ov_up (ov_up h 78 (h 70 11) w) 79 (h 70 11) (h 70 16)) 70 11 ((h 70 11) + 1)) (congrArg (fun f => ov_rs f 11 ((h 70 11) + 1)) (Eq.trans (show (ov_up (ov_up h 78 (h 70 11) w) 79 (h 70 11) (h 70 16)) 70 = (ov_up h 78 (h 70 11) w) 70 from rfl) (Eq.trans (show (ov_up h 78 (h 70 11) w) 70 = h 70 from rfl) rfl)))), ov_rs_ne hk])⟩
abbrev P_fTown_addCode_70 (F : ov_H) (z : ov_Z) (h : ov_H) (w : Int) : Option ov_V → ov_Z → ov_H → Prop := fun r0 z' h' => r0 = none ∧ ov_I F z' h' ∧ (∀ a : Int, a ≠ 70 ∧ a ≠ 80 → h' a = h a) ∧ (∀ k : Int, k ≠ 16 → (h' 70) k = (h 70) k)
set_option maxHeartbeats 4000000 in
theorem c_fTown_addCode_70 {u : ov_U} {F : ov_H} {z : ov_Z} {h : ov_H} (d : Nat) (hd : 0 ≤ d) (U : ov_cap u) (I : ov_I F z h) (hw : ov_kw 1210106411235346586009600 F) (w : Int) (g_w : ov_g w) : ov_T u d ov_m75 [ov_r 70, ov_i w] z h (P_fTown_addCode_70 F z h w) := by
  refine ov_en rfl (Nat.le_of_ble_eq_true rfl) ?_
  show ov_R u d ov_m75 0 [(0, ov_r 70), (1, ov_i w)] [] z h (P_fTown_addCode_70 F z h w)
  refine ov_blk (ls2 := [(0, ov_r 70), (1, ov_i w)]) (st2 := [ov_r 70]) (pc2 := 1) b_75_0_1 rfl rfl ?_
  refine ov_getf (v := ov_i (h 70 16)) d_75_1 fl_Town_72 (zb_70 I) (zs_70 I) rfl ?_
  have g1 := rg_70_16 I
  refine ov_blk (ls2 := [(0, ov_r 70), (1, ov_i w)]) (st2 := [ov_i 1000, ov_i (h 70 16)]) (pc2 := 7) b_75_4_1 rfl rfl ?_
  refine ov_icge (tgt := 30) d_75_7 (by decide) (by omega) (by omega) (fun c2 => ?_) (fun c2 => ?_)
  · skip
    exact ov_retv (st := []) d_75_30 rfl ⟨rfl, I, (fun a ca => rfl), (fun k hk => rfl)⟩
  · skip
    refine ov_blk (ls2 := [(0, ov_r 70), (1, ov_i w)]) (st2 := [ov_r 70]) (pc2 := 11) b_75_10_1 rfl rfl ?_
    refine ov_getf (v := ov_r 80) d_75_11 fl_Town_40 (zb_70 I) (zs_70 I) (congrArg ov_r (rg_70_15 I)) ?_
    refine ov_blk (ls2 := [(0, ov_r 70), (1, ov_i w)]) (st2 := [ov_r 70, ov_r 80]) (pc2 := 15) b_75_14_1 rfl rfl ?_
    refine ov_getf (v := ov_i (h 70 16)) d_75_15 fl_Town_72 (zb_70 I) (zs_70 I) rfl ?_
    refine ov_blk (ls2 := [(0, ov_r 70), (1, ov_i w)]) (st2 := [ov_i w, ov_i (h 70 16), ov_r 80]) (pc2 := 19) b_75_18_1 rfl rfl ?_
    refine ov_iast d_75_19 (zb_80 I) (zs_80 I) (by omega) ?_
    have I4 := ua_80 (k := (h 70 16)) (x := w) I (by omega) (hw 80 (by decide +kernel))
    refine ov_blk (ls2 := [(0, ov_r 70), (1, ov_i w)]) (st2 := [ov_r 70, ov_r 70]) (pc2 := 22) b_75_20_2 rfl rfl ?_
    refine ov_getf (v := ov_i (h 70 16)) d_75_22 fl_Town_72 (zb_70 I4) (zs_70 I4) rfl ?_
    refine ov_blk (ls2 := [(0, ov_r 70), (1, ov_i w)]) (st2 := [ov_i ((h 70 16) + 1), ov_r 70]) (pc2 := 27) b_75_25_2 rfl rfl ?_
    refine ov_putf (x := ((h 70 16) + 1)) d_75_27 fl_Town_72 (zb_70 I4) (zs_70 I4) rfl nk_0 rfl ?_
    have I6 := up_70_16 (x := ((h 70 16) + 1)) I4 (by omega) (hw 70 (by decide +kernel))
    show ov_R u d ov_m75 30 [(0, ov_r 70), (1, ov_i w)] [] z (ov_up (ov_up h 80 (h 70 16) w) 70 16 ((h 70 16) + 1)) (P_fTown_addCode_70 F z h w)
    exact ov_retv (st := []) d_75_30 rfl ⟨rfl, I6, (fun a ca => Eq.trans (by show (ov_up (ov_up h 80 (h 70 16) w) 70 16 ((h 70 16) + 1)) a = h a; rw [ov_up_ne (by omega), ov_up_ne (by omega)]) rfl), (fun k hk => by rw [show (ov_up (ov_up h 80 (h 70 16) w) 70 16 ((h 70 16) + 1)) 70 = (ov_rs (h 70) 16 ((h 70 16) + 1)) from (Eq.trans (ov_up_row (ov_up h 80 (h 70 16) w) 70 16 ((h 70 16) + 1)) (congrArg (fun f => ov_rs f 16 ((h 70 16) + 1)) (Eq.trans (show (ov_up h 80 (h 70 16) w) 70 = h 70 from rfl) rfl))), ov_rs_ne hk])⟩

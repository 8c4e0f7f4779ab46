abbrev P_fReader_readChild_3_k3_1_58 (F : ov_H) (z : ov_Z) (h : ov_H) (t : Int → Int) (m : Int) (p : Int) (A : Int → Int) : Option ov_V → ov_Z → ov_H → Prop := fun r0 z' h' => ∃ r : Int, r0 = some (ov_i r) ∧ ov_I F z' h' ∧ (∀ a : Int, a ≠ 1 ∧ a ≠ 3 ∧ a ≠ 58 → h' a = h a) ∧ ((r = 0 ∧ ((h' 3 2) = (pt_chF A p) ∧ 1 ≤ (pt_chF A p) ∧ (h' 3 1) = (h 3 1))) ∨ (r = 0 ∧ ((pt_chF A p) = 0 ∧ (pt_is t m (pt_nt t m p) 59) = 0 ∧ (h' 3 2) = 1 + 16 * (pt_nt t m p) ∧ 0 ≤ (pt_nt t m p) ∧ (h' 3 1) = (h 3 1))) ∨ (r = 1 ∧ ((pt_chF A p) = 0 ∧ (pt_is t m (pt_nt t m p) 59) = 1 ∧ (h' 3 1) = (h 3 1) ∧ (h' 3 2) = (h 3 2)) ∧ (pt_TC t m (h' 1) (pt_nt t m (pt_nt t m p))) ∧ (pt_CR t m (pt_chA A) (h' 58) (h' 59) (h' 60) (h' 61) (h' 62) (h' 63) (h' 64) (h' 66))))
set_option maxHeartbeats 4000000 in
theorem c_fReader_readChild_3_k3_1_58 {u : ov_U} {F : ov_H} (t : Int → Int) (m : Int) (p : Int) (A : Int → Int) {z : ov_Z} {h : ov_H} (d : Nat) (hd : 6 ≤ d) (U : ov_cap u) (I : ov_I F z h) (hw : ov_kw 288230376151711754 F) (k0 : h 3 1 = 58) (et : (h 2) = t) (tc : pt_TC t m (h 1) p) (cr : pt_CR t m A (h 58) (h 59) (h 60) (h 61) (h 62) (h 63) (h 64) (h 66)) : ov_T u d ov_m78 [ov_r 3] z h (P_fReader_readChild_3_k3_1_58 F z h t m p A) := by
  refine ov_en rfl (Nat.le_of_ble_eq_true rfl) ?_
  show ov_R u d ov_m78 0 [(0, ov_r 3)] [] z h (P_fReader_readChild_3_k3_1_58 F z h t m p A)
  have gA := pt_CR_r cr
  have tb := pt_TC_b tc
  refine ov_blk (ls2 := [(0, ov_r 3)]) (st2 := [ov_r 3]) (pc2 := 1) b_78_0_1 rfl rfl ?_
  refine ov_getf (v := ov_r 58) d_78_1 fl_Reader_15 (zb_3 I) (zs_3 I) (congrArg ov_r k0) ?_
  have e1 : h 58 8 = (A 304) := (pt_CR_8 cr)
  refine ov_getf (v := ov_i (A 304)) d_78_4 fl_Reader_193 (zb_58 I) (zs_58 I) (congrArg ov_i e1) ?_
  have g2 := rg_58_8 I
  rw [e1] at g2
  refine ov_ifeq (tgt := 16) d_78_7 (by decide) (by omega) (fun c3 => ?_) (fun c3 => ?_)
  · skip
    refine ov_blk (ls2 := [(0, ov_r 3)]) (st2 := [ov_r 3]) (pc2 := 17) b_78_16_1 rfl rfl ?_
    refine ov_getf (v := ov_r 58) d_78_17 fl_Reader_15 (zb_3 I) (zs_3 I) (congrArg ov_r k0) ?_
    refine ov_blk (ls2 := [(0, ov_r 3)]) (st2 := [ov_i 1, ov_r 58]) (pc2 := 21) b_78_20_1 rfl rfl ?_
    refine ov_putf (x := 1) d_78_21 fl_Reader_193 (zb_58 I) (zs_58 I) rfl (nk_3 (by omega)) rfl ?_
    have I4 := up_58_8 (x := 1) I (by omega) (hw 58 (by decide +kernel))
    show ov_R u d ov_m78 24 [(0, ov_r 3)] [] z (ov_up h 58 8 1) (P_fReader_readChild_3_k3_1_58 F z h t m p A)
    refine ov_blk (ls2 := [(0, ov_r 3)]) (st2 := [ov_r 3]) (pc2 := 25) b_78_24_1 rfl rfl ?_
    refine ov_getf (v := ov_r 1) d_78_25 fl_Reader_9 (zb_3 I4) (zs_3 I4) (congrArg ov_r (rg_3_0 I4)) ?_
    refine ov_cV (as := []) (st := []) (d2 := d - 1) d_78_28 lk_Reader_75 rfl (Nat.le_of_ble_eq_true rfl) (c := 8) (zb_1 I4) (zs_1 I4) ⟨by decide, rfl⟩ (by omega) (c_fTape_advance_1_t t m p (d - 1) (by omega) U I4 (ov_kws hw (by decide +kernel)) (show (ov_up h 58 8 1) 2 = t from Eq.trans (show (ov_up h 58 8 1) 2 = h 2 from rfl) et) (by rw [show (ov_up h 58 8 1) 1 = h 1 from rfl]; exact tc)) ?_
    rintro _ z5 h6 ⟨rfl, I7, y8, y9⟩
    have E10 : h6 2 = h 2 := Eq.trans (y8 2 (by decide)) (show (ov_up h 58 8 1) 2 = h 2 from rfl)
    have E11 : h6 3 = h 3 := Eq.trans (y8 3 (by decide)) (show (ov_up h 58 8 1) 3 = h 3 from rfl)
    have R13 : h6 58 = (ov_rs (h 58) 8 1) := Eq.trans (y8 58 (by decide)) (Eq.trans (ov_up_row h 58 8 1) (congrArg (fun f => ov_rs f 8 1) rfl))
    have E14 : h6 59 = h 59 := Eq.trans (y8 59 (by decide)) (show (ov_up h 58 8 1) 59 = h 59 from rfl)
    have E15 : h6 60 = h 60 := Eq.trans (y8 60 (by decide)) (show (ov_up h 58 8 1) 60 = h 60 from rfl)
    have E16 : h6 61 = h 61 := Eq.trans (y8 61 (by decide)) (show (ov_up h 58 8 1) 61 = h 61 from rfl)
    have E17 : h6 62 = h 62 := Eq.trans (y8 62 (by decide)) (show (ov_up h 58 8 1) 62 = h 62 from rfl)
    have E18 : h6 63 = h 63 := Eq.trans (y8 63 (by decide)) (show (ov_up h 58 8 1) 63 = h 63 from rfl)
    have E19 : h6 64 = h 64 := Eq.trans (y8 64 (by decide)) (show (ov_up h 58 8 1) 64 = h 64 from rfl)
    have E20 : h6 66 = h 66 := Eq.trans (y8 66 (by decide)) (show (ov_up h 58 8 1) 66 = h 66 from rfl)
    have fr21 : ∀ a : Int, a ≠ 1 ∧ a ≠ 3 ∧ a ≠ 58 → h6 a = h a := fun a ca => Eq.trans (y8 a (by omega)) (Eq.trans (by show (ov_up h 58 8 1) a = h a; rw [ov_up_ne (by omega)]) rfl)
    have e22 : h6 3 1 = 58 := Eq.trans (congrFun (show h6 3 = (ov_up h 58 8 1) 3 from y8 3 (by decide)) 1) k0
    have y9_ : pt_TC t m (h6 1) (pt_nt t m p) := y9
    have g23 := pt_TC_b y9_
    have g24 := pt_nt_le (t := t) (n := m) (p := p) (by omega)
    show ov_R u d ov_m78 31 [(0, ov_r 3)] [] z5 h6 (P_fReader_readChild_3_k3_1_58 F z h t m p A)
    refine ov_blk (ls2 := [(0, ov_r 3)]) (st2 := [ov_i 59, ov_r 3]) (pc2 := 34) b_78_31_2 rfl rfl ?_
    refine ov_cV (as := [ov_i 59]) (st := []) (d2 := d - 1) d_78_34 lk_Reader_92 rfl (Nat.le_of_ble_eq_true rfl) (c := 6) (zb_3 I7) (zs_3 I7) ⟨by decide, rfl⟩ (by omega) (c_fReader_takeSign_3 t m (pt_nt t m p) (d - 1) (by omega) U I7 (ov_kws hw (by decide +kernel)) 59 (by omega) (show h6 2 = t from Eq.trans (show h6 2 = h 2 from E10) et) y9_) ?_
    rintro _ z26 h27 ⟨v25, rfl, I28, y29, y30⟩
    have E31 : h27 2 = h 2 := Eq.trans (y29 2 (by decide)) (show h6 2 = h 2 from E10)
    have E32 : h27 58 = h6 58 := Eq.trans (y29 58 (by decide)) (show h6 58 = h6 58 from rfl)
    have E33 : h27 59 = h 59 := Eq.trans (y29 59 (by decide)) (show h6 59 = h 59 from E14)
    have E34 : h27 60 = h 60 := Eq.trans (y29 60 (by decide)) (show h6 60 = h 60 from E15)
    have E35 : h27 61 = h 61 := Eq.trans (y29 61 (by decide)) (show h6 61 = h 61 from E16)
    have E36 : h27 62 = h 62 := Eq.trans (y29 62 (by decide)) (show h6 62 = h 62 from E17)
    have E37 : h27 63 = h 63 := Eq.trans (y29 63 (by decide)) (show h6 63 = h 63 from E18)
    have E38 : h27 64 = h 64 := Eq.trans (y29 64 (by decide)) (show h6 64 = h 64 from E19)
    have E39 : h27 66 = h 66 := Eq.trans (y29 66 (by decide)) (show h6 66 = h 66 from E20)
    have fr40 : ∀ a : Int, a ≠ 1 ∧ a ≠ 3 ∧ a ≠ 58 → h27 a = h a := fun a ca => Eq.trans (y29 a (by omega)) (fr21 a ca)
    have cf42 : h6 3 1 = h 3 1 := congrFun E11 1
    have cf43 : h6 3 2 = h 3 2 := congrFun E11 2
    rcases y30 with ⟨rfl, f44⟩ | ⟨rfl, f45, y46⟩
    · skip
      show ov_R u d ov_m78 37 [(0, ov_r 3)] [ov_i 0] z26 h27 (P_fReader_readChild_3_k3_1_58 F z h t m p A)
      have f47 : (h27 3 2) = (pt_fS t m (59 : Int) (pt_nt t m p)) ∧ 1 ≤ (pt_fS t m (59 : Int) (pt_nt t m p)) ∧ (h27 3 2) = 1 + 16 * (pt_nt t m p) ∧ pt_is t m (pt_nt t m p) (59 : Int) = 0 ∧ (h27 3 1) = (h6 3 1) := f44
      clear f44
      have e41 : h27 3 1 = 58 := by omega
      have hF : (pt_chF A p) = 0 := by unfold pt_chF; (repeat' split) <;> omega
      exact ov_retz (st := []) d_78_37 rfl (by omega) ⟨_, rfl, I28, (fun a ca => (fr40 a ca)), (Or.inr (Or.inl ⟨rfl, (by show (pt_chF A p) = 0 ∧ (pt_is t m (pt_nt t m p) 59) = 0 ∧ (h27 3 2) = 1 + 16 * (pt_nt t m p) ∧ 0 ≤ (pt_nt t m p) ∧ (h27 3 1) = (h 3 1); omega)⟩))⟩
    · skip
      show ov_R u d ov_m78 37 [(0, ov_r 3)] [ov_i 1] z26 h27 (P_fReader_readChild_3_k3_1_58 F z h t m p A)
      have f48 : (pt_fS t m (59 : Int) (pt_nt t m p)) = 0 ∧ pt_is t m (pt_nt t m p) (59 : Int) = 1 ∧ (h27 3 1) = (h6 3 1) ∧ (h27 3 2) = (h6 3 2) := f45
      clear f45
      have e41 : h27 3 1 = 58 := by omega
      have y46_ : pt_TC t m (h27 1) (pt_nt t m (pt_nt t m p)) := y46
      have g49 := pt_TC_b y46_
      have g50 := pt_nt_le (t := t) (n := m) (p := (pt_nt t m p)) (by omega)
      have hF : (pt_chF A p) = 0 := by unfold pt_chF; (repeat' split) <;> omega
      exact ov_retz (st := []) d_78_37 rfl (by omega) ⟨_, rfl, I28, (fun a ca => (fr40 a ca)), (Or.inr (Or.inr ⟨rfl, (by show (pt_chF A p) = 0 ∧ (pt_is t m (pt_nt t m p) 59) = 1 ∧ (h27 3 1) = (h 3 1) ∧ (h27 3 2) = (h 3 2); omega), y46_, (by rw [show h27 58 = (ov_rs (h 58) 8 1) from (Eq.trans E32 R13), show h27 59 = (h 59) from E33, show h27 60 = (h 60) from E34, show h27 61 = (h 61) from E35, show h27 62 = (h 62) from E36, show h27 63 = (h 63) from E37, show h27 64 = (h 64) from E38, show h27 66 = (h 66) from E39]; exact pt_CR_child cr)⟩))⟩
  · skip
    refine ov_blk (ls2 := [(0, ov_r 3)]) (st2 := [ov_i 3, ov_r 3]) (pc2 := 12) b_78_10_2 rfl rfl ?_
    refine ov_cV (as := [ov_i 3]) (st := []) (d2 := d - 1) d_78_12 lk_Reader_58 rfl (Nat.le_of_ble_eq_true rfl) (c := 6) (zb_3 I) (zs_3 I) ⟨by decide, rfl⟩ (by omega) (c_fReader_fail_3 t m p (d - 1) (by omega) U I (ov_kws hw (by decide +kernel)) 3 (by omega) (by show 1 ≤ (3 : Int) ∧ (3 : Int) ≤ 5; omega) (show h 2 = t from Eq.trans (show h 2 = h 2 from rfl) et) tc) ?_
    rintro _ z52 h53 ⟨v51, rfl, I54, y55, y56⟩
    have E57 : h53 1 = h 1 := Eq.trans (y55 1 (by decide)) (show h 1 = h 1 from rfl)
    have E58 : h53 2 = h 2 := Eq.trans (y55 2 (by decide)) (show h 2 = h 2 from rfl)
    have E59 : h53 58 = h 58 := Eq.trans (y55 58 (by decide)) (show h 58 = h 58 from rfl)
    have E60 : h53 59 = h 59 := Eq.trans (y55 59 (by decide)) (show h 59 = h 59 from rfl)
    have E61 : h53 60 = h 60 := Eq.trans (y55 60 (by decide)) (show h 60 = h 60 from rfl)
    have E62 : h53 61 = h 61 := Eq.trans (y55 61 (by decide)) (show h 61 = h 61 from rfl)
    have E63 : h53 62 = h 62 := Eq.trans (y55 62 (by decide)) (show h 62 = h 62 from rfl)
    have E64 : h53 63 = h 63 := Eq.trans (y55 63 (by decide)) (show h 63 = h 63 from rfl)
    have E65 : h53 64 = h 64 := Eq.trans (y55 64 (by decide)) (show h 64 = h 64 from rfl)
    have E66 : h53 66 = h 66 := Eq.trans (y55 66 (by decide)) (show h 66 = h 66 from rfl)
    have fr67 : ∀ a : Int, a ≠ 1 ∧ a ≠ 3 ∧ a ≠ 58 → h53 a = h a := fun a ca => Eq.trans (y55 a (by omega)) rfl
    rcases y56 with ⟨rfl, f69⟩
    · skip
      show ov_R u d ov_m78 15 [(0, ov_r 3)] [ov_i 0] z52 h53 (P_fReader_readChild_3_k3_1_58 F z h t m p A)
      have f70 : (h53 3 2) = (3 : Int) + 16 * p ∧ (h53 3 1) = (h 3 1) := f69
      clear f69
      have e68 : h53 3 1 = 58 := by omega
      have hF : (pt_chF A p) = (h53 3 2) := by unfold pt_chF; (repeat' split) <;> omega
      exact ov_retz (st := []) d_78_15 rfl (by omega) ⟨_, rfl, I54, (fun a ca => (fr67 a ca)), (Or.inl ⟨rfl, (by show (h53 3 2) = (pt_chF A p) ∧ 1 ≤ (pt_chF A p) ∧ (h53 3 1) = (h 3 1); omega)⟩)⟩

abbrev P_fReader_readSize_3_k3_1_58 (F : ov_H) (z : ov_Z) (h : ov_H) (t : Int → Int) (m : Int) (p : Int) : Option ov_V → ov_Z → ov_H → Prop := fun r0 z' h' => ∃ r : Int, r0 = some (ov_i r) ∧ ov_I F z' h' ∧ (∀ a : Int, a ≠ 1 ∧ a ≠ 3 ∧ a ≠ 58 → h' a = h a) ∧ ((r = 0 ∧ ((h' 3 2) = (pt_szF t m p) ∧ 1 ≤ (pt_szF t m p) ∧ (h' 3 1) = (h 3 1))) ∨ (r = 1 ∧ ((pt_szF t m p) = 0 ∧ 1 ≤ (pt_nm t m (pt_nt t m p)) ∧ (pt_nm t m (pt_nt t m p)) ≤ 6 ∧ 1 ≤ (pt_nm t m (pt_nt t m (pt_nt t m p))) ∧ (pt_nm t m (pt_nt t m (pt_nt t m p))) ≤ 9 ∧ (h' 3 1) = (h 3 1) ∧ (h' 3 2) = (h 3 2)) ∧ (pt_TC t m (h' 1) (pt_nt t m (pt_nt t m (pt_nt t m (pt_nt t m p))))) ∧ ((h' 58) = ov_rs (ov_rs (h 58) 0 (pt_nm t m (pt_nt t m p))) 1 (pt_nm t m (pt_nt t m (pt_nt t m p))))))
set_option maxHeartbeats 4000000 in
theorem c_fReader_readSize_3_k3_1_58 {u : ov_U} {F : ov_H} (t : Int → Int) (m : Int) (p : Int) {z : ov_Z} {h : ov_H} (d : Nat) (hd : 6 ≤ d) (U : ov_cap u) (I : ov_I F z h) (hw : ov_kw 288230376151711754 F) (k0 : h 3 1 = 58) (et : (h 2) = t) (tc : pt_TC t m (h 1) p) : ov_T u d ov_m49 [ov_r 3] z h (P_fReader_readSize_3_k3_1_58 F z h t m p) := by
  refine ov_en rfl (Nat.le_of_ble_eq_true rfl) ?_
  show ov_R u d ov_m49 0 [(0, ov_r 3)] [] z h (P_fReader_readSize_3_k3_1_58 F z h t m p)
  have tb := pt_TC_b tc
  refine ov_blk (ls2 := [(0, ov_r 3)]) (st2 := [ov_r 3]) (pc2 := 1) b_49_0_1 rfl rfl ?_
  refine ov_ldc2 (n := 1953462126) d_49_1 kc_Reader_96 ?_
  refine ov_cV (as := [ov_l 1953462126]) (st := []) (d2 := d - 1) d_49_4 lk_Reader_98 rfl (Nat.le_of_ble_eq_true rfl) (c := 6) (zb_3 I) (zs_3 I) ⟨by decide, rfl⟩ (by omega) (c_fReader_takeWord_3 t m p (d - 1) (by omega) U I (ov_kws hw (by decide +kernel)) 1953462126 (by show -9223372036854775808 ≤ (1953462126 : Int) ∧ (1953462126 : Int) ≤ 9223372036854775807; omega) (show h 2 = t from Eq.trans (show h 2 = h 2 from rfl) et) tc) ?_
  rintro _ z2 h3 ⟨v1, rfl, I4, y5, y6⟩
  have E7 : h3 2 = h 2 := Eq.trans (y5 2 (by decide)) (show h 2 = h 2 from rfl)
  have E8 : h3 58 = h 58 := Eq.trans (y5 58 (by decide)) (show h 58 = h 58 from rfl)
  have fr9 : ∀ a : Int, a ≠ 1 ∧ a ≠ 3 ∧ a ≠ 58 → h3 a = h a := fun a ca => Eq.trans (y5 a (by omega)) rfl
  rcases y6 with ⟨rfl, f11⟩ | ⟨rfl, f12, y13⟩
  · skip
    show ov_R u d ov_m49 7 [(0, ov_r 3)] [ov_i 0] z2 h3 (P_fReader_readSize_3_k3_1_58 F z h t m p)
    have f14 : (h3 3 2) = (pt_fW t m (1953462126 : Int) p) ∧ 1 ≤ (pt_fW t m (1953462126 : Int) p) ∧ pt_iw t m p (1953462126 : Int) = 0 ∧ (h3 3 1) = (h 3 1) := f11
    clear f11
    have e10 : h3 3 1 = 58 := by omega
    refine ov_ifeq (tgt := 20) d_49_7 (by decide) (by omega) (fun c15 => ?_) (fun c15 => ?_)
    · skip
      refine ov_blk (ls2 := [(0, ov_r 3)]) (st2 := [ov_i 0]) (pc2 := 21) b_49_20_1 rfl rfl ?_
      have hF : (pt_szF t m p) = (h3 3 2) := by unfold pt_szF; (repeat' split) <;> omega
      exact ov_retz (st := []) d_49_21 rfl (by omega) ⟨_, rfl, I4, (fun a ca => (fr9 a ca)), (Or.inl ⟨rfl, (by show (h3 3 2) = (pt_szF t m p) ∧ 1 ≤ (pt_szF t m p) ∧ (h3 3 1) = (h 3 1); omega)⟩)⟩
    · omega
  · skip
    show ov_R u d ov_m49 7 [(0, ov_r 3)] [ov_i 1] z2 h3 (P_fReader_readSize_3_k3_1_58 F z h t m p)
    have f16 : (pt_fW t m (1953462126 : Int) p) = 0 ∧ pt_iw t m p (1953462126 : Int) = 1 ∧ (h3 3 1) = (h 3 1) ∧ (h3 3 2) = (h 3 2) := f12
    clear f12
    have e10 : h3 3 1 = 58 := by omega
    have y13_ : pt_TC t m (h3 1) (pt_nt t m p) := y13
    have g17 := pt_TC_b y13_
    have g18 := pt_nt_le (t := t) (n := m) (p := p) (by omega)
    refine ov_ifeq (tgt := 20) d_49_7 (by decide) (by omega) (fun c19 => ?_) (fun c19 => ?_)
    · omega
    · skip
      refine ov_blk (ls2 := [(0, ov_r 3)]) (st2 := [ov_i 6, ov_i 1, ov_r 3]) (pc2 := 14) b_49_10_3 rfl rfl ?_
      refine ov_cV (as := [ov_i 1, ov_i 6]) (st := []) (d2 := d - 1) d_49_14 lk_Reader_78 rfl (Nat.le_of_ble_eq_true rfl) (c := 6) (zb_3 I4) (zs_3 I4) ⟨by decide, rfl⟩ (by omega) (c_fReader_takeNumber_3 t m (pt_nt t m p) (d - 1) (by omega) U I4 (ov_kws hw (by decide +kernel)) 1 6 (by omega) (by omega) (show h3 2 = t from Eq.trans (show h3 2 = h 2 from E7) et) y13_) ?_
      rintro _ z21 h22 ⟨v20, rfl, I23, y24, y25⟩
      have E26 : h22 2 = h 2 := Eq.trans (y24 2 (by decide)) (show h3 2 = h 2 from E7)
      have E27 : h22 58 = h 58 := Eq.trans (y24 58 (by decide)) (show h3 58 = h 58 from E8)
      have fr28 : ∀ a : Int, a ≠ 1 ∧ a ≠ 3 ∧ a ≠ 58 → h22 a = h a := fun a ca => Eq.trans (y24 a (by omega)) (fr9 a ca)
      rcases y25 with ⟨rfl, f30⟩ | ⟨rfl, f31, y32⟩
      · skip
        show ov_R u d ov_m49 17 [(0, ov_r 3)] [ov_i 0] z21 h22 (P_fReader_readSize_3_k3_1_58 F z h t m p)
        have f33 : (h22 3 2) = (pt_fN t m (1 : Int) (6 : Int) (pt_nt t m p)) ∧ 1 ≤ (pt_fN t m (1 : Int) (6 : Int) (pt_nt t m p)) ∧ (h22 3 1) = (h3 3 1) := f30
        clear f30
        have e29 : h22 3 1 = 58 := by omega
        refine ov_ifne (tgt := 22) d_49_17 (by decide) (by omega) (fun c34 => ?_) (fun c34 => ?_)
        · omega
        · skip
          refine ov_blk (ls2 := [(0, ov_r 3)]) (st2 := [ov_i 0]) (pc2 := 21) b_49_20_1 rfl rfl ?_
          have hF : (pt_szF t m p) = (h22 3 2) := by unfold pt_szF; (repeat' split) <;> omega
          exact ov_retz (st := []) d_49_21 rfl (by omega) ⟨_, rfl, I23, (fun a ca => (fr28 a ca)), (Or.inl ⟨rfl, (by show (h22 3 2) = (pt_szF t m p) ∧ 1 ≤ (pt_szF t m p) ∧ (h22 3 1) = (h 3 1); omega)⟩)⟩
      · skip
        show ov_R u d ov_m49 17 [(0, ov_r 3)] [ov_i 1] z21 h22 (P_fReader_readSize_3_k3_1_58 F z h t m p)
        have f35 : (pt_fN t m (1 : Int) (6 : Int) (pt_nt t m p)) = 0 ∧ (1 : Int) ≤ (pt_nm t m (pt_nt t m p)) ∧ (pt_nm t m (pt_nt t m p)) ≤ (6 : Int) ∧ (h22 3 3) = (pt_nm t m (pt_nt t m p)) ∧ 0 ≤ (pt_nm t m (pt_nt t m p)) ∧ (pt_nm t m (pt_nt t m p)) ≤ 9999 ∧ (h22 3 1) = (h3 3 1) ∧ (h22 3 2) = (h3 3 2) := f31
        clear f31
        have e29 : h22 3 1 = 58 := by omega
        have y32_ : pt_TC t m (h22 1) (pt_nt t m (pt_nt t m p)) := y32
        have g36 := pt_TC_b y32_
        have g37 := pt_nt_le (t := t) (n := m) (p := (pt_nt t m p)) (by omega)
        have e38 : h22 3 3 = (pt_nm t m (pt_nt t m p)) := by omega
        refine ov_ifne (tgt := 22) d_49_17 (by decide) (by omega) (fun c39 => ?_) (fun c39 => ?_)
        · skip
          refine ov_blk (ls2 := [(0, ov_r 3)]) (st2 := [ov_r 3]) (pc2 := 23) b_49_22_1 rfl rfl ?_
          refine ov_getf (v := ov_r 58) d_49_23 fl_Reader_15 (zb_3 I23) (zs_3 I23) (congrArg ov_r e29) ?_
          refine ov_blk (ls2 := [(0, ov_r 3)]) (st2 := [ov_r 3, ov_r 58]) (pc2 := 27) b_49_26_1 rfl rfl ?_
          have e40 : h22 3 3 = (pt_nm t m (pt_nt t m p)) := e38
          refine ov_getf (v := ov_i (pt_nm t m (pt_nt t m p))) d_49_27 fl_Reader_81 (zb_3 I23) (zs_3 I23) (congrArg ov_i e40) ?_
          have g41 := rg_3_3 I23
          rw [e40] at g41
          refine ov_putf (x := (pt_nm t m (pt_nt t m p))) d_49_30 fl_Reader_102 (zb_58 I23) (zs_58 I23) rfl nk_0 rfl ?_
          have I42 := up_58_0 (x := (pt_nm t m (pt_nt t m p))) I23 (by omega) (hw 58 (by decide +kernel))
          show ov_R u d ov_m49 33 [(0, ov_r 3)] [] z21 (ov_up h22 58 0 (pt_nm t m (pt_nt t m p))) (P_fReader_readSize_3_k3_1_58 F z h t m p)
          refine ov_blk (ls2 := [(0, ov_r 3)]) (st2 := [ov_i 9, ov_i 1, ov_r 3]) (pc2 := 37) b_49_33_3 rfl rfl ?_
          refine ov_cV (as := [ov_i 1, ov_i 9]) (st := []) (d2 := d - 1) d_49_37 lk_Reader_78 rfl (Nat.le_of_ble_eq_true rfl) (c := 6) (zb_3 I42) (zs_3 I42) ⟨by decide, rfl⟩ (by omega) (c_fReader_takeNumber_3 t m (pt_nt t m (pt_nt t m p)) (d - 1) (by omega) U I42 (ov_kws hw (by decide +kernel)) 1 9 (by omega) (by omega) (show (ov_up h22 58 0 (pt_nm t m (pt_nt t m p))) 2 = t from Eq.trans (show (ov_up h22 58 0 (pt_nm t m (pt_nt t m p))) 2 = h 2 from E26) et) (by rw [show (ov_up h22 58 0 (pt_nm t m (pt_nt t m p))) 1 = h22 1 from rfl]; exact y32_)) ?_
          rintro _ z44 h45 ⟨v43, rfl, I46, y47, y48⟩
          have E49 : h45 2 = h 2 := Eq.trans (y47 2 (by decide)) (show (ov_up h22 58 0 (pt_nm t m (pt_nt t m p))) 2 = h 2 from E26)
          have R51 : h45 58 = (ov_rs (h 58) 0 (pt_nm t m (pt_nt t m p))) := Eq.trans (y47 58 (by decide)) (Eq.trans (ov_up_row h22 58 0 (pt_nm t m (pt_nt t m p))) (congrArg (fun f => ov_rs f 0 (pt_nm t m (pt_nt t m p))) E27))
          have fr52 : ∀ a : Int, a ≠ 1 ∧ a ≠ 3 ∧ a ≠ 58 → h45 a = h a := fun a ca => Eq.trans (y47 a (by omega)) (Eq.trans (by show (ov_up h22 58 0 (pt_nm t m (pt_nt t m p))) a = h22 a; rw [ov_up_ne (by omega)]) (fr28 a ca))
          rcases y48 with ⟨rfl, f54⟩ | ⟨rfl, f55, y56⟩
          · skip
            show ov_R u d ov_m49 40 [(0, ov_r 3)] [ov_i 0] z44 h45 (P_fReader_readSize_3_k3_1_58 F z h t m p)
            have f57 : (h45 3 2) = (pt_fN t m (1 : Int) (9 : Int) (pt_nt t m (pt_nt t m p))) ∧ 1 ≤ (pt_fN t m (1 : Int) (9 : Int) (pt_nt t m (pt_nt t m p))) ∧ (h45 3 1) = (h22 3 1) := f54
            clear f54
            have e53 : h45 3 1 = 58 := by omega
            refine ov_ifne (tgt := 45) d_49_40 (by decide) (by omega) (fun c58 => ?_) (fun c58 => ?_)
            · omega
            · skip
              refine ov_blk (ls2 := [(0, ov_r 3)]) (st2 := [ov_i 0]) (pc2 := 44) b_49_43_1 rfl rfl ?_
              have hF : (pt_szF t m p) = (h45 3 2) := by unfold pt_szF; (repeat' split) <;> omega
              exact ov_retz (st := []) d_49_44 rfl (by omega) ⟨_, rfl, I46, (fun a ca => (fr52 a ca)), (Or.inl ⟨rfl, (by show (h45 3 2) = (pt_szF t m p) ∧ 1 ≤ (pt_szF t m p) ∧ (h45 3 1) = (h 3 1); omega)⟩)⟩
          · skip
            show ov_R u d ov_m49 40 [(0, ov_r 3)] [ov_i 1] z44 h45 (P_fReader_readSize_3_k3_1_58 F z h t m p)
            have f59 : (pt_fN t m (1 : Int) (9 : Int) (pt_nt t m (pt_nt t m p))) = 0 ∧ (1 : Int) ≤ (pt_nm t m (pt_nt t m (pt_nt t m p))) ∧ (pt_nm t m (pt_nt t m (pt_nt t m p))) ≤ (9 : Int) ∧ (h45 3 3) = (pt_nm t m (pt_nt t m (pt_nt t m p))) ∧ 0 ≤ (pt_nm t m (pt_nt t m (pt_nt t m p))) ∧ (pt_nm t m (pt_nt t m (pt_nt t m p))) ≤ 9999 ∧ (h45 3 1) = (h22 3 1) ∧ (h45 3 2) = (h22 3 2) := f55
            clear f55
            have e53 : h45 3 1 = 58 := by omega
            have y56_ : pt_TC t m (h45 1) (pt_nt t m (pt_nt t m (pt_nt t m p))) := y56
            have g60 := pt_TC_b y56_
            have g61 := pt_nt_le (t := t) (n := m) (p := (pt_nt t m (pt_nt t m p))) (by omega)
            have e62 : h45 3 3 = (pt_nm t m (pt_nt t m (pt_nt t m p))) := by omega
            refine ov_ifne (tgt := 45) d_49_40 (by decide) (by omega) (fun c63 => ?_) (fun c63 => ?_)
            · skip
              refine ov_blk (ls2 := [(0, ov_r 3)]) (st2 := [ov_r 3]) (pc2 := 46) b_49_45_1 rfl rfl ?_
              refine ov_getf (v := ov_r 58) d_49_46 fl_Reader_15 (zb_3 I46) (zs_3 I46) (congrArg ov_r e53) ?_
              refine ov_blk (ls2 := [(0, ov_r 3)]) (st2 := [ov_r 3, ov_r 58]) (pc2 := 50) b_49_49_1 rfl rfl ?_
              have e64 : h45 3 3 = (pt_nm t m (pt_nt t m (pt_nt t m p))) := e62
              refine ov_getf (v := ov_i (pt_nm t m (pt_nt t m (pt_nt t m p)))) d_49_50 fl_Reader_81 (zb_3 I46) (zs_3 I46) (congrArg ov_i e64) ?_
              have g65 := rg_3_3 I46
              rw [e64] at g65
              refine ov_putf (x := (pt_nm t m (pt_nt t m (pt_nt t m p)))) d_49_53 fl_Reader_105 (zb_58 I46) (zs_58 I46) rfl nk_0 rfl ?_
              have I66 := up_58_1 (x := (pt_nm t m (pt_nt t m (pt_nt t m p)))) I46 (by omega) (hw 58 (by decide +kernel))
              show ov_R u d ov_m49 56 [(0, ov_r 3)] [] z44 (ov_up h45 58 1 (pt_nm t m (pt_nt t m (pt_nt t m p)))) (P_fReader_readSize_3_k3_1_58 F z h t m p)
              refine ov_blk (ls2 := [(0, ov_r 3)]) (st2 := [ov_i 59, ov_r 3]) (pc2 := 59) b_49_56_2 rfl rfl ?_
              refine ov_cV (as := [ov_i 59]) (st := []) (d2 := d - 1) d_49_59 lk_Reader_92 rfl (Nat.le_of_ble_eq_true rfl) (c := 6) (zb_3 I66) (zs_3 I66) ⟨by decide, rfl⟩ (by omega) (c_fReader_takeSign_3 t m (pt_nt t m (pt_nt t m (pt_nt t m p))) (d - 1) (by omega) U I66 (ov_kws hw (by decide +kernel)) 59 (by omega) (show (ov_up h45 58 1 (pt_nm t m (pt_nt t m (pt_nt t m p)))) 2 = t from Eq.trans (show (ov_up h45 58 1 (pt_nm t m (pt_nt t m (pt_nt t m p)))) 2 = h 2 from E49) et) (by rw [show (ov_up h45 58 1 (pt_nm t m (pt_nt t m (pt_nt t m p)))) 1 = h45 1 from rfl]; exact y56_)) ?_
              rintro _ z68 h69 ⟨v67, rfl, I70, y71, y72⟩
              have E73 : h69 2 = h 2 := Eq.trans (y71 2 (by decide)) (show (ov_up h45 58 1 (pt_nm t m (pt_nt t m (pt_nt t m p)))) 2 = h 2 from E49)
              have R75 : h69 58 = (ov_rs (ov_rs (h 58) 0 (pt_nm t m (pt_nt t m p))) 1 (pt_nm t m (pt_nt t m (pt_nt t m p)))) := Eq.trans (y71 58 (by decide)) (Eq.trans (ov_up_row h45 58 1 (pt_nm t m (pt_nt t m (pt_nt t m p)))) (congrArg (fun f => ov_rs f 1 (pt_nm t m (pt_nt t m (pt_nt t m p)))) R51))
              have fr76 : ∀ a : Int, a ≠ 1 ∧ a ≠ 3 ∧ a ≠ 58 → h69 a = h a := fun a ca => Eq.trans (y71 a (by omega)) (Eq.trans (by show (ov_up h45 58 1 (pt_nm t m (pt_nt t m (pt_nt t m p)))) a = h45 a; rw [ov_up_ne (by omega)]) (fr52 a ca))
              rcases y72 with ⟨rfl, f78⟩ | ⟨rfl, f79, y80⟩
              · skip
                show ov_R u d ov_m49 62 [(0, ov_r 3)] [ov_i 0] z68 h69 (P_fReader_readSize_3_k3_1_58 F z h t m p)
                have f81 : (h69 3 2) = (pt_fS t m (59 : Int) (pt_nt t m (pt_nt t m (pt_nt t m p)))) ∧ 1 ≤ (pt_fS t m (59 : Int) (pt_nt t m (pt_nt t m (pt_nt t m p)))) ∧ (h69 3 2) = 1 + 16 * (pt_nt t m (pt_nt t m (pt_nt t m p))) ∧ pt_is t m (pt_nt t m (pt_nt t m (pt_nt t m p))) (59 : Int) = 0 ∧ (h69 3 1) = (h45 3 1) := f78
                clear f78
                have e77 : h69 3 1 = 58 := by omega
                have hF : (pt_szF t m p) = (h69 3 2) := by unfold pt_szF; (repeat' split) <;> omega
                exact ov_retz (st := []) d_49_62 rfl (by omega) ⟨_, rfl, I70, (fun a ca => (fr76 a ca)), (Or.inl ⟨rfl, (by show (h69 3 2) = (pt_szF t m p) ∧ 1 ≤ (pt_szF t m p) ∧ (h69 3 1) = (h 3 1); omega)⟩)⟩
              · skip
                show ov_R u d ov_m49 62 [(0, ov_r 3)] [ov_i 1] z68 h69 (P_fReader_readSize_3_k3_1_58 F z h t m p)
                have f82 : (pt_fS t m (59 : Int) (pt_nt t m (pt_nt t m (pt_nt t m p)))) = 0 ∧ pt_is t m (pt_nt t m (pt_nt t m (pt_nt t m p))) (59 : Int) = 1 ∧ (h69 3 1) = (h45 3 1) ∧ (h69 3 2) = (h45 3 2) := f79
                clear f79
                have e77 : h69 3 1 = 58 := by omega
                have y80_ : pt_TC t m (h69 1) (pt_nt t m (pt_nt t m (pt_nt t m (pt_nt t m p)))) := y80
                have g83 := pt_TC_b y80_
                have g84 := pt_nt_le (t := t) (n := m) (p := (pt_nt t m (pt_nt t m (pt_nt t m p)))) (by omega)
                have hF : (pt_szF t m p) = 0 := by unfold pt_szF; (repeat' split) <;> omega
                exact ov_retz (st := []) d_49_62 rfl (by omega) ⟨_, rfl, I70, (fun a ca => (fr76 a ca)), (Or.inr ⟨rfl, (by show (pt_szF t m p) = 0 ∧ 1 ≤ (pt_nm t m (pt_nt t m p)) ∧ (pt_nm t m (pt_nt t m p)) ≤ 6 ∧ 1 ≤ (pt_nm t m (pt_nt t m (pt_nt t m p))) ∧ (pt_nm t m (pt_nt t m (pt_nt t m p))) ≤ 9 ∧ (h69 3 1) = (h 3 1) ∧ (h69 3 2) = (h 3 2); omega), y80_, R75⟩)⟩
            · omega
        · omega

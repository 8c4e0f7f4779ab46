abbrev P_fReader_readGreen_3_k3_1_70 (F : ov_H) (z : ov_Z) (h : ov_H) (t : Int → Int) (m : Int) (p : Int) (rd : Int) (c : Int) : Option ov_V → ov_Z → ov_H → Prop := fun r0 z' h' => ∃ r : Int, r0 = some (ov_i r) ∧ ov_I F z' h' ∧ (∀ a : Int, a ≠ 1 ∧ a ≠ 3 ∧ (a < 73 ∨ 74 < a) → h' a = h a) ∧ ((r = 0 ∧ ((h' 3 2) = (pt_grF t m rd p) ∧ 1 ≤ (pt_grF t m rd p) ∧ (h' 3 1) = (h 3 1))) ∨ (r = 1 ∧ ((pt_grF t m rd p) = 0 ∧ (h' 3 1) = (h 3 1) ∧ (h' 3 2) = (h 3 2)) ∧ (pt_TC t m (h' 1) (pt_nt t m (pt_nt t m (pt_nt t m (pt_nt t m p))))) ∧ ((h' 73) = ov_rs (h 73) c (pt_nm t m (pt_nt t m p))) ∧ ((h' 74) = ov_rs (h 74) c (pt_nm t m (pt_nt t m (pt_nt t m (pt_nt t m p)))))))
set_option maxHeartbeats 4000000 in
theorem c_fReader_readGreen_3_k3_1_70 {u : ov_U} {F : ov_H} (t : Int → Int) (m : Int) (p : Int) (rd : Int) {z : ov_Z} {h : ov_H} (d : Nat) (hd : 6 ≤ d) (U : ov_cap u) (I : ov_I F z h) (hw : ov_kw 28334198897217871282186 F) (c : Int) (k0 : h 3 1 = 70) (g_c : ov_g c) (p0 : 0 ≤ c ∧ c ≤ 53) (p1 : (h 72 (c)) = rd) (p2 : 1 ≤ rd ∧ rd ≤ 60) (et : (h 2) = t) (tc : pt_TC t m (h 1) p) : ov_T u d ov_m63 [ov_r 3, ov_i c] z h (P_fReader_readGreen_3_k3_1_70 F z h t m p rd c) := by
  refine ov_en rfl (Nat.le_of_ble_eq_true rfl) ?_
  show ov_R u d ov_m63 0 [(0, ov_r 3), (1, ov_i c)] [] z h (P_fReader_readGreen_3_k3_1_70 F z h t m p rd c)
  have tb := pt_TC_b tc
  refine ov_blk (ls2 := [(0, ov_r 3), (1, ov_i c)]) (st2 := [ov_r 3]) (pc2 := 1) b_63_0_1 rfl rfl ?_
  refine ov_ldc2 (n := 1870030194) d_63_1 kc_Reader_177 ?_
  refine ov_cV (as := [ov_l 1870030194]) (st := []) (d2 := d - 1) d_63_4 lk_Reader_98 rfl (Nat.le_of_ble_eq_true rfl) (c := 6) (zb_3 I) (zs_3 I) ⟨by decide, rfl⟩ (by omega) (c_fReader_takeWord_3 t m p (d - 1) (by omega) U I (ov_kws hw (by decide +kernel)) 1870030194 (by show -9223372036854775808 ≤ (1870030194 : Int) ∧ (1870030194 : Int) ≤ 9223372036854775807; omega) (show h 2 = t from Eq.trans (show h 2 = h 2 from rfl) et) tc) ?_
  rintro _ z2 h3 ⟨v1, rfl, I4, y5, y6⟩
  have E7 : h3 2 = h 2 := Eq.trans (y5 2 (by decide)) (show h 2 = h 2 from rfl)
  have E8 : h3 72 = h 72 := Eq.trans (y5 72 (by decide)) (show h 72 = h 72 from rfl)
  have E9 : h3 73 = h 73 := Eq.trans (y5 73 (by decide)) (show h 73 = h 73 from rfl)
  have E10 : h3 74 = h 74 := Eq.trans (y5 74 (by decide)) (show h 74 = h 74 from rfl)
  have fr11 : ∀ a : Int, a ≠ 1 ∧ a ≠ 3 ∧ (a < 73 ∨ 74 < a) → h3 a = h a := fun a ca => Eq.trans (y5 a (by omega)) rfl
  rcases y6 with ⟨rfl, f13⟩ | ⟨rfl, f14, y15⟩
  · skip
    show ov_R u d ov_m63 7 [(0, ov_r 3), (1, ov_i c)] [ov_i 0] z2 h3 (P_fReader_readGreen_3_k3_1_70 F z h t m p rd c)
    have f16 : (h3 3 2) = (pt_fW t m (1870030194 : Int) p) ∧ 1 ≤ (pt_fW t m (1870030194 : Int) p) ∧ pt_iw t m p (1870030194 : Int) = 0 ∧ (h3 3 1) = (h 3 1) := f13
    clear f13
    have e12 : h3 3 1 = 70 := by omega
    refine ov_ifeq (tgt := 29) d_63_7 (by decide) (by omega) (fun c17 => ?_) (fun c17 => ?_)
    · skip
      refine ov_blk (ls2 := [(0, ov_r 3), (1, ov_i c)]) (st2 := [ov_i 0]) (pc2 := 30) b_63_29_1 rfl rfl ?_
      have hF : (pt_grF t m rd p) = (h3 3 2) := by unfold pt_grF; (repeat' split) <;> omega
      exact ov_retz (st := []) d_63_30 rfl (by omega) ⟨_, rfl, I4, (fun a ca => (fr11 a ca)), (Or.inl ⟨rfl, (by show (h3 3 2) = (pt_grF t m rd p) ∧ 1 ≤ (pt_grF t m rd p) ∧ (h3 3 1) = (h 3 1); omega)⟩)⟩
    · omega
  · skip
    show ov_R u d ov_m63 7 [(0, ov_r 3), (1, ov_i c)] [ov_i 1] z2 h3 (P_fReader_readGreen_3_k3_1_70 F z h t m p rd c)
    have f18 : (pt_fW t m (1870030194 : Int) p) = 0 ∧ pt_iw t m p (1870030194 : Int) = 1 ∧ (h3 3 1) = (h 3 1) ∧ (h3 3 2) = (h 3 2) := f14
    clear f14
    have e12 : h3 3 1 = 70 := by omega
    have y15_ : pt_TC t m (h3 1) (pt_nt t m p) := y15
    have g19 := pt_TC_b y15_
    have g20 := pt_nt_le (t := t) (n := m) (p := p) (by omega)
    refine ov_ifeq (tgt := 29) d_63_7 (by decide) (by omega) (fun c21 => ?_) (fun c21 => ?_)
    · omega
    · skip
      refine ov_blk (ls2 := [(0, ov_r 3), (1, ov_i c)]) (st2 := [ov_r 3, ov_i 0, ov_r 3]) (pc2 := 13) b_63_10_3 rfl rfl ?_
      refine ov_getf (v := ov_r 70) d_63_13 fl_Reader_15 (zb_3 I4) (zs_3 I4) (congrArg ov_r e12) ?_
      refine ov_getf (v := ov_r 72) d_63_16 fl_Reader_165 (zb_70 I4) (zs_70 I4) (congrArg ov_r (rg_70_3 I4)) ?_
      refine ov_blk (ls2 := [(0, ov_r 3), (1, ov_i c)]) (st2 := [ov_i c, ov_r 72, ov_i 0, ov_r 3]) (pc2 := 20) b_63_19_1 rfl rfl ?_
      refine ov_iald d_63_20 (zb_72 I4) (zs_72 I4) (by omega) ?_
      have g23 := ra_72 I4 c
      have e22 : h3 72 c = rd := Eq.trans (congrFun (show h3 72 = h 72 from E8) c) p1
      rw [e22] at g23
      rw [e22]
      show ov_R u d ov_m63 21 [(0, ov_r 3), (1, ov_i c)] [ov_i rd, ov_i 0, ov_r 3] z2 h3 (P_fReader_readGreen_3_k3_1_70 F z h t m p rd c)
      refine ov_blk (ls2 := [(0, ov_r 3), (1, ov_i c)]) (st2 := [ov_i (rd - 1), ov_i 0, ov_r 3]) (pc2 := 23) b_63_21_2 rfl rfl ?_
      refine ov_cV (as := [ov_i 0, ov_i (rd - 1)]) (st := []) (d2 := d - 1) d_63_23 lk_Reader_78 rfl (Nat.le_of_ble_eq_true rfl) (c := 6) (zb_3 I4) (zs_3 I4) ⟨by decide, rfl⟩ (by omega) (c_fReader_takeNumber_3 t m (pt_nt t m p) (d - 1) (by omega) U I4 (ov_kws hw (by decide +kernel)) 0 (rd - 1) (by omega) (by omega) (show h3 2 = t from Eq.trans (show h3 2 = h 2 from E7) et) y15_) ?_
      rintro _ z25 h26 ⟨v24, rfl, I27, y28, y29⟩
      have E30 : h26 2 = h 2 := Eq.trans (y28 2 (by decide)) (show h3 2 = h 2 from E7)
      have E31 : h26 72 = h 72 := Eq.trans (y28 72 (by decide)) (show h3 72 = h 72 from E8)
      have E32 : h26 73 = h 73 := Eq.trans (y28 73 (by decide)) (show h3 73 = h 73 from E9)
      have E33 : h26 74 = h 74 := Eq.trans (y28 74 (by decide)) (show h3 74 = h 74 from E10)
      have fr34 : ∀ a : Int, a ≠ 1 ∧ a ≠ 3 ∧ (a < 73 ∨ 74 < a) → h26 a = h a := fun a ca => Eq.trans (y28 a (by omega)) (fr11 a ca)
      rcases y29 with ⟨rfl, f36⟩ | ⟨rfl, f37, y38⟩
      · skip
        show ov_R u d ov_m63 26 [(0, ov_r 3), (1, ov_i c)] [ov_i 0] z25 h26 (P_fReader_readGreen_3_k3_1_70 F z h t m p rd c)
        have f39 : (h26 3 2) = (pt_fN t m (0 : Int) (rd - 1) (pt_nt t m p)) ∧ 1 ≤ (pt_fN t m (0 : Int) (rd - 1) (pt_nt t m p)) ∧ (h26 3 1) = (h3 3 1) := f36
        clear f36
        have e35 : h26 3 1 = 70 := by omega
        refine ov_ifne (tgt := 31) d_63_26 (by decide) (by omega) (fun c40 => ?_) (fun c40 => ?_)
        · omega
        · skip
          refine ov_blk (ls2 := [(0, ov_r 3), (1, ov_i c)]) (st2 := [ov_i 0]) (pc2 := 30) b_63_29_1 rfl rfl ?_
          have hF : (pt_grF t m rd p) = (h26 3 2) := by unfold pt_grF; (repeat' split) <;> omega
          exact ov_retz (st := []) d_63_30 rfl (by omega) ⟨_, rfl, I27, (fun a ca => (fr34 a ca)), (Or.inl ⟨rfl, (by show (h26 3 2) = (pt_grF t m rd p) ∧ 1 ≤ (pt_grF t m rd p) ∧ (h26 3 1) = (h 3 1); omega)⟩)⟩
      · skip
        show ov_R u d ov_m63 26 [(0, ov_r 3), (1, ov_i c)] [ov_i 1] z25 h26 (P_fReader_readGreen_3_k3_1_70 F z h t m p rd c)
        have f41 : (pt_fN t m (0 : Int) (rd - 1) (pt_nt t m p)) = 0 ∧ (0 : Int) ≤ (pt_nm t m (pt_nt t m p)) ∧ (pt_nm t m (pt_nt t m p)) ≤ (rd - 1) ∧ (h26 3 3) = (pt_nm t m (pt_nt t m p)) ∧ 0 ≤ (pt_nm t m (pt_nt t m p)) ∧ (pt_nm t m (pt_nt t m p)) ≤ 9999 ∧ (h26 3 1) = (h3 3 1) ∧ (h26 3 2) = (h3 3 2) := f37
        clear f37
        have e35 : h26 3 1 = 70 := by omega
        have y38_ : pt_TC t m (h26 1) (pt_nt t m (pt_nt t m p)) := y38
        have g42 := pt_TC_b y38_
        have g43 := pt_nt_le (t := t) (n := m) (p := (pt_nt t m p)) (by omega)
        have e44 : h26 3 3 = (pt_nm t m (pt_nt t m p)) := by omega
        refine ov_ifne (tgt := 31) d_63_26 (by decide) (by omega) (fun c45 => ?_) (fun c45 => ?_)
        · skip
          refine ov_blk (ls2 := [(0, ov_r 3), (1, ov_i c)]) (st2 := [ov_r 3]) (pc2 := 32) b_63_31_1 rfl rfl ?_
          refine ov_getf (v := ov_r 70) d_63_32 fl_Reader_15 (zb_3 I27) (zs_3 I27) (congrArg ov_r e35) ?_
          refine ov_getf (v := ov_r 73) d_63_35 fl_Reader_179 (zb_70 I27) (zs_70 I27) (congrArg ov_r (rg_70_4 I27)) ?_
          refine ov_blk (ls2 := [(0, ov_r 3), (1, ov_i c)]) (st2 := [ov_r 3, ov_i c, ov_r 73]) (pc2 := 40) b_63_38_2 rfl rfl ?_
          have e46 : h26 3 3 = (pt_nm t m (pt_nt t m p)) := e44
          refine ov_getf (v := ov_i (pt_nm t m (pt_nt t m p))) d_63_40 fl_Reader_81 (zb_3 I27) (zs_3 I27) (congrArg ov_i e46) ?_
          have g47 := rg_3_3 I27
          rw [e46] at g47
          refine ov_iast d_63_43 (zb_73 I27) (zs_73 I27) (by omega) ?_
          have I48 := ua_73 (k := c) (x := (pt_nm t m (pt_nt t m p))) I27 (by omega) (hw 73 (by decide +kernel))
          refine ov_blk (ls2 := [(0, ov_r 3), (1, ov_i c)]) (st2 := [ov_r 3]) (pc2 := 45) b_63_44_1 rfl rfl ?_
          refine ov_ldc2 (n := 6713202) d_63_45 kc_Reader_182 ?_
          refine ov_cV (as := [ov_l 6713202]) (st := []) (d2 := d - 1) d_63_48 lk_Reader_98 rfl (Nat.le_of_ble_eq_true rfl) (c := 6) (zb_3 I48) (zs_3 I48) ⟨by decide, rfl⟩ (by omega) (c_fReader_takeWord_3 t m (pt_nt t m (pt_nt t m p)) (d - 1) (by omega) U I48 (ov_kws hw (by decide +kernel)) 6713202 (by show -9223372036854775808 ≤ (6713202 : Int) ∧ (6713202 : Int) ≤ 9223372036854775807; omega) (show (ov_up h26 73 c (pt_nm t m (pt_nt t m p))) 2 = t from Eq.trans (show (ov_up h26 73 c (pt_nm t m (pt_nt t m p))) 2 = h 2 from E30) et) (by rw [show (ov_up h26 73 c (pt_nm t m (pt_nt t m p))) 1 = h26 1 from rfl]; exact y38_)) ?_
          rintro _ z50 h51 ⟨v49, rfl, I52, y53, y54⟩
          have E55 : h51 2 = h 2 := Eq.trans (y53 2 (by decide)) (show (ov_up h26 73 c (pt_nm t m (pt_nt t m p))) 2 = h 2 from E30)
          have E56 : h51 72 = h 72 := Eq.trans (y53 72 (by decide)) (show (ov_up h26 73 c (pt_nm t m (pt_nt t m p))) 72 = h 72 from E31)
          have R58 : h51 73 = (ov_rs (h 73) c (pt_nm t m (pt_nt t m p))) := Eq.trans (y53 73 (by decide)) (Eq.trans (ov_up_row h26 73 c (pt_nm t m (pt_nt t m p))) (congrArg (fun f => ov_rs f c (pt_nm t m (pt_nt t m p))) E32))
          have E59 : h51 74 = h 74 := Eq.trans (y53 74 (by decide)) (show (ov_up h26 73 c (pt_nm t m (pt_nt t m p))) 74 = h 74 from E33)
          have fr60 : ∀ a : Int, a ≠ 1 ∧ a ≠ 3 ∧ (a < 73 ∨ 74 < a) → h51 a = h a := fun a ca => Eq.trans (y53 a (by omega)) (Eq.trans (by show (ov_up h26 73 c (pt_nm t m (pt_nt t m p))) a = h26 a; rw [ov_up_ne (by omega)]) (fr34 a ca))
          rcases y54 with ⟨rfl, f62⟩ | ⟨rfl, f63, y64⟩
          · skip
            show ov_R u d ov_m63 51 [(0, ov_r 3), (1, ov_i c)] [ov_i 0] z50 h51 (P_fReader_readGreen_3_k3_1_70 F z h t m p rd c)
            have f65 : (h51 3 2) = (pt_fW t m (6713202 : Int) (pt_nt t m (pt_nt t m p))) ∧ 1 ≤ (pt_fW t m (6713202 : Int) (pt_nt t m (pt_nt t m p))) ∧ pt_iw t m (pt_nt t m (pt_nt t m p)) (6713202 : Int) = 0 ∧ (h51 3 1) = (h26 3 1) := f62
            clear f62
            have e61 : h51 3 1 = 70 := by omega
            refine ov_ifeq (tgt := 71) d_63_51 (by decide) (by omega) (fun c66 => ?_) (fun c66 => ?_)
            · skip
              refine ov_blk (ls2 := [(0, ov_r 3), (1, ov_i c)]) (st2 := [ov_i 0]) (pc2 := 72) b_63_71_1 rfl rfl ?_
              have hF : (pt_grF t m rd p) = (h51 3 2) := by unfold pt_grF; (repeat' split) <;> omega
              exact ov_retz (st := []) d_63_72 rfl (by omega) ⟨_, rfl, I52, (fun a ca => (fr60 a ca)), (Or.inl ⟨rfl, (by show (h51 3 2) = (pt_grF t m rd p) ∧ 1 ≤ (pt_grF t m rd p) ∧ (h51 3 1) = (h 3 1); omega)⟩)⟩
            · omega
          · skip
            show ov_R u d ov_m63 51 [(0, ov_r 3), (1, ov_i c)] [ov_i 1] z50 h51 (P_fReader_readGreen_3_k3_1_70 F z h t m p rd c)
            have f67 : (pt_fW t m (6713202 : Int) (pt_nt t m (pt_nt t m p))) = 0 ∧ pt_iw t m (pt_nt t m (pt_nt t m p)) (6713202 : Int) = 1 ∧ (h51 3 1) = (h26 3 1) ∧ (h51 3 2) = (h26 3 2) := f63
            clear f63
            have e61 : h51 3 1 = 70 := by omega
            have y64_ : pt_TC t m (h51 1) (pt_nt t m (pt_nt t m (pt_nt t m p))) := y64
            have g68 := pt_TC_b y64_
            have g69 := pt_nt_le (t := t) (n := m) (p := (pt_nt t m (pt_nt t m p))) (by omega)
            refine ov_ifeq (tgt := 71) d_63_51 (by decide) (by omega) (fun c70 => ?_) (fun c70 => ?_)
            · omega
            · skip
              refine ov_blk (ls2 := [(0, ov_r 3), (1, ov_i c)]) (st2 := [ov_r 3, ov_i 0, ov_r 3]) (pc2 := 57) b_63_54_3 rfl rfl ?_
              refine ov_getf (v := ov_r 70) d_63_57 fl_Reader_15 (zb_3 I52) (zs_3 I52) (congrArg ov_r e61) ?_
              refine ov_getf (v := ov_r 72) d_63_60 fl_Reader_165 (zb_70 I52) (zs_70 I52) (congrArg ov_r (rg_70_3 I52)) ?_
              refine ov_blk (ls2 := [(0, ov_r 3), (1, ov_i c)]) (st2 := [ov_i c, ov_r 72, ov_i 0, ov_r 3]) (pc2 := 64) b_63_63_1 rfl rfl ?_
              refine ov_iald d_63_64 (zb_72 I52) (zs_72 I52) (by omega) ?_
              have g72 := ra_72 I52 c
              have e71 : h51 72 c = rd := Eq.trans (congrFun (show h51 72 = h 72 from E56) c) p1
              rw [e71] at g72
              rw [e71]
              show ov_R u d ov_m63 65 [(0, ov_r 3), (1, ov_i c)] [ov_i rd, ov_i 0, ov_r 3] z50 h51 (P_fReader_readGreen_3_k3_1_70 F z h t m p rd c)
              refine ov_cV (as := [ov_i 0, ov_i rd]) (st := []) (d2 := d - 1) d_63_65 lk_Reader_78 rfl (Nat.le_of_ble_eq_true rfl) (c := 6) (zb_3 I52) (zs_3 I52) ⟨by decide, rfl⟩ (by omega) (c_fReader_takeNumber_3 t m (pt_nt t m (pt_nt t m (pt_nt t m p))) (d - 1) (by omega) U I52 (ov_kws hw (by decide +kernel)) 0 rd (by omega) (by omega) (show h51 2 = t from Eq.trans (show h51 2 = h 2 from E55) et) y64_) ?_
              rintro _ z74 h75 ⟨v73, rfl, I76, y77, y78⟩
              have E79 : h75 2 = h 2 := Eq.trans (y77 2 (by decide)) (show h51 2 = h 2 from E55)
              have E80 : h75 72 = h 72 := Eq.trans (y77 72 (by decide)) (show h51 72 = h 72 from E56)
              have E81 : h75 73 = h51 73 := Eq.trans (y77 73 (by decide)) (show h51 73 = h51 73 from rfl)
              have E82 : h75 74 = h 74 := Eq.trans (y77 74 (by decide)) (show h51 74 = h 74 from E59)
              have fr83 : ∀ a : Int, a ≠ 1 ∧ a ≠ 3 ∧ (a < 73 ∨ 74 < a) → h75 a = h a := fun a ca => Eq.trans (y77 a (by omega)) (fr60 a ca)
              rcases y78 with ⟨rfl, f85⟩ | ⟨rfl, f86, y87⟩
              · skip
                show ov_R u d ov_m63 68 [(0, ov_r 3), (1, ov_i c)] [ov_i 0] z74 h75 (P_fReader_readGreen_3_k3_1_70 F z h t m p rd c)
                have f88 : (h75 3 2) = (pt_fN t m (0 : Int) rd (pt_nt t m (pt_nt t m (pt_nt t m p)))) ∧ 1 ≤ (pt_fN t m (0 : Int) rd (pt_nt t m (pt_nt t m (pt_nt t m p)))) ∧ (h75 3 1) = (h51 3 1) := f85
                clear f85
                have e84 : h75 3 1 = 70 := by omega
                refine ov_ifne (tgt := 73) d_63_68 (by decide) (by omega) (fun c89 => ?_) (fun c89 => ?_)
                · omega
                · skip
                  refine ov_blk (ls2 := [(0, ov_r 3), (1, ov_i c)]) (st2 := [ov_i 0]) (pc2 := 72) b_63_71_1 rfl rfl ?_
                  have hF : (pt_grF t m rd p) = (h75 3 2) := by unfold pt_grF; (repeat' split) <;> omega
                  exact ov_retz (st := []) d_63_72 rfl (by omega) ⟨_, rfl, I76, (fun a ca => (fr83 a ca)), (Or.inl ⟨rfl, (by show (h75 3 2) = (pt_grF t m rd p) ∧ 1 ≤ (pt_grF t m rd p) ∧ (h75 3 1) = (h 3 1); omega)⟩)⟩
              · skip
                show ov_R u d ov_m63 68 [(0, ov_r 3), (1, ov_i c)] [ov_i 1] z74 h75 (P_fReader_readGreen_3_k3_1_70 F z h t m p rd c)
                have f90 : (pt_fN t m (0 : Int) rd (pt_nt t m (pt_nt t m (pt_nt t m p)))) = 0 ∧ (0 : Int) ≤ (pt_nm t m (pt_nt t m (pt_nt t m (pt_nt t m p)))) ∧ (pt_nm t m (pt_nt t m (pt_nt t m (pt_nt t m p)))) ≤ rd ∧ (h75 3 3) = (pt_nm t m (pt_nt t m (pt_nt t m (pt_nt t m p)))) ∧ 0 ≤ (pt_nm t m (pt_nt t m (pt_nt t m (pt_nt t m p)))) ∧ (pt_nm t m (pt_nt t m (pt_nt t m (pt_nt t m p)))) ≤ 9999 ∧ (h75 3 1) = (h51 3 1) ∧ (h75 3 2) = (h51 3 2) := f86
                clear f86
                have e84 : h75 3 1 = 70 := by omega
                have y87_ : pt_TC t m (h75 1) (pt_nt t m (pt_nt t m (pt_nt t m (pt_nt t m p)))) := y87
                have g91 := pt_TC_b y87_
                have g92 := pt_nt_le (t := t) (n := m) (p := (pt_nt t m (pt_nt t m (pt_nt t m p)))) (by omega)
                have e93 : h75 3 3 = (pt_nm t m (pt_nt t m (pt_nt t m (pt_nt t m p)))) := by omega
                refine ov_ifne (tgt := 73) d_63_68 (by decide) (by omega) (fun c94 => ?_) (fun c94 => ?_)
                · skip
                  refine ov_blk (ls2 := [(0, ov_r 3), (1, ov_i c)]) (st2 := [ov_r 3]) (pc2 := 74) b_63_73_1 rfl rfl ?_
                  refine ov_getf (v := ov_r 70) d_63_74 fl_Reader_15 (zb_3 I76) (zs_3 I76) (congrArg ov_r e84) ?_
                  refine ov_getf (v := ov_r 74) d_63_77 fl_Reader_184 (zb_70 I76) (zs_70 I76) (congrArg ov_r (rg_70_5 I76)) ?_
                  refine ov_blk (ls2 := [(0, ov_r 3), (1, ov_i c)]) (st2 := [ov_r 3, ov_i c, ov_r 74]) (pc2 := 82) b_63_80_2 rfl rfl ?_
                  have e95 : h75 3 3 = (pt_nm t m (pt_nt t m (pt_nt t m (pt_nt t m p)))) := e93
                  refine ov_getf (v := ov_i (pt_nm t m (pt_nt t m (pt_nt t m (pt_nt t m p))))) d_63_82 fl_Reader_81 (zb_3 I76) (zs_3 I76) (congrArg ov_i e95) ?_
                  have g96 := rg_3_3 I76
                  rw [e95] at g96
                  refine ov_iast d_63_85 (zb_74 I76) (zs_74 I76) (by omega) ?_
                  have I97 := ua_74 (k := c) (x := (pt_nm t m (pt_nt t m (pt_nt t m (pt_nt t m p))))) I76 (by omega) (hw 74 (by decide +kernel))
                  refine ov_blk (ls2 := [(0, ov_r 3), (1, ov_i c)]) (st2 := [ov_i 1]) (pc2 := 87) b_63_86_1 rfl rfl ?_
                  have hF : (pt_grF t m rd p) = 0 := by unfold pt_grF; (repeat' split) <;> omega
                  exact ov_retz (st := []) d_63_87 rfl (by omega) ⟨_, rfl, I97, (fun a ca => Eq.trans (by show (ov_up h75 74 c (pt_nm t m (pt_nt t m (pt_nt t m (pt_nt t m p))))) a = h75 a; rw [ov_up_ne (by omega)]) (fr83 a ca)), (Or.inr ⟨rfl, (by show (pt_grF t m rd p) = 0 ∧ (h75 3 1) = (h 3 1) ∧ (h75 3 2) = (h 3 2); omega), (by rw [show (ov_up h75 74 c (pt_nm t m (pt_nt t m (pt_nt t m (pt_nt t m p))))) 1 = h75 1 from rfl]; exact y87_), (Eq.trans (show (ov_up h75 74 c (pt_nm t m (pt_nt t m (pt_nt t m (pt_nt t m p))))) 73 = h75 73 from rfl) (Eq.trans E81 R58)), (Eq.trans (ov_up_row h75 74 c (pt_nm t m (pt_nt t m (pt_nt t m (pt_nt t m p))))) (congrArg (fun f => ov_rs f c (pt_nm t m (pt_nt t m (pt_nt t m (pt_nt t m p))))) E82))⟩)⟩
                · omega
        · omega

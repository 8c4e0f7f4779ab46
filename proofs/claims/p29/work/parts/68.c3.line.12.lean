abbrev P_fReader_readSetting_3_k3_1_70 (F : ov_H) (z : ov_Z) (h : ov_H) (t : Int → Int) (m : Int) (p : Int) (A : Int → Int) (w : Int) (a : Int) (b : Int) : Option ov_V → ov_Z → ov_H → Prop := fun r0 z' h' => ∃ r : Int, r0 = some (ov_i r) ∧ ov_I F z' h' ∧ (∀ a : Int, a ≠ 1 ∧ a ≠ 3 ∧ a ≠ 76 → h' a = h a) ∧ ((r = 0 ∧ ((h' 3 2) = (pt_stF t m w a b A p) ∧ 1 ≤ (pt_stF t m w a b A p) ∧ (h' 3 1) = (h 3 1))) ∨ (r = 0 ∧ ((pt_stF t m w a b A p) = 0 ∧ (pt_is t m (pt_nt t m (pt_nt t m p)) 59) = 0 ∧ (h' 3 2) = 1 + 16 * (pt_nt t m (pt_nt t m p)) ∧ 0 ≤ (pt_nt t m (pt_nt t m p)) ∧ (h' 3 1) = (h 3 1))) ∨ (r = 1 ∧ ((pt_stF t m w a b A p) = 0 ∧ (pt_is t m (pt_nt t m (pt_nt t m p)) 59) = 1 ∧ (h' 3 1) = (h 3 1) ∧ (h' 3 2) = (h 3 2)) ∧ (pt_TC t m (h' 1) (pt_nt t m (pt_nt t m (pt_nt t m p)))) ∧ (pt_CR t m (pt_stA t m w A p) (h' 70) (h' 71) (h' 72) (h' 73) (h' 74) (h' 75) (h' 76) (h' 78))))
set_option maxHeartbeats 4000000 in
theorem c_fReader_readSetting_3_k3_1_70 {u : ov_U} {F : ov_H} (t : Int → Int) (m : Int) (p : Int) (A : Int → Int) {z : ov_Z} {h : ov_H} (d : Nat) (hd : 6 ≤ d) (U : ov_cap u) (I : ov_I F z h) (hw : ov_kw 75557863725914323419146 F) (w : Int) (a : Int) (b : Int) (k0 : h 3 1 = 70) (g_w : ov_g w) (g_a : ov_g a) (g_b : ov_g b) (p0 : 0 ≤ w ∧ w ≤ 3) (p1 : 0 ≤ a ∧ b ≤ 30 ∧ (w = 3 → b ≤ 9)) (et : (h 2) = t) (tc : pt_TC t m (h 1) p) (cr : pt_CR t m A (h 70) (h 71) (h 72) (h 73) (h 74) (h 75) (h 76) (h 78)) : ov_T u d ov_m77 [ov_r 3, ov_i w, ov_i a, ov_i b] z h (P_fReader_readSetting_3_k3_1_70 F z h t m p A w a b) := by
  refine ov_en rfl (Nat.le_of_ble_eq_true rfl) ?_
  show ov_R u d ov_m77 0 [(0, ov_r 3), (1, ov_i w), (2, ov_i a), (3, ov_i b)] [] z h (P_fReader_readSetting_3_k3_1_70 F z h t m p A w a b)
  have gA := pt_CR_r cr
  have gs := pt_CR_t cr (i := w) (by omega)
  have tb := pt_TC_b tc
  refine ov_blk (ls2 := [(0, ov_r 3), (1, ov_i w), (2, ov_i a), (3, ov_i b)]) (st2 := [ov_r 3]) (pc2 := 1) b_77_0_1 rfl rfl ?_
  refine ov_getf (v := ov_r 70) d_77_1 fl_Reader_15 (zb_3 I) (zs_3 I) (congrArg ov_r k0) ?_
  refine ov_getf (v := ov_r 76) d_77_4 fl_Reader_190 (zb_70 I) (zs_70 I) (congrArg ov_r (rg_70_7 I)) ?_
  refine ov_blk (ls2 := [(0, ov_r 3), (1, ov_i w), (2, ov_i a), (3, ov_i b)]) (st2 := [ov_i w, ov_r 76]) (pc2 := 8) b_77_7_1 rfl rfl ?_
  refine ov_iald d_77_8 (zb_76 I) (zs_76 I) (by omega) ?_
  have g2 := ra_76 I w
  have e1 : h 76 w = (pt_se A w) := (pt_CR_s cr (by omega))
  rw [e1] at g2
  rw [e1]
  show ov_R u d ov_m77 9 [(0, ov_r 3), (1, ov_i w), (2, ov_i a), (3, ov_i b)] [ov_i (pt_se A w)] z h (P_fReader_readSetting_3_k3_1_70 F z h t m p A w a b)
  refine ov_blk (ls2 := [(0, ov_r 3), (1, ov_i w), (2, ov_i a), (3, ov_i b)]) (st2 := [ov_i (-1), ov_i (pt_se A w)]) (pc2 := 10) b_77_9_1 rfl rfl ?_
  refine ov_iceq (tgt := 19) d_77_10 (by decide) (by omega) (by omega) (fun c3 => ?_) (fun c3 => ?_)
  · skip
    refine ov_blk (ls2 := [(0, ov_r 3), (1, ov_i w), (2, ov_i a), (3, ov_i b)]) (st2 := [ov_r 3]) (pc2 := 20) b_77_19_1 rfl rfl ?_
    refine ov_getf (v := ov_r 1) d_77_20 fl_Reader_9 (zb_3 I) (zs_3 I) (congrArg ov_r (rg_3_0 I)) ?_
    refine ov_cV (as := []) (st := []) (d2 := d - 1) d_77_23 lk_Reader_75 rfl (Nat.le_of_ble_eq_true rfl) (c := 8) (zb_1 I) (zs_1 I) ⟨by decide, rfl⟩ (by omega) (c_fTape_advance_1_t t m p (d - 1) (by omega) U I (ov_kws hw (by decide +kernel)) (show h 2 = t from Eq.trans (show h 2 = h 2 from rfl) et) tc) ?_
    rintro _ z4 h5 ⟨rfl, I6, y7, y8⟩
    have E9 : h5 2 = h 2 := Eq.trans (y7 2 (by decide)) (show h 2 = h 2 from rfl)
    have E10 : h5 3 = h 3 := Eq.trans (y7 3 (by decide)) (show h 3 = h 3 from rfl)
    have E11 : h5 70 = h 70 := Eq.trans (y7 70 (by decide)) (show h 70 = h 70 from rfl)
    have E12 : h5 71 = h 71 := Eq.trans (y7 71 (by decide)) (show h 71 = h 71 from rfl)
    have E13 : h5 72 = h 72 := Eq.trans (y7 72 (by decide)) (show h 72 = h 72 from rfl)
    have E14 : h5 73 = h 73 := Eq.trans (y7 73 (by decide)) (show h 73 = h 73 from rfl)
    have E15 : h5 74 = h 74 := Eq.trans (y7 74 (by decide)) (show h 74 = h 74 from rfl)
    have E16 : h5 75 = h 75 := Eq.trans (y7 75 (by decide)) (show h 75 = h 75 from rfl)
    have E17 : h5 76 = h 76 := Eq.trans (y7 76 (by decide)) (show h 76 = h 76 from rfl)
    have E18 : h5 78 = h 78 := Eq.trans (y7 78 (by decide)) (show h 78 = h 78 from rfl)
    have fr19 : ∀ a : Int, a ≠ 1 ∧ a ≠ 3 ∧ a ≠ 76 → h5 a = h a := fun a ca => Eq.trans (y7 a (by omega)) rfl
    have e20 : h5 3 1 = 70 := Eq.trans (congrFun (show h5 3 = h 3 from y7 3 (by decide)) 1) k0
    have y8_ : pt_TC t m (h5 1) (pt_nt t m p) := y8
    have g21 := pt_TC_b y8_
    have g22 := pt_nt_le (t := t) (n := m) (p := p) (by omega)
    show ov_R u d ov_m77 26 [(0, ov_r 3), (1, ov_i w), (2, ov_i a), (3, ov_i b)] [] z4 h5 (P_fReader_readSetting_3_k3_1_70 F z h t m p A w a b)
    refine ov_blk (ls2 := [(0, ov_r 3), (1, ov_i w), (2, ov_i a), (3, ov_i b)]) (st2 := [ov_i b, ov_i a, ov_r 3]) (pc2 := 29) b_77_26_3 rfl rfl ?_
    refine ov_cV (as := [ov_i a, ov_i b]) (st := []) (d2 := d - 1) d_77_29 lk_Reader_78 rfl (Nat.le_of_ble_eq_true rfl) (c := 6) (zb_3 I6) (zs_3 I6) ⟨by decide, rfl⟩ (by omega) (c_fReader_takeNumber_3 t m (pt_nt t m p) (d - 1) (by omega) U I6 (ov_kws hw (by decide +kernel)) a b (by omega) (by omega) (show h5 2 = t from Eq.trans (show h5 2 = h 2 from E9) et) y8_) ?_
    rintro _ z24 h25 ⟨v23, rfl, I26, y27, y28⟩
    have E29 : h25 2 = h 2 := Eq.trans (y27 2 (by decide)) (show h5 2 = h 2 from E9)
    have E30 : h25 70 = h 70 := Eq.trans (y27 70 (by decide)) (show h5 70 = h 70 from E11)
    have E31 : h25 71 = h 71 := Eq.trans (y27 71 (by decide)) (show h5 71 = h 71 from E12)
    have E32 : h25 72 = h 72 := Eq.trans (y27 72 (by decide)) (show h5 72 = h 72 from E13)
    have E33 : h25 73 = h 73 := Eq.trans (y27 73 (by decide)) (show h5 73 = h 73 from E14)
    have E34 : h25 74 = h 74 := Eq.trans (y27 74 (by decide)) (show h5 74 = h 74 from E15)
    have E35 : h25 75 = h 75 := Eq.trans (y27 75 (by decide)) (show h5 75 = h 75 from E16)
    have E36 : h25 76 = h 76 := Eq.trans (y27 76 (by decide)) (show h5 76 = h 76 from E17)
    have E37 : h25 78 = h 78 := Eq.trans (y27 78 (by decide)) (show h5 78 = h 78 from E18)
    have fr38 : ∀ a : Int, a ≠ 1 ∧ a ≠ 3 ∧ a ≠ 76 → h25 a = h a := fun a ca => Eq.trans (y27 a (by omega)) (fr19 a ca)
    have cf40 : h5 3 1 = h 3 1 := congrFun E10 1
    have cf41 : h5 3 2 = h 3 2 := congrFun E10 2
    rcases y28 with ⟨rfl, f42⟩ | ⟨rfl, f43, y44⟩
    · skip
      show ov_R u d ov_m77 32 [(0, ov_r 3), (1, ov_i w), (2, ov_i a), (3, ov_i b)] [ov_i 0] z24 h25 (P_fReader_readSetting_3_k3_1_70 F z h t m p A w a b)
      have f45 : (h25 3 2) = (pt_fN t m a b (pt_nt t m p)) ∧ 1 ≤ (pt_fN t m a b (pt_nt t m p)) ∧ (h25 3 1) = (h5 3 1) := f42
      clear f42
      have e39 : h25 3 1 = 70 := by omega
      refine ov_ifne (tgt := 37) d_77_32 (by decide) (by omega) (fun c46 => ?_) (fun c46 => ?_)
      · omega
      · skip
        refine ov_blk (ls2 := [(0, ov_r 3), (1, ov_i w), (2, ov_i a), (3, ov_i b)]) (st2 := [ov_i 0]) (pc2 := 36) b_77_35_1 rfl rfl ?_
        have hF : (pt_stF t m w a b A p) = (h25 3 2) := by unfold pt_stF; (repeat' split) <;> omega
        exact ov_retz (st := []) d_77_36 rfl (by omega) ⟨_, rfl, I26, (fun a ca => (fr38 a ca)), (Or.inl ⟨rfl, (by show (h25 3 2) = (pt_stF t m w a b A p) ∧ 1 ≤ (pt_stF t m w a b A p) ∧ (h25 3 1) = (h 3 1); omega)⟩)⟩
    · skip
      show ov_R u d ov_m77 32 [(0, ov_r 3), (1, ov_i w), (2, ov_i a), (3, ov_i b)] [ov_i 1] z24 h25 (P_fReader_readSetting_3_k3_1_70 F z h t m p A w a b)
      have f47 : (pt_fN t m a b (pt_nt t m p)) = 0 ∧ a ≤ (pt_nm t m (pt_nt t m p)) ∧ (pt_nm t m (pt_nt t m p)) ≤ b ∧ (h25 3 3) = (pt_nm t m (pt_nt t m p)) ∧ 0 ≤ (pt_nm t m (pt_nt t m p)) ∧ (pt_nm t m (pt_nt t m p)) ≤ 9999 ∧ (h25 3 1) = (h5 3 1) ∧ (h25 3 2) = (h5 3 2) := f43
      clear f43
      have e39 : h25 3 1 = 70 := by omega
      have y44_ : pt_TC t m (h25 1) (pt_nt t m (pt_nt t m p)) := y44
      have g48 := pt_TC_b y44_
      have g49 := pt_nt_le (t := t) (n := m) (p := (pt_nt t m p)) (by omega)
      have e50 : h25 3 3 = (pt_nm t m (pt_nt t m p)) := by omega
      refine ov_ifne (tgt := 37) d_77_32 (by decide) (by omega) (fun c51 => ?_) (fun c51 => ?_)
      · skip
        refine ov_blk (ls2 := [(0, ov_r 3), (1, ov_i w), (2, ov_i a), (3, ov_i b)]) (st2 := [ov_r 3]) (pc2 := 38) b_77_37_1 rfl rfl ?_
        refine ov_getf (v := ov_r 70) d_77_38 fl_Reader_15 (zb_3 I26) (zs_3 I26) (congrArg ov_r e39) ?_
        refine ov_getf (v := ov_r 76) d_77_41 fl_Reader_190 (zb_70 I26) (zs_70 I26) (congrArg ov_r (rg_70_7 I26)) ?_
        refine ov_blk (ls2 := [(0, ov_r 3), (1, ov_i w), (2, ov_i a), (3, ov_i b)]) (st2 := [ov_r 3, ov_i w, ov_r 76]) (pc2 := 46) b_77_44_2 rfl rfl ?_
        have e52 : h25 3 3 = (pt_nm t m (pt_nt t m p)) := e50
        refine ov_getf (v := ov_i (pt_nm t m (pt_nt t m p))) d_77_46 fl_Reader_81 (zb_3 I26) (zs_3 I26) (congrArg ov_i e52) ?_
        have g53 := rg_3_3 I26
        rw [e52] at g53
        refine ov_iast d_77_49 (zb_76 I26) (zs_76 I26) (by omega) ?_
        have I54 := ua_76 (k := w) (x := (pt_nm t m (pt_nt t m p))) I26 (by omega) (hw 76 (by decide +kernel))
        refine ov_blk (ls2 := [(0, ov_r 3), (1, ov_i w), (2, ov_i a), (3, ov_i b)]) (st2 := [ov_i 59, ov_r 3]) (pc2 := 53) b_77_50_2 rfl rfl ?_
        refine ov_cV (as := [ov_i 59]) (st := []) (d2 := d - 1) d_77_53 lk_Reader_92 rfl (Nat.le_of_ble_eq_true rfl) (c := 6) (zb_3 I54) (zs_3 I54) ⟨by decide, rfl⟩ (by omega) (c_fReader_takeSign_3 t m (pt_nt t m (pt_nt t m p)) (d - 1) (by omega) U I54 (ov_kws hw (by decide +kernel)) 59 (by omega) (show (ov_up h25 76 w (pt_nm t m (pt_nt t m p))) 2 = t from Eq.trans (show (ov_up h25 76 w (pt_nm t m (pt_nt t m p))) 2 = h 2 from E29) et) (by rw [show (ov_up h25 76 w (pt_nm t m (pt_nt t m p))) 1 = h25 1 from rfl]; exact y44_)) ?_
        rintro _ z56 h57 ⟨v55, rfl, I58, y59, y60⟩
        have E61 : h57 2 = h 2 := Eq.trans (y59 2 (by decide)) (show (ov_up h25 76 w (pt_nm t m (pt_nt t m p))) 2 = h 2 from E29)
        have E62 : h57 70 = h 70 := Eq.trans (y59 70 (by decide)) (show (ov_up h25 76 w (pt_nm t m (pt_nt t m p))) 70 = h 70 from E30)
        have E63 : h57 71 = h 71 := Eq.trans (y59 71 (by decide)) (show (ov_up h25 76 w (pt_nm t m (pt_nt t m p))) 71 = h 71 from E31)
        have E64 : h57 72 = h 72 := Eq.trans (y59 72 (by decide)) (show (ov_up h25 76 w (pt_nm t m (pt_nt t m p))) 72 = h 72 from E32)
        have E65 : h57 73 = h 73 := Eq.trans (y59 73 (by decide)) (show (ov_up h25 76 w (pt_nm t m (pt_nt t m p))) 73 = h 73 from E33)
        have E66 : h57 74 = h 74 := Eq.trans (y59 74 (by decide)) (show (ov_up h25 76 w (pt_nm t m (pt_nt t m p))) 74 = h 74 from E34)
        have E67 : h57 75 = h 75 := Eq.trans (y59 75 (by decide)) (show (ov_up h25 76 w (pt_nm t m (pt_nt t m p))) 75 = h 75 from E35)
        have R69 : h57 76 = (ov_rs (h 76) w (pt_nm t m (pt_nt t m p))) := Eq.trans (y59 76 (by decide)) (Eq.trans (ov_up_row h25 76 w (pt_nm t m (pt_nt t m p))) (congrArg (fun f => ov_rs f w (pt_nm t m (pt_nt t m p))) E36))
        have E70 : h57 78 = h 78 := Eq.trans (y59 78 (by decide)) (show (ov_up h25 76 w (pt_nm t m (pt_nt t m p))) 78 = h 78 from E37)
        have fr71 : ∀ a : Int, a ≠ 1 ∧ a ≠ 3 ∧ a ≠ 76 → h57 a = h a := fun a ca => Eq.trans (y59 a (by omega)) (Eq.trans (by show (ov_up h25 76 w (pt_nm t m (pt_nt t m p))) a = h25 a; rw [ov_up_ne (by omega)]) (fr38 a ca))
        rcases y60 with ⟨rfl, f73⟩ | ⟨rfl, f74, y75⟩
        · skip
          show ov_R u d ov_m77 56 [(0, ov_r 3), (1, ov_i w), (2, ov_i a), (3, ov_i b)] [ov_i 0] z56 h57 (P_fReader_readSetting_3_k3_1_70 F z h t m p A w a b)
          have f76 : (h57 3 2) = (pt_fS t m (59 : Int) (pt_nt t m (pt_nt t m p))) ∧ 1 ≤ (pt_fS t m (59 : Int) (pt_nt t m (pt_nt t m p))) ∧ (h57 3 2) = 1 + 16 * (pt_nt t m (pt_nt t m p)) ∧ pt_is t m (pt_nt t m (pt_nt t m p)) (59 : Int) = 0 ∧ (h57 3 1) = (h25 3 1) := f73
          clear f73
          have e72 : h57 3 1 = 70 := by omega
          have hF : (pt_stF t m w a b A p) = 0 := by unfold pt_stF; (repeat' split) <;> omega
          exact ov_retz (st := []) d_77_56 rfl (by omega) ⟨_, rfl, I58, (fun a ca => (fr71 a ca)), (Or.inr (Or.inl ⟨rfl, (by show (pt_stF t m w a b A p) = 0 ∧ (pt_is t m (pt_nt t m (pt_nt t m p)) 59) = 0 ∧ (h57 3 2) = 1 + 16 * (pt_nt t m (pt_nt t m p)) ∧ 0 ≤ (pt_nt t m (pt_nt t m p)) ∧ (h57 3 1) = (h 3 1); omega)⟩))⟩
        · skip
          show ov_R u d ov_m77 56 [(0, ov_r 3), (1, ov_i w), (2, ov_i a), (3, ov_i b)] [ov_i 1] z56 h57 (P_fReader_readSetting_3_k3_1_70 F z h t m p A w a b)
          have f77 : (pt_fS t m (59 : Int) (pt_nt t m (pt_nt t m p))) = 0 ∧ pt_is t m (pt_nt t m (pt_nt t m p)) (59 : Int) = 1 ∧ (h57 3 1) = (h25 3 1) ∧ (h57 3 2) = (h25 3 2) := f74
          clear f74
          have e72 : h57 3 1 = 70 := by omega
          have y75_ : pt_TC t m (h57 1) (pt_nt t m (pt_nt t m (pt_nt t m p))) := y75
          have g78 := pt_TC_b y75_
          have g79 := pt_nt_le (t := t) (n := m) (p := (pt_nt t m (pt_nt t m p))) (by omega)
          have hF : (pt_stF t m w a b A p) = 0 := by unfold pt_stF; (repeat' split) <;> omega
          exact ov_retz (st := []) d_77_56 rfl (by omega) ⟨_, rfl, I58, (fun a ca => (fr71 a ca)), (Or.inr (Or.inr ⟨rfl, (by show (pt_stF t m w a b A p) = 0 ∧ (pt_is t m (pt_nt t m (pt_nt t m p)) 59) = 1 ∧ (h57 3 1) = (h 3 1) ∧ (h57 3 2) = (h 3 2); omega), y75_, (by rw [show h57 70 = (h 70) from E62, show h57 71 = (h 71) from E63, show h57 72 = (h 72) from E64, show h57 73 = (h 73) from E65, show h57 74 = (h 74) from E66, show h57 75 = (h 75) from E67, show h57 76 = (ov_rs (h 76) w (pt_nm t m (pt_nt t m p))) from R69, show h57 78 = (h 78) from E70]; exact pt_CR_set cr (by omega) (by omega))⟩))⟩
      · omega
  · skip
    refine ov_blk (ls2 := [(0, ov_r 3), (1, ov_i w), (2, ov_i a), (3, ov_i b)]) (st2 := [ov_i 3, ov_r 3]) (pc2 := 15) b_77_13_2 rfl rfl ?_
    refine ov_cV (as := [ov_i 3]) (st := []) (d2 := d - 1) d_77_15 lk_Reader_58 rfl (Nat.le_of_ble_eq_true rfl) (c := 6) (zb_3 I) (zs_3 I) ⟨by decide, rfl⟩ (by omega) (c_fReader_fail_3 t m p (d - 1) (by omega) U I (ov_kws hw (by decide +kernel)) 3 (by omega) (by show 1 ≤ (3 : Int) ∧ (3 : Int) ≤ 5; omega) (show h 2 = t from Eq.trans (show h 2 = h 2 from rfl) et) tc) ?_
    rintro _ z81 h82 ⟨v80, rfl, I83, y84, y85⟩
    have E86 : h82 1 = h 1 := Eq.trans (y84 1 (by decide)) (show h 1 = h 1 from rfl)
    have E87 : h82 2 = h 2 := Eq.trans (y84 2 (by decide)) (show h 2 = h 2 from rfl)
    have E88 : h82 70 = h 70 := Eq.trans (y84 70 (by decide)) (show h 70 = h 70 from rfl)
    have E89 : h82 71 = h 71 := Eq.trans (y84 71 (by decide)) (show h 71 = h 71 from rfl)
    have E90 : h82 72 = h 72 := Eq.trans (y84 72 (by decide)) (show h 72 = h 72 from rfl)
    have E91 : h82 73 = h 73 := Eq.trans (y84 73 (by decide)) (show h 73 = h 73 from rfl)
    have E92 : h82 74 = h 74 := Eq.trans (y84 74 (by decide)) (show h 74 = h 74 from rfl)
    have E93 : h82 75 = h 75 := Eq.trans (y84 75 (by decide)) (show h 75 = h 75 from rfl)
    have E94 : h82 76 = h 76 := Eq.trans (y84 76 (by decide)) (show h 76 = h 76 from rfl)
    have E95 : h82 78 = h 78 := Eq.trans (y84 78 (by decide)) (show h 78 = h 78 from rfl)
    have fr96 : ∀ a : Int, a ≠ 1 ∧ a ≠ 3 ∧ a ≠ 76 → h82 a = h a := fun a ca => Eq.trans (y84 a (by omega)) rfl
    rcases y85 with ⟨rfl, f98⟩
    · skip
      show ov_R u d ov_m77 18 [(0, ov_r 3), (1, ov_i w), (2, ov_i a), (3, ov_i b)] [ov_i 0] z81 h82 (P_fReader_readSetting_3_k3_1_70 F z h t m p A w a b)
      have f99 : (h82 3 2) = (3 : Int) + 16 * p ∧ (h82 3 1) = (h 3 1) := f98
      clear f98
      have e97 : h82 3 1 = 70 := by omega
      have hF : (pt_stF t m w a b A p) = (h82 3 2) := by unfold pt_stF; (repeat' split) <;> omega
      exact ov_retz (st := []) d_77_18 rfl (by omega) ⟨_, rfl, I83, (fun a ca => (fr96 a ca)), (Or.inl ⟨rfl, (by show (h82 3 2) = (pt_stF t m w a b A p) ∧ 1 ≤ (pt_stF t m w a b A p) ∧ (h82 3 1) = (h 3 1); omega)⟩)⟩

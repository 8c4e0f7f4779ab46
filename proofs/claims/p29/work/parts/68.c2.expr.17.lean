set_option maxHeartbeats 4000000 in
theorem c_fReader_readPart_3_k3_1_70 {u : ov_U} {F : ov_H} (t : Int → Int) (m : Int) (p : Int) (k : Nat) (HE : ∀ k' : Nat, k' + 1 = k → ∀ {z : ov_Z} {h : ov_H} (t : Int → Int) (m p : Int) (d : Nat) (hd : (10 + 5 * k' + 4) ≤ d) (U : ov_cap u) (I : ov_I F z h) (hw : ov_kw 1210106411235346586009610 F) (dep : Int) (k0 : h 3 1 = 70) (g_dep : ov_g dep) (p0 : 0 ≤ dep ∧ dep + (k' : Int) = 5) (et : (h 2) = t) (tc : pt_TC t m (h 1) p), ov_T u d ov_m69 [ov_r 3, ov_i dep] z h (P_fReader_readExpression_3_k3_1_70 F z h t m p dep)) (HP : ∀ k' : Nat, k' + 1 = k → ∀ {z : ov_Z} {h : ov_H} (t : Int → Int) (m p : Int) (d : Nat) (hd : (10 + 5 * k' + 0) ≤ d) (U : ov_cap u) (I : ov_I F z h) (hw : ov_kw 1210106411235346586009610 F) (dep : Int) (k0 : h 3 1 = 70) (g_dep : ov_g dep) (p0 : 0 ≤ dep ∧ dep + (k' : Int) = 5) (et : (h 2) = t) (tc : pt_TC t m (h 1) p), ov_T u d ov_m73 [ov_r 3, ov_i dep] z h (P_fReader_readPart_3_k3_1_70 F z h t m p dep)) {z : ov_Z} {h : ov_H} (d : Nat) (hd : (10 + 5 * k + 0) ≤ d) (U : ov_cap u) (I : ov_I F z h) (hw : ov_kw 1210106411235346586009610 F) (dep : Int) (k0 : h 3 1 = 70) (g_dep : ov_g dep) (p0 : 0 ≤ dep ∧ dep + (k : Int) = 5) (et : (h 2) = t) (tc : pt_TC t m (h 1) p) : ov_T u d ov_m73 [ov_r 3, ov_i dep] z h (P_fReader_readPart_3_k3_1_70 F z h t m p dep) := by
  refine ov_en rfl (Nat.le_of_ble_eq_true rfl) ?_
  show ov_R u d ov_m73 0 [(0, ov_r 3), (1, ov_i dep)] [] z h (P_fReader_readPart_3_k3_1_70 F z h t m p dep)
  have tyb := pt_ty_b (t := t) (n := m) (p := p)
  have tb := pt_TC_b tc
  refine ov_blk (ls2 := [(0, ov_r 3), (1, ov_i dep)]) (st2 := [ov_r 3]) (pc2 := 1) b_73_0_1 rfl rfl ?_
  refine ov_cV (as := []) (st := []) (d2 := d - 1) d_73_1 lk_Reader_240 rfl (Nat.le_of_ble_eq_true rfl) (c := 6) (zb_3 I) (zs_3 I) ⟨by decide, rfl⟩ (by omega) (c_fReader_plainPart_3 t m p (d - 1) (by omega) U I tc) ?_
  rintro _ _ _ ⟨v1, rfl, rfl, rfl, rfl⟩
  have g2 := @pt_pp_b t m p
  show ov_R u d ov_m73 4 [(0, ov_r 3), (1, ov_i dep)] [ov_i (pt_pp t m p)] z h (P_fReader_readPart_3_k3_1_70 F z h t m p dep)
  refine ov_blk (ls2 := [(0, ov_r 3), (1, ov_i dep), (2, ov_i (pt_pp t m p))]) (st2 := [ov_r 3]) (pc2 := 6) b_73_4_2 rfl rfl ?_
  refine ov_getf (v := ov_r 1) d_73_6 fl_Reader_9 (zb_3 I) (zs_3 I) (congrArg ov_r (rg_3_0 I)) ?_
  refine ov_ldc2 (n := 7237492) d_73_9 kc_Reader_243 ?_
  refine ov_cV (as := [ov_l 7237492]) (st := []) (d2 := d - 1) d_73_12 lk_Reader_110 rfl (Nat.le_of_ble_eq_true rfl) (c := 8) (zb_1 I) (zs_1 I) ⟨by decide, rfl⟩ (by omega) (c_fTape_isWord_1 t m p (d - 1) (by omega) U I 7237492 (by show -9223372036854775808 ≤ (7237492 : Int) ∧ (7237492 : Int) ≤ 9223372036854775807; omega) tc) ?_
  rintro _ _ _ ⟨v3, rfl, rfl, rfl, y4⟩
  rcases y4 with ⟨rfl, f5⟩ | ⟨rfl, f6⟩
  · skip
    show ov_R u d ov_m73 15 [(0, ov_r 3), (1, ov_i dep), (2, ov_i (pt_pp t m p))] [ov_i 0] z h (P_fReader_readPart_3_k3_1_70 F z h t m p dep)
    have f7 : pt_iw t m p (7237492 : Int) = 0 := f5
    clear f5
    refine ov_blk (ls2 := [(0, ov_r 3), (1, ov_i dep), (2, ov_i (pt_pp t m p)), (3, ov_i 0)]) (st2 := [ov_r 3]) (pc2 := 17) b_73_15_2 rfl rfl ?_
    refine ov_getf (v := ov_r 1) d_73_17 fl_Reader_9 (zb_3 I) (zs_3 I) (congrArg ov_r (rg_3_0 I)) ?_
    refine ov_blk (ls2 := [(0, ov_r 3), (1, ov_i dep), (2, ov_i (pt_pp t m p)), (3, ov_i 0)]) (st2 := [ov_i 40, ov_r 1]) (pc2 := 22) b_73_20_1 rfl rfl ?_
    refine ov_cV (as := [ov_i 40]) (st := []) (d2 := d - 1) d_73_22 lk_Reader_231 rfl (Nat.le_of_ble_eq_true rfl) (c := 8) (zb_1 I) (zs_1 I) ⟨by decide, rfl⟩ (by omega) (c_fTape_isSign_1 t m p (d - 1) (by omega) U I 40 (by omega) tc) ?_
    rintro _ _ _ ⟨v8, rfl, rfl, rfl, y9⟩
    rcases y9 with ⟨rfl, f10⟩ | ⟨rfl, f11⟩
    · skip
      show ov_R u d ov_m73 25 [(0, ov_r 3), (1, ov_i dep), (2, ov_i (pt_pp t m p)), (3, ov_i 0)] [ov_i 0] z h (P_fReader_readPart_3_k3_1_70 F z h t m p dep)
      have f12 : pt_is t m p (40 : Int) = 0 := f10
      clear f10
      refine ov_blk (ls2 := [(0, ov_r 3), (1, ov_i dep), (2, ov_i (pt_pp t m p)), (3, ov_i 0), (4, ov_i 0)]) (st2 := [ov_i (-1), ov_i (pt_pp t m p)]) (pc2 := 29) b_73_25_3 rfl rfl ?_
      refine ov_icne (tgt := 47) d_73_29 (by decide) (by omega) (by omega) (fun c13 => ?_) (fun c13 => ?_)
      · skip
        refine ov_blk (ls2 := [(0, ov_r 3), (1, ov_i dep), (2, ov_i (pt_pp t m p)), (3, ov_i 0), (4, ov_i 0)]) (st2 := [ov_i 4, ov_i dep]) (pc2 := 49) b_73_47_2 rfl rfl ?_
        refine ov_icle (tgt := 58) d_73_49 (by decide) (by omega) (by omega) (fun c14 => ?_) (fun c14 => ?_)
        · skip
          refine ov_blk (ls2 := [(0, ov_r 3), (1, ov_i dep), (2, ov_i (pt_pp t m p)), (3, ov_i 0), (4, ov_i 0)]) (st2 := [ov_r 3]) (pc2 := 59) b_73_58_1 rfl rfl ?_
          refine ov_getf (v := ov_r 1) d_73_59 fl_Reader_9 (zb_3 I) (zs_3 I) (congrArg ov_r (rg_3_0 I)) ?_
          refine ov_cV (as := []) (st := []) (d2 := d - 1) d_73_62 lk_Reader_75 rfl (Nat.le_of_ble_eq_true rfl) (c := 8) (zb_1 I) (zs_1 I) ⟨by decide, rfl⟩ (by omega) (c_fTape_advance_1_t t m p (d - 1) (by omega) U I (ov_kws hw (by decide +kernel)) (show h 2 = t from Eq.trans (show h 2 = h 2 from rfl) et) tc) ?_
          rintro _ z15 h16 ⟨rfl, I17, y18, y19⟩
          have E20 : h16 2 = h 2 := Eq.trans (y18 2 (by decide)) (show h 2 = h 2 from rfl)
          have E21 : h16 3 = h 3 := Eq.trans (y18 3 (by decide)) (show h 3 = h 3 from rfl)
          have E22 : h16 70 = h 70 := Eq.trans (y18 70 (by decide)) (show h 70 = h 70 from rfl)
          have fr23 : ∀ a : Int, a ≠ 1 ∧ a ≠ 3 ∧ a ≠ 70 ∧ a ≠ 80 → h16 a = h a := fun a ca => Eq.trans (y18 a (by omega)) rfl
          have e24 : h16 3 1 = 70 := Eq.trans (congrFun (show h16 3 = h 3 from y18 3 (by decide)) 1) k0
          have y19_ : pt_TC t m (h16 1) (pt_nt t m p) := y19
          have g25 := pt_TC_b y19_
          have g26 := pt_nt_le (t := t) (n := m) (p := p) (by omega)
          show ov_R u d ov_m73 65 [(0, ov_r 3), (1, ov_i dep), (2, ov_i (pt_pp t m p)), (3, ov_i 0), (4, ov_i 0)] [] z15 h16 (P_fReader_readPart_3_k3_1_70 F z h t m p dep)
          refine ov_blk (ls2 := [(0, ov_r 3), (1, ov_i dep), (2, ov_i (pt_pp t m p)), (3, ov_i 0), (4, ov_i 0)]) (st2 := [ov_i 0]) (pc2 := 67) b_73_65_1 rfl rfl ?_
          refine ov_ifeq (tgt := 95) d_73_67 (by decide) (by omega) (fun c27 => ?_) (fun c27 => ?_)
          · skip
            refine ov_blk (ls2 := [(0, ov_r 3), (1, ov_i dep), (2, ov_i (pt_pp t m p)), (3, ov_i 0), (4, ov_i 0)]) (st2 := [ov_i 0]) (pc2 := 96) b_73_95_1 rfl rfl ?_
            refine ov_ifeq (tgt := 109) d_73_96 (by decide) (by omega) (fun c28 => ?_) (fun c28 => ?_)
            · skip
              refine ov_blk (ls2 := [(0, ov_r 3), (1, ov_i dep), (2, ov_i (pt_pp t m p)), (3, ov_i 0), (4, ov_i 0)]) (st2 := [ov_i 1]) (pc2 := 110) b_73_109_1 rfl rfl ?_
              refine ov_goto (tgt := 114) d_73_110 (by decide) ?_
              refine ov_blk (ls2 := [(0, ov_r 3), (1, ov_i dep), (2, ov_i (pt_pp t m p)), (3, ov_i 0), (4, ov_i 0), (5, ov_i 1)]) (st2 := [ov_r 3]) (pc2 := 117) b_73_114_2 rfl rfl ?_
              refine ov_getf (v := ov_r 70) d_73_117 fl_Reader_15 (zb_3 I17) (zs_3 I17) (congrArg ov_r e24) ?_
              refine ov_blk (ls2 := [(0, ov_r 3), (1, ov_i dep), (2, ov_i (pt_pp t m p)), (3, ov_i 0), (4, ov_i 0), (5, ov_i 1)]) (st2 := [ov_i 0, ov_r 70]) (pc2 := 121) b_73_120_1 rfl rfl ?_
              refine ov_ifeq (tgt := 128) d_73_121 (by decide) (by omega) (fun c29 => ?_) (fun c29 => ?_)
              · skip
                refine ov_blk (ls2 := [(0, ov_r 3), (1, ov_i dep), (2, ov_i (pt_pp t m p)), (3, ov_i 0), (4, ov_i 0), (5, ov_i 1)]) (st2 := [ov_i (pt_pp t m p), ov_r 70]) (pc2 := 129) b_73_128_1 rfl rfl ?_
                refine ov_cV (as := [ov_i (pt_pp t m p)]) (st := []) (d2 := d - 1) d_73_129 lk_Reader_224 rfl (Nat.le_of_ble_eq_true rfl) (c := 9) (zb_70 I17) (zs_70 I17) ⟨by decide, rfl⟩ (by omega) (c_fTown_addCode_70 (d - 1) (by omega) U I17 (ov_kws hw (by decide +kernel)) (pt_pp t m p) (by omega)) ?_
                rintro _ z30 h31 ⟨rfl, I32, y33, y34⟩
                have E35 : h31 1 = h16 1 := Eq.trans (y33 1 (by decide)) (show h16 1 = h16 1 from rfl)
                have E36 : h31 2 = h 2 := Eq.trans (y33 2 (by decide)) (show h16 2 = h 2 from E20)
                have E37 : h31 3 = h 3 := Eq.trans (y33 3 (by decide)) (show h16 3 = h 3 from E21)
                have fr38 : ∀ a : Int, a ≠ 1 ∧ a ≠ 3 ∧ a ≠ 70 ∧ a ≠ 80 → h31 a = h a := fun a ca => Eq.trans (y33 a (by omega)) (fr23 a ca)
                have e39 : h31 3 1 = 70 := Eq.trans (congrFun (show h31 3 = h16 3 from y33 3 (by decide)) 1) e24
                have y34_ : ∀ k : Int, k ≠ 16 → (h31 70) k = (h16 70) k := y34
                show ov_R u d ov_m73 132 [(0, ov_r 3), (1, ov_i dep), (2, ov_i (pt_pp t m p)), (3, ov_i 0), (4, ov_i 0), (5, ov_i 1)] [] z30 h31 (P_fReader_readPart_3_k3_1_70 F z h t m p dep)
                have cx40 : ∀ k : Int, k ≠ 16 → h31 70 k = h 70 k := fun k hk => Eq.trans (y34_ k hk) (congrFun (show h16 70 = h 70 from E22) k)
                refine ov_blk (ls2 := [(0, ov_r 3), (1, ov_i dep), (2, ov_i (pt_pp t m p)), (3, ov_i 0), (4, ov_i 0), (5, ov_i 1)]) (st2 := [ov_i 1]) (pc2 := 134) b_73_132_1 rfl rfl ?_
                have cf41 : h31 3 1 = h 3 1 := congrFun (E37) 1
                have cf42 : h31 3 2 = h 3 2 := congrFun (E37) 2
                exact ov_retz (st := []) d_73_134 rfl (by omega) ⟨_, rfl, I32, (fun a ca => (fr38 a ca)), (fun k hk => cx40 k hk), (Or.inr ⟨rfl, (pt_nt t m p), (by show p ≤ (pt_nt t m p) ∧ (h31 3 1) = (h 3 1) ∧ (h31 3 2) = (h 3 2); omega), (pt_EV0 (by omega) (by omega) (by omega) (by omega)), (by rw [show h31 1 = h16 1 from E35]; exact y19_)⟩)⟩
              · omega
            · omega
          · omega
        · skip
          refine ov_blk (ls2 := [(0, ov_r 3), (1, ov_i dep), (2, ov_i (pt_pp t m p)), (3, ov_i 0), (4, ov_i 0)]) (st2 := [ov_i 5, ov_r 3]) (pc2 := 54) b_73_52_2 rfl rfl ?_
          refine ov_cV (as := [ov_i 5]) (st := []) (d2 := d - 1) d_73_54 lk_Reader_58 rfl (Nat.le_of_ble_eq_true rfl) (c := 6) (zb_3 I) (zs_3 I) ⟨by decide, rfl⟩ (by omega) (c_fReader_fail_3 t m p (d - 1) (by omega) U I (ov_kws hw (by decide +kernel)) 5 (by omega) (by show 1 ≤ (5 : Int) ∧ (5 : Int) ≤ 5; omega) (show h 2 = t from Eq.trans (show h 2 = h 2 from rfl) et) tc) ?_
          rintro _ z44 h45 ⟨v43, rfl, I46, y47, y48⟩
          have E49 : h45 1 = h 1 := Eq.trans (y47 1 (by decide)) (show h 1 = h 1 from rfl)
          have E50 : h45 2 = h 2 := Eq.trans (y47 2 (by decide)) (show h 2 = h 2 from rfl)
          have E51 : h45 70 = h 70 := Eq.trans (y47 70 (by decide)) (show h 70 = h 70 from rfl)
          have fr52 : ∀ a : Int, a ≠ 1 ∧ a ≠ 3 ∧ a ≠ 70 ∧ a ≠ 80 → h45 a = h a := fun a ca => Eq.trans (y47 a (by omega)) rfl
          rcases y48 with ⟨rfl, f54⟩
          · skip
            show ov_R u d ov_m73 57 [(0, ov_r 3), (1, ov_i dep), (2, ov_i (pt_pp t m p)), (3, ov_i 0), (4, ov_i 0)] [ov_i 0] z44 h45 (P_fReader_readPart_3_k3_1_70 F z h t m p dep)
            have f55 : (h45 3 2) = (5 : Int) + 16 * p ∧ (h45 3 1) = (h 3 1) := f54
            clear f54
            have e53 : h45 3 1 = 70 := by omega
            exact ov_retz (st := []) d_73_57 rfl (by omega) ⟨_, rfl, I46, (fun a ca => (fr52 a ca)), (fun k hk => congrFun (show h45 70 = h 70 from E51) k), (Or.inl ⟨rfl, (5 + 16 * p), p, (by show (h45 3 2) = (5 + 16 * p) ∧ 1 ≤ (5 + 16 * p) ∧ (h45 3 1) = (h 3 1); omega), (pt_EV0_deep (fun w => by omega) (by omega))⟩)⟩
      · skip
        refine ov_blk (ls2 := [(0, ov_r 3), (1, ov_i dep), (2, ov_i (pt_pp t m p)), (3, ov_i 0), (4, ov_i 0)]) (st2 := [ov_i 0]) (pc2 := 33) b_73_32_1 rfl rfl ?_
        refine ov_ifne (tgt := 47) d_73_33 (by decide) (by omega) (fun c56 => ?_) (fun c56 => ?_)
        · omega
        · skip
          refine ov_blk (ls2 := [(0, ov_r 3), (1, ov_i dep), (2, ov_i (pt_pp t m p)), (3, ov_i 0), (4, ov_i 0)]) (st2 := [ov_i 0]) (pc2 := 38) b_73_36_1 rfl rfl ?_
          refine ov_ifne (tgt := 47) d_73_38 (by decide) (by omega) (fun c57 => ?_) (fun c57 => ?_)
          · omega
          · skip
            refine ov_blk (ls2 := [(0, ov_r 3), (1, ov_i dep), (2, ov_i (pt_pp t m p)), (3, ov_i 0), (4, ov_i 0)]) (st2 := [ov_i 1, ov_r 3]) (pc2 := 43) b_73_41_2 rfl rfl ?_
            refine ov_cV (as := [ov_i 1]) (st := []) (d2 := d - 1) d_73_43 lk_Reader_58 rfl (Nat.le_of_ble_eq_true rfl) (c := 6) (zb_3 I) (zs_3 I) ⟨by decide, rfl⟩ (by omega) (c_fReader_fail_3 t m p (d - 1) (by omega) U I (ov_kws hw (by decide +kernel)) 1 (by omega) (by show 1 ≤ (1 : Int) ∧ (1 : Int) ≤ 5; omega) (show h 2 = t from Eq.trans (show h 2 = h 2 from rfl) et) tc) ?_
            rintro _ z59 h60 ⟨v58, rfl, I61, y62, y63⟩
            have E64 : h60 1 = h 1 := Eq.trans (y62 1 (by decide)) (show h 1 = h 1 from rfl)
            have E65 : h60 2 = h 2 := Eq.trans (y62 2 (by decide)) (show h 2 = h 2 from rfl)
            have E66 : h60 70 = h 70 := Eq.trans (y62 70 (by decide)) (show h 70 = h 70 from rfl)
            have fr67 : ∀ a : Int, a ≠ 1 ∧ a ≠ 3 ∧ a ≠ 70 ∧ a ≠ 80 → h60 a = h a := fun a ca => Eq.trans (y62 a (by omega)) rfl
            rcases y63 with ⟨rfl, f69⟩
            · skip
              show ov_R u d ov_m73 46 [(0, ov_r 3), (1, ov_i dep), (2, ov_i (pt_pp t m p)), (3, ov_i 0), (4, ov_i 0)] [ov_i 0] z59 h60 (P_fReader_readPart_3_k3_1_70 F z h t m p dep)
              have f70 : (h60 3 2) = (1 : Int) + 16 * p ∧ (h60 3 1) = (h 3 1) := f69
              clear f69
              have e68 : h60 3 1 = 70 := by omega
              exact ov_retz (st := []) d_73_46 rfl (by omega) ⟨_, rfl, I61, (fun a ca => (fr67 a ca)), (fun k hk => congrFun (show h60 70 = h 70 from E66) k), (Or.inl ⟨rfl, (1 + 16 * p), p, (by show (h60 3 2) = (1 + 16 * p) ∧ 1 ≤ (1 + 16 * p) ∧ (h60 3 1) = (h 3 1); omega), (pt_EV0_bad ⟨by omega, by omega, by omega⟩)⟩)⟩
    · skip
      show ov_R u d ov_m73 25 [(0, ov_r 3), (1, ov_i dep), (2, ov_i (pt_pp t m p)), (3, ov_i 0)] [ov_i 1] z h (P_fReader_readPart_3_k3_1_70 F z h t m p dep)
      have f71 : pt_is t m p (40 : Int) = 1 ∧ pt_ty t m p = 4 ∧ t p = (40 : Int) := f11
      clear f11
      refine ov_blk (ls2 := [(0, ov_r 3), (1, ov_i dep), (2, ov_i (pt_pp t m p)), (3, ov_i 0), (4, ov_i 1)]) (st2 := [ov_i (-1), ov_i (pt_pp t m p)]) (pc2 := 29) b_73_25_3 rfl rfl ?_
      refine ov_icne (tgt := 47) d_73_29 (by decide) (by omega) (by omega) (fun c72 => ?_) (fun c72 => ?_)
      · skip
        refine ov_blk (ls2 := [(0, ov_r 3), (1, ov_i dep), (2, ov_i (pt_pp t m p)), (3, ov_i 0), (4, ov_i 1)]) (st2 := [ov_i 4, ov_i dep]) (pc2 := 49) b_73_47_2 rfl rfl ?_
        refine ov_icle (tgt := 58) d_73_49 (by decide) (by omega) (by omega) (fun c73 => ?_) (fun c73 => ?_)
        · skip
          refine ov_blk (ls2 := [(0, ov_r 3), (1, ov_i dep), (2, ov_i (pt_pp t m p)), (3, ov_i 0), (4, ov_i 1)]) (st2 := [ov_r 3]) (pc2 := 59) b_73_58_1 rfl rfl ?_
          refine ov_getf (v := ov_r 1) d_73_59 fl_Reader_9 (zb_3 I) (zs_3 I) (congrArg ov_r (rg_3_0 I)) ?_
          refine ov_cV (as := []) (st := []) (d2 := d - 1) d_73_62 lk_Reader_75 rfl (Nat.le_of_ble_eq_true rfl) (c := 8) (zb_1 I) (zs_1 I) ⟨by decide, rfl⟩ (by omega) (c_fTape_advance_1_t t m p (d - 1) (by omega) U I (ov_kws hw (by decide +kernel)) (show h 2 = t from Eq.trans (show h 2 = h 2 from rfl) et) tc) ?_
          rintro _ z74 h75 ⟨rfl, I76, y77, y78⟩
          have E79 : h75 2 = h 2 := Eq.trans (y77 2 (by decide)) (show h 2 = h 2 from rfl)
          have E80 : h75 3 = h 3 := Eq.trans (y77 3 (by decide)) (show h 3 = h 3 from rfl)
          have E81 : h75 70 = h 70 := Eq.trans (y77 70 (by decide)) (show h 70 = h 70 from rfl)
          have fr82 : ∀ a : Int, a ≠ 1 ∧ a ≠ 3 ∧ a ≠ 70 ∧ a ≠ 80 → h75 a = h a := fun a ca => Eq.trans (y77 a (by omega)) rfl
          have e83 : h75 3 1 = 70 := Eq.trans (congrFun (show h75 3 = h 3 from y77 3 (by decide)) 1) k0
          have y78_ : pt_TC t m (h75 1) (pt_nt t m p) := y78
          have g84 := pt_TC_b y78_
          have g85 := pt_nt_le (t := t) (n := m) (p := p) (by omega)
          show ov_R u d ov_m73 65 [(0, ov_r 3), (1, ov_i dep), (2, ov_i (pt_pp t m p)), (3, ov_i 0), (4, ov_i 1)] [] z74 h75 (P_fReader_readPart_3_k3_1_70 F z h t m p dep)
          refine ov_blk (ls2 := [(0, ov_r 3), (1, ov_i dep), (2, ov_i (pt_pp t m p)), (3, ov_i 0), (4, ov_i 1)]) (st2 := [ov_i 1]) (pc2 := 67) b_73_65_1 rfl rfl ?_
          refine ov_ifeq (tgt := 95) d_73_67 (by decide) (by omega) (fun c86 => ?_) (fun c86 => ?_)
          · omega
          · skip
            refine ov_blk (ls2 := [(0, ov_r 3), (1, ov_i dep), (2, ov_i (pt_pp t m p)), (3, ov_i 0), (4, ov_i 1)]) (st2 := [ov_i (dep + 1), ov_r 3]) (pc2 := 74) b_73_70_4 rfl rfl ?_
            refine ov_cV (as := [ov_i (dep + 1)]) (st := []) (d2 := d - 1) d_73_74 lk_Reader_210 rfl (Nat.le_of_ble_eq_true rfl) (c := 6) (zb_3 I76) (zs_3 I76) ⟨by decide, rfl⟩ (by omega) (HE (k - 1) (by omega) t m (pt_nt t m p) (d - 1) (by omega) U I76 (ov_kws hw (by decide +kernel)) (dep + 1) e83 (by omega) (by show 0 ≤ (dep + 1) ∧ (dep + 1) + ((k - 1 : Nat) : Int) = 5; omega) (show h75 2 = t from Eq.trans (show h75 2 = h 2 from E79) et) y78_) ?_
            rintro _ z88 h89 ⟨v87, rfl, I90, y91, y92, y93⟩
            have E94 : h89 2 = h 2 := Eq.trans (y91 2 (by decide)) (show h75 2 = h 2 from E79)
            have fr95 : ∀ a : Int, a ≠ 1 ∧ a ≠ 3 ∧ a ≠ 70 ∧ a ≠ 80 → h89 a = h a := fun a ca => Eq.trans (y91 a (by omega)) (fr82 a ca)
            have cf97 : h75 3 1 = h 3 1 := congrFun E80 1
            have cf98 : h75 3 2 = h 3 2 := congrFun E80 2
            have y92_ : ∀ k : Int, k ≠ 16 → (h89 70) k = (h75 70) k := y92
            rcases y93 with ⟨rfl, w99, w100, f101, y102⟩ | ⟨rfl, w103, f104, y105, y106⟩
            · skip
              show ov_R u d ov_m73 77 [(0, ov_r 3), (1, ov_i dep), (2, ov_i (pt_pp t m p)), (3, ov_i 0), (4, ov_i 1)] [ov_i 0] z88 h89 (P_fReader_readPart_3_k3_1_70 F z h t m p dep)
              have f107 : (h89 3 2) = w99 ∧ 1 ≤ w99 ∧ (h89 3 1) = (h75 3 1) := f101
              clear f101
              have e96 : h89 3 1 = 70 := by omega
              have y102_ : pt_EV t m 6 (dep + 1) (pt_nt t m p) w99 w100 := y102
              have cx108 : ∀ k : Int, k ≠ 16 → h89 70 k = h 70 k := fun k hk => Eq.trans (y92_ k hk) (congrFun (show h75 70 = h 70 from E81) k)
              refine ov_ifeq (tgt := 93) d_73_77 (by decide) (by omega) (fun c109 => ?_) (fun c109 => ?_)
              · skip
                refine ov_blk (ls2 := [(0, ov_r 3), (1, ov_i dep), (2, ov_i (pt_pp t m p)), (3, ov_i 0), (4, ov_i 1)]) (st2 := [ov_i 0]) (pc2 := 94) b_73_93_1 rfl rfl ?_
                exact ov_retz (st := []) d_73_94 rfl (by omega) ⟨_, rfl, I90, (fun a ca => (fr95 a ca)), (fun k hk => cx108 k hk), (Or.inl ⟨rfl, w99, w100, (by show (h89 3 2) = w99 ∧ 1 ≤ w99 ∧ (h89 3 1) = (h 3 1); omega), (pt_EV0_bf (by omega) (by omega) y102_ (by omega))⟩)⟩
              · omega
            · skip
              show ov_R u d ov_m73 77 [(0, ov_r 3), (1, ov_i dep), (2, ov_i (pt_pp t m p)), (3, ov_i 0), (4, ov_i 1)] [ov_i 1] z88 h89 (P_fReader_readPart_3_k3_1_70 F z h t m p dep)
              have f110 : (pt_nt t m p) ≤ w103 ∧ (h89 3 1) = (h75 3 1) ∧ (h89 3 2) = (h75 3 2) := f104
              clear f104
              have e96 : h89 3 1 = 70 := by omega
              have y105_ : pt_EV t m 6 (dep + 1) (pt_nt t m p) 0 w103 := y105
              have y106_ : pt_TC t m (h89 1) w103 := y106
              have g111 := pt_TC_b y106_
              have cx112 : ∀ k : Int, k ≠ 16 → h89 70 k = h 70 k := fun k hk => Eq.trans (y92_ k hk) (congrFun (show h75 70 = h 70 from E81) k)
              refine ov_ifeq (tgt := 93) d_73_77 (by decide) (by omega) (fun c113 => ?_) (fun c113 => ?_)
              · omega
              · skip
                refine ov_blk (ls2 := [(0, ov_r 3), (1, ov_i dep), (2, ov_i (pt_pp t m p)), (3, ov_i 0), (4, ov_i 1)]) (st2 := [ov_i 41, ov_r 3]) (pc2 := 83) b_73_80_2 rfl rfl ?_
                refine ov_cV (as := [ov_i 41]) (st := []) (d2 := d - 1) d_73_83 lk_Reader_92 rfl (Nat.le_of_ble_eq_true rfl) (c := 6) (zb_3 I90) (zs_3 I90) ⟨by decide, rfl⟩ (by omega) (c_fReader_takeSign_3 t m w103 (d - 1) (by omega) U I90 (ov_kws hw (by decide +kernel)) 41 (by omega) (show h89 2 = t from Eq.trans (show h89 2 = h 2 from E94) et) y106_) ?_
                rintro _ z115 h116 ⟨v114, rfl, I117, y118, y119⟩
                have E120 : h116 2 = h 2 := Eq.trans (y118 2 (by decide)) (show h89 2 = h 2 from E94)
                have E121 : h116 70 = h89 70 := Eq.trans (y118 70 (by decide)) (show h89 70 = h89 70 from rfl)
                have fr122 : ∀ a : Int, a ≠ 1 ∧ a ≠ 3 ∧ a ≠ 70 ∧ a ≠ 80 → h116 a = h a := fun a ca => Eq.trans (y118 a (by omega)) (fr95 a ca)
                rcases y119 with ⟨rfl, f124⟩ | ⟨rfl, f125, y126⟩
                · skip
                  show ov_R u d ov_m73 86 [(0, ov_r 3), (1, ov_i dep), (2, ov_i (pt_pp t m p)), (3, ov_i 0), (4, ov_i 1)] [ov_i 0] z115 h116 (P_fReader_readPart_3_k3_1_70 F z h t m p dep)
                  have f127 : (h116 3 2) = (pt_fS t m (41 : Int) w103) ∧ 1 ≤ (pt_fS t m (41 : Int) w103) ∧ (h116 3 2) = 1 + 16 * w103 ∧ pt_is t m w103 (41 : Int) = 0 ∧ (h116 3 1) = (h89 3 1) := f124
                  clear f124
                  have e123 : h116 3 1 = 70 := by omega
                  refine ov_ifeq (tgt := 93) d_73_86 (by decide) (by omega) (fun c128 => ?_) (fun c128 => ?_)
                  · skip
                    refine ov_blk (ls2 := [(0, ov_r 3), (1, ov_i dep), (2, ov_i (pt_pp t m p)), (3, ov_i 0), (4, ov_i 1)]) (st2 := [ov_i 0]) (pc2 := 94) b_73_93_1 rfl rfl ?_
                    exact ov_retz (st := []) d_73_94 rfl (by omega) ⟨_, rfl, I117, (fun a ca => (fr122 a ca)), (fun k hk => Eq.trans (congrFun (show h116 70 = h89 70 from E121) k) (cx112 k hk)), (Or.inl ⟨rfl, (1 + 16 * w103), w103, (by show (h116 3 2) = (1 + 16 * w103) ∧ 1 ≤ (1 + 16 * w103) ∧ (h116 3 1) = (h 3 1); omega), (pt_EV0_bs (by omega) (by omega) y105_ (by omega))⟩)⟩
                  · omega
                · skip
                  show ov_R u d ov_m73 86 [(0, ov_r 3), (1, ov_i dep), (2, ov_i (pt_pp t m p)), (3, ov_i 0), (4, ov_i 1)] [ov_i 1] z115 h116 (P_fReader_readPart_3_k3_1_70 F z h t m p dep)
                  have f129 : (pt_fS t m (41 : Int) w103) = 0 ∧ pt_is t m w103 (41 : Int) = 1 ∧ (h116 3 1) = (h89 3 1) ∧ (h116 3 2) = (h89 3 2) := f125
                  clear f125
                  have e123 : h116 3 1 = 70 := by omega
                  have y126_ : pt_TC t m (h116 1) (pt_nt t m w103) := y126
                  have g130 := pt_TC_b y126_
                  have g131 := pt_nt_le (t := t) (n := m) (p := w103) (by omega)
                  refine ov_ifeq (tgt := 93) d_73_86 (by decide) (by omega) (fun c132 => ?_) (fun c132 => ?_)
                  · omega
                  · skip
                    refine ov_blk (ls2 := [(0, ov_r 3), (1, ov_i dep), (2, ov_i (pt_pp t m p)), (3, ov_i 0), (4, ov_i 1)]) (st2 := [ov_i 1]) (pc2 := 90) b_73_89_1 rfl rfl ?_
                    refine ov_goto (tgt := 94) d_73_90 (by decide) ?_
                    exact ov_retz (st := []) d_73_94 rfl (by omega) ⟨_, rfl, I117, (fun a ca => (fr122 a ca)), (fun k hk => Eq.trans (congrFun (show h116 70 = h89 70 from E121) k) (cx112 k hk)), (Or.inr ⟨rfl, (pt_nt t m w103), (by show p ≤ (pt_nt t m w103) ∧ (h116 3 1) = (h 3 1) ∧ (h116 3 2) = (h 3 2); omega), (pt_EV0_b (by omega) (by omega) y105_ (by omega)), y126_⟩)⟩
        · skip
          refine ov_blk (ls2 := [(0, ov_r 3), (1, ov_i dep), (2, ov_i (pt_pp t m p)), (3, ov_i 0), (4, ov_i 1)]) (st2 := [ov_i 5, ov_r 3]) (pc2 := 54) b_73_52_2 rfl rfl ?_
          refine ov_cV (as := [ov_i 5]) (st := []) (d2 := d - 1) d_73_54 lk_Reader_58 rfl (Nat.le_of_ble_eq_true rfl) (c := 6) (zb_3 I) (zs_3 I) ⟨by decide, rfl⟩ (by omega) (c_fReader_fail_3 t m p (d - 1) (by omega) U I (ov_kws hw (by decide +kernel)) 5 (by omega) (by show 1 ≤ (5 : Int) ∧ (5 : Int) ≤ 5; omega) (show h 2 = t from Eq.trans (show h 2 = h 2 from rfl) et) tc) ?_
          rintro _ z134 h135 ⟨v133, rfl, I136, y137, y138⟩
          have E139 : h135 1 = h 1 := Eq.trans (y137 1 (by decide)) (show h 1 = h 1 from rfl)
          have E140 : h135 2 = h 2 := Eq.trans (y137 2 (by decide)) (show h 2 = h 2 from rfl)
          have E141 : h135 70 = h 70 := Eq.trans (y137 70 (by decide)) (show h 70 = h 70 from rfl)
          have fr142 : ∀ a : Int, a ≠ 1 ∧ a ≠ 3 ∧ a ≠ 70 ∧ a ≠ 80 → h135 a = h a := fun a ca => Eq.trans (y137 a (by omega)) rfl
          rcases y138 with ⟨rfl, f144⟩
          · skip
            show ov_R u d ov_m73 57 [(0, ov_r 3), (1, ov_i dep), (2, ov_i (pt_pp t m p)), (3, ov_i 0), (4, ov_i 1)] [ov_i 0] z134 h135 (P_fReader_readPart_3_k3_1_70 F z h t m p dep)
            have f145 : (h135 3 2) = (5 : Int) + 16 * p ∧ (h135 3 1) = (h 3 1) := f144
            clear f144
            have e143 : h135 3 1 = 70 := by omega
            exact ov_retz (st := []) d_73_57 rfl (by omega) ⟨_, rfl, I136, (fun a ca => (fr142 a ca)), (fun k hk => congrFun (show h135 70 = h 70 from E141) k), (Or.inl ⟨rfl, (5 + 16 * p), p, (by show (h135 3 2) = (5 + 16 * p) ∧ 1 ≤ (5 + 16 * p) ∧ (h135 3 1) = (h 3 1); omega), (pt_EV0_deep (fun w => by omega) (by omega))⟩)⟩
      · skip
        refine ov_blk (ls2 := [(0, ov_r 3), (1, ov_i dep), (2, ov_i (pt_pp t m p)), (3, ov_i 0), (4, ov_i 1)]) (st2 := [ov_i 0]) (pc2 := 33) b_73_32_1 rfl rfl ?_
        refine ov_ifne (tgt := 47) d_73_33 (by decide) (by omega) (fun c146 => ?_) (fun c146 => ?_)
        · omega
        · skip
          refine ov_blk (ls2 := [(0, ov_r 3), (1, ov_i dep), (2, ov_i (pt_pp t m p)), (3, ov_i 0), (4, ov_i 1)]) (st2 := [ov_i 1]) (pc2 := 38) b_73_36_1 rfl rfl ?_
          refine ov_ifne (tgt := 47) d_73_38 (by decide) (by omega) (fun c147 => ?_) (fun c147 => ?_)
          · skip
            refine ov_blk (ls2 := [(0, ov_r 3), (1, ov_i dep), (2, ov_i (pt_pp t m p)), (3, ov_i 0), (4, ov_i 1)]) (st2 := [ov_i 4, ov_i dep]) (pc2 := 49) b_73_47_2 rfl rfl ?_
            refine ov_icle (tgt := 58) d_73_49 (by decide) (by omega) (by omega) (fun c148 => ?_) (fun c148 => ?_)
            · skip
              refine ov_blk (ls2 := [(0, ov_r 3), (1, ov_i dep), (2, ov_i (pt_pp t m p)), (3, ov_i 0), (4, ov_i 1)]) (st2 := [ov_r 3]) (pc2 := 59) b_73_58_1 rfl rfl ?_
              refine ov_getf (v := ov_r 1) d_73_59 fl_Reader_9 (zb_3 I) (zs_3 I) (congrArg ov_r (rg_3_0 I)) ?_
              refine ov_cV (as := []) (st := []) (d2 := d - 1) d_73_62 lk_Reader_75 rfl (Nat.le_of_ble_eq_true rfl) (c := 8) (zb_1 I) (zs_1 I) ⟨by decide, rfl⟩ (by omega) (c_fTape_advance_1_t t m p (d - 1) (by omega) U I (ov_kws hw (by decide +kernel)) (show h 2 = t from Eq.trans (show h 2 = h 2 from rfl) et) tc) ?_
              rintro _ z149 h150 ⟨rfl, I151, y152, y153⟩
              have E154 : h150 2 = h 2 := Eq.trans (y152 2 (by decide)) (show h 2 = h 2 from rfl)
              have E155 : h150 3 = h 3 := Eq.trans (y152 3 (by decide)) (show h 3 = h 3 from rfl)
              have E156 : h150 70 = h 70 := Eq.trans (y152 70 (by decide)) (show h 70 = h 70 from rfl)
              have fr157 : ∀ a : Int, a ≠ 1 ∧ a ≠ 3 ∧ a ≠ 70 ∧ a ≠ 80 → h150 a = h a := fun a ca => Eq.trans (y152 a (by omega)) rfl
              have e158 : h150 3 1 = 70 := Eq.trans (congrFun (show h150 3 = h 3 from y152 3 (by decide)) 1) k0
              have y153_ : pt_TC t m (h150 1) (pt_nt t m p) := y153
              have g159 := pt_TC_b y153_
              have g160 := pt_nt_le (t := t) (n := m) (p := p) (by omega)
              show ov_R u d ov_m73 65 [(0, ov_r 3), (1, ov_i dep), (2, ov_i (pt_pp t m p)), (3, ov_i 0), (4, ov_i 1)] [] z149 h150 (P_fReader_readPart_3_k3_1_70 F z h t m p dep)
              refine ov_blk (ls2 := [(0, ov_r 3), (1, ov_i dep), (2, ov_i (pt_pp t m p)), (3, ov_i 0), (4, ov_i 1)]) (st2 := [ov_i 1]) (pc2 := 67) b_73_65_1 rfl rfl ?_
              refine ov_ifeq (tgt := 95) d_73_67 (by decide) (by omega) (fun c161 => ?_) (fun c161 => ?_)
              · omega
              · skip
                refine ov_blk (ls2 := [(0, ov_r 3), (1, ov_i dep), (2, ov_i (pt_pp t m p)), (3, ov_i 0), (4, ov_i 1)]) (st2 := [ov_i (dep + 1), ov_r 3]) (pc2 := 74) b_73_70_4 rfl rfl ?_
                refine ov_cV (as := [ov_i (dep + 1)]) (st := []) (d2 := d - 1) d_73_74 lk_Reader_210 rfl (Nat.le_of_ble_eq_true rfl) (c := 6) (zb_3 I151) (zs_3 I151) ⟨by decide, rfl⟩ (by omega) (HE (k - 1) (by omega) t m (pt_nt t m p) (d - 1) (by omega) U I151 (ov_kws hw (by decide +kernel)) (dep + 1) e158 (by omega) (by show 0 ≤ (dep + 1) ∧ (dep + 1) + ((k - 1 : Nat) : Int) = 5; omega) (show h150 2 = t from Eq.trans (show h150 2 = h 2 from E154) et) y153_) ?_
                rintro _ z163 h164 ⟨v162, rfl, I165, y166, y167, y168⟩
                have E169 : h164 2 = h 2 := Eq.trans (y166 2 (by decide)) (show h150 2 = h 2 from E154)
                have fr170 : ∀ a : Int, a ≠ 1 ∧ a ≠ 3 ∧ a ≠ 70 ∧ a ≠ 80 → h164 a = h a := fun a ca => Eq.trans (y166 a (by omega)) (fr157 a ca)
                have cf172 : h150 3 1 = h 3 1 := congrFun E155 1
                have cf173 : h150 3 2 = h 3 2 := congrFun E155 2
                have y167_ : ∀ k : Int, k ≠ 16 → (h164 70) k = (h150 70) k := y167
                rcases y168 with ⟨rfl, w174, w175, f176, y177⟩ | ⟨rfl, w178, f179, y180, y181⟩
                · skip
                  show ov_R u d ov_m73 77 [(0, ov_r 3), (1, ov_i dep), (2, ov_i (pt_pp t m p)), (3, ov_i 0), (4, ov_i 1)] [ov_i 0] z163 h164 (P_fReader_readPart_3_k3_1_70 F z h t m p dep)
                  have f182 : (h164 3 2) = w174 ∧ 1 ≤ w174 ∧ (h164 3 1) = (h150 3 1) := f176
                  clear f176
                  have e171 : h164 3 1 = 70 := by omega
                  have y177_ : pt_EV t m 6 (dep + 1) (pt_nt t m p) w174 w175 := y177
                  have cx183 : ∀ k : Int, k ≠ 16 → h164 70 k = h 70 k := fun k hk => Eq.trans (y167_ k hk) (congrFun (show h150 70 = h 70 from E156) k)
                  refine ov_ifeq (tgt := 93) d_73_77 (by decide) (by omega) (fun c184 => ?_) (fun c184 => ?_)
                  · skip
                    refine ov_blk (ls2 := [(0, ov_r 3), (1, ov_i dep), (2, ov_i (pt_pp t m p)), (3, ov_i 0), (4, ov_i 1)]) (st2 := [ov_i 0]) (pc2 := 94) b_73_93_1 rfl rfl ?_
                    exact ov_retz (st := []) d_73_94 rfl (by omega) ⟨_, rfl, I165, (fun a ca => (fr170 a ca)), (fun k hk => cx183 k hk), (Or.inl ⟨rfl, w174, w175, (by show (h164 3 2) = w174 ∧ 1 ≤ w174 ∧ (h164 3 1) = (h 3 1); omega), (pt_EV0_bf (by omega) (by omega) y177_ (by omega))⟩)⟩
                  · omega
                · skip
                  show ov_R u d ov_m73 77 [(0, ov_r 3), (1, ov_i dep), (2, ov_i (pt_pp t m p)), (3, ov_i 0), (4, ov_i 1)] [ov_i 1] z163 h164 (P_fReader_readPart_3_k3_1_70 F z h t m p dep)
                  have f185 : (pt_nt t m p) ≤ w178 ∧ (h164 3 1) = (h150 3 1) ∧ (h164 3 2) = (h150 3 2) := f179
                  clear f179
                  have e171 : h164 3 1 = 70 := by omega
                  have y180_ : pt_EV t m 6 (dep + 1) (pt_nt t m p) 0 w178 := y180
                  have y181_ : pt_TC t m (h164 1) w178 := y181
                  have g186 := pt_TC_b y181_
                  have cx187 : ∀ k : Int, k ≠ 16 → h164 70 k = h 70 k := fun k hk => Eq.trans (y167_ k hk) (congrFun (show h150 70 = h 70 from E156) k)
                  refine ov_ifeq (tgt := 93) d_73_77 (by decide) (by omega) (fun c188 => ?_) (fun c188 => ?_)
                  · omega
                  · skip
                    refine ov_blk (ls2 := [(0, ov_r 3), (1, ov_i dep), (2, ov_i (pt_pp t m p)), (3, ov_i 0), (4, ov_i 1)]) (st2 := [ov_i 41, ov_r 3]) (pc2 := 83) b_73_80_2 rfl rfl ?_
                    refine ov_cV (as := [ov_i 41]) (st := []) (d2 := d - 1) d_73_83 lk_Reader_92 rfl (Nat.le_of_ble_eq_true rfl) (c := 6) (zb_3 I165) (zs_3 I165) ⟨by decide, rfl⟩ (by omega) (c_fReader_takeSign_3 t m w178 (d - 1) (by omega) U I165 (ov_kws hw (by decide +kernel)) 41 (by omega) (show h164 2 = t from Eq.trans (show h164 2 = h 2 from E169) et) y181_) ?_
                    rintro _ z190 h191 ⟨v189, rfl, I192, y193, y194⟩
                    have E195 : h191 2 = h 2 := Eq.trans (y193 2 (by decide)) (show h164 2 = h 2 from E169)
                    have E196 : h191 70 = h164 70 := Eq.trans (y193 70 (by decide)) (show h164 70 = h164 70 from rfl)
                    have fr197 : ∀ a : Int, a ≠ 1 ∧ a ≠ 3 ∧ a ≠ 70 ∧ a ≠ 80 → h191 a = h a := fun a ca => Eq.trans (y193 a (by omega)) (fr170 a ca)
                    rcases y194 with ⟨rfl, f199⟩ | ⟨rfl, f200, y201⟩
                    · skip
                      show ov_R u d ov_m73 86 [(0, ov_r 3), (1, ov_i dep), (2, ov_i (pt_pp t m p)), (3, ov_i 0), (4, ov_i 1)] [ov_i 0] z190 h191 (P_fReader_readPart_3_k3_1_70 F z h t m p dep)
                      have f202 : (h191 3 2) = (pt_fS t m (41 : Int) w178) ∧ 1 ≤ (pt_fS t m (41 : Int) w178) ∧ (h191 3 2) = 1 + 16 * w178 ∧ pt_is t m w178 (41 : Int) = 0 ∧ (h191 3 1) = (h164 3 1) := f199
                      clear f199
                      have e198 : h191 3 1 = 70 := by omega
                      refine ov_ifeq (tgt := 93) d_73_86 (by decide) (by omega) (fun c203 => ?_) (fun c203 => ?_)
                      · skip
                        refine ov_blk (ls2 := [(0, ov_r 3), (1, ov_i dep), (2, ov_i (pt_pp t m p)), (3, ov_i 0), (4, ov_i 1)]) (st2 := [ov_i 0]) (pc2 := 94) b_73_93_1 rfl rfl ?_
                        exact ov_retz (st := []) d_73_94 rfl (by omega) ⟨_, rfl, I192, (fun a ca => (fr197 a ca)), (fun k hk => Eq.trans (congrFun (show h191 70 = h164 70 from E196) k) (cx187 k hk)), (Or.inl ⟨rfl, (1 + 16 * w178), w178, (by show (h191 3 2) = (1 + 16 * w178) ∧ 1 ≤ (1 + 16 * w178) ∧ (h191 3 1) = (h 3 1); omega), (pt_EV0_bs (by omega) (by omega) y180_ (by omega))⟩)⟩
                      · omega
                    · skip
                      show ov_R u d ov_m73 86 [(0, ov_r 3), (1, ov_i dep), (2, ov_i (pt_pp t m p)), (3, ov_i 0), (4, ov_i 1)] [ov_i 1] z190 h191 (P_fReader_readPart_3_k3_1_70 F z h t m p dep)
                      have f204 : (pt_fS t m (41 : Int) w178) = 0 ∧ pt_is t m w178 (41 : Int) = 1 ∧ (h191 3 1) = (h164 3 1) ∧ (h191 3 2) = (h164 3 2) := f200
                      clear f200
                      have e198 : h191 3 1 = 70 := by omega
                      have y201_ : pt_TC t m (h191 1) (pt_nt t m w178) := y201
                      have g205 := pt_TC_b y201_
                      have g206 := pt_nt_le (t := t) (n := m) (p := w178) (by omega)
                      refine ov_ifeq (tgt := 93) d_73_86 (by decide) (by omega) (fun c207 => ?_) (fun c207 => ?_)
                      · omega
                      · skip
                        refine ov_blk (ls2 := [(0, ov_r 3), (1, ov_i dep), (2, ov_i (pt_pp t m p)), (3, ov_i 0), (4, ov_i 1)]) (st2 := [ov_i 1]) (pc2 := 90) b_73_89_1 rfl rfl ?_
                        refine ov_goto (tgt := 94) d_73_90 (by decide) ?_
                        exact ov_retz (st := []) d_73_94 rfl (by omega) ⟨_, rfl, I192, (fun a ca => (fr197 a ca)), (fun k hk => Eq.trans (congrFun (show h191 70 = h164 70 from E196) k) (cx187 k hk)), (Or.inr ⟨rfl, (pt_nt t m w178), (by show p ≤ (pt_nt t m w178) ∧ (h191 3 1) = (h 3 1) ∧ (h191 3 2) = (h 3 2); omega), (pt_EV0_b (by omega) (by omega) y180_ (by omega)), y201_⟩)⟩
            · skip
              refine ov_blk (ls2 := [(0, ov_r 3), (1, ov_i dep), (2, ov_i (pt_pp t m p)), (3, ov_i 0), (4, ov_i 1)]) (st2 := [ov_i 5, ov_r 3]) (pc2 := 54) b_73_52_2 rfl rfl ?_
              refine ov_cV (as := [ov_i 5]) (st := []) (d2 := d - 1) d_73_54 lk_Reader_58 rfl (Nat.le_of_ble_eq_true rfl) (c := 6) (zb_3 I) (zs_3 I) ⟨by decide, rfl⟩ (by omega) (c_fReader_fail_3 t m p (d - 1) (by omega) U I (ov_kws hw (by decide +kernel)) 5 (by omega) (by show 1 ≤ (5 : Int) ∧ (5 : Int) ≤ 5; omega) (show h 2 = t from Eq.trans (show h 2 = h 2 from rfl) et) tc) ?_
              rintro _ z209 h210 ⟨v208, rfl, I211, y212, y213⟩
              have E214 : h210 1 = h 1 := Eq.trans (y212 1 (by decide)) (show h 1 = h 1 from rfl)
              have E215 : h210 2 = h 2 := Eq.trans (y212 2 (by decide)) (show h 2 = h 2 from rfl)
              have E216 : h210 70 = h 70 := Eq.trans (y212 70 (by decide)) (show h 70 = h 70 from rfl)
              have fr217 : ∀ a : Int, a ≠ 1 ∧ a ≠ 3 ∧ a ≠ 70 ∧ a ≠ 80 → h210 a = h a := fun a ca => Eq.trans (y212 a (by omega)) rfl
              rcases y213 with ⟨rfl, f219⟩
              · skip
                show ov_R u d ov_m73 57 [(0, ov_r 3), (1, ov_i dep), (2, ov_i (pt_pp t m p)), (3, ov_i 0), (4, ov_i 1)] [ov_i 0] z209 h210 (P_fReader_readPart_3_k3_1_70 F z h t m p dep)
                have f220 : (h210 3 2) = (5 : Int) + 16 * p ∧ (h210 3 1) = (h 3 1) := f219
                clear f219
                have e218 : h210 3 1 = 70 := by omega
                exact ov_retz (st := []) d_73_57 rfl (by omega) ⟨_, rfl, I211, (fun a ca => (fr217 a ca)), (fun k hk => congrFun (show h210 70 = h 70 from E216) k), (Or.inl ⟨rfl, (5 + 16 * p), p, (by show (h210 3 2) = (5 + 16 * p) ∧ 1 ≤ (5 + 16 * p) ∧ (h210 3 1) = (h 3 1); omega), (pt_EV0_deep (fun w => by omega) (by omega))⟩)⟩
          · omega
  · skip
    show ov_R u d ov_m73 15 [(0, ov_r 3), (1, ov_i dep), (2, ov_i (pt_pp t m p))] [ov_i 1] z h (P_fReader_readPart_3_k3_1_70 F z h t m p dep)
    have f221 : pt_iw t m p (7237492 : Int) = 1 ∧ pt_ty t m p = 2 ∧ pt_w256 t m p = (7237492 : Int) := f6
    clear f6
    refine ov_blk (ls2 := [(0, ov_r 3), (1, ov_i dep), (2, ov_i (pt_pp t m p)), (3, ov_i 1)]) (st2 := [ov_r 3]) (pc2 := 17) b_73_15_2 rfl rfl ?_
    refine ov_getf (v := ov_r 1) d_73_17 fl_Reader_9 (zb_3 I) (zs_3 I) (congrArg ov_r (rg_3_0 I)) ?_
    refine ov_blk (ls2 := [(0, ov_r 3), (1, ov_i dep), (2, ov_i (pt_pp t m p)), (3, ov_i 1)]) (st2 := [ov_i 40, ov_r 1]) (pc2 := 22) b_73_20_1 rfl rfl ?_
    refine ov_cV (as := [ov_i 40]) (st := []) (d2 := d - 1) d_73_22 lk_Reader_231 rfl (Nat.le_of_ble_eq_true rfl) (c := 8) (zb_1 I) (zs_1 I) ⟨by decide, rfl⟩ (by omega) (c_fTape_isSign_1 t m p (d - 1) (by omega) U I 40 (by omega) tc) ?_
    rintro _ _ _ ⟨v222, rfl, rfl, rfl, y223⟩
    rcases y223 with ⟨rfl, f224⟩ | ⟨rfl, f225⟩
    · skip
      show ov_R u d ov_m73 25 [(0, ov_r 3), (1, ov_i dep), (2, ov_i (pt_pp t m p)), (3, ov_i 1)] [ov_i 0] z h (P_fReader_readPart_3_k3_1_70 F z h t m p dep)
      have f226 : pt_is t m p (40 : Int) = 0 := f224
      clear f224
      refine ov_blk (ls2 := [(0, ov_r 3), (1, ov_i dep), (2, ov_i (pt_pp t m p)), (3, ov_i 1), (4, ov_i 0)]) (st2 := [ov_i (-1), ov_i (pt_pp t m p)]) (pc2 := 29) b_73_25_3 rfl rfl ?_
      refine ov_icne (tgt := 47) d_73_29 (by decide) (by omega) (by omega) (fun c227 => ?_) (fun c227 => ?_)
      · skip
        refine ov_blk (ls2 := [(0, ov_r 3), (1, ov_i dep), (2, ov_i (pt_pp t m p)), (3, ov_i 1), (4, ov_i 0)]) (st2 := [ov_i 4, ov_i dep]) (pc2 := 49) b_73_47_2 rfl rfl ?_
        refine ov_icle (tgt := 58) d_73_49 (by decide) (by omega) (by omega) (fun c228 => ?_) (fun c228 => ?_)
        · skip
          refine ov_blk (ls2 := [(0, ov_r 3), (1, ov_i dep), (2, ov_i (pt_pp t m p)), (3, ov_i 1), (4, ov_i 0)]) (st2 := [ov_r 3]) (pc2 := 59) b_73_58_1 rfl rfl ?_
          refine ov_getf (v := ov_r 1) d_73_59 fl_Reader_9 (zb_3 I) (zs_3 I) (congrArg ov_r (rg_3_0 I)) ?_
          refine ov_cV (as := []) (st := []) (d2 := d - 1) d_73_62 lk_Reader_75 rfl (Nat.le_of_ble_eq_true rfl) (c := 8) (zb_1 I) (zs_1 I) ⟨by decide, rfl⟩ (by omega) (c_fTape_advance_1_t t m p (d - 1) (by omega) U I (ov_kws hw (by decide +kernel)) (show h 2 = t from Eq.trans (show h 2 = h 2 from rfl) et) tc) ?_
          rintro _ z229 h230 ⟨rfl, I231, y232, y233⟩
          have E234 : h230 2 = h 2 := Eq.trans (y232 2 (by decide)) (show h 2 = h 2 from rfl)
          have E235 : h230 3 = h 3 := Eq.trans (y232 3 (by decide)) (show h 3 = h 3 from rfl)
          have E236 : h230 70 = h 70 := Eq.trans (y232 70 (by decide)) (show h 70 = h 70 from rfl)
          have fr237 : ∀ a : Int, a ≠ 1 ∧ a ≠ 3 ∧ a ≠ 70 ∧ a ≠ 80 → h230 a = h a := fun a ca => Eq.trans (y232 a (by omega)) rfl
          have e238 : h230 3 1 = 70 := Eq.trans (congrFun (show h230 3 = h 3 from y232 3 (by decide)) 1) k0
          have y233_ : pt_TC t m (h230 1) (pt_nt t m p) := y233
          have g239 := pt_TC_b y233_
          have g240 := pt_nt_le (t := t) (n := m) (p := p) (by omega)
          show ov_R u d ov_m73 65 [(0, ov_r 3), (1, ov_i dep), (2, ov_i (pt_pp t m p)), (3, ov_i 1), (4, ov_i 0)] [] z229 h230 (P_fReader_readPart_3_k3_1_70 F z h t m p dep)
          refine ov_blk (ls2 := [(0, ov_r 3), (1, ov_i dep), (2, ov_i (pt_pp t m p)), (3, ov_i 1), (4, ov_i 0)]) (st2 := [ov_i 0]) (pc2 := 67) b_73_65_1 rfl rfl ?_
          refine ov_ifeq (tgt := 95) d_73_67 (by decide) (by omega) (fun c241 => ?_) (fun c241 => ?_)
          · skip
            refine ov_blk (ls2 := [(0, ov_r 3), (1, ov_i dep), (2, ov_i (pt_pp t m p)), (3, ov_i 1), (4, ov_i 0)]) (st2 := [ov_i 1]) (pc2 := 96) b_73_95_1 rfl rfl ?_
            refine ov_ifeq (tgt := 109) d_73_96 (by decide) (by omega) (fun c242 => ?_) (fun c242 => ?_)
            · omega
            · skip
              refine ov_blk (ls2 := [(0, ov_r 3), (1, ov_i dep), (2, ov_i (pt_pp t m p)), (3, ov_i 1), (4, ov_i 0)]) (st2 := [ov_i (dep + 1), ov_r 3]) (pc2 := 103) b_73_99_4 rfl rfl ?_
              refine ov_cV (as := [ov_i (dep + 1)]) (st := []) (d2 := d - 1) d_73_103 lk_Reader_237 rfl (Nat.le_of_ble_eq_true rfl) (c := 6) (zb_3 I231) (zs_3 I231) ⟨by decide, rfl⟩ (by omega) (HP (k - 1) (by omega) t m (pt_nt t m p) (d - 1) (by omega) U I231 (ov_kws hw (by decide +kernel)) (dep + 1) e238 (by omega) (by show 0 ≤ (dep + 1) ∧ (dep + 1) + ((k - 1 : Nat) : Int) = 5; omega) (show h230 2 = t from Eq.trans (show h230 2 = h 2 from E234) et) y233_) ?_
              rintro _ z244 h245 ⟨v243, rfl, I246, y247, y248, y249⟩
              have E250 : h245 2 = h 2 := Eq.trans (y247 2 (by decide)) (show h230 2 = h 2 from E234)
              have fr251 : ∀ a : Int, a ≠ 1 ∧ a ≠ 3 ∧ a ≠ 70 ∧ a ≠ 80 → h245 a = h a := fun a ca => Eq.trans (y247 a (by omega)) (fr237 a ca)
              have cf253 : h230 3 1 = h 3 1 := congrFun E235 1
              have cf254 : h230 3 2 = h 3 2 := congrFun E235 2
              have y248_ : ∀ k : Int, k ≠ 16 → (h245 70) k = (h230 70) k := y248
              rcases y249 with ⟨rfl, w255, w256, f257, y258⟩ | ⟨rfl, w259, f260, y261, y262⟩
              · skip
                show ov_R u d ov_m73 106 [(0, ov_r 3), (1, ov_i dep), (2, ov_i (pt_pp t m p)), (3, ov_i 1), (4, ov_i 0)] [ov_i 0] z244 h245 (P_fReader_readPart_3_k3_1_70 F z h t m p dep)
                have f263 : (h245 3 2) = w255 ∧ 1 ≤ w255 ∧ (h245 3 1) = (h230 3 1) := f257
                clear f257
                have e252 : h245 3 1 = 70 := by omega
                have y258_ : pt_EV t m 0 (dep + 1) (pt_nt t m p) w255 w256 := y258
                have cx264 : ∀ k : Int, k ≠ 16 → h245 70 k = h 70 k := fun k hk => Eq.trans (y248_ k hk) (congrFun (show h230 70 = h 70 from E236) k)
                refine ov_ifeq (tgt := 113) d_73_106 (by decide) (by omega) (fun c265 => ?_) (fun c265 => ?_)
                · skip
                  refine ov_blk (ls2 := [(0, ov_r 3), (1, ov_i dep), (2, ov_i (pt_pp t m p)), (3, ov_i 1), (4, ov_i 0), (5, ov_i 0)]) (st2 := [ov_r 3]) (pc2 := 117) b_73_113_3 rfl rfl ?_
                  refine ov_getf (v := ov_r 70) d_73_117 fl_Reader_15 (zb_3 I246) (zs_3 I246) (congrArg ov_r e252) ?_
                  refine ov_blk (ls2 := [(0, ov_r 3), (1, ov_i dep), (2, ov_i (pt_pp t m p)), (3, ov_i 1), (4, ov_i 0), (5, ov_i 0)]) (st2 := [ov_i 1, ov_r 70]) (pc2 := 121) b_73_120_1 rfl rfl ?_
                  refine ov_ifeq (tgt := 128) d_73_121 (by decide) (by omega) (fun c266 => ?_) (fun c266 => ?_)
                  · omega
                  · skip
                    refine ov_blk (ls2 := [(0, ov_r 3), (1, ov_i dep), (2, ov_i (pt_pp t m p)), (3, ov_i 1), (4, ov_i 0), (5, ov_i 0)]) (st2 := [ov_i 0, ov_r 70]) (pc2 := 125) b_73_124_1 rfl rfl ?_
                    refine ov_goto (tgt := 129) d_73_125 (by decide) ?_
                    refine ov_cV (as := [ov_i 0]) (st := []) (d2 := d - 1) d_73_129 lk_Reader_224 rfl (Nat.le_of_ble_eq_true rfl) (c := 9) (zb_70 I246) (zs_70 I246) ⟨by decide, rfl⟩ (by omega) (c_fTown_addCode_70 (d - 1) (by omega) U I246 (ov_kws hw (by decide +kernel)) 0 (by omega)) ?_
                    rintro _ z267 h268 ⟨rfl, I269, y270, y271⟩
                    have E272 : h268 1 = h245 1 := Eq.trans (y270 1 (by decide)) (show h245 1 = h245 1 from rfl)
                    have E273 : h268 2 = h 2 := Eq.trans (y270 2 (by decide)) (show h245 2 = h 2 from E250)
                    have E274 : h268 3 = h245 3 := Eq.trans (y270 3 (by decide)) (show h245 3 = h245 3 from rfl)
                    have fr275 : ∀ a : Int, a ≠ 1 ∧ a ≠ 3 ∧ a ≠ 70 ∧ a ≠ 80 → h268 a = h a := fun a ca => Eq.trans (y270 a (by omega)) (fr251 a ca)
                    have e276 : h268 3 1 = 70 := Eq.trans (congrFun (show h268 3 = h245 3 from y270 3 (by decide)) 1) e252
                    have y271_ : ∀ k : Int, k ≠ 16 → (h268 70) k = (h245 70) k := y271
                    show ov_R u d ov_m73 132 [(0, ov_r 3), (1, ov_i dep), (2, ov_i (pt_pp t m p)), (3, ov_i 1), (4, ov_i 0), (5, ov_i 0)] [] z267 h268 (P_fReader_readPart_3_k3_1_70 F z h t m p dep)
                    have cx277 : ∀ k : Int, k ≠ 16 → h268 70 k = h 70 k := fun k hk => Eq.trans (y271_ k hk) (cx264 k hk)
                    refine ov_blk (ls2 := [(0, ov_r 3), (1, ov_i dep), (2, ov_i (pt_pp t m p)), (3, ov_i 1), (4, ov_i 0), (5, ov_i 0)]) (st2 := [ov_i 0]) (pc2 := 134) b_73_132_1 rfl rfl ?_
                    have cf278 : h268 3 1 = h245 3 1 := congrFun (E274) 1
                    have cf279 : h268 3 2 = h245 3 2 := congrFun (E274) 2
                    exact ov_retz (st := []) d_73_134 rfl (by omega) ⟨_, rfl, I269, (fun a ca => (fr275 a ca)), (fun k hk => cx277 k hk), (Or.inl ⟨rfl, w255, w256, (by show (h268 3 2) = w255 ∧ 1 ≤ w255 ∧ (h268 3 1) = (h 3 1); omega), (pt_EV0_not (by omega) (by omega) (by omega) y258_)⟩)⟩
                · omega
              · skip
                show ov_R u d ov_m73 106 [(0, ov_r 3), (1, ov_i dep), (2, ov_i (pt_pp t m p)), (3, ov_i 1), (4, ov_i 0)] [ov_i 1] z244 h245 (P_fReader_readPart_3_k3_1_70 F z h t m p dep)
                have f280 : (pt_nt t m p) ≤ w259 ∧ (h245 3 1) = (h230 3 1) ∧ (h245 3 2) = (h230 3 2) := f260
                clear f260
                have e252 : h245 3 1 = 70 := by omega
                have y261_ : pt_EV t m 0 (dep + 1) (pt_nt t m p) 0 w259 := y261
                have y262_ : pt_TC t m (h245 1) w259 := y262
                have g281 := pt_TC_b y262_
                have cx282 : ∀ k : Int, k ≠ 16 → h245 70 k = h 70 k := fun k hk => Eq.trans (y248_ k hk) (congrFun (show h230 70 = h 70 from E236) k)
                refine ov_ifeq (tgt := 113) d_73_106 (by decide) (by omega) (fun c283 => ?_) (fun c283 => ?_)
                · omega
                · skip
                  refine ov_blk (ls2 := [(0, ov_r 3), (1, ov_i dep), (2, ov_i (pt_pp t m p)), (3, ov_i 1), (4, ov_i 0)]) (st2 := [ov_i 1]) (pc2 := 110) b_73_109_1 rfl rfl ?_
                  refine ov_goto (tgt := 114) d_73_110 (by decide) ?_
                  refine ov_blk (ls2 := [(0, ov_r 3), (1, ov_i dep), (2, ov_i (pt_pp t m p)), (3, ov_i 1), (4, ov_i 0), (5, ov_i 1)]) (st2 := [ov_r 3]) (pc2 := 117) b_73_114_2 rfl rfl ?_
                  refine ov_getf (v := ov_r 70) d_73_117 fl_Reader_15 (zb_3 I246) (zs_3 I246) (congrArg ov_r e252) ?_
                  refine ov_blk (ls2 := [(0, ov_r 3), (1, ov_i dep), (2, ov_i (pt_pp t m p)), (3, ov_i 1), (4, ov_i 0), (5, ov_i 1)]) (st2 := [ov_i 1, ov_r 70]) (pc2 := 121) b_73_120_1 rfl rfl ?_
                  refine ov_ifeq (tgt := 128) d_73_121 (by decide) (by omega) (fun c284 => ?_) (fun c284 => ?_)
                  · omega
                  · skip
                    refine ov_blk (ls2 := [(0, ov_r 3), (1, ov_i dep), (2, ov_i (pt_pp t m p)), (3, ov_i 1), (4, ov_i 0), (5, ov_i 1)]) (st2 := [ov_i 0, ov_r 70]) (pc2 := 125) b_73_124_1 rfl rfl ?_
                    refine ov_goto (tgt := 129) d_73_125 (by decide) ?_
                    refine ov_cV (as := [ov_i 0]) (st := []) (d2 := d - 1) d_73_129 lk_Reader_224 rfl (Nat.le_of_ble_eq_true rfl) (c := 9) (zb_70 I246) (zs_70 I246) ⟨by decide, rfl⟩ (by omega) (c_fTown_addCode_70 (d - 1) (by omega) U I246 (ov_kws hw (by decide +kernel)) 0 (by omega)) ?_
                    rintro _ z285 h286 ⟨rfl, I287, y288, y289⟩
                    have E290 : h286 1 = h245 1 := Eq.trans (y288 1 (by decide)) (show h245 1 = h245 1 from rfl)
                    have E291 : h286 2 = h 2 := Eq.trans (y288 2 (by decide)) (show h245 2 = h 2 from E250)
                    have E292 : h286 3 = h245 3 := Eq.trans (y288 3 (by decide)) (show h245 3 = h245 3 from rfl)
                    have fr293 : ∀ a : Int, a ≠ 1 ∧ a ≠ 3 ∧ a ≠ 70 ∧ a ≠ 80 → h286 a = h a := fun a ca => Eq.trans (y288 a (by omega)) (fr251 a ca)
                    have e294 : h286 3 1 = 70 := Eq.trans (congrFun (show h286 3 = h245 3 from y288 3 (by decide)) 1) e252
                    have y289_ : ∀ k : Int, k ≠ 16 → (h286 70) k = (h245 70) k := y289
                    show ov_R u d ov_m73 132 [(0, ov_r 3), (1, ov_i dep), (2, ov_i (pt_pp t m p)), (3, ov_i 1), (4, ov_i 0), (5, ov_i 1)] [] z285 h286 (P_fReader_readPart_3_k3_1_70 F z h t m p dep)
                    have cx295 : ∀ k : Int, k ≠ 16 → h286 70 k = h 70 k := fun k hk => Eq.trans (y289_ k hk) (cx282 k hk)
                    refine ov_blk (ls2 := [(0, ov_r 3), (1, ov_i dep), (2, ov_i (pt_pp t m p)), (3, ov_i 1), (4, ov_i 0), (5, ov_i 1)]) (st2 := [ov_i 1]) (pc2 := 134) b_73_132_1 rfl rfl ?_
                    have cf296 : h286 3 1 = h245 3 1 := congrFun (E292) 1
                    have cf297 : h286 3 2 = h245 3 2 := congrFun (E292) 2
                    exact ov_retz (st := []) d_73_134 rfl (by omega) ⟨_, rfl, I287, (fun a ca => (fr293 a ca)), (fun k hk => cx295 k hk), (Or.inr ⟨rfl, w259, (by show p ≤ w259 ∧ (h286 3 1) = (h 3 1) ∧ (h286 3 2) = (h 3 2); omega), (pt_EV0_not (by omega) (by omega) (by omega) y261_), (by rw [show h286 1 = h245 1 from E290]; exact y262_)⟩)⟩
          · omega
        · skip
          refine ov_blk (ls2 := [(0, ov_r 3), (1, ov_i dep), (2, ov_i (pt_pp t m p)), (3, ov_i 1), (4, ov_i 0)]) (st2 := [ov_i 5, ov_r 3]) (pc2 := 54) b_73_52_2 rfl rfl ?_
          refine ov_cV (as := [ov_i 5]) (st := []) (d2 := d - 1) d_73_54 lk_Reader_58 rfl (Nat.le_of_ble_eq_true rfl) (c := 6) (zb_3 I) (zs_3 I) ⟨by decide, rfl⟩ (by omega) (c_fReader_fail_3 t m p (d - 1) (by omega) U I (ov_kws hw (by decide +kernel)) 5 (by omega) (by show 1 ≤ (5 : Int) ∧ (5 : Int) ≤ 5; omega) (show h 2 = t from Eq.trans (show h 2 = h 2 from rfl) et) tc) ?_
          rintro _ z299 h300 ⟨v298, rfl, I301, y302, y303⟩
          have E304 : h300 1 = h 1 := Eq.trans (y302 1 (by decide)) (show h 1 = h 1 from rfl)
          have E305 : h300 2 = h 2 := Eq.trans (y302 2 (by decide)) (show h 2 = h 2 from rfl)
          have E306 : h300 70 = h 70 := Eq.trans (y302 70 (by decide)) (show h 70 = h 70 from rfl)
          have fr307 : ∀ a : Int, a ≠ 1 ∧ a ≠ 3 ∧ a ≠ 70 ∧ a ≠ 80 → h300 a = h a := fun a ca => Eq.trans (y302 a (by omega)) rfl
          rcases y303 with ⟨rfl, f309⟩
          · skip
            show ov_R u d ov_m73 57 [(0, ov_r 3), (1, ov_i dep), (2, ov_i (pt_pp t m p)), (3, ov_i 1), (4, ov_i 0)] [ov_i 0] z299 h300 (P_fReader_readPart_3_k3_1_70 F z h t m p dep)
            have f310 : (h300 3 2) = (5 : Int) + 16 * p ∧ (h300 3 1) = (h 3 1) := f309
            clear f309
            have e308 : h300 3 1 = 70 := by omega
            exact ov_retz (st := []) d_73_57 rfl (by omega) ⟨_, rfl, I301, (fun a ca => (fr307 a ca)), (fun k hk => congrFun (show h300 70 = h 70 from E306) k), (Or.inl ⟨rfl, (5 + 16 * p), p, (by show (h300 3 2) = (5 + 16 * p) ∧ 1 ≤ (5 + 16 * p) ∧ (h300 3 1) = (h 3 1); omega), (pt_EV0_deep (fun w => by omega) (by omega))⟩)⟩
      · skip
        refine ov_blk (ls2 := [(0, ov_r 3), (1, ov_i dep), (2, ov_i (pt_pp t m p)), (3, ov_i 1), (4, ov_i 0)]) (st2 := [ov_i 1]) (pc2 := 33) b_73_32_1 rfl rfl ?_
        refine ov_ifne (tgt := 47) d_73_33 (by decide) (by omega) (fun c311 => ?_) (fun c311 => ?_)
        · skip
          refine ov_blk (ls2 := [(0, ov_r 3), (1, ov_i dep), (2, ov_i (pt_pp t m p)), (3, ov_i 1), (4, ov_i 0)]) (st2 := [ov_i 4, ov_i dep]) (pc2 := 49) b_73_47_2 rfl rfl ?_
          refine ov_icle (tgt := 58) d_73_49 (by decide) (by omega) (by omega) (fun c312 => ?_) (fun c312 => ?_)
          · skip
            refine ov_blk (ls2 := [(0, ov_r 3), (1, ov_i dep), (2, ov_i (pt_pp t m p)), (3, ov_i 1), (4, ov_i 0)]) (st2 := [ov_r 3]) (pc2 := 59) b_73_58_1 rfl rfl ?_
            refine ov_getf (v := ov_r 1) d_73_59 fl_Reader_9 (zb_3 I) (zs_3 I) (congrArg ov_r (rg_3_0 I)) ?_
            refine ov_cV (as := []) (st := []) (d2 := d - 1) d_73_62 lk_Reader_75 rfl (Nat.le_of_ble_eq_true rfl) (c := 8) (zb_1 I) (zs_1 I) ⟨by decide, rfl⟩ (by omega) (c_fTape_advance_1_t t m p (d - 1) (by omega) U I (ov_kws hw (by decide +kernel)) (show h 2 = t from Eq.trans (show h 2 = h 2 from rfl) et) tc) ?_
            rintro _ z313 h314 ⟨rfl, I315, y316, y317⟩
            have E318 : h314 2 = h 2 := Eq.trans (y316 2 (by decide)) (show h 2 = h 2 from rfl)
            have E319 : h314 3 = h 3 := Eq.trans (y316 3 (by decide)) (show h 3 = h 3 from rfl)
            have E320 : h314 70 = h 70 := Eq.trans (y316 70 (by decide)) (show h 70 = h 70 from rfl)
            have fr321 : ∀ a : Int, a ≠ 1 ∧ a ≠ 3 ∧ a ≠ 70 ∧ a ≠ 80 → h314 a = h a := fun a ca => Eq.trans (y316 a (by omega)) rfl
            have e322 : h314 3 1 = 70 := Eq.trans (congrFun (show h314 3 = h 3 from y316 3 (by decide)) 1) k0
            have y317_ : pt_TC t m (h314 1) (pt_nt t m p) := y317
            have g323 := pt_TC_b y317_
            have g324 := pt_nt_le (t := t) (n := m) (p := p) (by omega)
            show ov_R u d ov_m73 65 [(0, ov_r 3), (1, ov_i dep), (2, ov_i (pt_pp t m p)), (3, ov_i 1), (4, ov_i 0)] [] z313 h314 (P_fReader_readPart_3_k3_1_70 F z h t m p dep)
            refine ov_blk (ls2 := [(0, ov_r 3), (1, ov_i dep), (2, ov_i (pt_pp t m p)), (3, ov_i 1), (4, ov_i 0)]) (st2 := [ov_i 0]) (pc2 := 67) b_73_65_1 rfl rfl ?_
            refine ov_ifeq (tgt := 95) d_73_67 (by decide) (by omega) (fun c325 => ?_) (fun c325 => ?_)
            · skip
              refine ov_blk (ls2 := [(0, ov_r 3), (1, ov_i dep), (2, ov_i (pt_pp t m p)), (3, ov_i 1), (4, ov_i 0)]) (st2 := [ov_i 1]) (pc2 := 96) b_73_95_1 rfl rfl ?_
              refine ov_ifeq (tgt := 109) d_73_96 (by decide) (by omega) (fun c326 => ?_) (fun c326 => ?_)
              · omega
              · skip
                refine ov_blk (ls2 := [(0, ov_r 3), (1, ov_i dep), (2, ov_i (pt_pp t m p)), (3, ov_i 1), (4, ov_i 0)]) (st2 := [ov_i (dep + 1), ov_r 3]) (pc2 := 103) b_73_99_4 rfl rfl ?_
                refine ov_cV (as := [ov_i (dep + 1)]) (st := []) (d2 := d - 1) d_73_103 lk_Reader_237 rfl (Nat.le_of_ble_eq_true rfl) (c := 6) (zb_3 I315) (zs_3 I315) ⟨by decide, rfl⟩ (by omega) (HP (k - 1) (by omega) t m (pt_nt t m p) (d - 1) (by omega) U I315 (ov_kws hw (by decide +kernel)) (dep + 1) e322 (by omega) (by show 0 ≤ (dep + 1) ∧ (dep + 1) + ((k - 1 : Nat) : Int) = 5; omega) (show h314 2 = t from Eq.trans (show h314 2 = h 2 from E318) et) y317_) ?_
                rintro _ z328 h329 ⟨v327, rfl, I330, y331, y332, y333⟩
                have E334 : h329 2 = h 2 := Eq.trans (y331 2 (by decide)) (show h314 2 = h 2 from E318)
                have fr335 : ∀ a : Int, a ≠ 1 ∧ a ≠ 3 ∧ a ≠ 70 ∧ a ≠ 80 → h329 a = h a := fun a ca => Eq.trans (y331 a (by omega)) (fr321 a ca)
                have cf337 : h314 3 1 = h 3 1 := congrFun E319 1
                have cf338 : h314 3 2 = h 3 2 := congrFun E319 2
                have y332_ : ∀ k : Int, k ≠ 16 → (h329 70) k = (h314 70) k := y332
                rcases y333 with ⟨rfl, w339, w340, f341, y342⟩ | ⟨rfl, w343, f344, y345, y346⟩
                · skip
                  show ov_R u d ov_m73 106 [(0, ov_r 3), (1, ov_i dep), (2, ov_i (pt_pp t m p)), (3, ov_i 1), (4, ov_i 0)] [ov_i 0] z328 h329 (P_fReader_readPart_3_k3_1_70 F z h t m p dep)
                  have f347 : (h329 3 2) = w339 ∧ 1 ≤ w339 ∧ (h329 3 1) = (h314 3 1) := f341
                  clear f341
                  have e336 : h329 3 1 = 70 := by omega
                  have y342_ : pt_EV t m 0 (dep + 1) (pt_nt t m p) w339 w340 := y342
                  have cx348 : ∀ k : Int, k ≠ 16 → h329 70 k = h 70 k := fun k hk => Eq.trans (y332_ k hk) (congrFun (show h314 70 = h 70 from E320) k)
                  refine ov_ifeq (tgt := 113) d_73_106 (by decide) (by omega) (fun c349 => ?_) (fun c349 => ?_)
                  · skip
                    refine ov_blk (ls2 := [(0, ov_r 3), (1, ov_i dep), (2, ov_i (pt_pp t m p)), (3, ov_i 1), (4, ov_i 0), (5, ov_i 0)]) (st2 := [ov_r 3]) (pc2 := 117) b_73_113_3 rfl rfl ?_
                    refine ov_getf (v := ov_r 70) d_73_117 fl_Reader_15 (zb_3 I330) (zs_3 I330) (congrArg ov_r e336) ?_
                    refine ov_blk (ls2 := [(0, ov_r 3), (1, ov_i dep), (2, ov_i (pt_pp t m p)), (3, ov_i 1), (4, ov_i 0), (5, ov_i 0)]) (st2 := [ov_i 1, ov_r 70]) (pc2 := 121) b_73_120_1 rfl rfl ?_
                    refine ov_ifeq (tgt := 128) d_73_121 (by decide) (by omega) (fun c350 => ?_) (fun c350 => ?_)
                    · omega
                    · skip
                      refine ov_blk (ls2 := [(0, ov_r 3), (1, ov_i dep), (2, ov_i (pt_pp t m p)), (3, ov_i 1), (4, ov_i 0), (5, ov_i 0)]) (st2 := [ov_i 0, ov_r 70]) (pc2 := 125) b_73_124_1 rfl rfl ?_
                      refine ov_goto (tgt := 129) d_73_125 (by decide) ?_
                      refine ov_cV (as := [ov_i 0]) (st := []) (d2 := d - 1) d_73_129 lk_Reader_224 rfl (Nat.le_of_ble_eq_true rfl) (c := 9) (zb_70 I330) (zs_70 I330) ⟨by decide, rfl⟩ (by omega) (c_fTown_addCode_70 (d - 1) (by omega) U I330 (ov_kws hw (by decide +kernel)) 0 (by omega)) ?_
                      rintro _ z351 h352 ⟨rfl, I353, y354, y355⟩
                      have E356 : h352 1 = h329 1 := Eq.trans (y354 1 (by decide)) (show h329 1 = h329 1 from rfl)
                      have E357 : h352 2 = h 2 := Eq.trans (y354 2 (by decide)) (show h329 2 = h 2 from E334)
                      have E358 : h352 3 = h329 3 := Eq.trans (y354 3 (by decide)) (show h329 3 = h329 3 from rfl)
                      have fr359 : ∀ a : Int, a ≠ 1 ∧ a ≠ 3 ∧ a ≠ 70 ∧ a ≠ 80 → h352 a = h a := fun a ca => Eq.trans (y354 a (by omega)) (fr335 a ca)
                      have e360 : h352 3 1 = 70 := Eq.trans (congrFun (show h352 3 = h329 3 from y354 3 (by decide)) 1) e336
                      have y355_ : ∀ k : Int, k ≠ 16 → (h352 70) k = (h329 70) k := y355
                      show ov_R u d ov_m73 132 [(0, ov_r 3), (1, ov_i dep), (2, ov_i (pt_pp t m p)), (3, ov_i 1), (4, ov_i 0), (5, ov_i 0)] [] z351 h352 (P_fReader_readPart_3_k3_1_70 F z h t m p dep)
                      have cx361 : ∀ k : Int, k ≠ 16 → h352 70 k = h 70 k := fun k hk => Eq.trans (y355_ k hk) (cx348 k hk)
                      refine ov_blk (ls2 := [(0, ov_r 3), (1, ov_i dep), (2, ov_i (pt_pp t m p)), (3, ov_i 1), (4, ov_i 0), (5, ov_i 0)]) (st2 := [ov_i 0]) (pc2 := 134) b_73_132_1 rfl rfl ?_
                      have cf362 : h352 3 1 = h329 3 1 := congrFun (E358) 1
                      have cf363 : h352 3 2 = h329 3 2 := congrFun (E358) 2
                      exact ov_retz (st := []) d_73_134 rfl (by omega) ⟨_, rfl, I353, (fun a ca => (fr359 a ca)), (fun k hk => cx361 k hk), (Or.inl ⟨rfl, w339, w340, (by show (h352 3 2) = w339 ∧ 1 ≤ w339 ∧ (h352 3 1) = (h 3 1); omega), (pt_EV0_not (by omega) (by omega) (by omega) y342_)⟩)⟩
                  · omega
                · skip
                  show ov_R u d ov_m73 106 [(0, ov_r 3), (1, ov_i dep), (2, ov_i (pt_pp t m p)), (3, ov_i 1), (4, ov_i 0)] [ov_i 1] z328 h329 (P_fReader_readPart_3_k3_1_70 F z h t m p dep)
                  have f364 : (pt_nt t m p) ≤ w343 ∧ (h329 3 1) = (h314 3 1) ∧ (h329 3 2) = (h314 3 2) := f344
                  clear f344
                  have e336 : h329 3 1 = 70 := by omega
                  have y345_ : pt_EV t m 0 (dep + 1) (pt_nt t m p) 0 w343 := y345
                  have y346_ : pt_TC t m (h329 1) w343 := y346
                  have g365 := pt_TC_b y346_
                  have cx366 : ∀ k : Int, k ≠ 16 → h329 70 k = h 70 k := fun k hk => Eq.trans (y332_ k hk) (congrFun (show h314 70 = h 70 from E320) k)
                  refine ov_ifeq (tgt := 113) d_73_106 (by decide) (by omega) (fun c367 => ?_) (fun c367 => ?_)
                  · omega
                  · skip
                    refine ov_blk (ls2 := [(0, ov_r 3), (1, ov_i dep), (2, ov_i (pt_pp t m p)), (3, ov_i 1), (4, ov_i 0)]) (st2 := [ov_i 1]) (pc2 := 110) b_73_109_1 rfl rfl ?_
                    refine ov_goto (tgt := 114) d_73_110 (by decide) ?_
                    refine ov_blk (ls2 := [(0, ov_r 3), (1, ov_i dep), (2, ov_i (pt_pp t m p)), (3, ov_i 1), (4, ov_i 0), (5, ov_i 1)]) (st2 := [ov_r 3]) (pc2 := 117) b_73_114_2 rfl rfl ?_
                    refine ov_getf (v := ov_r 70) d_73_117 fl_Reader_15 (zb_3 I330) (zs_3 I330) (congrArg ov_r e336) ?_
                    refine ov_blk (ls2 := [(0, ov_r 3), (1, ov_i dep), (2, ov_i (pt_pp t m p)), (3, ov_i 1), (4, ov_i 0), (5, ov_i 1)]) (st2 := [ov_i 1, ov_r 70]) (pc2 := 121) b_73_120_1 rfl rfl ?_
                    refine ov_ifeq (tgt := 128) d_73_121 (by decide) (by omega) (fun c368 => ?_) (fun c368 => ?_)
                    · omega
                    · skip
                      refine ov_blk (ls2 := [(0, ov_r 3), (1, ov_i dep), (2, ov_i (pt_pp t m p)), (3, ov_i 1), (4, ov_i 0), (5, ov_i 1)]) (st2 := [ov_i 0, ov_r 70]) (pc2 := 125) b_73_124_1 rfl rfl ?_
                      refine ov_goto (tgt := 129) d_73_125 (by decide) ?_
                      refine ov_cV (as := [ov_i 0]) (st := []) (d2 := d - 1) d_73_129 lk_Reader_224 rfl (Nat.le_of_ble_eq_true rfl) (c := 9) (zb_70 I330) (zs_70 I330) ⟨by decide, rfl⟩ (by omega) (c_fTown_addCode_70 (d - 1) (by omega) U I330 (ov_kws hw (by decide +kernel)) 0 (by omega)) ?_
                      rintro _ z369 h370 ⟨rfl, I371, y372, y373⟩
                      have E374 : h370 1 = h329 1 := Eq.trans (y372 1 (by decide)) (show h329 1 = h329 1 from rfl)
                      have E375 : h370 2 = h 2 := Eq.trans (y372 2 (by decide)) (show h329 2 = h 2 from E334)
                      have E376 : h370 3 = h329 3 := Eq.trans (y372 3 (by decide)) (show h329 3 = h329 3 from rfl)
                      have fr377 : ∀ a : Int, a ≠ 1 ∧ a ≠ 3 ∧ a ≠ 70 ∧ a ≠ 80 → h370 a = h a := fun a ca => Eq.trans (y372 a (by omega)) (fr335 a ca)
                      have e378 : h370 3 1 = 70 := Eq.trans (congrFun (show h370 3 = h329 3 from y372 3 (by decide)) 1) e336
                      have y373_ : ∀ k : Int, k ≠ 16 → (h370 70) k = (h329 70) k := y373
                      show ov_R u d ov_m73 132 [(0, ov_r 3), (1, ov_i dep), (2, ov_i (pt_pp t m p)), (3, ov_i 1), (4, ov_i 0), (5, ov_i 1)] [] z369 h370 (P_fReader_readPart_3_k3_1_70 F z h t m p dep)
                      have cx379 : ∀ k : Int, k ≠ 16 → h370 70 k = h 70 k := fun k hk => Eq.trans (y373_ k hk) (cx366 k hk)
                      refine ov_blk (ls2 := [(0, ov_r 3), (1, ov_i dep), (2, ov_i (pt_pp t m p)), (3, ov_i 1), (4, ov_i 0), (5, ov_i 1)]) (st2 := [ov_i 1]) (pc2 := 134) b_73_132_1 rfl rfl ?_
                      have cf380 : h370 3 1 = h329 3 1 := congrFun (E376) 1
                      have cf381 : h370 3 2 = h329 3 2 := congrFun (E376) 2
                      exact ov_retz (st := []) d_73_134 rfl (by omega) ⟨_, rfl, I371, (fun a ca => (fr377 a ca)), (fun k hk => cx379 k hk), (Or.inr ⟨rfl, w343, (by show p ≤ w343 ∧ (h370 3 1) = (h 3 1) ∧ (h370 3 2) = (h 3 2); omega), (pt_EV0_not (by omega) (by omega) (by omega) y345_), (by rw [show h370 1 = h329 1 from E374]; exact y346_)⟩)⟩
            · omega
          · skip
            refine ov_blk (ls2 := [(0, ov_r 3), (1, ov_i dep), (2, ov_i (pt_pp t m p)), (3, ov_i 1), (4, ov_i 0)]) (st2 := [ov_i 5, ov_r 3]) (pc2 := 54) b_73_52_2 rfl rfl ?_
            refine ov_cV (as := [ov_i 5]) (st := []) (d2 := d - 1) d_73_54 lk_Reader_58 rfl (Nat.le_of_ble_eq_true rfl) (c := 6) (zb_3 I) (zs_3 I) ⟨by decide, rfl⟩ (by omega) (c_fReader_fail_3 t m p (d - 1) (by omega) U I (ov_kws hw (by decide +kernel)) 5 (by omega) (by show 1 ≤ (5 : Int) ∧ (5 : Int) ≤ 5; omega) (show h 2 = t from Eq.trans (show h 2 = h 2 from rfl) et) tc) ?_
            rintro _ z383 h384 ⟨v382, rfl, I385, y386, y387⟩
            have E388 : h384 1 = h 1 := Eq.trans (y386 1 (by decide)) (show h 1 = h 1 from rfl)
            have E389 : h384 2 = h 2 := Eq.trans (y386 2 (by decide)) (show h 2 = h 2 from rfl)
            have E390 : h384 70 = h 70 := Eq.trans (y386 70 (by decide)) (show h 70 = h 70 from rfl)
            have fr391 : ∀ a : Int, a ≠ 1 ∧ a ≠ 3 ∧ a ≠ 70 ∧ a ≠ 80 → h384 a = h a := fun a ca => Eq.trans (y386 a (by omega)) rfl
            rcases y387 with ⟨rfl, f393⟩
            · skip
              show ov_R u d ov_m73 57 [(0, ov_r 3), (1, ov_i dep), (2, ov_i (pt_pp t m p)), (3, ov_i 1), (4, ov_i 0)] [ov_i 0] z383 h384 (P_fReader_readPart_3_k3_1_70 F z h t m p dep)
              have f394 : (h384 3 2) = (5 : Int) + 16 * p ∧ (h384 3 1) = (h 3 1) := f393
              clear f393
              have e392 : h384 3 1 = 70 := by omega
              exact ov_retz (st := []) d_73_57 rfl (by omega) ⟨_, rfl, I385, (fun a ca => (fr391 a ca)), (fun k hk => congrFun (show h384 70 = h 70 from E390) k), (Or.inl ⟨rfl, (5 + 16 * p), p, (by show (h384 3 2) = (5 + 16 * p) ∧ 1 ≤ (5 + 16 * p) ∧ (h384 3 1) = (h 3 1); omega), (pt_EV0_deep (fun w => by omega) (by omega))⟩)⟩
        · omega
    · skip
      show ov_R u d ov_m73 25 [(0, ov_r 3), (1, ov_i dep), (2, ov_i (pt_pp t m p)), (3, ov_i 1)] [ov_i 1] z h (P_fReader_readPart_3_k3_1_70 F z h t m p dep)
      have f395 : pt_is t m p (40 : Int) = 1 ∧ pt_ty t m p = 4 ∧ t p = (40 : Int) := f225
      clear f225
      refine ov_blk (ls2 := [(0, ov_r 3), (1, ov_i dep), (2, ov_i (pt_pp t m p)), (3, ov_i 1), (4, ov_i 1)]) (st2 := [ov_i (-1), ov_i (pt_pp t m p)]) (pc2 := 29) b_73_25_3 rfl rfl ?_
      refine ov_icne (tgt := 47) d_73_29 (by decide) (by omega) (by omega) (fun c396 => ?_) (fun c396 => ?_)
      · skip
        refine ov_blk (ls2 := [(0, ov_r 3), (1, ov_i dep), (2, ov_i (pt_pp t m p)), (3, ov_i 1), (4, ov_i 1)]) (st2 := [ov_i 4, ov_i dep]) (pc2 := 49) b_73_47_2 rfl rfl ?_
        refine ov_icle (tgt := 58) d_73_49 (by decide) (by omega) (by omega) (fun c397 => ?_) (fun c397 => ?_)
        · skip
          refine ov_blk (ls2 := [(0, ov_r 3), (1, ov_i dep), (2, ov_i (pt_pp t m p)), (3, ov_i 1), (4, ov_i 1)]) (st2 := [ov_r 3]) (pc2 := 59) b_73_58_1 rfl rfl ?_
          refine ov_getf (v := ov_r 1) d_73_59 fl_Reader_9 (zb_3 I) (zs_3 I) (congrArg ov_r (rg_3_0 I)) ?_
          refine ov_cV (as := []) (st := []) (d2 := d - 1) d_73_62 lk_Reader_75 rfl (Nat.le_of_ble_eq_true rfl) (c := 8) (zb_1 I) (zs_1 I) ⟨by decide, rfl⟩ (by omega) (c_fTape_advance_1_t t m p (d - 1) (by omega) U I (ov_kws hw (by decide +kernel)) (show h 2 = t from Eq.trans (show h 2 = h 2 from rfl) et) tc) ?_
          rintro _ z398 h399 ⟨rfl, I400, y401, y402⟩
          have E403 : h399 2 = h 2 := Eq.trans (y401 2 (by decide)) (show h 2 = h 2 from rfl)
          have E404 : h399 3 = h 3 := Eq.trans (y401 3 (by decide)) (show h 3 = h 3 from rfl)
          have E405 : h399 70 = h 70 := Eq.trans (y401 70 (by decide)) (show h 70 = h 70 from rfl)
          have fr406 : ∀ a : Int, a ≠ 1 ∧ a ≠ 3 ∧ a ≠ 70 ∧ a ≠ 80 → h399 a = h a := fun a ca => Eq.trans (y401 a (by omega)) rfl
          have e407 : h399 3 1 = 70 := Eq.trans (congrFun (show h399 3 = h 3 from y401 3 (by decide)) 1) k0
          have y402_ : pt_TC t m (h399 1) (pt_nt t m p) := y402
          have g408 := pt_TC_b y402_
          have g409 := pt_nt_le (t := t) (n := m) (p := p) (by omega)
          show ov_R u d ov_m73 65 [(0, ov_r 3), (1, ov_i dep), (2, ov_i (pt_pp t m p)), (3, ov_i 1), (4, ov_i 1)] [] z398 h399 (P_fReader_readPart_3_k3_1_70 F z h t m p dep)
          refine ov_blk (ls2 := [(0, ov_r 3), (1, ov_i dep), (2, ov_i (pt_pp t m p)), (3, ov_i 1), (4, ov_i 1)]) (st2 := [ov_i 1]) (pc2 := 67) b_73_65_1 rfl rfl ?_
          refine ov_ifeq (tgt := 95) d_73_67 (by decide) (by omega) (fun c410 => ?_) (fun c410 => ?_)
          · omega
          · skip
            refine ov_blk (ls2 := [(0, ov_r 3), (1, ov_i dep), (2, ov_i (pt_pp t m p)), (3, ov_i 1), (4, ov_i 1)]) (st2 := [ov_i (dep + 1), ov_r 3]) (pc2 := 74) b_73_70_4 rfl rfl ?_
            refine ov_cV (as := [ov_i (dep + 1)]) (st := []) (d2 := d - 1) d_73_74 lk_Reader_210 rfl (Nat.le_of_ble_eq_true rfl) (c := 6) (zb_3 I400) (zs_3 I400) ⟨by decide, rfl⟩ (by omega) (HE (k - 1) (by omega) t m (pt_nt t m p) (d - 1) (by omega) U I400 (ov_kws hw (by decide +kernel)) (dep + 1) e407 (by omega) (by show 0 ≤ (dep + 1) ∧ (dep + 1) + ((k - 1 : Nat) : Int) = 5; omega) (show h399 2 = t from Eq.trans (show h399 2 = h 2 from E403) et) y402_) ?_
            rintro _ z412 h413 ⟨v411, rfl, I414, y415, y416, y417⟩
            have E418 : h413 2 = h 2 := Eq.trans (y415 2 (by decide)) (show h399 2 = h 2 from E403)
            have fr419 : ∀ a : Int, a ≠ 1 ∧ a ≠ 3 ∧ a ≠ 70 ∧ a ≠ 80 → h413 a = h a := fun a ca => Eq.trans (y415 a (by omega)) (fr406 a ca)
            have cf421 : h399 3 1 = h 3 1 := congrFun E404 1
            have cf422 : h399 3 2 = h 3 2 := congrFun E404 2
            have y416_ : ∀ k : Int, k ≠ 16 → (h413 70) k = (h399 70) k := y416
            rcases y417 with ⟨rfl, w423, w424, f425, y426⟩ | ⟨rfl, w427, f428, y429, y430⟩
            · skip
              show ov_R u d ov_m73 77 [(0, ov_r 3), (1, ov_i dep), (2, ov_i (pt_pp t m p)), (3, ov_i 1), (4, ov_i 1)] [ov_i 0] z412 h413 (P_fReader_readPart_3_k3_1_70 F z h t m p dep)
              have f431 : (h413 3 2) = w423 ∧ 1 ≤ w423 ∧ (h413 3 1) = (h399 3 1) := f425
              clear f425
              have e420 : h413 3 1 = 70 := by omega
              have y426_ : pt_EV t m 6 (dep + 1) (pt_nt t m p) w423 w424 := y426
              have cx432 : ∀ k : Int, k ≠ 16 → h413 70 k = h 70 k := fun k hk => Eq.trans (y416_ k hk) (congrFun (show h399 70 = h 70 from E405) k)
              refine ov_ifeq (tgt := 93) d_73_77 (by decide) (by omega) (fun c433 => ?_) (fun c433 => ?_)
              · skip
                refine ov_blk (ls2 := [(0, ov_r 3), (1, ov_i dep), (2, ov_i (pt_pp t m p)), (3, ov_i 1), (4, ov_i 1)]) (st2 := [ov_i 0]) (pc2 := 94) b_73_93_1 rfl rfl ?_
                exact ov_retz (st := []) d_73_94 rfl (by omega) ⟨_, rfl, I414, (fun a ca => (fr419 a ca)), (fun k hk => cx432 k hk), (Or.inl ⟨rfl, w423, w424, (by show (h413 3 2) = w423 ∧ 1 ≤ w423 ∧ (h413 3 1) = (h 3 1); omega), (pt_EV0_bf (by omega) (by omega) y426_ (by omega))⟩)⟩
              · omega
            · skip
              show ov_R u d ov_m73 77 [(0, ov_r 3), (1, ov_i dep), (2, ov_i (pt_pp t m p)), (3, ov_i 1), (4, ov_i 1)] [ov_i 1] z412 h413 (P_fReader_readPart_3_k3_1_70 F z h t m p dep)
              have f434 : (pt_nt t m p) ≤ w427 ∧ (h413 3 1) = (h399 3 1) ∧ (h413 3 2) = (h399 3 2) := f428
              clear f428
              have e420 : h413 3 1 = 70 := by omega
              have y429_ : pt_EV t m 6 (dep + 1) (pt_nt t m p) 0 w427 := y429
              have y430_ : pt_TC t m (h413 1) w427 := y430
              have g435 := pt_TC_b y430_
              have cx436 : ∀ k : Int, k ≠ 16 → h413 70 k = h 70 k := fun k hk => Eq.trans (y416_ k hk) (congrFun (show h399 70 = h 70 from E405) k)
              refine ov_ifeq (tgt := 93) d_73_77 (by decide) (by omega) (fun c437 => ?_) (fun c437 => ?_)
              · omega
              · skip
                refine ov_blk (ls2 := [(0, ov_r 3), (1, ov_i dep), (2, ov_i (pt_pp t m p)), (3, ov_i 1), (4, ov_i 1)]) (st2 := [ov_i 41, ov_r 3]) (pc2 := 83) b_73_80_2 rfl rfl ?_
                refine ov_cV (as := [ov_i 41]) (st := []) (d2 := d - 1) d_73_83 lk_Reader_92 rfl (Nat.le_of_ble_eq_true rfl) (c := 6) (zb_3 I414) (zs_3 I414) ⟨by decide, rfl⟩ (by omega) (c_fReader_takeSign_3 t m w427 (d - 1) (by omega) U I414 (ov_kws hw (by decide +kernel)) 41 (by omega) (show h413 2 = t from Eq.trans (show h413 2 = h 2 from E418) et) y430_) ?_
                rintro _ z439 h440 ⟨v438, rfl, I441, y442, y443⟩
                have E444 : h440 2 = h 2 := Eq.trans (y442 2 (by decide)) (show h413 2 = h 2 from E418)
                have E445 : h440 70 = h413 70 := Eq.trans (y442 70 (by decide)) (show h413 70 = h413 70 from rfl)
                have fr446 : ∀ a : Int, a ≠ 1 ∧ a ≠ 3 ∧ a ≠ 70 ∧ a ≠ 80 → h440 a = h a := fun a ca => Eq.trans (y442 a (by omega)) (fr419 a ca)
                rcases y443 with ⟨rfl, f448⟩ | ⟨rfl, f449, y450⟩
                · skip
                  show ov_R u d ov_m73 86 [(0, ov_r 3), (1, ov_i dep), (2, ov_i (pt_pp t m p)), (3, ov_i 1), (4, ov_i 1)] [ov_i 0] z439 h440 (P_fReader_readPart_3_k3_1_70 F z h t m p dep)
                  have f451 : (h440 3 2) = (pt_fS t m (41 : Int) w427) ∧ 1 ≤ (pt_fS t m (41 : Int) w427) ∧ (h440 3 2) = 1 + 16 * w427 ∧ pt_is t m w427 (41 : Int) = 0 ∧ (h440 3 1) = (h413 3 1) := f448
                  clear f448
                  have e447 : h440 3 1 = 70 := by omega
                  refine ov_ifeq (tgt := 93) d_73_86 (by decide) (by omega) (fun c452 => ?_) (fun c452 => ?_)
                  · skip
                    refine ov_blk (ls2 := [(0, ov_r 3), (1, ov_i dep), (2, ov_i (pt_pp t m p)), (3, ov_i 1), (4, ov_i 1)]) (st2 := [ov_i 0]) (pc2 := 94) b_73_93_1 rfl rfl ?_
                    exact ov_retz (st := []) d_73_94 rfl (by omega) ⟨_, rfl, I441, (fun a ca => (fr446 a ca)), (fun k hk => Eq.trans (congrFun (show h440 70 = h413 70 from E445) k) (cx436 k hk)), (Or.inl ⟨rfl, (1 + 16 * w427), w427, (by show (h440 3 2) = (1 + 16 * w427) ∧ 1 ≤ (1 + 16 * w427) ∧ (h440 3 1) = (h 3 1); omega), (pt_EV0_bs (by omega) (by omega) y429_ (by omega))⟩)⟩
                  · omega
                · skip
                  show ov_R u d ov_m73 86 [(0, ov_r 3), (1, ov_i dep), (2, ov_i (pt_pp t m p)), (3, ov_i 1), (4, ov_i 1)] [ov_i 1] z439 h440 (P_fReader_readPart_3_k3_1_70 F z h t m p dep)
                  have f453 : (pt_fS t m (41 : Int) w427) = 0 ∧ pt_is t m w427 (41 : Int) = 1 ∧ (h440 3 1) = (h413 3 1) ∧ (h440 3 2) = (h413 3 2) := f449
                  clear f449
                  have e447 : h440 3 1 = 70 := by omega
                  have y450_ : pt_TC t m (h440 1) (pt_nt t m w427) := y450
                  have g454 := pt_TC_b y450_
                  have g455 := pt_nt_le (t := t) (n := m) (p := w427) (by omega)
                  refine ov_ifeq (tgt := 93) d_73_86 (by decide) (by omega) (fun c456 => ?_) (fun c456 => ?_)
                  · omega
                  · skip
                    refine ov_blk (ls2 := [(0, ov_r 3), (1, ov_i dep), (2, ov_i (pt_pp t m p)), (3, ov_i 1), (4, ov_i 1)]) (st2 := [ov_i 1]) (pc2 := 90) b_73_89_1 rfl rfl ?_
                    refine ov_goto (tgt := 94) d_73_90 (by decide) ?_
                    exact ov_retz (st := []) d_73_94 rfl (by omega) ⟨_, rfl, I441, (fun a ca => (fr446 a ca)), (fun k hk => Eq.trans (congrFun (show h440 70 = h413 70 from E445) k) (cx436 k hk)), (Or.inr ⟨rfl, (pt_nt t m w427), (by show p ≤ (pt_nt t m w427) ∧ (h440 3 1) = (h 3 1) ∧ (h440 3 2) = (h 3 2); omega), (pt_EV0_b (by omega) (by omega) y429_ (by omega)), y450_⟩)⟩
        · skip
          refine ov_blk (ls2 := [(0, ov_r 3), (1, ov_i dep), (2, ov_i (pt_pp t m p)), (3, ov_i 1), (4, ov_i 1)]) (st2 := [ov_i 5, ov_r 3]) (pc2 := 54) b_73_52_2 rfl rfl ?_
          refine ov_cV (as := [ov_i 5]) (st := []) (d2 := d - 1) d_73_54 lk_Reader_58 rfl (Nat.le_of_ble_eq_true rfl) (c := 6) (zb_3 I) (zs_3 I) ⟨by decide, rfl⟩ (by omega) (c_fReader_fail_3 t m p (d - 1) (by omega) U I (ov_kws hw (by decide +kernel)) 5 (by omega) (by show 1 ≤ (5 : Int) ∧ (5 : Int) ≤ 5; omega) (show h 2 = t from Eq.trans (show h 2 = h 2 from rfl) et) tc) ?_
          rintro _ z458 h459 ⟨v457, rfl, I460, y461, y462⟩
          have E463 : h459 1 = h 1 := Eq.trans (y461 1 (by decide)) (show h 1 = h 1 from rfl)
          have E464 : h459 2 = h 2 := Eq.trans (y461 2 (by decide)) (show h 2 = h 2 from rfl)
          have E465 : h459 70 = h 70 := Eq.trans (y461 70 (by decide)) (show h 70 = h 70 from rfl)
          have fr466 : ∀ a : Int, a ≠ 1 ∧ a ≠ 3 ∧ a ≠ 70 ∧ a ≠ 80 → h459 a = h a := fun a ca => Eq.trans (y461 a (by omega)) rfl
          rcases y462 with ⟨rfl, f468⟩
          · skip
            show ov_R u d ov_m73 57 [(0, ov_r 3), (1, ov_i dep), (2, ov_i (pt_pp t m p)), (3, ov_i 1), (4, ov_i 1)] [ov_i 0] z458 h459 (P_fReader_readPart_3_k3_1_70 F z h t m p dep)
            have f469 : (h459 3 2) = (5 : Int) + 16 * p ∧ (h459 3 1) = (h 3 1) := f468
            clear f468
            have e467 : h459 3 1 = 70 := by omega
            exact ov_retz (st := []) d_73_57 rfl (by omega) ⟨_, rfl, I460, (fun a ca => (fr466 a ca)), (fun k hk => congrFun (show h459 70 = h 70 from E465) k), (Or.inl ⟨rfl, (5 + 16 * p), p, (by show (h459 3 2) = (5 + 16 * p) ∧ 1 ≤ (5 + 16 * p) ∧ (h459 3 1) = (h 3 1); omega), (pt_EV0_deep (fun w => by omega) (by omega))⟩)⟩
      · skip
        refine ov_blk (ls2 := [(0, ov_r 3), (1, ov_i dep), (2, ov_i (pt_pp t m p)), (3, ov_i 1), (4, ov_i 1)]) (st2 := [ov_i 1]) (pc2 := 33) b_73_32_1 rfl rfl ?_
        refine ov_ifne (tgt := 47) d_73_33 (by decide) (by omega) (fun c470 => ?_) (fun c470 => ?_)
        · skip
          refine ov_blk (ls2 := [(0, ov_r 3), (1, ov_i dep), (2, ov_i (pt_pp t m p)), (3, ov_i 1), (4, ov_i 1)]) (st2 := [ov_i 4, ov_i dep]) (pc2 := 49) b_73_47_2 rfl rfl ?_
          refine ov_icle (tgt := 58) d_73_49 (by decide) (by omega) (by omega) (fun c471 => ?_) (fun c471 => ?_)
          · skip
            refine ov_blk (ls2 := [(0, ov_r 3), (1, ov_i dep), (2, ov_i (pt_pp t m p)), (3, ov_i 1), (4, ov_i 1)]) (st2 := [ov_r 3]) (pc2 := 59) b_73_58_1 rfl rfl ?_
            refine ov_getf (v := ov_r 1) d_73_59 fl_Reader_9 (zb_3 I) (zs_3 I) (congrArg ov_r (rg_3_0 I)) ?_
            refine ov_cV (as := []) (st := []) (d2 := d - 1) d_73_62 lk_Reader_75 rfl (Nat.le_of_ble_eq_true rfl) (c := 8) (zb_1 I) (zs_1 I) ⟨by decide, rfl⟩ (by omega) (c_fTape_advance_1_t t m p (d - 1) (by omega) U I (ov_kws hw (by decide +kernel)) (show h 2 = t from Eq.trans (show h 2 = h 2 from rfl) et) tc) ?_
            rintro _ z472 h473 ⟨rfl, I474, y475, y476⟩
            have E477 : h473 2 = h 2 := Eq.trans (y475 2 (by decide)) (show h 2 = h 2 from rfl)
            have E478 : h473 3 = h 3 := Eq.trans (y475 3 (by decide)) (show h 3 = h 3 from rfl)
            have E479 : h473 70 = h 70 := Eq.trans (y475 70 (by decide)) (show h 70 = h 70 from rfl)
            have fr480 : ∀ a : Int, a ≠ 1 ∧ a ≠ 3 ∧ a ≠ 70 ∧ a ≠ 80 → h473 a = h a := fun a ca => Eq.trans (y475 a (by omega)) rfl
            have e481 : h473 3 1 = 70 := Eq.trans (congrFun (show h473 3 = h 3 from y475 3 (by decide)) 1) k0
            have y476_ : pt_TC t m (h473 1) (pt_nt t m p) := y476
            have g482 := pt_TC_b y476_
            have g483 := pt_nt_le (t := t) (n := m) (p := p) (by omega)
            show ov_R u d ov_m73 65 [(0, ov_r 3), (1, ov_i dep), (2, ov_i (pt_pp t m p)), (3, ov_i 1), (4, ov_i 1)] [] z472 h473 (P_fReader_readPart_3_k3_1_70 F z h t m p dep)
            refine ov_blk (ls2 := [(0, ov_r 3), (1, ov_i dep), (2, ov_i (pt_pp t m p)), (3, ov_i 1), (4, ov_i 1)]) (st2 := [ov_i 1]) (pc2 := 67) b_73_65_1 rfl rfl ?_
            refine ov_ifeq (tgt := 95) d_73_67 (by decide) (by omega) (fun c484 => ?_) (fun c484 => ?_)
            · omega
            · skip
              refine ov_blk (ls2 := [(0, ov_r 3), (1, ov_i dep), (2, ov_i (pt_pp t m p)), (3, ov_i 1), (4, ov_i 1)]) (st2 := [ov_i (dep + 1), ov_r 3]) (pc2 := 74) b_73_70_4 rfl rfl ?_
              refine ov_cV (as := [ov_i (dep + 1)]) (st := []) (d2 := d - 1) d_73_74 lk_Reader_210 rfl (Nat.le_of_ble_eq_true rfl) (c := 6) (zb_3 I474) (zs_3 I474) ⟨by decide, rfl⟩ (by omega) (HE (k - 1) (by omega) t m (pt_nt t m p) (d - 1) (by omega) U I474 (ov_kws hw (by decide +kernel)) (dep + 1) e481 (by omega) (by show 0 ≤ (dep + 1) ∧ (dep + 1) + ((k - 1 : Nat) : Int) = 5; omega) (show h473 2 = t from Eq.trans (show h473 2 = h 2 from E477) et) y476_) ?_
              rintro _ z486 h487 ⟨v485, rfl, I488, y489, y490, y491⟩
              have E492 : h487 2 = h 2 := Eq.trans (y489 2 (by decide)) (show h473 2 = h 2 from E477)
              have fr493 : ∀ a : Int, a ≠ 1 ∧ a ≠ 3 ∧ a ≠ 70 ∧ a ≠ 80 → h487 a = h a := fun a ca => Eq.trans (y489 a (by omega)) (fr480 a ca)
              have cf495 : h473 3 1 = h 3 1 := congrFun E478 1
              have cf496 : h473 3 2 = h 3 2 := congrFun E478 2
              have y490_ : ∀ k : Int, k ≠ 16 → (h487 70) k = (h473 70) k := y490
              rcases y491 with ⟨rfl, w497, w498, f499, y500⟩ | ⟨rfl, w501, f502, y503, y504⟩
              · skip
                show ov_R u d ov_m73 77 [(0, ov_r 3), (1, ov_i dep), (2, ov_i (pt_pp t m p)), (3, ov_i 1), (4, ov_i 1)] [ov_i 0] z486 h487 (P_fReader_readPart_3_k3_1_70 F z h t m p dep)
                have f505 : (h487 3 2) = w497 ∧ 1 ≤ w497 ∧ (h487 3 1) = (h473 3 1) := f499
                clear f499
                have e494 : h487 3 1 = 70 := by omega
                have y500_ : pt_EV t m 6 (dep + 1) (pt_nt t m p) w497 w498 := y500
                have cx506 : ∀ k : Int, k ≠ 16 → h487 70 k = h 70 k := fun k hk => Eq.trans (y490_ k hk) (congrFun (show h473 70 = h 70 from E479) k)
                refine ov_ifeq (tgt := 93) d_73_77 (by decide) (by omega) (fun c507 => ?_) (fun c507 => ?_)
                · skip
                  refine ov_blk (ls2 := [(0, ov_r 3), (1, ov_i dep), (2, ov_i (pt_pp t m p)), (3, ov_i 1), (4, ov_i 1)]) (st2 := [ov_i 0]) (pc2 := 94) b_73_93_1 rfl rfl ?_
                  exact ov_retz (st := []) d_73_94 rfl (by omega) ⟨_, rfl, I488, (fun a ca => (fr493 a ca)), (fun k hk => cx506 k hk), (Or.inl ⟨rfl, w497, w498, (by show (h487 3 2) = w497 ∧ 1 ≤ w497 ∧ (h487 3 1) = (h 3 1); omega), (pt_EV0_bf (by omega) (by omega) y500_ (by omega))⟩)⟩
                · omega
              · skip
                show ov_R u d ov_m73 77 [(0, ov_r 3), (1, ov_i dep), (2, ov_i (pt_pp t m p)), (3, ov_i 1), (4, ov_i 1)] [ov_i 1] z486 h487 (P_fReader_readPart_3_k3_1_70 F z h t m p dep)
                have f508 : (pt_nt t m p) ≤ w501 ∧ (h487 3 1) = (h473 3 1) ∧ (h487 3 2) = (h473 3 2) := f502
                clear f502
                have e494 : h487 3 1 = 70 := by omega
                have y503_ : pt_EV t m 6 (dep + 1) (pt_nt t m p) 0 w501 := y503
                have y504_ : pt_TC t m (h487 1) w501 := y504
                have g509 := pt_TC_b y504_
                have cx510 : ∀ k : Int, k ≠ 16 → h487 70 k = h 70 k := fun k hk => Eq.trans (y490_ k hk) (congrFun (show h473 70 = h 70 from E479) k)
                refine ov_ifeq (tgt := 93) d_73_77 (by decide) (by omega) (fun c511 => ?_) (fun c511 => ?_)
                · omega
                · skip
                  refine ov_blk (ls2 := [(0, ov_r 3), (1, ov_i dep), (2, ov_i (pt_pp t m p)), (3, ov_i 1), (4, ov_i 1)]) (st2 := [ov_i 41, ov_r 3]) (pc2 := 83) b_73_80_2 rfl rfl ?_
                  refine ov_cV (as := [ov_i 41]) (st := []) (d2 := d - 1) d_73_83 lk_Reader_92 rfl (Nat.le_of_ble_eq_true rfl) (c := 6) (zb_3 I488) (zs_3 I488) ⟨by decide, rfl⟩ (by omega) (c_fReader_takeSign_3 t m w501 (d - 1) (by omega) U I488 (ov_kws hw (by decide +kernel)) 41 (by omega) (show h487 2 = t from Eq.trans (show h487 2 = h 2 from E492) et) y504_) ?_
                  rintro _ z513 h514 ⟨v512, rfl, I515, y516, y517⟩
                  have E518 : h514 2 = h 2 := Eq.trans (y516 2 (by decide)) (show h487 2 = h 2 from E492)
                  have E519 : h514 70 = h487 70 := Eq.trans (y516 70 (by decide)) (show h487 70 = h487 70 from rfl)
                  have fr520 : ∀ a : Int, a ≠ 1 ∧ a ≠ 3 ∧ a ≠ 70 ∧ a ≠ 80 → h514 a = h a := fun a ca => Eq.trans (y516 a (by omega)) (fr493 a ca)
                  rcases y517 with ⟨rfl, f522⟩ | ⟨rfl, f523, y524⟩
                  · skip
                    show ov_R u d ov_m73 86 [(0, ov_r 3), (1, ov_i dep), (2, ov_i (pt_pp t m p)), (3, ov_i 1), (4, ov_i 1)] [ov_i 0] z513 h514 (P_fReader_readPart_3_k3_1_70 F z h t m p dep)
                    have f525 : (h514 3 2) = (pt_fS t m (41 : Int) w501) ∧ 1 ≤ (pt_fS t m (41 : Int) w501) ∧ (h514 3 2) = 1 + 16 * w501 ∧ pt_is t m w501 (41 : Int) = 0 ∧ (h514 3 1) = (h487 3 1) := f522
                    clear f522
                    have e521 : h514 3 1 = 70 := by omega
                    refine ov_ifeq (tgt := 93) d_73_86 (by decide) (by omega) (fun c526 => ?_) (fun c526 => ?_)
                    · skip
                      refine ov_blk (ls2 := [(0, ov_r 3), (1, ov_i dep), (2, ov_i (pt_pp t m p)), (3, ov_i 1), (4, ov_i 1)]) (st2 := [ov_i 0]) (pc2 := 94) b_73_93_1 rfl rfl ?_
                      exact ov_retz (st := []) d_73_94 rfl (by omega) ⟨_, rfl, I515, (fun a ca => (fr520 a ca)), (fun k hk => Eq.trans (congrFun (show h514 70 = h487 70 from E519) k) (cx510 k hk)), (Or.inl ⟨rfl, (1 + 16 * w501), w501, (by show (h514 3 2) = (1 + 16 * w501) ∧ 1 ≤ (1 + 16 * w501) ∧ (h514 3 1) = (h 3 1); omega), (pt_EV0_bs (by omega) (by omega) y503_ (by omega))⟩)⟩
                    · omega
                  · skip
                    show ov_R u d ov_m73 86 [(0, ov_r 3), (1, ov_i dep), (2, ov_i (pt_pp t m p)), (3, ov_i 1), (4, ov_i 1)] [ov_i 1] z513 h514 (P_fReader_readPart_3_k3_1_70 F z h t m p dep)
                    have f527 : (pt_fS t m (41 : Int) w501) = 0 ∧ pt_is t m w501 (41 : Int) = 1 ∧ (h514 3 1) = (h487 3 1) ∧ (h514 3 2) = (h487 3 2) := f523
                    clear f523
                    have e521 : h514 3 1 = 70 := by omega
                    have y524_ : pt_TC t m (h514 1) (pt_nt t m w501) := y524
                    have g528 := pt_TC_b y524_
                    have g529 := pt_nt_le (t := t) (n := m) (p := w501) (by omega)
                    refine ov_ifeq (tgt := 93) d_73_86 (by decide) (by omega) (fun c530 => ?_) (fun c530 => ?_)
                    · omega
                    · skip
                      refine ov_blk (ls2 := [(0, ov_r 3), (1, ov_i dep), (2, ov_i (pt_pp t m p)), (3, ov_i 1), (4, ov_i 1)]) (st2 := [ov_i 1]) (pc2 := 90) b_73_89_1 rfl rfl ?_
                      refine ov_goto (tgt := 94) d_73_90 (by decide) ?_
                      exact ov_retz (st := []) d_73_94 rfl (by omega) ⟨_, rfl, I515, (fun a ca => (fr520 a ca)), (fun k hk => Eq.trans (congrFun (show h514 70 = h487 70 from E519) k) (cx510 k hk)), (Or.inr ⟨rfl, (pt_nt t m w501), (by show p ≤ (pt_nt t m w501) ∧ (h514 3 1) = (h 3 1) ∧ (h514 3 2) = (h 3 2); omega), (pt_EV0_b (by omega) (by omega) y503_ (by omega)), y524_⟩)⟩
          · skip
            refine ov_blk (ls2 := [(0, ov_r 3), (1, ov_i dep), (2, ov_i (pt_pp t m p)), (3, ov_i 1), (4, ov_i 1)]) (st2 := [ov_i 5, ov_r 3]) (pc2 := 54) b_73_52_2 rfl rfl ?_
            refine ov_cV (as := [ov_i 5]) (st := []) (d2 := d - 1) d_73_54 lk_Reader_58 rfl (Nat.le_of_ble_eq_true rfl) (c := 6) (zb_3 I) (zs_3 I) ⟨by decide, rfl⟩ (by omega) (c_fReader_fail_3 t m p (d - 1) (by omega) U I (ov_kws hw (by decide +kernel)) 5 (by omega) (by show 1 ≤ (5 : Int) ∧ (5 : Int) ≤ 5; omega) (show h 2 = t from Eq.trans (show h 2 = h 2 from rfl) et) tc) ?_
            rintro _ z532 h533 ⟨v531, rfl, I534, y535, y536⟩
            have E537 : h533 1 = h 1 := Eq.trans (y535 1 (by decide)) (show h 1 = h 1 from rfl)
            have E538 : h533 2 = h 2 := Eq.trans (y535 2 (by decide)) (show h 2 = h 2 from rfl)
            have E539 : h533 70 = h 70 := Eq.trans (y535 70 (by decide)) (show h 70 = h 70 from rfl)
            have fr540 : ∀ a : Int, a ≠ 1 ∧ a ≠ 3 ∧ a ≠ 70 ∧ a ≠ 80 → h533 a = h a := fun a ca => Eq.trans (y535 a (by omega)) rfl
            rcases y536 with ⟨rfl, f542⟩
            · skip
              show ov_R u d ov_m73 57 [(0, ov_r 3), (1, ov_i dep), (2, ov_i (pt_pp t m p)), (3, ov_i 1), (4, ov_i 1)] [ov_i 0] z532 h533 (P_fReader_readPart_3_k3_1_70 F z h t m p dep)
              have f543 : (h533 3 2) = (5 : Int) + 16 * p ∧ (h533 3 1) = (h 3 1) := f542
              clear f542
              have e541 : h533 3 1 = 70 := by omega
              exact ov_retz (st := []) d_73_57 rfl (by omega) ⟨_, rfl, I534, (fun a ca => (fr540 a ca)), (fun k hk => congrFun (show h533 70 = h 70 from E539) k), (Or.inl ⟨rfl, (5 + 16 * p), p, (by show (h533 3 2) = (5 + 16 * p) ∧ 1 ≤ (5 + 16 * p) ∧ (h533 3 1) = (h 3 1); omega), (pt_EV0_deep (fun w => by omega) (by omega))⟩)⟩
        · omega

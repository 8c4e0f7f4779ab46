set_option maxHeartbeats 4000000 in
theorem c_fReader_readTest_3_k3_1_58 {u : ov_U} {F : ov_H} (t : Int → Int) (m : Int) (p : Int) (k : Nat) (HE : ∀ k' : Nat, k' + 1 = k → ∀ {z : ov_Z} {h : ov_H} (t : Int → Int) (m p : Int) (d : Nat) (hd : (10 + 5 * k' + 4) ≤ d) (U : ov_cap u) (I : ov_I F z h) (hw : ov_kw 295436135555504537610 F) (dep : Int) (k0 : h 3 1 = 58) (g_dep : ov_g dep) (p0 : 0 ≤ dep ∧ dep + (k' : Int) = 5) (et : (h 2) = t) (tc : pt_TC t m (h 1) p), ov_T u d ov_m69 [ov_r 3, ov_i dep] z h (P_fReader_readExpression_3_k3_1_58 F z h t m p dep)) (HP : ∀ k' : Nat, k' + 1 = k → ∀ {z : ov_Z} {h : ov_H} (t : Int → Int) (m p : Int) (d : Nat) (hd : (10 + 5 * k' + 0) ≤ d) (U : ov_cap u) (I : ov_I F z h) (hw : ov_kw 295436135555504537610 F) (dep : Int) (k0 : h 3 1 = 58) (g_dep : ov_g dep) (p0 : 0 ≤ dep ∧ dep + (k' : Int) = 5) (et : (h 2) = t) (tc : pt_TC t m (h 1) p), ov_T u d ov_m73 [ov_r 3, ov_i dep] z h (P_fReader_readPart_3_k3_1_58 F z h t m p dep)) {z : ov_Z} {h : ov_H} (d : Nat) (hd : (10 + 5 * k + 3) ≤ d) (U : ov_cap u) (I : ov_I F z h) (hw : ov_kw 295436135555504537610 F) (dep : Int) (k0 : h 3 1 = 58) (g_dep : ov_g dep) (p0 : 0 ≤ dep ∧ dep + (k : Int) = 5) (et : (h 2) = t) (tc : pt_TC t m (h 1) p) : ov_T u d ov_m70 [ov_r 3, ov_i dep] z h (P_fReader_readTest_3_k3_1_58 F z h t m p dep) := by
  refine ov_en rfl (Nat.le_of_ble_eq_true rfl) ?_
  show ov_R u d ov_m70 0 [(0, ov_r 3), (1, ov_i dep)] [] z h (P_fReader_readTest_3_k3_1_58 F z h t m p dep)
  have tb := pt_TC_b tc
  refine ov_blk (ls2 := [(0, ov_r 3), (1, ov_i dep)]) (st2 := [ov_i dep, ov_r 3]) (pc2 := 2) b_70_0_2 rfl rfl ?_
  refine ov_cV (as := [ov_i dep]) (st := []) (d2 := d - 1) d_70_2 lk_Reader_228 rfl (Nat.le_of_ble_eq_true rfl) (c := 6) (zb_3 I) (zs_3 I) ⟨by decide, rfl⟩ (by omega) (c_fReader_readSum_3_k3_1_58 t m p k HE HP (d - 1) (by omega) U I (ov_kws hw (by decide +kernel)) dep k0 (by omega) (by show 0 ≤ dep ∧ dep + (k : Int) = 5; omega) (show h 2 = t from Eq.trans (show h 2 = h 2 from rfl) et) tc) ?_
  rintro _ z2 h3 ⟨v1, rfl, I4, y5, y6, y7⟩
  have E8 : h3 2 = h 2 := Eq.trans (y5 2 (by decide)) (show h 2 = h 2 from rfl)
  have fr9 : ∀ a : Int, a ≠ 1 ∧ a ≠ 3 ∧ a ≠ 58 ∧ a ≠ 68 → h3 a = h a := fun a ca => Eq.trans (y5 a (by omega)) rfl
  have y6_ : ∀ k : Int, k ≠ 16 → (h3 58) k = (h 58) k := y6
  rcases y7 with ⟨rfl, w11, w12, f13, y14⟩ | ⟨rfl, w15, f16, y17, y18⟩
  · skip
    show ov_R u d ov_m70 5 [(0, ov_r 3), (1, ov_i dep)] [ov_i 0] z2 h3 (P_fReader_readTest_3_k3_1_58 F z h t m p dep)
    have f19 : (h3 3 2) = w11 ∧ 1 ≤ w11 ∧ (h3 3 1) = (h 3 1) := f13
    clear f13
    have e10 : h3 3 1 = 58 := by omega
    have y14_ : pt_EV t m 3 dep p w11 w12 := y14
    have cx20 : ∀ k : Int, k ≠ 16 → h3 58 k = h 58 k := fun k hk => Eq.trans (y6_ k hk) rfl
    refine ov_ifne (tgt := 10) d_70_5 (by decide) (by omega) (fun c21 => ?_) (fun c21 => ?_)
    · omega
    · skip
      refine ov_blk (ls2 := [(0, ov_r 3), (1, ov_i dep)]) (st2 := [ov_i 0]) (pc2 := 9) b_70_8_1 rfl rfl ?_
      exact ov_retz (st := []) d_70_9 rfl (by omega) ⟨_, rfl, I4, (fun a ca => (fr9 a ca)), (fun k hk => cx20 k hk), (Or.inl ⟨rfl, w11, w12, (by show (h3 3 2) = w11 ∧ 1 ≤ w11 ∧ (h3 3 1) = (h 3 1); omega), (pt_EV5_f y14_ (by omega))⟩)⟩
  · skip
    show ov_R u d ov_m70 5 [(0, ov_r 3), (1, ov_i dep)] [ov_i 1] z2 h3 (P_fReader_readTest_3_k3_1_58 F z h t m p dep)
    have f22 : p ≤ w15 ∧ (h3 3 1) = (h 3 1) ∧ (h3 3 2) = (h 3 2) := f16
    clear f16
    have e10 : h3 3 1 = 58 := by omega
    have y17_ : pt_EV t m 3 dep p 0 w15 := y17
    have y18_ : pt_TC t m (h3 1) w15 := y18
    have g23 := pt_TC_b y18_
    have cx24 : ∀ k : Int, k ≠ 16 → h3 58 k = h 58 k := fun k hk => Eq.trans (y6_ k hk) rfl
    refine ov_ifne (tgt := 10) d_70_5 (by decide) (by omega) (fun c25 => ?_) (fun c25 => ?_)
    · skip
      refine ov_blk (ls2 := [(0, ov_r 3), (1, ov_i dep)]) (st2 := [ov_r 3]) (pc2 := 11) b_70_10_1 rfl rfl ?_
      refine ov_getf (v := ov_r 1) d_70_11 fl_Reader_9 (zb_3 I4) (zs_3 I4) (congrArg ov_r (rg_3_0 I4)) ?_
      refine ov_blk (ls2 := [(0, ov_r 3), (1, ov_i dep)]) (st2 := [ov_i 60, ov_r 1]) (pc2 := 16) b_70_14_1 rfl rfl ?_
      refine ov_cV (as := [ov_i 60]) (st := []) (d2 := d - 1) d_70_16 lk_Reader_231 rfl (Nat.le_of_ble_eq_true rfl) (c := 8) (zb_1 I4) (zs_1 I4) ⟨by decide, rfl⟩ (by omega) (c_fTape_isSign_1 t m w15 (d - 1) (by omega) U I4 60 (by omega) y18_) ?_
      rintro _ _ _ ⟨v26, rfl, rfl, rfl, y27⟩
      rcases y27 with ⟨rfl, f28⟩ | ⟨rfl, f29⟩
      · skip
        show ov_R u d ov_m70 19 [(0, ov_r 3), (1, ov_i dep)] [ov_i 0] z2 h3 (P_fReader_readTest_3_k3_1_58 F z h t m p dep)
        have f30 : pt_is t m w15 (60 : Int) = 0 := f28
        clear f28
        refine ov_blk (ls2 := [(0, ov_r 3), (1, ov_i dep), (2, ov_i 0)]) (st2 := [ov_i 0]) (pc2 := 21) b_70_19_2 rfl rfl ?_
        refine ov_ifne (tgt := 38) d_70_21 (by decide) (by omega) (fun c31 => ?_) (fun c31 => ?_)
        · omega
        · skip
          refine ov_blk (ls2 := [(0, ov_r 3), (1, ov_i dep), (2, ov_i 0)]) (st2 := [ov_r 3]) (pc2 := 25) b_70_24_1 rfl rfl ?_
          refine ov_getf (v := ov_r 1) d_70_25 fl_Reader_9 (zb_3 I4) (zs_3 I4) (congrArg ov_r (rg_3_0 I4)) ?_
          refine ov_blk (ls2 := [(0, ov_r 3), (1, ov_i dep), (2, ov_i 0)]) (st2 := [ov_i 61, ov_r 1]) (pc2 := 30) b_70_28_1 rfl rfl ?_
          refine ov_cV (as := [ov_i 61]) (st := []) (d2 := d - 1) d_70_30 lk_Reader_231 rfl (Nat.le_of_ble_eq_true rfl) (c := 8) (zb_1 I4) (zs_1 I4) ⟨by decide, rfl⟩ (by omega) (c_fTape_isSign_1 t m w15 (d - 1) (by omega) U I4 61 (by omega) y18_) ?_
          rintro _ _ _ ⟨v32, rfl, rfl, rfl, y33⟩
          rcases y33 with ⟨rfl, f34⟩ | ⟨rfl, f35⟩
          · skip
            show ov_R u d ov_m70 33 [(0, ov_r 3), (1, ov_i dep), (2, ov_i 0)] [ov_i 0] z2 h3 (P_fReader_readTest_3_k3_1_58 F z h t m p dep)
            have f36 : pt_is t m w15 (61 : Int) = 0 := f34
            clear f34
            refine ov_ifne (tgt := 38) d_70_33 (by decide) (by omega) (fun c37 => ?_) (fun c37 => ?_)
            · omega
            · skip
              refine ov_blk (ls2 := [(0, ov_r 3), (1, ov_i dep), (2, ov_i 0)]) (st2 := [ov_i 1]) (pc2 := 37) b_70_36_1 rfl rfl ?_
              exact ov_retz (st := []) d_70_37 rfl (by omega) ⟨_, rfl, I4, (fun a ca => (fr9 a ca)), (fun k hk => cx24 k hk), (Or.inr ⟨rfl, w15, (by show p ≤ w15 ∧ (h3 3 1) = (h 3 1) ∧ (h3 3 2) = (h 3 2); omega), (pt_EV5_e y17_ (by omega)), y18_⟩)⟩
          · skip
            show ov_R u d ov_m70 33 [(0, ov_r 3), (1, ov_i dep), (2, ov_i 0)] [ov_i 1] z2 h3 (P_fReader_readTest_3_k3_1_58 F z h t m p dep)
            have f38 : pt_is t m w15 (61 : Int) = 1 ∧ pt_ty t m w15 = 4 ∧ t w15 = (61 : Int) := f35
            clear f35
            refine ov_ifne (tgt := 38) d_70_33 (by decide) (by omega) (fun c39 => ?_) (fun c39 => ?_)
            · skip
              refine ov_blk (ls2 := [(0, ov_r 3), (1, ov_i dep), (2, ov_i 0)]) (st2 := [ov_r 3]) (pc2 := 39) b_70_38_1 rfl rfl ?_
              refine ov_getf (v := ov_r 1) d_70_39 fl_Reader_9 (zb_3 I4) (zs_3 I4) (congrArg ov_r (rg_3_0 I4)) ?_
              refine ov_cV (as := []) (st := []) (d2 := d - 1) d_70_42 lk_Reader_75 rfl (Nat.le_of_ble_eq_true rfl) (c := 8) (zb_1 I4) (zs_1 I4) ⟨by decide, rfl⟩ (by omega) (c_fTape_advance_1_t t m w15 (d - 1) (by omega) U I4 (ov_kws hw (by decide +kernel)) (show h3 2 = t from Eq.trans (show h3 2 = h 2 from E8) et) y18_) ?_
              rintro _ z40 h41 ⟨rfl, I42, y43, y44⟩
              have E45 : h41 2 = h 2 := Eq.trans (y43 2 (by decide)) (show h3 2 = h 2 from E8)
              have E46 : h41 3 = h3 3 := Eq.trans (y43 3 (by decide)) (show h3 3 = h3 3 from rfl)
              have E47 : h41 58 = h3 58 := Eq.trans (y43 58 (by decide)) (show h3 58 = h3 58 from rfl)
              have fr48 : ∀ a : Int, a ≠ 1 ∧ a ≠ 3 ∧ a ≠ 58 ∧ a ≠ 68 → h41 a = h a := fun a ca => Eq.trans (y43 a (by omega)) (fr9 a ca)
              have e49 : h41 3 1 = 58 := Eq.trans (congrFun (show h41 3 = h3 3 from y43 3 (by decide)) 1) e10
              have y44_ : pt_TC t m (h41 1) (pt_nt t m w15) := y44
              have g50 := pt_TC_b y44_
              have g51 := pt_nt_le (t := t) (n := m) (p := w15) (by omega)
              show ov_R u d ov_m70 45 [(0, ov_r 3), (1, ov_i dep), (2, ov_i 0)] [] z40 h41 (P_fReader_readTest_3_k3_1_58 F z h t m p dep)
              have g52 := pt_nt_b (t := t) (n := m) (p := w15) (by omega)
              refine ov_blk (ls2 := [(0, ov_r 3), (1, ov_i dep), (2, ov_i 0)]) (st2 := [ov_i dep, ov_r 3]) (pc2 := 47) b_70_45_2 rfl rfl ?_
              refine ov_cV (as := [ov_i dep]) (st := []) (d2 := d - 1) d_70_47 lk_Reader_228 rfl (Nat.le_of_ble_eq_true rfl) (c := 6) (zb_3 I42) (zs_3 I42) ⟨by decide, rfl⟩ (by omega) (c_fReader_readSum_3_k3_1_58 t m (pt_nt t m w15) k HE HP (d - 1) (by omega) U I42 (ov_kws hw (by decide +kernel)) dep e49 (by omega) (by show 0 ≤ dep ∧ dep + (k : Int) = 5; omega) (show h41 2 = t from Eq.trans (show h41 2 = h 2 from E45) et) y44_) ?_
              rintro _ z54 h55 ⟨v53, rfl, I56, y57, y58, y59⟩
              have E60 : h55 2 = h 2 := Eq.trans (y57 2 (by decide)) (show h41 2 = h 2 from E45)
              have fr61 : ∀ a : Int, a ≠ 1 ∧ a ≠ 3 ∧ a ≠ 58 ∧ a ≠ 68 → h55 a = h a := fun a ca => Eq.trans (y57 a (by omega)) (fr48 a ca)
              have cf63 : h41 3 1 = h3 3 1 := congrFun E46 1
              have cf64 : h41 3 2 = h3 3 2 := congrFun E46 2
              have y58_ : ∀ k : Int, k ≠ 16 → (h55 58) k = (h41 58) k := y58
              rcases y59 with ⟨rfl, w65, w66, f67, y68⟩ | ⟨rfl, w69, f70, y71, y72⟩
              · skip
                show ov_R u d ov_m70 50 [(0, ov_r 3), (1, ov_i dep), (2, ov_i 0)] [ov_i 0] z54 h55 (P_fReader_readTest_3_k3_1_58 F z h t m p dep)
                have f73 : (h55 3 2) = w65 ∧ 1 ≤ w65 ∧ (h55 3 1) = (h41 3 1) := f67
                clear f67
                have e62 : h55 3 1 = 58 := by omega
                have y68_ : pt_EV t m 3 dep (pt_nt t m w15) w65 w66 := y68
                have cx74 : ∀ k : Int, k ≠ 16 → h55 58 k = h 58 k := fun k hk => Eq.trans (y58_ k hk) (Eq.trans (congrFun (show h41 58 = h3 58 from E47) k) (cx24 k hk))
                refine ov_blk (ls2 := [(0, ov_r 3), (1, ov_i dep), (2, ov_i 0), (3, ov_i 0)]) (st2 := [ov_r 3]) (pc2 := 52) b_70_50_2 rfl rfl ?_
                refine ov_getf (v := ov_r 58) d_70_52 fl_Reader_15 (zb_3 I56) (zs_3 I56) (congrArg ov_r e62) ?_
                refine ov_blk (ls2 := [(0, ov_r 3), (1, ov_i dep), (2, ov_i 0), (3, ov_i 0)]) (st2 := [ov_i 0, ov_r 58]) (pc2 := 56) b_70_55_1 rfl rfl ?_
                refine ov_ifeq (tgt := 63) d_70_56 (by decide) (by omega) (fun c75 => ?_) (fun c75 => ?_)
                · skip
                  refine ov_blk (ls2 := [(0, ov_r 3), (1, ov_i dep), (2, ov_i 0), (3, ov_i 0)]) (st2 := [ov_i 4, ov_r 58]) (pc2 := 64) b_70_63_1 rfl rfl ?_
                  refine ov_cV (as := [ov_i 4]) (st := []) (d2 := d - 1) d_70_64 lk_Reader_224 rfl (Nat.le_of_ble_eq_true rfl) (c := 9) (zb_58 I56) (zs_58 I56) ⟨by decide, rfl⟩ (by omega) (c_fTown_addCode_58 (d - 1) (by omega) U I56 (ov_kws hw (by decide +kernel)) 4 (by omega)) ?_
                  rintro _ z76 h77 ⟨rfl, I78, y79, y80⟩
                  have E81 : h77 1 = h55 1 := Eq.trans (y79 1 (by decide)) (show h55 1 = h55 1 from rfl)
                  have E82 : h77 2 = h 2 := Eq.trans (y79 2 (by decide)) (show h55 2 = h 2 from E60)
                  have E83 : h77 3 = h55 3 := Eq.trans (y79 3 (by decide)) (show h55 3 = h55 3 from rfl)
                  have fr84 : ∀ a : Int, a ≠ 1 ∧ a ≠ 3 ∧ a ≠ 58 ∧ a ≠ 68 → h77 a = h a := fun a ca => Eq.trans (y79 a (by omega)) (fr61 a ca)
                  have e85 : h77 3 1 = 58 := Eq.trans (congrFun (show h77 3 = h55 3 from y79 3 (by decide)) 1) e62
                  have y80_ : ∀ k : Int, k ≠ 16 → (h77 58) k = (h55 58) k := y80
                  show ov_R u d ov_m70 67 [(0, ov_r 3), (1, ov_i dep), (2, ov_i 0), (3, ov_i 0)] [] z76 h77 (P_fReader_readTest_3_k3_1_58 F z h t m p dep)
                  have cx86 : ∀ k : Int, k ≠ 16 → h77 58 k = h 58 k := fun k hk => Eq.trans (y80_ k hk) (cx74 k hk)
                  refine ov_blk (ls2 := [(0, ov_r 3), (1, ov_i dep), (2, ov_i 0), (3, ov_i 0)]) (st2 := [ov_i 0]) (pc2 := 68) b_70_67_1 rfl rfl ?_
                  have cf87 : h77 3 1 = h55 3 1 := congrFun (E83) 1
                  have cf88 : h77 3 2 = h55 3 2 := congrFun (E83) 2
                  exact ov_retz (st := []) d_70_68 rfl (by omega) ⟨_, rfl, I78, (fun a ca => (fr84 a ca)), (fun k hk => cx86 k hk), (Or.inl ⟨rfl, w65, w66, (by show (h77 3 2) = w65 ∧ 1 ≤ w65 ∧ (h77 3 1) = (h 3 1); omega), (pt_EV5 y17_ (by omega) y68_)⟩)⟩
                · omega
              · skip
                show ov_R u d ov_m70 50 [(0, ov_r 3), (1, ov_i dep), (2, ov_i 0)] [ov_i 1] z54 h55 (P_fReader_readTest_3_k3_1_58 F z h t m p dep)
                have f89 : (pt_nt t m w15) ≤ w69 ∧ (h55 3 1) = (h41 3 1) ∧ (h55 3 2) = (h41 3 2) := f70
                clear f70
                have e62 : h55 3 1 = 58 := by omega
                have y71_ : pt_EV t m 3 dep (pt_nt t m w15) 0 w69 := y71
                have y72_ : pt_TC t m (h55 1) w69 := y72
                have g90 := pt_TC_b y72_
                have cx91 : ∀ k : Int, k ≠ 16 → h55 58 k = h 58 k := fun k hk => Eq.trans (y58_ k hk) (Eq.trans (congrFun (show h41 58 = h3 58 from E47) k) (cx24 k hk))
                refine ov_blk (ls2 := [(0, ov_r 3), (1, ov_i dep), (2, ov_i 0), (3, ov_i 1)]) (st2 := [ov_r 3]) (pc2 := 52) b_70_50_2 rfl rfl ?_
                refine ov_getf (v := ov_r 58) d_70_52 fl_Reader_15 (zb_3 I56) (zs_3 I56) (congrArg ov_r e62) ?_
                refine ov_blk (ls2 := [(0, ov_r 3), (1, ov_i dep), (2, ov_i 0), (3, ov_i 1)]) (st2 := [ov_i 0, ov_r 58]) (pc2 := 56) b_70_55_1 rfl rfl ?_
                refine ov_ifeq (tgt := 63) d_70_56 (by decide) (by omega) (fun c92 => ?_) (fun c92 => ?_)
                · skip
                  refine ov_blk (ls2 := [(0, ov_r 3), (1, ov_i dep), (2, ov_i 0), (3, ov_i 1)]) (st2 := [ov_i 4, ov_r 58]) (pc2 := 64) b_70_63_1 rfl rfl ?_
                  refine ov_cV (as := [ov_i 4]) (st := []) (d2 := d - 1) d_70_64 lk_Reader_224 rfl (Nat.le_of_ble_eq_true rfl) (c := 9) (zb_58 I56) (zs_58 I56) ⟨by decide, rfl⟩ (by omega) (c_fTown_addCode_58 (d - 1) (by omega) U I56 (ov_kws hw (by decide +kernel)) 4 (by omega)) ?_
                  rintro _ z93 h94 ⟨rfl, I95, y96, y97⟩
                  have E98 : h94 1 = h55 1 := Eq.trans (y96 1 (by decide)) (show h55 1 = h55 1 from rfl)
                  have E99 : h94 2 = h 2 := Eq.trans (y96 2 (by decide)) (show h55 2 = h 2 from E60)
                  have E100 : h94 3 = h55 3 := Eq.trans (y96 3 (by decide)) (show h55 3 = h55 3 from rfl)
                  have fr101 : ∀ a : Int, a ≠ 1 ∧ a ≠ 3 ∧ a ≠ 58 ∧ a ≠ 68 → h94 a = h a := fun a ca => Eq.trans (y96 a (by omega)) (fr61 a ca)
                  have e102 : h94 3 1 = 58 := Eq.trans (congrFun (show h94 3 = h55 3 from y96 3 (by decide)) 1) e62
                  have y97_ : ∀ k : Int, k ≠ 16 → (h94 58) k = (h55 58) k := y97
                  show ov_R u d ov_m70 67 [(0, ov_r 3), (1, ov_i dep), (2, ov_i 0), (3, ov_i 1)] [] z93 h94 (P_fReader_readTest_3_k3_1_58 F z h t m p dep)
                  have cx103 : ∀ k : Int, k ≠ 16 → h94 58 k = h 58 k := fun k hk => Eq.trans (y97_ k hk) (cx91 k hk)
                  refine ov_blk (ls2 := [(0, ov_r 3), (1, ov_i dep), (2, ov_i 0), (3, ov_i 1)]) (st2 := [ov_i 1]) (pc2 := 68) b_70_67_1 rfl rfl ?_
                  have cf104 : h94 3 1 = h55 3 1 := congrFun (E100) 1
                  have cf105 : h94 3 2 = h55 3 2 := congrFun (E100) 2
                  exact ov_retz (st := []) d_70_68 rfl (by omega) ⟨_, rfl, I95, (fun a ca => (fr101 a ca)), (fun k hk => cx103 k hk), (Or.inr ⟨rfl, w69, (by show p ≤ w69 ∧ (h94 3 1) = (h 3 1) ∧ (h94 3 2) = (h 3 2); omega), (pt_EV5 y17_ (by omega) y71_), (by rw [show h94 1 = h55 1 from E98]; exact y72_)⟩)⟩
                · omega
            · omega
      · skip
        show ov_R u d ov_m70 19 [(0, ov_r 3), (1, ov_i dep)] [ov_i 1] z2 h3 (P_fReader_readTest_3_k3_1_58 F z h t m p dep)
        have f106 : pt_is t m w15 (60 : Int) = 1 ∧ pt_ty t m w15 = 4 ∧ t w15 = (60 : Int) := f29
        clear f29
        refine ov_blk (ls2 := [(0, ov_r 3), (1, ov_i dep), (2, ov_i 1)]) (st2 := [ov_i 1]) (pc2 := 21) b_70_19_2 rfl rfl ?_
        refine ov_ifne (tgt := 38) d_70_21 (by decide) (by omega) (fun c107 => ?_) (fun c107 => ?_)
        · skip
          refine ov_blk (ls2 := [(0, ov_r 3), (1, ov_i dep), (2, ov_i 1)]) (st2 := [ov_r 3]) (pc2 := 39) b_70_38_1 rfl rfl ?_
          refine ov_getf (v := ov_r 1) d_70_39 fl_Reader_9 (zb_3 I4) (zs_3 I4) (congrArg ov_r (rg_3_0 I4)) ?_
          refine ov_cV (as := []) (st := []) (d2 := d - 1) d_70_42 lk_Reader_75 rfl (Nat.le_of_ble_eq_true rfl) (c := 8) (zb_1 I4) (zs_1 I4) ⟨by decide, rfl⟩ (by omega) (c_fTape_advance_1_t t m w15 (d - 1) (by omega) U I4 (ov_kws hw (by decide +kernel)) (show h3 2 = t from Eq.trans (show h3 2 = h 2 from E8) et) y18_) ?_
          rintro _ z108 h109 ⟨rfl, I110, y111, y112⟩
          have E113 : h109 2 = h 2 := Eq.trans (y111 2 (by decide)) (show h3 2 = h 2 from E8)
          have E114 : h109 3 = h3 3 := Eq.trans (y111 3 (by decide)) (show h3 3 = h3 3 from rfl)
          have E115 : h109 58 = h3 58 := Eq.trans (y111 58 (by decide)) (show h3 58 = h3 58 from rfl)
          have fr116 : ∀ a : Int, a ≠ 1 ∧ a ≠ 3 ∧ a ≠ 58 ∧ a ≠ 68 → h109 a = h a := fun a ca => Eq.trans (y111 a (by omega)) (fr9 a ca)
          have e117 : h109 3 1 = 58 := Eq.trans (congrFun (show h109 3 = h3 3 from y111 3 (by decide)) 1) e10
          have y112_ : pt_TC t m (h109 1) (pt_nt t m w15) := y112
          have g118 := pt_TC_b y112_
          have g119 := pt_nt_le (t := t) (n := m) (p := w15) (by omega)
          show ov_R u d ov_m70 45 [(0, ov_r 3), (1, ov_i dep), (2, ov_i 1)] [] z108 h109 (P_fReader_readTest_3_k3_1_58 F z h t m p dep)
          have g120 := pt_nt_b (t := t) (n := m) (p := w15) (by omega)
          refine ov_blk (ls2 := [(0, ov_r 3), (1, ov_i dep), (2, ov_i 1)]) (st2 := [ov_i dep, ov_r 3]) (pc2 := 47) b_70_45_2 rfl rfl ?_
          refine ov_cV (as := [ov_i dep]) (st := []) (d2 := d - 1) d_70_47 lk_Reader_228 rfl (Nat.le_of_ble_eq_true rfl) (c := 6) (zb_3 I110) (zs_3 I110) ⟨by decide, rfl⟩ (by omega) (c_fReader_readSum_3_k3_1_58 t m (pt_nt t m w15) k HE HP (d - 1) (by omega) U I110 (ov_kws hw (by decide +kernel)) dep e117 (by omega) (by show 0 ≤ dep ∧ dep + (k : Int) = 5; omega) (show h109 2 = t from Eq.trans (show h109 2 = h 2 from E113) et) y112_) ?_
          rintro _ z122 h123 ⟨v121, rfl, I124, y125, y126, y127⟩
          have E128 : h123 2 = h 2 := Eq.trans (y125 2 (by decide)) (show h109 2 = h 2 from E113)
          have fr129 : ∀ a : Int, a ≠ 1 ∧ a ≠ 3 ∧ a ≠ 58 ∧ a ≠ 68 → h123 a = h a := fun a ca => Eq.trans (y125 a (by omega)) (fr116 a ca)
          have cf131 : h109 3 1 = h3 3 1 := congrFun E114 1
          have cf132 : h109 3 2 = h3 3 2 := congrFun E114 2
          have y126_ : ∀ k : Int, k ≠ 16 → (h123 58) k = (h109 58) k := y126
          rcases y127 with ⟨rfl, w133, w134, f135, y136⟩ | ⟨rfl, w137, f138, y139, y140⟩
          · skip
            show ov_R u d ov_m70 50 [(0, ov_r 3), (1, ov_i dep), (2, ov_i 1)] [ov_i 0] z122 h123 (P_fReader_readTest_3_k3_1_58 F z h t m p dep)
            have f141 : (h123 3 2) = w133 ∧ 1 ≤ w133 ∧ (h123 3 1) = (h109 3 1) := f135
            clear f135
            have e130 : h123 3 1 = 58 := by omega
            have y136_ : pt_EV t m 3 dep (pt_nt t m w15) w133 w134 := y136
            have cx142 : ∀ k : Int, k ≠ 16 → h123 58 k = h 58 k := fun k hk => Eq.trans (y126_ k hk) (Eq.trans (congrFun (show h109 58 = h3 58 from E115) k) (cx24 k hk))
            refine ov_blk (ls2 := [(0, ov_r 3), (1, ov_i dep), (2, ov_i 1), (3, ov_i 0)]) (st2 := [ov_r 3]) (pc2 := 52) b_70_50_2 rfl rfl ?_
            refine ov_getf (v := ov_r 58) d_70_52 fl_Reader_15 (zb_3 I124) (zs_3 I124) (congrArg ov_r e130) ?_
            refine ov_blk (ls2 := [(0, ov_r 3), (1, ov_i dep), (2, ov_i 1), (3, ov_i 0)]) (st2 := [ov_i 1, ov_r 58]) (pc2 := 56) b_70_55_1 rfl rfl ?_
            refine ov_ifeq (tgt := 63) d_70_56 (by decide) (by omega) (fun c143 => ?_) (fun c143 => ?_)
            · omega
            · skip
              refine ov_blk (ls2 := [(0, ov_r 3), (1, ov_i dep), (2, ov_i 1), (3, ov_i 0)]) (st2 := [ov_i 3, ov_r 58]) (pc2 := 60) b_70_59_1 rfl rfl ?_
              refine ov_goto (tgt := 64) d_70_60 (by decide) ?_
              refine ov_cV (as := [ov_i 3]) (st := []) (d2 := d - 1) d_70_64 lk_Reader_224 rfl (Nat.le_of_ble_eq_true rfl) (c := 9) (zb_58 I124) (zs_58 I124) ⟨by decide, rfl⟩ (by omega) (c_fTown_addCode_58 (d - 1) (by omega) U I124 (ov_kws hw (by decide +kernel)) 3 (by omega)) ?_
              rintro _ z144 h145 ⟨rfl, I146, y147, y148⟩
              have E149 : h145 1 = h123 1 := Eq.trans (y147 1 (by decide)) (show h123 1 = h123 1 from rfl)
              have E150 : h145 2 = h 2 := Eq.trans (y147 2 (by decide)) (show h123 2 = h 2 from E128)
              have E151 : h145 3 = h123 3 := Eq.trans (y147 3 (by decide)) (show h123 3 = h123 3 from rfl)
              have fr152 : ∀ a : Int, a ≠ 1 ∧ a ≠ 3 ∧ a ≠ 58 ∧ a ≠ 68 → h145 a = h a := fun a ca => Eq.trans (y147 a (by omega)) (fr129 a ca)
              have e153 : h145 3 1 = 58 := Eq.trans (congrFun (show h145 3 = h123 3 from y147 3 (by decide)) 1) e130
              have y148_ : ∀ k : Int, k ≠ 16 → (h145 58) k = (h123 58) k := y148
              show ov_R u d ov_m70 67 [(0, ov_r 3), (1, ov_i dep), (2, ov_i 1), (3, ov_i 0)] [] z144 h145 (P_fReader_readTest_3_k3_1_58 F z h t m p dep)
              have cx154 : ∀ k : Int, k ≠ 16 → h145 58 k = h 58 k := fun k hk => Eq.trans (y148_ k hk) (cx142 k hk)
              refine ov_blk (ls2 := [(0, ov_r 3), (1, ov_i dep), (2, ov_i 1), (3, ov_i 0)]) (st2 := [ov_i 0]) (pc2 := 68) b_70_67_1 rfl rfl ?_
              have cf155 : h145 3 1 = h123 3 1 := congrFun (E151) 1
              have cf156 : h145 3 2 = h123 3 2 := congrFun (E151) 2
              exact ov_retz (st := []) d_70_68 rfl (by omega) ⟨_, rfl, I146, (fun a ca => (fr152 a ca)), (fun k hk => cx154 k hk), (Or.inl ⟨rfl, w133, w134, (by show (h145 3 2) = w133 ∧ 1 ≤ w133 ∧ (h145 3 1) = (h 3 1); omega), (pt_EV5 y17_ (by omega) y136_)⟩)⟩
          · skip
            show ov_R u d ov_m70 50 [(0, ov_r 3), (1, ov_i dep), (2, ov_i 1)] [ov_i 1] z122 h123 (P_fReader_readTest_3_k3_1_58 F z h t m p dep)
            have f157 : (pt_nt t m w15) ≤ w137 ∧ (h123 3 1) = (h109 3 1) ∧ (h123 3 2) = (h109 3 2) := f138
            clear f138
            have e130 : h123 3 1 = 58 := by omega
            have y139_ : pt_EV t m 3 dep (pt_nt t m w15) 0 w137 := y139
            have y140_ : pt_TC t m (h123 1) w137 := y140
            have g158 := pt_TC_b y140_
            have cx159 : ∀ k : Int, k ≠ 16 → h123 58 k = h 58 k := fun k hk => Eq.trans (y126_ k hk) (Eq.trans (congrFun (show h109 58 = h3 58 from E115) k) (cx24 k hk))
            refine ov_blk (ls2 := [(0, ov_r 3), (1, ov_i dep), (2, ov_i 1), (3, ov_i 1)]) (st2 := [ov_r 3]) (pc2 := 52) b_70_50_2 rfl rfl ?_
            refine ov_getf (v := ov_r 58) d_70_52 fl_Reader_15 (zb_3 I124) (zs_3 I124) (congrArg ov_r e130) ?_
            refine ov_blk (ls2 := [(0, ov_r 3), (1, ov_i dep), (2, ov_i 1), (3, ov_i 1)]) (st2 := [ov_i 1, ov_r 58]) (pc2 := 56) b_70_55_1 rfl rfl ?_
            refine ov_ifeq (tgt := 63) d_70_56 (by decide) (by omega) (fun c160 => ?_) (fun c160 => ?_)
            · omega
            · skip
              refine ov_blk (ls2 := [(0, ov_r 3), (1, ov_i dep), (2, ov_i 1), (3, ov_i 1)]) (st2 := [ov_i 3, ov_r 58]) (pc2 := 60) b_70_59_1 rfl rfl ?_
              refine ov_goto (tgt := 64) d_70_60 (by decide) ?_
              refine ov_cV (as := [ov_i 3]) (st := []) (d2 := d - 1) d_70_64 lk_Reader_224 rfl (Nat.le_of_ble_eq_true rfl) (c := 9) (zb_58 I124) (zs_58 I124) ⟨by decide, rfl⟩ (by omega) (c_fTown_addCode_58 (d - 1) (by omega) U I124 (ov_kws hw (by decide +kernel)) 3 (by omega)) ?_
              rintro _ z161 h162 ⟨rfl, I163, y164, y165⟩
              have E166 : h162 1 = h123 1 := Eq.trans (y164 1 (by decide)) (show h123 1 = h123 1 from rfl)
              have E167 : h162 2 = h 2 := Eq.trans (y164 2 (by decide)) (show h123 2 = h 2 from E128)
              have E168 : h162 3 = h123 3 := Eq.trans (y164 3 (by decide)) (show h123 3 = h123 3 from rfl)
              have fr169 : ∀ a : Int, a ≠ 1 ∧ a ≠ 3 ∧ a ≠ 58 ∧ a ≠ 68 → h162 a = h a := fun a ca => Eq.trans (y164 a (by omega)) (fr129 a ca)
              have e170 : h162 3 1 = 58 := Eq.trans (congrFun (show h162 3 = h123 3 from y164 3 (by decide)) 1) e130
              have y165_ : ∀ k : Int, k ≠ 16 → (h162 58) k = (h123 58) k := y165
              show ov_R u d ov_m70 67 [(0, ov_r 3), (1, ov_i dep), (2, ov_i 1), (3, ov_i 1)] [] z161 h162 (P_fReader_readTest_3_k3_1_58 F z h t m p dep)
              have cx171 : ∀ k : Int, k ≠ 16 → h162 58 k = h 58 k := fun k hk => Eq.trans (y165_ k hk) (cx159 k hk)
              refine ov_blk (ls2 := [(0, ov_r 3), (1, ov_i dep), (2, ov_i 1), (3, ov_i 1)]) (st2 := [ov_i 1]) (pc2 := 68) b_70_67_1 rfl rfl ?_
              have cf172 : h162 3 1 = h123 3 1 := congrFun (E168) 1
              have cf173 : h162 3 2 = h123 3 2 := congrFun (E168) 2
              exact ov_retz (st := []) d_70_68 rfl (by omega) ⟨_, rfl, I163, (fun a ca => (fr169 a ca)), (fun k hk => cx171 k hk), (Or.inr ⟨rfl, w137, (by show p ≤ w137 ∧ (h162 3 1) = (h 3 1) ∧ (h162 3 2) = (h 3 2); omega), (pt_EV5 y17_ (by omega) y139_), (by rw [show h162 1 = h123 1 from E166]; exact y140_)⟩)⟩
        · omega
    · omega

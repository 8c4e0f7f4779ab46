set_option maxHeartbeats 4000000 in
theorem c_fReader_readProduct_3_k3_1_70 {u : ov_U} {F : ov_H} (t : Int → Int) (m : Int) (p : Int) (k : Nat) (HE : ∀ k' : Nat, k' + 1 = k → ∀ {z : ov_Z} {h : ov_H} (t : Int → Int) (m p : Int) (d : Nat) (hd : (10 + 5 * k' + 4) ≤ d) (U : ov_cap u) (I : ov_I F z h) (hw : ov_kw 1210106411235346586009610 F) (dep : Int) (k0 : h 3 1 = 70) (g_dep : ov_g dep) (p0 : 0 ≤ dep ∧ dep + (k' : Int) = 5) (et : (h 2) = t) (tc : pt_TC t m (h 1) p), ov_T u d ov_m69 [ov_r 3, ov_i dep] z h (P_fReader_readExpression_3_k3_1_70 F z h t m p dep)) (HP : ∀ k' : Nat, k' + 1 = k → ∀ {z : ov_Z} {h : ov_H} (t : Int → Int) (m p : Int) (d : Nat) (hd : (10 + 5 * k' + 0) ≤ d) (U : ov_cap u) (I : ov_I F z h) (hw : ov_kw 1210106411235346586009610 F) (dep : Int) (k0 : h 3 1 = 70) (g_dep : ov_g dep) (p0 : 0 ≤ dep ∧ dep + (k' : Int) = 5) (et : (h 2) = t) (tc : pt_TC t m (h 1) p), ov_T u d ov_m73 [ov_r 3, ov_i dep] z h (P_fReader_readPart_3_k3_1_70 F z h t m p dep)) {z : ov_Z} {h : ov_H} (d : Nat) (hd : (10 + 5 * k + 1) ≤ d) (U : ov_cap u) (I : ov_I F z h) (hw : ov_kw 1210106411235346586009610 F) (dep : Int) (k0 : h 3 1 = 70) (g_dep : ov_g dep) (p0 : 0 ≤ dep ∧ dep + (k : Int) = 5) (et : (h 2) = t) (tc : pt_TC t m (h 1) p) : ov_T u d ov_m72 [ov_r 3, ov_i dep] z h (P_fReader_readProduct_3_k3_1_70 F z h t m p dep) := by
  refine ov_en rfl (Nat.le_of_ble_eq_true rfl) ?_
  show ov_R u d ov_m72 0 [(0, ov_r 3), (1, ov_i dep)] [] z h (P_fReader_readProduct_3_k3_1_70 F z h t m p dep)
  have tb := pt_TC_b tc
  refine ov_blk (ls2 := [(0, ov_r 3), (1, ov_i dep)]) (st2 := [ov_i dep, ov_r 3]) (pc2 := 2) b_72_0_2 rfl rfl ?_
  refine ov_cV (as := [ov_i dep]) (st := []) (d2 := d - 1) d_72_2 lk_Reader_237 rfl (Nat.le_of_ble_eq_true rfl) (c := 6) (zb_3 I) (zs_3 I) ⟨by decide, rfl⟩ (by omega) (c_fReader_readPart_3_k3_1_70 t m p k HE HP (d - 1) (by omega) U I (ov_kws hw (by decide +kernel)) dep k0 (by omega) (by show 0 ≤ dep ∧ dep + (k : Int) = 5; omega) (show h 2 = t from Eq.trans (show h 2 = h 2 from rfl) et) tc) ?_
  rintro _ z2 h3 ⟨v1, rfl, I4, y5, y6, y7⟩
  have E8 : h3 2 = h 2 := Eq.trans (y5 2 (by decide)) (show h 2 = h 2 from rfl)
  have fr9 : ∀ a : Int, a ≠ 1 ∧ a ≠ 3 ∧ a ≠ 70 ∧ a ≠ 80 → h3 a = h a := fun a ca => Eq.trans (y5 a (by omega)) rfl
  have y6_ : ∀ k : Int, k ≠ 16 → (h3 70) k = (h 70) k := y6
  rcases y7 with ⟨rfl, w11, w12, f13, y14⟩ | ⟨rfl, w15, f16, y17, y18⟩
  · skip
    show ov_R u d ov_m72 5 [(0, ov_r 3), (1, ov_i dep)] [ov_i 0] z2 h3 (P_fReader_readProduct_3_k3_1_70 F z h t m p dep)
    have f19 : (h3 3 2) = w11 ∧ 1 ≤ w11 ∧ (h3 3 1) = (h 3 1) := f13
    clear f13
    have e10 : h3 3 1 = 70 := by omega
    have y14_ : pt_EV t m 0 dep p w11 w12 := y14
    have cx20 : ∀ k : Int, k ≠ 16 → h3 70 k = h 70 k := fun k hk => Eq.trans (y6_ k hk) rfl
    refine ov_blk (ls2 := [(0, ov_r 3), (1, ov_i dep), (2, ov_i 0)]) (st2 := [ov_i 0]) (pc2 := 7) b_72_5_2 rfl rfl ?_
    refine ov_blk (ls2 := [(0, ov_r 3), (1, ov_i dep), (2, ov_i 0), (3, ov_i 0)]) (st2 := []) (pc2 := 8) b_72_7_1 rfl rfl ?_
    refine ov_blk (ls2 := [(0, ov_r 3), (1, ov_i dep), (2, ov_i 0), (3, ov_i 0)]) (st2 := [ov_i 1000, ov_i 0]) (pc2 := 12) b_72_8_2 rfl rfl ?_
    refine ov_icge (tgt := 59) d_72_12 (by decide) (by omega) (by omega) (fun c21 => ?_) (fun c21 => ?_)
    · omega
    · skip
      refine ov_blk (ls2 := [(0, ov_r 3), (1, ov_i dep), (2, ov_i 0), (3, ov_i 0)]) (st2 := [ov_i 0]) (pc2 := 16) b_72_15_1 rfl rfl ?_
      refine ov_ifeq (tgt := 59) d_72_16 (by decide) (by omega) (fun c22 => ?_) (fun c22 => ?_)
      · skip
        refine ov_blk (ls2 := [(0, ov_r 3), (1, ov_i dep), (2, ov_i 0), (3, ov_i 0)]) (st2 := [ov_i 0]) (pc2 := 60) b_72_59_1 rfl rfl ?_
        exact ov_retz (st := []) d_72_60 rfl (by omega) ⟨_, rfl, I4, (fun a ca => (fr9 a ca)), (fun k hk => cx20 k hk), (Or.inl ⟨rfl, w11, w12, (by show (h3 3 2) = w11 ∧ 1 ≤ w11 ∧ (h3 3 1) = (h 3 1); omega), (pt_EV1_f y14_ (by omega))⟩)⟩
      · omega
  · skip
    show ov_R u d ov_m72 5 [(0, ov_r 3), (1, ov_i dep)] [ov_i 1] z2 h3 (P_fReader_readProduct_3_k3_1_70 F z h t m p dep)
    have f23 : p ≤ w15 ∧ (h3 3 1) = (h 3 1) ∧ (h3 3 2) = (h 3 2) := f16
    clear f16
    have e10 : h3 3 1 = 70 := by omega
    have y17_ : pt_EV t m 0 dep p 0 w15 := y17
    have y18_ : pt_TC t m (h3 1) w15 := y18
    have g24 := pt_TC_b y18_
    have cx25 : ∀ k : Int, k ≠ 16 → h3 70 k = h 70 k := fun k hk => Eq.trans (y6_ k hk) rfl
    refine ov_blk (ls2 := [(0, ov_r 3), (1, ov_i dep), (2, ov_i 1)]) (st2 := [ov_i 0]) (pc2 := 7) b_72_5_2 rfl rfl ?_
    have g26 : (h3 1 3) = w15 := pt_TC_p y18_
    refine ov_blk (ls2 := [(0, ov_r 3), (1, ov_i dep), (2, ov_i 1), (3, ov_i 0)]) (st2 := []) (pc2 := 8) b_72_7_1 rfl rfl ?_
    have L30 : ∀ (n27 : Nat) (x3 : Int) (z31 : ov_Z) (h32 : ov_H) (I33 : ov_I F z31 h32) (E34 : h32 2 = h 2) (fr35 : ∀ a : Int, a ≠ 1 ∧ a ≠ 3 ∧ a ≠ 70 ∧ a ≠ 80 → h32 a = h a) (e36 : h32 3 1 = 70) (xt : pt_TC t m (h32 1) (h32 1 3)) (xc : ∀ f q : Int, pt_EV t m 2 dep (h32 1 3) f q → pt_EV t m 1 dep p f q) (xf : ∀ k : Int, k ≠ 16 → (h32 70) k = h 70 k) (q29 : p + x3 ≤ (h32 1 3) ∧ (h32 1 3) ≤ m ∧ 0 ≤ x3 ∧ x3 ≤ 1000 ∧ (h32 3 2) = (h 3 2)), 1000 - x3 < (n27 : Int) → ov_R u d ov_m72 8 [(0, ov_r 3), (1, ov_i dep), (2, ov_i 1), (3, ov_i x3)] [] z31 h32 (P_fReader_readProduct_3_k3_1_70 F z h t m p dep) := by
      intro n27
      induction n27 with
      | zero =>
        intro x3 z31 h32 I33 E34 fr35 e36 xt xc xf q29 hn37
        exact absurd hn37 (by omega)
      | succ n27 ih28 =>
        intro x3 z31 h32 I33 E34 fr35 e36 xt xc xf q29 hn37
        have tb2 := pt_TC_b xt
        have ty2 := pt_ty_b (t := t) (n := m) (p := (h32 1 3))
        have nb2 := pt_nt_b (t := t) (n := m) (p := (h32 1 3)) (by omega)
        refine ov_blk (ls2 := [(0, ov_r 3), (1, ov_i dep), (2, ov_i 1), (3, ov_i x3)]) (st2 := [ov_i 1000, ov_i x3]) (pc2 := 12) b_72_8_2 rfl rfl ?_
        refine ov_icge (tgt := 59) d_72_12 (by decide) (by omega) (by omega) (fun c38 => ?_) (fun c38 => ?_)
        · skip
          have pe := pt_end (t := t) (m := m) (p := (h32 1 3)) (by omega)
          have pe1 := pe.1 42
          have pe2 := pe.1 45
          have pe3 := pe.2 6385252
          have pe4 := pe.2 28530
          clear pe
          refine ov_blk (ls2 := [(0, ov_r 3), (1, ov_i dep), (2, ov_i 1), (3, ov_i x3)]) (st2 := [ov_i 1]) (pc2 := 60) b_72_59_1 rfl rfl ?_
          exact ov_retz (st := []) d_72_60 rfl (by omega) ⟨_, rfl, I33, (fun a ca => (fr35 a ca)), (fun k hk => xf k hk), (Or.inr ⟨rfl, (h32 1 3), (by show p ≤ (h32 1 3) ∧ (h32 3 1) = (h 3 1) ∧ (h32 3 2) = (h 3 2); omega), (xc _ _ (pt_EV2_e (by omega))), xt⟩)⟩
        · skip
          refine ov_blk (ls2 := [(0, ov_r 3), (1, ov_i dep), (2, ov_i 1), (3, ov_i x3)]) (st2 := [ov_i 1]) (pc2 := 16) b_72_15_1 rfl rfl ?_
          refine ov_ifeq (tgt := 59) d_72_16 (by decide) (by omega) (fun c39 => ?_) (fun c39 => ?_)
          · omega
          · skip
            refine ov_blk (ls2 := [(0, ov_r 3), (1, ov_i dep), (2, ov_i 1), (3, ov_i x3)]) (st2 := [ov_r 3]) (pc2 := 20) b_72_19_1 rfl rfl ?_
            refine ov_getf (v := ov_r 1) d_72_20 fl_Reader_9 (zb_3 I33) (zs_3 I33) (congrArg ov_r (rg_3_0 I33)) ?_
            refine ov_blk (ls2 := [(0, ov_r 3), (1, ov_i dep), (2, ov_i 1), (3, ov_i x3)]) (st2 := [ov_i 42, ov_r 1]) (pc2 := 25) b_72_23_1 rfl rfl ?_
            refine ov_cV (as := [ov_i 42]) (st := []) (d2 := d - 1) d_72_25 lk_Reader_231 rfl (Nat.le_of_ble_eq_true rfl) (c := 8) (zb_1 I33) (zs_1 I33) ⟨by decide, rfl⟩ (by omega) (c_fTape_isSign_1 t m (h32 1 3) (d - 1) (by omega) U I33 42 (by omega) xt) ?_
            rintro _ _ _ ⟨v40, rfl, rfl, rfl, y41⟩
            rcases y41 with ⟨rfl, f42⟩ | ⟨rfl, f43⟩
            · skip
              show ov_R u d ov_m72 28 [(0, ov_r 3), (1, ov_i dep), (2, ov_i 1), (3, ov_i x3)] [ov_i 0] z31 h32 (P_fReader_readProduct_3_k3_1_70 F z h t m p dep)
              have f44 : pt_is t m (h32 1 3) (42 : Int) = 0 := f42
              clear f42
              refine ov_ifeq (tgt := 59) d_72_28 (by decide) (by omega) (fun c45 => ?_) (fun c45 => ?_)
              · skip
                refine ov_blk (ls2 := [(0, ov_r 3), (1, ov_i dep), (2, ov_i 1), (3, ov_i x3)]) (st2 := [ov_i 1]) (pc2 := 60) b_72_59_1 rfl rfl ?_
                exact ov_retz (st := []) d_72_60 rfl (by omega) ⟨_, rfl, I33, (fun a ca => (fr35 a ca)), (fun k hk => xf k hk), (Or.inr ⟨rfl, (h32 1 3), (by show p ≤ (h32 1 3) ∧ (h32 3 1) = (h 3 1) ∧ (h32 3 2) = (h 3 2); omega), (xc _ _ (pt_EV2_e (by omega))), xt⟩)⟩
              · omega
            · skip
              show ov_R u d ov_m72 28 [(0, ov_r 3), (1, ov_i dep), (2, ov_i 1), (3, ov_i x3)] [ov_i 1] z31 h32 (P_fReader_readProduct_3_k3_1_70 F z h t m p dep)
              have f46 : pt_is t m (h32 1 3) (42 : Int) = 1 ∧ pt_ty t m (h32 1 3) = 4 ∧ t (h32 1 3) = (42 : Int) := f43
              clear f43
              refine ov_ifeq (tgt := 59) d_72_28 (by decide) (by omega) (fun c47 => ?_) (fun c47 => ?_)
              · omega
              · skip
                refine ov_blk (ls2 := [(0, ov_r 3), (1, ov_i dep), (2, ov_i 1), (3, ov_i x3)]) (st2 := [ov_r 3]) (pc2 := 32) b_72_31_1 rfl rfl ?_
                refine ov_getf (v := ov_r 1) d_72_32 fl_Reader_9 (zb_3 I33) (zs_3 I33) (congrArg ov_r (rg_3_0 I33)) ?_
                refine ov_cV (as := []) (st := []) (d2 := d - 1) d_72_35 lk_Reader_75 rfl (Nat.le_of_ble_eq_true rfl) (c := 8) (zb_1 I33) (zs_1 I33) ⟨by decide, rfl⟩ (by omega) (c_fTape_advance_1_t t m (h32 1 3) (d - 1) (by omega) U I33 (ov_kws hw (by decide +kernel)) (show h32 2 = t from Eq.trans (show h32 2 = h 2 from E34) et) xt) ?_
                rintro _ z48 h49 ⟨rfl, I50, y51, y52⟩
                have E53 : h49 2 = h 2 := Eq.trans (y51 2 (by decide)) (show h32 2 = h 2 from E34)
                have E54 : h49 3 = h32 3 := Eq.trans (y51 3 (by decide)) (show h32 3 = h32 3 from rfl)
                have E55 : h49 70 = h32 70 := Eq.trans (y51 70 (by decide)) (show h32 70 = h32 70 from rfl)
                have fr56 : ∀ a : Int, a ≠ 1 ∧ a ≠ 3 ∧ a ≠ 70 ∧ a ≠ 80 → h49 a = h a := fun a ca => Eq.trans (y51 a (by omega)) (fr35 a ca)
                have e57 : h49 3 1 = 70 := Eq.trans (congrFun (show h49 3 = h32 3 from y51 3 (by decide)) 1) e36
                have y52_ : pt_TC t m (h49 1) (pt_nt t m (h32 1 3)) := y52
                have g58 := pt_TC_b y52_
                have g59 := pt_nt_le (t := t) (n := m) (p := (h32 1 3)) (by omega)
                show ov_R u d ov_m72 38 [(0, ov_r 3), (1, ov_i dep), (2, ov_i 1), (3, ov_i x3)] [] z48 h49 (P_fReader_readProduct_3_k3_1_70 F z h t m p dep)
                refine ov_blk (ls2 := [(0, ov_r 3), (1, ov_i dep), (2, ov_i 1), (3, ov_i x3)]) (st2 := [ov_i dep, ov_r 3]) (pc2 := 40) b_72_38_2 rfl rfl ?_
                refine ov_cV (as := [ov_i dep]) (st := []) (d2 := d - 1) d_72_40 lk_Reader_237 rfl (Nat.le_of_ble_eq_true rfl) (c := 6) (zb_3 I50) (zs_3 I50) ⟨by decide, rfl⟩ (by omega) (c_fReader_readPart_3_k3_1_70 t m (pt_nt t m (h32 1 3)) k HE HP (d - 1) (by omega) U I50 (ov_kws hw (by decide +kernel)) dep e57 (by omega) (by show 0 ≤ dep ∧ dep + (k : Int) = 5; omega) (show h49 2 = t from Eq.trans (show h49 2 = h 2 from E53) et) y52_) ?_
                rintro _ z61 h62 ⟨v60, rfl, I63, y64, y65, y66⟩
                have E67 : h62 2 = h 2 := Eq.trans (y64 2 (by decide)) (show h49 2 = h 2 from E53)
                have fr68 : ∀ a : Int, a ≠ 1 ∧ a ≠ 3 ∧ a ≠ 70 ∧ a ≠ 80 → h62 a = h a := fun a ca => Eq.trans (y64 a (by omega)) (fr56 a ca)
                have cf70 : h49 3 1 = h32 3 1 := congrFun E54 1
                have cf71 : h49 3 2 = h32 3 2 := congrFun E54 2
                have y65_ : ∀ k : Int, k ≠ 16 → (h62 70) k = (h49 70) k := y65
                rcases y66 with ⟨rfl, w72, w73, f74, y75⟩ | ⟨rfl, w76, f77, y78, y79⟩
                · skip
                  show ov_R u d ov_m72 43 [(0, ov_r 3), (1, ov_i dep), (2, ov_i 1), (3, ov_i x3)] [ov_i 0] z61 h62 (P_fReader_readProduct_3_k3_1_70 F z h t m p dep)
                  have f80 : (h62 3 2) = w72 ∧ 1 ≤ w72 ∧ (h62 3 1) = (h49 3 1) := f74
                  clear f74
                  have e69 : h62 3 1 = 70 := by omega
                  have y75_ : pt_EV t m 0 dep (pt_nt t m (h32 1 3)) w72 w73 := y75
                  have cx81 : ∀ k : Int, k ≠ 16 → h62 70 k = h 70 k := fun k hk => Eq.trans (y65_ k hk) (Eq.trans (congrFun (show h49 70 = h32 70 from E55) k) (xf k hk))
                  refine ov_blk (ls2 := [(0, ov_r 3), (1, ov_i dep), (2, ov_i 0), (3, ov_i x3)]) (st2 := [ov_r 3]) (pc2 := 45) b_72_43_2 rfl rfl ?_
                  refine ov_getf (v := ov_r 70) d_72_45 fl_Reader_15 (zb_3 I63) (zs_3 I63) (congrArg ov_r e69) ?_
                  refine ov_blk (ls2 := [(0, ov_r 3), (1, ov_i dep), (2, ov_i 0), (3, ov_i x3)]) (st2 := [ov_i 7, ov_r 70]) (pc2 := 50) b_72_48_1 rfl rfl ?_
                  refine ov_cV (as := [ov_i 7]) (st := []) (d2 := d - 1) d_72_50 lk_Reader_224 rfl (Nat.le_of_ble_eq_true rfl) (c := 9) (zb_70 I63) (zs_70 I63) ⟨by decide, rfl⟩ (by omega) (c_fTown_addCode_70 (d - 1) (by omega) U I63 (ov_kws hw (by decide +kernel)) 7 (by omega)) ?_
                  rintro _ z82 h83 ⟨rfl, I84, y85, y86⟩
                  have E87 : h83 1 = h62 1 := Eq.trans (y85 1 (by decide)) (show h62 1 = h62 1 from rfl)
                  have E88 : h83 2 = h 2 := Eq.trans (y85 2 (by decide)) (show h62 2 = h 2 from E67)
                  have E89 : h83 3 = h62 3 := Eq.trans (y85 3 (by decide)) (show h62 3 = h62 3 from rfl)
                  have fr90 : ∀ a : Int, a ≠ 1 ∧ a ≠ 3 ∧ a ≠ 70 ∧ a ≠ 80 → h83 a = h a := fun a ca => Eq.trans (y85 a (by omega)) (fr68 a ca)
                  have e91 : h83 3 1 = 70 := Eq.trans (congrFun (show h83 3 = h62 3 from y85 3 (by decide)) 1) e69
                  have y86_ : ∀ k : Int, k ≠ 16 → (h83 70) k = (h62 70) k := y86
                  show ov_R u d ov_m72 53 [(0, ov_r 3), (1, ov_i dep), (2, ov_i 0), (3, ov_i x3)] [] z82 h83 (P_fReader_readProduct_3_k3_1_70 F z h t m p dep)
                  have cx92 : ∀ k : Int, k ≠ 16 → h83 70 k = h 70 k := fun k hk => Eq.trans (y86_ k hk) (cx81 k hk)
                  refine ov_blk (ls2 := [(0, ov_r 3), (1, ov_i dep), (2, ov_i 0), (3, ov_i (x3 + 1))]) (st2 := []) (pc2 := 56) b_72_53_1 rfl rfl ?_
                  refine ov_goto (tgt := 8) d_72_56 (by decide) ?_
                  refine ov_blk (ls2 := [(0, ov_r 3), (1, ov_i dep), (2, ov_i 0), (3, ov_i (x3 + 1))]) (st2 := [ov_i 1000, ov_i (x3 + 1)]) (pc2 := 12) b_72_8_2 rfl rfl ?_
                  refine ov_icge (tgt := 59) d_72_12 (by decide) (by omega) (by omega) (fun c93 => ?_) (fun c93 => ?_)
                  · skip
                    refine ov_blk (ls2 := [(0, ov_r 3), (1, ov_i dep), (2, ov_i 0), (3, ov_i (x3 + 1))]) (st2 := [ov_i 0]) (pc2 := 60) b_72_59_1 rfl rfl ?_
                    have cf94 : h83 3 1 = h62 3 1 := congrFun (E89) 1
                    have cf95 : h83 3 2 = h62 3 2 := congrFun (E89) 2
                    exact ov_retz (st := []) d_72_60 rfl (by omega) ⟨_, rfl, I84, (fun a ca => (fr90 a ca)), (fun k hk => cx92 k hk), (Or.inl ⟨rfl, w72, w73, (by show (h83 3 2) = w72 ∧ 1 ≤ w72 ∧ (h83 3 1) = (h 3 1); omega), (xc _ _ (pt_EV2_f (by omega) y75_ (by omega)))⟩)⟩
                  · skip
                    refine ov_blk (ls2 := [(0, ov_r 3), (1, ov_i dep), (2, ov_i 0), (3, ov_i (x3 + 1))]) (st2 := [ov_i 0]) (pc2 := 16) b_72_15_1 rfl rfl ?_
                    refine ov_ifeq (tgt := 59) d_72_16 (by decide) (by omega) (fun c96 => ?_) (fun c96 => ?_)
                    · skip
                      refine ov_blk (ls2 := [(0, ov_r 3), (1, ov_i dep), (2, ov_i 0), (3, ov_i (x3 + 1))]) (st2 := [ov_i 0]) (pc2 := 60) b_72_59_1 rfl rfl ?_
                      have cf97 : h83 3 1 = h62 3 1 := congrFun (E89) 1
                      have cf98 : h83 3 2 = h62 3 2 := congrFun (E89) 2
                      exact ov_retz (st := []) d_72_60 rfl (by omega) ⟨_, rfl, I84, (fun a ca => (fr90 a ca)), (fun k hk => cx92 k hk), (Or.inl ⟨rfl, w72, w73, (by show (h83 3 2) = w72 ∧ 1 ≤ w72 ∧ (h83 3 1) = (h 3 1); omega), (xc _ _ (pt_EV2_f (by omega) y75_ (by omega)))⟩)⟩
                    · omega
                · skip
                  show ov_R u d ov_m72 43 [(0, ov_r 3), (1, ov_i dep), (2, ov_i 1), (3, ov_i x3)] [ov_i 1] z61 h62 (P_fReader_readProduct_3_k3_1_70 F z h t m p dep)
                  have f99 : (pt_nt t m (h32 1 3)) ≤ w76 ∧ (h62 3 1) = (h49 3 1) ∧ (h62 3 2) = (h49 3 2) := f77
                  clear f77
                  have e69 : h62 3 1 = 70 := by omega
                  have y78_ : pt_EV t m 0 dep (pt_nt t m (h32 1 3)) 0 w76 := y78
                  have y79_ : pt_TC t m (h62 1) w76 := y79
                  have g100 := pt_TC_b y79_
                  have cx101 : ∀ k : Int, k ≠ 16 → h62 70 k = h 70 k := fun k hk => Eq.trans (y65_ k hk) (Eq.trans (congrFun (show h49 70 = h32 70 from E55) k) (xf k hk))
                  refine ov_blk (ls2 := [(0, ov_r 3), (1, ov_i dep), (2, ov_i 1), (3, ov_i x3)]) (st2 := [ov_r 3]) (pc2 := 45) b_72_43_2 rfl rfl ?_
                  refine ov_getf (v := ov_r 70) d_72_45 fl_Reader_15 (zb_3 I63) (zs_3 I63) (congrArg ov_r e69) ?_
                  refine ov_blk (ls2 := [(0, ov_r 3), (1, ov_i dep), (2, ov_i 1), (3, ov_i x3)]) (st2 := [ov_i 7, ov_r 70]) (pc2 := 50) b_72_48_1 rfl rfl ?_
                  refine ov_cV (as := [ov_i 7]) (st := []) (d2 := d - 1) d_72_50 lk_Reader_224 rfl (Nat.le_of_ble_eq_true rfl) (c := 9) (zb_70 I63) (zs_70 I63) ⟨by decide, rfl⟩ (by omega) (c_fTown_addCode_70 (d - 1) (by omega) U I63 (ov_kws hw (by decide +kernel)) 7 (by omega)) ?_
                  rintro _ z102 h103 ⟨rfl, I104, y105, y106⟩
                  have E107 : h103 1 = h62 1 := Eq.trans (y105 1 (by decide)) (show h62 1 = h62 1 from rfl)
                  have E108 : h103 2 = h 2 := Eq.trans (y105 2 (by decide)) (show h62 2 = h 2 from E67)
                  have E109 : h103 3 = h62 3 := Eq.trans (y105 3 (by decide)) (show h62 3 = h62 3 from rfl)
                  have fr110 : ∀ a : Int, a ≠ 1 ∧ a ≠ 3 ∧ a ≠ 70 ∧ a ≠ 80 → h103 a = h a := fun a ca => Eq.trans (y105 a (by omega)) (fr68 a ca)
                  have e111 : h103 3 1 = 70 := Eq.trans (congrFun (show h103 3 = h62 3 from y105 3 (by decide)) 1) e69
                  have y106_ : ∀ k : Int, k ≠ 16 → (h103 70) k = (h62 70) k := y106
                  show ov_R u d ov_m72 53 [(0, ov_r 3), (1, ov_i dep), (2, ov_i 1), (3, ov_i x3)] [] z102 h103 (P_fReader_readProduct_3_k3_1_70 F z h t m p dep)
                  have cx112 : ∀ k : Int, k ≠ 16 → h103 70 k = h 70 k := fun k hk => Eq.trans (y106_ k hk) (cx101 k hk)
                  refine ov_blk (ls2 := [(0, ov_r 3), (1, ov_i dep), (2, ov_i 1), (3, ov_i (x3 + 1))]) (st2 := []) (pc2 := 56) b_72_53_1 rfl rfl ?_
                  refine ov_goto (tgt := 8) d_72_56 (by decide) ?_
                  have g113 : (h103 1 3) = w76 := Eq.trans (congrFun (show h103 1 = h62 1 from E107) 3) (pt_TC_p y79_)
                  have g114 : (h103 3 2) = (h62 3 2) := congrFun (show h103 3 = h62 3 from E109) 2
                  exact ih28 (x3 + 1) _ _ I104 E108 (fun a ca => (fr110 a ca)) e111 (by rw [show h103 1 = h62 1 from E107, pt_TC_p y79_]; exact y79_) (fun f q e => xc f q (pt_EV2 (by omega) y78_ (by rw [show h103 1 = h62 1 from E107, pt_TC_p y79_] at e; exact e))) (fun k hk => cx112 k hk) (by show p + (x3 + 1) ≤ (h103 1 3) ∧ (h103 1 3) ≤ m ∧ 0 ≤ (x3 + 1) ∧ (x3 + 1) ≤ 1000 ∧ (h103 3 2) = (h 3 2); omega) (by omega)
    exact L30 1001 0 _ _ I4 E8 (fun a ca => (fr9 a ca)) e10 (by rw [pt_TC_p y18_]; exact y18_) (fun f q e => pt_EV1 y17_ (by rw [pt_TC_p y18_] at e; exact e)) (fun k hk => cx25 k hk) (by show p + 0 ≤ (h3 1 3) ∧ (h3 1 3) ≤ m ∧ 0 ≤ 0 ∧ 0 ≤ 1000 ∧ (h3 3 2) = (h 3 2); omega) (by omega)

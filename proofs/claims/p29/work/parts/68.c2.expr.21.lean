set_option maxHeartbeats 4000000 in
theorem c_fReader_readExpression_3_k3_1_70 {u : ov_U} {F : ov_H} (t : Int → Int) (m : Int) (p : Int) (k : Nat) (HE : ∀ k' : Nat, k' + 1 = k → ∀ {z : ov_Z} {h : ov_H} (t : Int → Int) (m p : Int) (d : Nat) (hd : (10 + 5 * k' + 4) ≤ d) (U : ov_cap u) (I : ov_I F z h) (hw : ov_kw 1210106411235346586009610 F) (dep : Int) (k0 : h 3 1 = 70) (g_dep : ov_g dep) (p0 : 0 ≤ dep ∧ dep + (k' : Int) = 5) (et : (h 2) = t) (tc : pt_TC t m (h 1) p), ov_T u d ov_m69 [ov_r 3, ov_i dep] z h (P_fReader_readExpression_3_k3_1_70 F z h t m p dep)) (HP : ∀ k' : Nat, k' + 1 = k → ∀ {z : ov_Z} {h : ov_H} (t : Int → Int) (m p : Int) (d : Nat) (hd : (10 + 5 * k' + 0) ≤ d) (U : ov_cap u) (I : ov_I F z h) (hw : ov_kw 1210106411235346586009610 F) (dep : Int) (k0 : h 3 1 = 70) (g_dep : ov_g dep) (p0 : 0 ≤ dep ∧ dep + (k' : Int) = 5) (et : (h 2) = t) (tc : pt_TC t m (h 1) p), ov_T u d ov_m73 [ov_r 3, ov_i dep] z h (P_fReader_readPart_3_k3_1_70 F z h t m p dep)) {z : ov_Z} {h : ov_H} (d : Nat) (hd : (10 + 5 * k + 4) ≤ d) (U : ov_cap u) (I : ov_I F z h) (hw : ov_kw 1210106411235346586009610 F) (dep : Int) (k0 : h 3 1 = 70) (g_dep : ov_g dep) (p0 : 0 ≤ dep ∧ dep + (k : Int) = 5) (et : (h 2) = t) (tc : pt_TC t m (h 1) p) : ov_T u d ov_m69 [ov_r 3, ov_i dep] z h (P_fReader_readExpression_3_k3_1_70 F z h t m p dep) := by
  refine ov_en rfl (Nat.le_of_ble_eq_true rfl) ?_
  show ov_R u d ov_m69 0 [(0, ov_r 3), (1, ov_i dep)] [] z h (P_fReader_readExpression_3_k3_1_70 F z h t m p dep)
  have tb := pt_TC_b tc
  refine ov_blk (ls2 := [(0, ov_r 3), (1, ov_i dep)]) (st2 := [ov_i dep, ov_r 3]) (pc2 := 2) b_69_0_2 rfl rfl ?_
  refine ov_cV (as := [ov_i dep]) (st := []) (d2 := d - 1) d_69_2 lk_Reader_217 rfl (Nat.le_of_ble_eq_true rfl) (c := 6) (zb_3 I) (zs_3 I) ⟨by decide, rfl⟩ (by omega) (c_fReader_readTest_3_k3_1_70 t m p k HE HP (d - 1) (by omega) U I (ov_kws hw (by decide +kernel)) dep k0 (by omega) (by show 0 ≤ dep ∧ dep + (k : Int) = 5; omega) (show h 2 = t from Eq.trans (show h 2 = h 2 from rfl) et) tc) ?_
  rintro _ z2 h3 ⟨v1, rfl, I4, y5, y6, y7⟩
  have E8 : h3 2 = h 2 := Eq.trans (y5 2 (by decide)) (show h 2 = h 2 from rfl)
  have fr9 : ∀ a : Int, a ≠ 1 ∧ a ≠ 3 ∧ a ≠ 70 ∧ a ≠ 80 → h3 a = h a := fun a ca => Eq.trans (y5 a (by omega)) rfl
  have y6_ : ∀ k : Int, k ≠ 16 → (h3 70) k = (h 70) k := y6
  rcases y7 with ⟨rfl, w11, w12, f13, y14⟩ | ⟨rfl, w15, f16, y17, y18⟩
  · skip
    show ov_R u d ov_m69 5 [(0, ov_r 3), (1, ov_i dep)] [ov_i 0] z2 h3 (P_fReader_readExpression_3_k3_1_70 F z h t m p dep)
    have f19 : (h3 3 2) = w11 ∧ 1 ≤ w11 ∧ (h3 3 1) = (h 3 1) := f13
    clear f13
    have e10 : h3 3 1 = 70 := by omega
    have y14_ : pt_EV t m 5 dep p w11 w12 := y14
    have cx20 : ∀ k : Int, k ≠ 16 → h3 70 k = h 70 k := fun k hk => Eq.trans (y6_ k hk) rfl
    refine ov_blk (ls2 := [(0, ov_r 3), (1, ov_i dep), (2, ov_i 0)]) (st2 := [ov_i 0]) (pc2 := 7) b_69_5_2 rfl rfl ?_
    refine ov_blk (ls2 := [(0, ov_r 3), (1, ov_i dep), (2, ov_i 0), (3, ov_i 0)]) (st2 := []) (pc2 := 8) b_69_7_1 rfl rfl ?_
    refine ov_blk (ls2 := [(0, ov_r 3), (1, ov_i dep), (2, ov_i 0), (3, ov_i 0)]) (st2 := [ov_i 1000, ov_i 0]) (pc2 := 12) b_69_8_2 rfl rfl ?_
    refine ov_icge (tgt := 87) d_69_12 (by decide) (by omega) (by omega) (fun c21 => ?_) (fun c21 => ?_)
    · omega
    · skip
      refine ov_blk (ls2 := [(0, ov_r 3), (1, ov_i dep), (2, ov_i 0), (3, ov_i 0)]) (st2 := [ov_i 0]) (pc2 := 16) b_69_15_1 rfl rfl ?_
      refine ov_ifeq (tgt := 87) d_69_16 (by decide) (by omega) (fun c22 => ?_) (fun c22 => ?_)
      · skip
        refine ov_blk (ls2 := [(0, ov_r 3), (1, ov_i dep), (2, ov_i 0), (3, ov_i 0)]) (st2 := [ov_i 0]) (pc2 := 88) b_69_87_1 rfl rfl ?_
        exact ov_retz (st := []) d_69_88 rfl (by omega) ⟨_, rfl, I4, (fun a ca => (fr9 a ca)), (fun k hk => cx20 k hk), (Or.inl ⟨rfl, w11, w12, (by show (h3 3 2) = w11 ∧ 1 ≤ w11 ∧ (h3 3 1) = (h 3 1); omega), (pt_EV6_f y14_ (by omega))⟩)⟩
      · omega
  · skip
    show ov_R u d ov_m69 5 [(0, ov_r 3), (1, ov_i dep)] [ov_i 1] z2 h3 (P_fReader_readExpression_3_k3_1_70 F z h t m p dep)
    have f23 : p ≤ w15 ∧ (h3 3 1) = (h 3 1) ∧ (h3 3 2) = (h 3 2) := f16
    clear f16
    have e10 : h3 3 1 = 70 := by omega
    have y17_ : pt_EV t m 5 dep p 0 w15 := y17
    have y18_ : pt_TC t m (h3 1) w15 := y18
    have g24 := pt_TC_b y18_
    have cx25 : ∀ k : Int, k ≠ 16 → h3 70 k = h 70 k := fun k hk => Eq.trans (y6_ k hk) rfl
    refine ov_blk (ls2 := [(0, ov_r 3), (1, ov_i dep), (2, ov_i 1)]) (st2 := [ov_i 0]) (pc2 := 7) b_69_5_2 rfl rfl ?_
    have g26 : (h3 1 3) = w15 := pt_TC_p y18_
    refine ov_blk (ls2 := [(0, ov_r 3), (1, ov_i dep), (2, ov_i 1), (3, ov_i 0)]) (st2 := []) (pc2 := 8) b_69_7_1 rfl rfl ?_
    have L30 : ∀ (n27 : Nat) (x3 : Int) (z31 : ov_Z) (h32 : ov_H) (I33 : ov_I F z31 h32) (E34 : h32 2 = h 2) (fr35 : ∀ a : Int, a ≠ 1 ∧ a ≠ 3 ∧ a ≠ 70 ∧ a ≠ 80 → h32 a = h a) (e36 : h32 3 1 = 70) (xt : pt_TC t m (h32 1) (h32 1 3)) (xc : ∀ f q : Int, pt_EV t m 7 dep (h32 1 3) f q → pt_EV t m 6 dep p f q) (xf : ∀ k : Int, k ≠ 16 → (h32 70) k = h 70 k) (q29 : p + x3 ≤ (h32 1 3) ∧ (h32 1 3) ≤ m ∧ 0 ≤ x3 ∧ x3 ≤ 1000 ∧ (h32 3 2) = (h 3 2)), 1000 - x3 < (n27 : Int) → ov_R u d ov_m69 8 [(0, ov_r 3), (1, ov_i dep), (2, ov_i 1), (3, ov_i x3)] [] z31 h32 (P_fReader_readExpression_3_k3_1_70 F z h t m p dep) := by
      intro n27
      induction n27 with
      | zero =>
        intro x3 z31 h32 I33 E34 fr35 e36 xt xc xf q29 hn37
        exact absurd hn37 (by omega)
      | succ n27 ih28 =>
        intro x3 z31 h32 I33 E34 fr35 e36 xt xc xf q29 hn37
        have tb2 := pt_TC_b xt
        have ty2 := pt_ty_b (t := t) (n := m) (p := (h32 1 3))
        have nb2 := pt_nt_b (t := t) (n := m) (p := (h32 1 3)) (by omega)
        refine ov_blk (ls2 := [(0, ov_r 3), (1, ov_i dep), (2, ov_i 1), (3, ov_i x3)]) (st2 := [ov_i 1000, ov_i x3]) (pc2 := 12) b_69_8_2 rfl rfl ?_
        refine ov_icge (tgt := 87) d_69_12 (by decide) (by omega) (by omega) (fun c38 => ?_) (fun c38 => ?_)
        · skip
          have pe := pt_end (t := t) (m := m) (p := (h32 1 3)) (by omega)
          have pe1 := pe.1 0
          have pe2 := pe.1 45
          have pe3 := pe.2 6385252
          have pe4 := pe.2 28530
          clear pe
          refine ov_blk (ls2 := [(0, ov_r 3), (1, ov_i dep), (2, ov_i 1), (3, ov_i x3)]) (st2 := [ov_i 1]) (pc2 := 88) b_69_87_1 rfl rfl ?_
          exact ov_retz (st := []) d_69_88 rfl (by omega) ⟨_, rfl, I33, (fun a ca => (fr35 a ca)), (fun k hk => xf k hk), (Or.inr ⟨rfl, (h32 1 3), (by show p ≤ (h32 1 3) ∧ (h32 3 1) = (h 3 1) ∧ (h32 3 2) = (h 3 2); omega), (xc _ _ (pt_EV7_e (by omega))), xt⟩)⟩
        · skip
          refine ov_blk (ls2 := [(0, ov_r 3), (1, ov_i dep), (2, ov_i 1), (3, ov_i x3)]) (st2 := [ov_i 1]) (pc2 := 16) b_69_15_1 rfl rfl ?_
          refine ov_ifeq (tgt := 87) d_69_16 (by decide) (by omega) (fun c39 => ?_) (fun c39 => ?_)
          · omega
          · skip
            refine ov_blk (ls2 := [(0, ov_r 3), (1, ov_i dep), (2, ov_i 1), (3, ov_i x3)]) (st2 := [ov_r 3]) (pc2 := 20) b_69_19_1 rfl rfl ?_
            refine ov_getf (v := ov_r 1) d_69_20 fl_Reader_9 (zb_3 I33) (zs_3 I33) (congrArg ov_r (rg_3_0 I33)) ?_
            refine ov_ldc2 (n := 6385252) d_69_23 kc_Reader_220 ?_
            refine ov_cV (as := [ov_l 6385252]) (st := []) (d2 := d - 1) d_69_26 lk_Reader_110 rfl (Nat.le_of_ble_eq_true rfl) (c := 8) (zb_1 I33) (zs_1 I33) ⟨by decide, rfl⟩ (by omega) (c_fTape_isWord_1 t m (h32 1 3) (d - 1) (by omega) U I33 6385252 (by show -9223372036854775808 ≤ (6385252 : Int) ∧ (6385252 : Int) ≤ 9223372036854775807; omega) xt) ?_
            rintro _ _ _ ⟨v40, rfl, rfl, rfl, y41⟩
            rcases y41 with ⟨rfl, f42⟩ | ⟨rfl, f43⟩
            · skip
              show ov_R u d ov_m69 29 [(0, ov_r 3), (1, ov_i dep), (2, ov_i 1), (3, ov_i x3)] [ov_i 0] z31 h32 (P_fReader_readExpression_3_k3_1_70 F z h t m p dep)
              have f44 : pt_iw t m (h32 1 3) (6385252 : Int) = 0 := f42
              clear f42
              refine ov_blk (ls2 := [(0, ov_r 3), (1, ov_i dep), (2, ov_i 1), (3, ov_i x3), (4, ov_i 0)]) (st2 := [ov_i 0]) (pc2 := 33) b_69_29_2 rfl rfl ?_
              refine ov_ifne (tgt := 51) d_69_33 (by decide) (by omega) (fun c45 => ?_) (fun c45 => ?_)
              · omega
              · skip
                refine ov_blk (ls2 := [(0, ov_r 3), (1, ov_i dep), (2, ov_i 1), (3, ov_i x3), (4, ov_i 0)]) (st2 := [ov_r 3]) (pc2 := 37) b_69_36_1 rfl rfl ?_
                refine ov_getf (v := ov_r 1) d_69_37 fl_Reader_9 (zb_3 I33) (zs_3 I33) (congrArg ov_r (rg_3_0 I33)) ?_
                refine ov_ldc2 (n := 28530) d_69_40 kc_Reader_222 ?_
                refine ov_cV (as := [ov_l 28530]) (st := []) (d2 := d - 1) d_69_43 lk_Reader_110 rfl (Nat.le_of_ble_eq_true rfl) (c := 8) (zb_1 I33) (zs_1 I33) ⟨by decide, rfl⟩ (by omega) (c_fTape_isWord_1 t m (h32 1 3) (d - 1) (by omega) U I33 28530 (by show -9223372036854775808 ≤ (28530 : Int) ∧ (28530 : Int) ≤ 9223372036854775807; omega) xt) ?_
                rintro _ _ _ ⟨v46, rfl, rfl, rfl, y47⟩
                rcases y47 with ⟨rfl, f48⟩ | ⟨rfl, f49⟩
                · skip
                  show ov_R u d ov_m69 46 [(0, ov_r 3), (1, ov_i dep), (2, ov_i 1), (3, ov_i x3), (4, ov_i 0)] [ov_i 0] z31 h32 (P_fReader_readExpression_3_k3_1_70 F z h t m p dep)
                  have f50 : pt_iw t m (h32 1 3) (28530 : Int) = 0 := f48
                  clear f48
                  refine ov_ifne (tgt := 51) d_69_46 (by decide) (by omega) (fun c51 => ?_) (fun c51 => ?_)
                  · omega
                  · skip
                    refine ov_blk (ls2 := [(0, ov_r 3), (1, ov_i dep), (2, ov_i 1), (3, ov_i x3), (4, ov_i 0)]) (st2 := [ov_i 1]) (pc2 := 50) b_69_49_1 rfl rfl ?_
                    exact ov_retz (st := []) d_69_50 rfl (by omega) ⟨_, rfl, I33, (fun a ca => (fr35 a ca)), (fun k hk => xf k hk), (Or.inr ⟨rfl, (h32 1 3), (by show p ≤ (h32 1 3) ∧ (h32 3 1) = (h 3 1) ∧ (h32 3 2) = (h 3 2); omega), (xc _ _ (pt_EV7_e (by omega))), xt⟩)⟩
                · skip
                  show ov_R u d ov_m69 46 [(0, ov_r 3), (1, ov_i dep), (2, ov_i 1), (3, ov_i x3), (4, ov_i 0)] [ov_i 1] z31 h32 (P_fReader_readExpression_3_k3_1_70 F z h t m p dep)
                  have f52 : pt_iw t m (h32 1 3) (28530 : Int) = 1 ∧ pt_ty t m (h32 1 3) = 2 ∧ pt_w256 t m (h32 1 3) = (28530 : Int) := f49
                  clear f49
                  refine ov_ifne (tgt := 51) d_69_46 (by decide) (by omega) (fun c53 => ?_) (fun c53 => ?_)
                  · skip
                    refine ov_blk (ls2 := [(0, ov_r 3), (1, ov_i dep), (2, ov_i 1), (3, ov_i x3), (4, ov_i 0)]) (st2 := [ov_r 3]) (pc2 := 52) b_69_51_1 rfl rfl ?_
                    refine ov_getf (v := ov_r 1) d_69_52 fl_Reader_9 (zb_3 I33) (zs_3 I33) (congrArg ov_r (rg_3_0 I33)) ?_
                    refine ov_cV (as := []) (st := []) (d2 := d - 1) d_69_55 lk_Reader_75 rfl (Nat.le_of_ble_eq_true rfl) (c := 8) (zb_1 I33) (zs_1 I33) ⟨by decide, rfl⟩ (by omega) (c_fTape_advance_1_t t m (h32 1 3) (d - 1) (by omega) U I33 (ov_kws hw (by decide +kernel)) (show h32 2 = t from Eq.trans (show h32 2 = h 2 from E34) et) xt) ?_
                    rintro _ z54 h55 ⟨rfl, I56, y57, y58⟩
                    have E59 : h55 2 = h 2 := Eq.trans (y57 2 (by decide)) (show h32 2 = h 2 from E34)
                    have E60 : h55 3 = h32 3 := Eq.trans (y57 3 (by decide)) (show h32 3 = h32 3 from rfl)
                    have E61 : h55 70 = h32 70 := Eq.trans (y57 70 (by decide)) (show h32 70 = h32 70 from rfl)
                    have fr62 : ∀ a : Int, a ≠ 1 ∧ a ≠ 3 ∧ a ≠ 70 ∧ a ≠ 80 → h55 a = h a := fun a ca => Eq.trans (y57 a (by omega)) (fr35 a ca)
                    have e63 : h55 3 1 = 70 := Eq.trans (congrFun (show h55 3 = h32 3 from y57 3 (by decide)) 1) e36
                    have y58_ : pt_TC t m (h55 1) (pt_nt t m (h32 1 3)) := y58
                    have g64 := pt_TC_b y58_
                    have g65 := pt_nt_le (t := t) (n := m) (p := (h32 1 3)) (by omega)
                    show ov_R u d ov_m69 58 [(0, ov_r 3), (1, ov_i dep), (2, ov_i 1), (3, ov_i x3), (4, ov_i 0)] [] z54 h55 (P_fReader_readExpression_3_k3_1_70 F z h t m p dep)
                    refine ov_blk (ls2 := [(0, ov_r 3), (1, ov_i dep), (2, ov_i 1), (3, ov_i x3), (4, ov_i 0)]) (st2 := [ov_i dep, ov_r 3]) (pc2 := 60) b_69_58_2 rfl rfl ?_
                    refine ov_cV (as := [ov_i dep]) (st := []) (d2 := d - 1) d_69_60 lk_Reader_217 rfl (Nat.le_of_ble_eq_true rfl) (c := 6) (zb_3 I56) (zs_3 I56) ⟨by decide, rfl⟩ (by omega) (c_fReader_readTest_3_k3_1_70 t m (pt_nt t m (h32 1 3)) k HE HP (d - 1) (by omega) U I56 (ov_kws hw (by decide +kernel)) dep e63 (by omega) (by show 0 ≤ dep ∧ dep + (k : Int) = 5; omega) (show h55 2 = t from Eq.trans (show h55 2 = h 2 from E59) et) y58_) ?_
                    rintro _ z67 h68 ⟨v66, rfl, I69, y70, y71, y72⟩
                    have E73 : h68 2 = h 2 := Eq.trans (y70 2 (by decide)) (show h55 2 = h 2 from E59)
                    have fr74 : ∀ a : Int, a ≠ 1 ∧ a ≠ 3 ∧ a ≠ 70 ∧ a ≠ 80 → h68 a = h a := fun a ca => Eq.trans (y70 a (by omega)) (fr62 a ca)
                    have cf76 : h55 3 1 = h32 3 1 := congrFun E60 1
                    have cf77 : h55 3 2 = h32 3 2 := congrFun E60 2
                    have y71_ : ∀ k : Int, k ≠ 16 → (h68 70) k = (h55 70) k := y71
                    rcases y72 with ⟨rfl, w78, w79, f80, y81⟩ | ⟨rfl, w82, f83, y84, y85⟩
                    · skip
                      show ov_R u d ov_m69 63 [(0, ov_r 3), (1, ov_i dep), (2, ov_i 1), (3, ov_i x3), (4, ov_i 0)] [ov_i 0] z67 h68 (P_fReader_readExpression_3_k3_1_70 F z h t m p dep)
                      have f86 : (h68 3 2) = w78 ∧ 1 ≤ w78 ∧ (h68 3 1) = (h55 3 1) := f80
                      clear f80
                      have e75 : h68 3 1 = 70 := by omega
                      have y81_ : pt_EV t m 5 dep (pt_nt t m (h32 1 3)) w78 w79 := y81
                      have cx87 : ∀ k : Int, k ≠ 16 → h68 70 k = h 70 k := fun k hk => Eq.trans (y71_ k hk) (Eq.trans (congrFun (show h55 70 = h32 70 from E61) k) (xf k hk))
                      refine ov_blk (ls2 := [(0, ov_r 3), (1, ov_i dep), (2, ov_i 0), (3, ov_i x3), (4, ov_i 0)]) (st2 := [ov_r 3]) (pc2 := 65) b_69_63_2 rfl rfl ?_
                      refine ov_getf (v := ov_r 70) d_69_65 fl_Reader_15 (zb_3 I69) (zs_3 I69) (congrArg ov_r e75) ?_
                      refine ov_blk (ls2 := [(0, ov_r 3), (1, ov_i dep), (2, ov_i 0), (3, ov_i x3), (4, ov_i 0)]) (st2 := [ov_i 0, ov_r 70]) (pc2 := 70) b_69_68_1 rfl rfl ?_
                      refine ov_ifeq (tgt := 77) d_69_70 (by decide) (by omega) (fun c88 => ?_) (fun c88 => ?_)
                      · skip
                        refine ov_blk (ls2 := [(0, ov_r 3), (1, ov_i dep), (2, ov_i 0), (3, ov_i x3), (4, ov_i 0)]) (st2 := [ov_i 2, ov_r 70]) (pc2 := 78) b_69_77_1 rfl rfl ?_
                        refine ov_cV (as := [ov_i 2]) (st := []) (d2 := d - 1) d_69_78 lk_Reader_224 rfl (Nat.le_of_ble_eq_true rfl) (c := 9) (zb_70 I69) (zs_70 I69) ⟨by decide, rfl⟩ (by omega) (c_fTown_addCode_70 (d - 1) (by omega) U I69 (ov_kws hw (by decide +kernel)) 2 (by omega)) ?_
                        rintro _ z89 h90 ⟨rfl, I91, y92, y93⟩
                        have E94 : h90 1 = h68 1 := Eq.trans (y92 1 (by decide)) (show h68 1 = h68 1 from rfl)
                        have E95 : h90 2 = h 2 := Eq.trans (y92 2 (by decide)) (show h68 2 = h 2 from E73)
                        have E96 : h90 3 = h68 3 := Eq.trans (y92 3 (by decide)) (show h68 3 = h68 3 from rfl)
                        have fr97 : ∀ a : Int, a ≠ 1 ∧ a ≠ 3 ∧ a ≠ 70 ∧ a ≠ 80 → h90 a = h a := fun a ca => Eq.trans (y92 a (by omega)) (fr74 a ca)
                        have e98 : h90 3 1 = 70 := Eq.trans (congrFun (show h90 3 = h68 3 from y92 3 (by decide)) 1) e75
                        have y93_ : ∀ k : Int, k ≠ 16 → (h90 70) k = (h68 70) k := y93
                        show ov_R u d ov_m69 81 [(0, ov_r 3), (1, ov_i dep), (2, ov_i 0), (3, ov_i x3), (4, ov_i 0)] [] z89 h90 (P_fReader_readExpression_3_k3_1_70 F z h t m p dep)
                        have cx99 : ∀ k : Int, k ≠ 16 → h90 70 k = h 70 k := fun k hk => Eq.trans (y93_ k hk) (cx87 k hk)
                        refine ov_blk (ls2 := [(0, ov_r 3), (1, ov_i dep), (2, ov_i 0), (3, ov_i (x3 + 1)), (4, ov_i 0)]) (st2 := []) (pc2 := 84) b_69_81_1 rfl rfl ?_
                        refine ov_goto (tgt := 8) d_69_84 (by decide) ?_
                        refine ov_blk (ls2 := [(0, ov_r 3), (1, ov_i dep), (2, ov_i 0), (3, ov_i (x3 + 1)), (4, ov_i 0)]) (st2 := [ov_i 1000, ov_i (x3 + 1)]) (pc2 := 12) b_69_8_2 rfl rfl ?_
                        refine ov_icge (tgt := 87) d_69_12 (by decide) (by omega) (by omega) (fun c100 => ?_) (fun c100 => ?_)
                        · skip
                          refine ov_blk (ls2 := [(0, ov_r 3), (1, ov_i dep), (2, ov_i 0), (3, ov_i (x3 + 1)), (4, ov_i 0)]) (st2 := [ov_i 0]) (pc2 := 88) b_69_87_1 rfl rfl ?_
                          have cf101 : h90 3 1 = h68 3 1 := congrFun (E96) 1
                          have cf102 : h90 3 2 = h68 3 2 := congrFun (E96) 2
                          exact ov_retz (st := []) d_69_88 rfl (by omega) ⟨_, rfl, I91, (fun a ca => (fr97 a ca)), (fun k hk => cx99 k hk), (Or.inl ⟨rfl, w78, w79, (by show (h90 3 2) = w78 ∧ 1 ≤ w78 ∧ (h90 3 1) = (h 3 1); omega), (xc _ _ (pt_EV7_f (by omega) y81_ (by omega)))⟩)⟩
                        · skip
                          refine ov_blk (ls2 := [(0, ov_r 3), (1, ov_i dep), (2, ov_i 0), (3, ov_i (x3 + 1)), (4, ov_i 0)]) (st2 := [ov_i 0]) (pc2 := 16) b_69_15_1 rfl rfl ?_
                          refine ov_ifeq (tgt := 87) d_69_16 (by decide) (by omega) (fun c103 => ?_) (fun c103 => ?_)
                          · skip
                            refine ov_blk (ls2 := [(0, ov_r 3), (1, ov_i dep), (2, ov_i 0), (3, ov_i (x3 + 1)), (4, ov_i 0)]) (st2 := [ov_i 0]) (pc2 := 88) b_69_87_1 rfl rfl ?_
                            have cf104 : h90 3 1 = h68 3 1 := congrFun (E96) 1
                            have cf105 : h90 3 2 = h68 3 2 := congrFun (E96) 2
                            exact ov_retz (st := []) d_69_88 rfl (by omega) ⟨_, rfl, I91, (fun a ca => (fr97 a ca)), (fun k hk => cx99 k hk), (Or.inl ⟨rfl, w78, w79, (by show (h90 3 2) = w78 ∧ 1 ≤ w78 ∧ (h90 3 1) = (h 3 1); omega), (xc _ _ (pt_EV7_f (by omega) y81_ (by omega)))⟩)⟩
                          · omega
                      · omega
                    · skip
                      show ov_R u d ov_m69 63 [(0, ov_r 3), (1, ov_i dep), (2, ov_i 1), (3, ov_i x3), (4, ov_i 0)] [ov_i 1] z67 h68 (P_fReader_readExpression_3_k3_1_70 F z h t m p dep)
                      have f106 : (pt_nt t m (h32 1 3)) ≤ w82 ∧ (h68 3 1) = (h55 3 1) ∧ (h68 3 2) = (h55 3 2) := f83
                      clear f83
                      have e75 : h68 3 1 = 70 := by omega
                      have y84_ : pt_EV t m 5 dep (pt_nt t m (h32 1 3)) 0 w82 := y84
                      have y85_ : pt_TC t m (h68 1) w82 := y85
                      have g107 := pt_TC_b y85_
                      have cx108 : ∀ k : Int, k ≠ 16 → h68 70 k = h 70 k := fun k hk => Eq.trans (y71_ k hk) (Eq.trans (congrFun (show h55 70 = h32 70 from E61) k) (xf k hk))
                      refine ov_blk (ls2 := [(0, ov_r 3), (1, ov_i dep), (2, ov_i 1), (3, ov_i x3), (4, ov_i 0)]) (st2 := [ov_r 3]) (pc2 := 65) b_69_63_2 rfl rfl ?_
                      refine ov_getf (v := ov_r 70) d_69_65 fl_Reader_15 (zb_3 I69) (zs_3 I69) (congrArg ov_r e75) ?_
                      refine ov_blk (ls2 := [(0, ov_r 3), (1, ov_i dep), (2, ov_i 1), (3, ov_i x3), (4, ov_i 0)]) (st2 := [ov_i 0, ov_r 70]) (pc2 := 70) b_69_68_1 rfl rfl ?_
                      refine ov_ifeq (tgt := 77) d_69_70 (by decide) (by omega) (fun c109 => ?_) (fun c109 => ?_)
                      · skip
                        refine ov_blk (ls2 := [(0, ov_r 3), (1, ov_i dep), (2, ov_i 1), (3, ov_i x3), (4, ov_i 0)]) (st2 := [ov_i 2, ov_r 70]) (pc2 := 78) b_69_77_1 rfl rfl ?_
                        refine ov_cV (as := [ov_i 2]) (st := []) (d2 := d - 1) d_69_78 lk_Reader_224 rfl (Nat.le_of_ble_eq_true rfl) (c := 9) (zb_70 I69) (zs_70 I69) ⟨by decide, rfl⟩ (by omega) (c_fTown_addCode_70 (d - 1) (by omega) U I69 (ov_kws hw (by decide +kernel)) 2 (by omega)) ?_
                        rintro _ z110 h111 ⟨rfl, I112, y113, y114⟩
                        have E115 : h111 1 = h68 1 := Eq.trans (y113 1 (by decide)) (show h68 1 = h68 1 from rfl)
                        have E116 : h111 2 = h 2 := Eq.trans (y113 2 (by decide)) (show h68 2 = h 2 from E73)
                        have E117 : h111 3 = h68 3 := Eq.trans (y113 3 (by decide)) (show h68 3 = h68 3 from rfl)
                        have fr118 : ∀ a : Int, a ≠ 1 ∧ a ≠ 3 ∧ a ≠ 70 ∧ a ≠ 80 → h111 a = h a := fun a ca => Eq.trans (y113 a (by omega)) (fr74 a ca)
                        have e119 : h111 3 1 = 70 := Eq.trans (congrFun (show h111 3 = h68 3 from y113 3 (by decide)) 1) e75
                        have y114_ : ∀ k : Int, k ≠ 16 → (h111 70) k = (h68 70) k := y114
                        show ov_R u d ov_m69 81 [(0, ov_r 3), (1, ov_i dep), (2, ov_i 1), (3, ov_i x3), (4, ov_i 0)] [] z110 h111 (P_fReader_readExpression_3_k3_1_70 F z h t m p dep)
                        have cx120 : ∀ k : Int, k ≠ 16 → h111 70 k = h 70 k := fun k hk => Eq.trans (y114_ k hk) (cx108 k hk)
                        refine ov_blk (ls2 := [(0, ov_r 3), (1, ov_i dep), (2, ov_i 1), (3, ov_i (x3 + 1)), (4, ov_i 0)]) (st2 := []) (pc2 := 84) b_69_81_1 rfl rfl ?_
                        refine ov_goto (tgt := 8) d_69_84 (by decide) ?_
                        refine ov_sub (ls2 := [(0, ov_r 3), (1, ov_i dep), (2, ov_i 1), (3, ov_i (x3 + 1))]) (List.Sublist.subset (by repeat (first | exact List.Sublist.refl _ | apply List.Sublist.cons_cons | apply List.Sublist.cons))) ?_
                        have g121 : (h111 1 3) = w82 := Eq.trans (congrFun (show h111 1 = h68 1 from E115) 3) (pt_TC_p y85_)
                        have g122 : (h111 3 2) = (h68 3 2) := congrFun (show h111 3 = h68 3 from E117) 2
                        exact ih28 (x3 + 1) _ _ I112 E116 (fun a ca => (fr118 a ca)) e119 (by rw [show h111 1 = h68 1 from E115, pt_TC_p y85_]; exact y85_) (fun f q e => xc f q (pt_EV7 (by omega) y84_ (by rw [show h111 1 = h68 1 from E115, pt_TC_p y85_] at e; exact e))) (fun k hk => cx120 k hk) (by show p + (x3 + 1) ≤ (h111 1 3) ∧ (h111 1 3) ≤ m ∧ 0 ≤ (x3 + 1) ∧ (x3 + 1) ≤ 1000 ∧ (h111 3 2) = (h 3 2); omega) (by omega)
                      · omega
                  · omega
            · skip
              show ov_R u d ov_m69 29 [(0, ov_r 3), (1, ov_i dep), (2, ov_i 1), (3, ov_i x3)] [ov_i 1] z31 h32 (P_fReader_readExpression_3_k3_1_70 F z h t m p dep)
              have f123 : pt_iw t m (h32 1 3) (6385252 : Int) = 1 ∧ pt_ty t m (h32 1 3) = 2 ∧ pt_w256 t m (h32 1 3) = (6385252 : Int) := f43
              clear f43
              refine ov_blk (ls2 := [(0, ov_r 3), (1, ov_i dep), (2, ov_i 1), (3, ov_i x3), (4, ov_i 1)]) (st2 := [ov_i 1]) (pc2 := 33) b_69_29_2 rfl rfl ?_
              refine ov_ifne (tgt := 51) d_69_33 (by decide) (by omega) (fun c124 => ?_) (fun c124 => ?_)
              · skip
                refine ov_blk (ls2 := [(0, ov_r 3), (1, ov_i dep), (2, ov_i 1), (3, ov_i x3), (4, ov_i 1)]) (st2 := [ov_r 3]) (pc2 := 52) b_69_51_1 rfl rfl ?_
                refine ov_getf (v := ov_r 1) d_69_52 fl_Reader_9 (zb_3 I33) (zs_3 I33) (congrArg ov_r (rg_3_0 I33)) ?_
                refine ov_cV (as := []) (st := []) (d2 := d - 1) d_69_55 lk_Reader_75 rfl (Nat.le_of_ble_eq_true rfl) (c := 8) (zb_1 I33) (zs_1 I33) ⟨by decide, rfl⟩ (by omega) (c_fTape_advance_1_t t m (h32 1 3) (d - 1) (by omega) U I33 (ov_kws hw (by decide +kernel)) (show h32 2 = t from Eq.trans (show h32 2 = h 2 from E34) et) xt) ?_
                rintro _ z125 h126 ⟨rfl, I127, y128, y129⟩
                have E130 : h126 2 = h 2 := Eq.trans (y128 2 (by decide)) (show h32 2 = h 2 from E34)
                have E131 : h126 3 = h32 3 := Eq.trans (y128 3 (by decide)) (show h32 3 = h32 3 from rfl)
                have E132 : h126 70 = h32 70 := Eq.trans (y128 70 (by decide)) (show h32 70 = h32 70 from rfl)
                have fr133 : ∀ a : Int, a ≠ 1 ∧ a ≠ 3 ∧ a ≠ 70 ∧ a ≠ 80 → h126 a = h a := fun a ca => Eq.trans (y128 a (by omega)) (fr35 a ca)
                have e134 : h126 3 1 = 70 := Eq.trans (congrFun (show h126 3 = h32 3 from y128 3 (by decide)) 1) e36
                have y129_ : pt_TC t m (h126 1) (pt_nt t m (h32 1 3)) := y129
                have g135 := pt_TC_b y129_
                have g136 := pt_nt_le (t := t) (n := m) (p := (h32 1 3)) (by omega)
                show ov_R u d ov_m69 58 [(0, ov_r 3), (1, ov_i dep), (2, ov_i 1), (3, ov_i x3), (4, ov_i 1)] [] z125 h126 (P_fReader_readExpression_3_k3_1_70 F z h t m p dep)
                refine ov_blk (ls2 := [(0, ov_r 3), (1, ov_i dep), (2, ov_i 1), (3, ov_i x3), (4, ov_i 1)]) (st2 := [ov_i dep, ov_r 3]) (pc2 := 60) b_69_58_2 rfl rfl ?_
                refine ov_cV (as := [ov_i dep]) (st := []) (d2 := d - 1) d_69_60 lk_Reader_217 rfl (Nat.le_of_ble_eq_true rfl) (c := 6) (zb_3 I127) (zs_3 I127) ⟨by decide, rfl⟩ (by omega) (c_fReader_readTest_3_k3_1_70 t m (pt_nt t m (h32 1 3)) k HE HP (d - 1) (by omega) U I127 (ov_kws hw (by decide +kernel)) dep e134 (by omega) (by show 0 ≤ dep ∧ dep + (k : Int) = 5; omega) (show h126 2 = t from Eq.trans (show h126 2 = h 2 from E130) et) y129_) ?_
                rintro _ z138 h139 ⟨v137, rfl, I140, y141, y142, y143⟩
                have E144 : h139 2 = h 2 := Eq.trans (y141 2 (by decide)) (show h126 2 = h 2 from E130)
                have fr145 : ∀ a : Int, a ≠ 1 ∧ a ≠ 3 ∧ a ≠ 70 ∧ a ≠ 80 → h139 a = h a := fun a ca => Eq.trans (y141 a (by omega)) (fr133 a ca)
                have cf147 : h126 3 1 = h32 3 1 := congrFun E131 1
                have cf148 : h126 3 2 = h32 3 2 := congrFun E131 2
                have y142_ : ∀ k : Int, k ≠ 16 → (h139 70) k = (h126 70) k := y142
                rcases y143 with ⟨rfl, w149, w150, f151, y152⟩ | ⟨rfl, w153, f154, y155, y156⟩
                · skip
                  show ov_R u d ov_m69 63 [(0, ov_r 3), (1, ov_i dep), (2, ov_i 1), (3, ov_i x3), (4, ov_i 1)] [ov_i 0] z138 h139 (P_fReader_readExpression_3_k3_1_70 F z h t m p dep)
                  have f157 : (h139 3 2) = w149 ∧ 1 ≤ w149 ∧ (h139 3 1) = (h126 3 1) := f151
                  clear f151
                  have e146 : h139 3 1 = 70 := by omega
                  have y152_ : pt_EV t m 5 dep (pt_nt t m (h32 1 3)) w149 w150 := y152
                  have cx158 : ∀ k : Int, k ≠ 16 → h139 70 k = h 70 k := fun k hk => Eq.trans (y142_ k hk) (Eq.trans (congrFun (show h126 70 = h32 70 from E132) k) (xf k hk))
                  refine ov_blk (ls2 := [(0, ov_r 3), (1, ov_i dep), (2, ov_i 0), (3, ov_i x3), (4, ov_i 1)]) (st2 := [ov_r 3]) (pc2 := 65) b_69_63_2 rfl rfl ?_
                  refine ov_getf (v := ov_r 70) d_69_65 fl_Reader_15 (zb_3 I140) (zs_3 I140) (congrArg ov_r e146) ?_
                  refine ov_blk (ls2 := [(0, ov_r 3), (1, ov_i dep), (2, ov_i 0), (3, ov_i x3), (4, ov_i 1)]) (st2 := [ov_i 1, ov_r 70]) (pc2 := 70) b_69_68_1 rfl rfl ?_
                  refine ov_ifeq (tgt := 77) d_69_70 (by decide) (by omega) (fun c159 => ?_) (fun c159 => ?_)
                  · omega
                  · skip
                    refine ov_blk (ls2 := [(0, ov_r 3), (1, ov_i dep), (2, ov_i 0), (3, ov_i x3), (4, ov_i 1)]) (st2 := [ov_i 1, ov_r 70]) (pc2 := 74) b_69_73_1 rfl rfl ?_
                    refine ov_goto (tgt := 78) d_69_74 (by decide) ?_
                    refine ov_cV (as := [ov_i 1]) (st := []) (d2 := d - 1) d_69_78 lk_Reader_224 rfl (Nat.le_of_ble_eq_true rfl) (c := 9) (zb_70 I140) (zs_70 I140) ⟨by decide, rfl⟩ (by omega) (c_fTown_addCode_70 (d - 1) (by omega) U I140 (ov_kws hw (by decide +kernel)) 1 (by omega)) ?_
                    rintro _ z160 h161 ⟨rfl, I162, y163, y164⟩
                    have E165 : h161 1 = h139 1 := Eq.trans (y163 1 (by decide)) (show h139 1 = h139 1 from rfl)
                    have E166 : h161 2 = h 2 := Eq.trans (y163 2 (by decide)) (show h139 2 = h 2 from E144)
                    have E167 : h161 3 = h139 3 := Eq.trans (y163 3 (by decide)) (show h139 3 = h139 3 from rfl)
                    have fr168 : ∀ a : Int, a ≠ 1 ∧ a ≠ 3 ∧ a ≠ 70 ∧ a ≠ 80 → h161 a = h a := fun a ca => Eq.trans (y163 a (by omega)) (fr145 a ca)
                    have e169 : h161 3 1 = 70 := Eq.trans (congrFun (show h161 3 = h139 3 from y163 3 (by decide)) 1) e146
                    have y164_ : ∀ k : Int, k ≠ 16 → (h161 70) k = (h139 70) k := y164
                    show ov_R u d ov_m69 81 [(0, ov_r 3), (1, ov_i dep), (2, ov_i 0), (3, ov_i x3), (4, ov_i 1)] [] z160 h161 (P_fReader_readExpression_3_k3_1_70 F z h t m p dep)
                    have cx170 : ∀ k : Int, k ≠ 16 → h161 70 k = h 70 k := fun k hk => Eq.trans (y164_ k hk) (cx158 k hk)
                    refine ov_blk (ls2 := [(0, ov_r 3), (1, ov_i dep), (2, ov_i 0), (3, ov_i (x3 + 1)), (4, ov_i 1)]) (st2 := []) (pc2 := 84) b_69_81_1 rfl rfl ?_
                    refine ov_goto (tgt := 8) d_69_84 (by decide) ?_
                    refine ov_blk (ls2 := [(0, ov_r 3), (1, ov_i dep), (2, ov_i 0), (3, ov_i (x3 + 1)), (4, ov_i 1)]) (st2 := [ov_i 1000, ov_i (x3 + 1)]) (pc2 := 12) b_69_8_2 rfl rfl ?_
                    refine ov_icge (tgt := 87) d_69_12 (by decide) (by omega) (by omega) (fun c171 => ?_) (fun c171 => ?_)
                    · skip
                      refine ov_blk (ls2 := [(0, ov_r 3), (1, ov_i dep), (2, ov_i 0), (3, ov_i (x3 + 1)), (4, ov_i 1)]) (st2 := [ov_i 0]) (pc2 := 88) b_69_87_1 rfl rfl ?_
                      have cf172 : h161 3 1 = h139 3 1 := congrFun (E167) 1
                      have cf173 : h161 3 2 = h139 3 2 := congrFun (E167) 2
                      exact ov_retz (st := []) d_69_88 rfl (by omega) ⟨_, rfl, I162, (fun a ca => (fr168 a ca)), (fun k hk => cx170 k hk), (Or.inl ⟨rfl, w149, w150, (by show (h161 3 2) = w149 ∧ 1 ≤ w149 ∧ (h161 3 1) = (h 3 1); omega), (xc _ _ (pt_EV7_f (by omega) y152_ (by omega)))⟩)⟩
                    · skip
                      refine ov_blk (ls2 := [(0, ov_r 3), (1, ov_i dep), (2, ov_i 0), (3, ov_i (x3 + 1)), (4, ov_i 1)]) (st2 := [ov_i 0]) (pc2 := 16) b_69_15_1 rfl rfl ?_
                      refine ov_ifeq (tgt := 87) d_69_16 (by decide) (by omega) (fun c174 => ?_) (fun c174 => ?_)
                      · skip
                        refine ov_blk (ls2 := [(0, ov_r 3), (1, ov_i dep), (2, ov_i 0), (3, ov_i (x3 + 1)), (4, ov_i 1)]) (st2 := [ov_i 0]) (pc2 := 88) b_69_87_1 rfl rfl ?_
                        have cf175 : h161 3 1 = h139 3 1 := congrFun (E167) 1
                        have cf176 : h161 3 2 = h139 3 2 := congrFun (E167) 2
                        exact ov_retz (st := []) d_69_88 rfl (by omega) ⟨_, rfl, I162, (fun a ca => (fr168 a ca)), (fun k hk => cx170 k hk), (Or.inl ⟨rfl, w149, w150, (by show (h161 3 2) = w149 ∧ 1 ≤ w149 ∧ (h161 3 1) = (h 3 1); omega), (xc _ _ (pt_EV7_f (by omega) y152_ (by omega)))⟩)⟩
                      · omega
                · skip
                  show ov_R u d ov_m69 63 [(0, ov_r 3), (1, ov_i dep), (2, ov_i 1), (3, ov_i x3), (4, ov_i 1)] [ov_i 1] z138 h139 (P_fReader_readExpression_3_k3_1_70 F z h t m p dep)
                  have f177 : (pt_nt t m (h32 1 3)) ≤ w153 ∧ (h139 3 1) = (h126 3 1) ∧ (h139 3 2) = (h126 3 2) := f154
                  clear f154
                  have e146 : h139 3 1 = 70 := by omega
                  have y155_ : pt_EV t m 5 dep (pt_nt t m (h32 1 3)) 0 w153 := y155
                  have y156_ : pt_TC t m (h139 1) w153 := y156
                  have g178 := pt_TC_b y156_
                  have cx179 : ∀ k : Int, k ≠ 16 → h139 70 k = h 70 k := fun k hk => Eq.trans (y142_ k hk) (Eq.trans (congrFun (show h126 70 = h32 70 from E132) k) (xf k hk))
                  refine ov_blk (ls2 := [(0, ov_r 3), (1, ov_i dep), (2, ov_i 1), (3, ov_i x3), (4, ov_i 1)]) (st2 := [ov_r 3]) (pc2 := 65) b_69_63_2 rfl rfl ?_
                  refine ov_getf (v := ov_r 70) d_69_65 fl_Reader_15 (zb_3 I140) (zs_3 I140) (congrArg ov_r e146) ?_
                  refine ov_blk (ls2 := [(0, ov_r 3), (1, ov_i dep), (2, ov_i 1), (3, ov_i x3), (4, ov_i 1)]) (st2 := [ov_i 1, ov_r 70]) (pc2 := 70) b_69_68_1 rfl rfl ?_
                  refine ov_ifeq (tgt := 77) d_69_70 (by decide) (by omega) (fun c180 => ?_) (fun c180 => ?_)
                  · omega
                  · skip
                    refine ov_blk (ls2 := [(0, ov_r 3), (1, ov_i dep), (2, ov_i 1), (3, ov_i x3), (4, ov_i 1)]) (st2 := [ov_i 1, ov_r 70]) (pc2 := 74) b_69_73_1 rfl rfl ?_
                    refine ov_goto (tgt := 78) d_69_74 (by decide) ?_
                    refine ov_cV (as := [ov_i 1]) (st := []) (d2 := d - 1) d_69_78 lk_Reader_224 rfl (Nat.le_of_ble_eq_true rfl) (c := 9) (zb_70 I140) (zs_70 I140) ⟨by decide, rfl⟩ (by omega) (c_fTown_addCode_70 (d - 1) (by omega) U I140 (ov_kws hw (by decide +kernel)) 1 (by omega)) ?_
                    rintro _ z181 h182 ⟨rfl, I183, y184, y185⟩
                    have E186 : h182 1 = h139 1 := Eq.trans (y184 1 (by decide)) (show h139 1 = h139 1 from rfl)
                    have E187 : h182 2 = h 2 := Eq.trans (y184 2 (by decide)) (show h139 2 = h 2 from E144)
                    have E188 : h182 3 = h139 3 := Eq.trans (y184 3 (by decide)) (show h139 3 = h139 3 from rfl)
                    have fr189 : ∀ a : Int, a ≠ 1 ∧ a ≠ 3 ∧ a ≠ 70 ∧ a ≠ 80 → h182 a = h a := fun a ca => Eq.trans (y184 a (by omega)) (fr145 a ca)
                    have e190 : h182 3 1 = 70 := Eq.trans (congrFun (show h182 3 = h139 3 from y184 3 (by decide)) 1) e146
                    have y185_ : ∀ k : Int, k ≠ 16 → (h182 70) k = (h139 70) k := y185
                    show ov_R u d ov_m69 81 [(0, ov_r 3), (1, ov_i dep), (2, ov_i 1), (3, ov_i x3), (4, ov_i 1)] [] z181 h182 (P_fReader_readExpression_3_k3_1_70 F z h t m p dep)
                    have cx191 : ∀ k : Int, k ≠ 16 → h182 70 k = h 70 k := fun k hk => Eq.trans (y185_ k hk) (cx179 k hk)
                    refine ov_blk (ls2 := [(0, ov_r 3), (1, ov_i dep), (2, ov_i 1), (3, ov_i (x3 + 1)), (4, ov_i 1)]) (st2 := []) (pc2 := 84) b_69_81_1 rfl rfl ?_
                    refine ov_goto (tgt := 8) d_69_84 (by decide) ?_
                    refine ov_sub (ls2 := [(0, ov_r 3), (1, ov_i dep), (2, ov_i 1), (3, ov_i (x3 + 1))]) (List.Sublist.subset (by repeat (first | exact List.Sublist.refl _ | apply List.Sublist.cons_cons | apply List.Sublist.cons))) ?_
                    have g192 : (h182 1 3) = w153 := Eq.trans (congrFun (show h182 1 = h139 1 from E186) 3) (pt_TC_p y156_)
                    have g193 : (h182 3 2) = (h139 3 2) := congrFun (show h182 3 = h139 3 from E188) 2
                    exact ih28 (x3 + 1) _ _ I183 E187 (fun a ca => (fr189 a ca)) e190 (by rw [show h182 1 = h139 1 from E186, pt_TC_p y156_]; exact y156_) (fun f q e => xc f q (pt_EV7 (by omega) y155_ (by rw [show h182 1 = h139 1 from E186, pt_TC_p y156_] at e; exact e))) (fun k hk => cx191 k hk) (by show p + (x3 + 1) ≤ (h182 1 3) ∧ (h182 1 3) ≤ m ∧ 0 ≤ (x3 + 1) ∧ (x3 + 1) ≤ 1000 ∧ (h182 3 2) = (h 3 2); omega) (by omega)
              · omega
    exact L30 1001 0 _ _ I4 E8 (fun a ca => (fr9 a ca)) e10 (by rw [pt_TC_p y18_]; exact y18_) (fun f q e => pt_EV6 y17_ (by rw [pt_TC_p y18_] at e; exact e)) (fun k hk => cx25 k hk) (by show p + 0 ≤ (h3 1 3) ∧ (h3 1 3) ≤ m ∧ 0 ≤ 0 ∧ 0 ≤ 1000 ∧ (h3 3 2) = (h 3 2); omega) (by omega)

set_option maxHeartbeats 4000000 in
theorem c_fMo_products_90 {u : ov_U} {F : ov_H × ov_Z} (t : Int → Int) (m : Int) (N : Int) (p : Int) (k : Nat) (HE : ∀ k' : Nat, k' + 1 = k → ∀ {z : ov_Z} {h : ov_H} (t : Int → Int) (m N p : Int) (d : Nat) (hd : (10 + 5 * k' + 4) ≤ d) (U : ov_cap u) (I : ov_N F z h) (dep : Int) (g_dep : ov_g dep) (p0 : 0 ≤ (h 90 7) ∧ (h 90 7) ≤ N) (p1 : (h 93 ((h 90 7))) = p) (p2 : 0 ≤ (h 90 8)) (p3 : 0 ≤ dep ∧ dep + (k' : Int) = 5) (p4 : 0 ≤ (h 90 13) ∧ (h 90 13) ≤ (h 90 7)) (mt : pt_MT t m (h 92) (h 93) (h 94) N) (wd : pt_WD (h 95)), ov_T u d ov_m226 [ov_r 90, ov_i dep] z h (P_fMo_all_90 F z h t m N p dep)) (HP : ∀ k' : Nat, k' + 1 = k → ∀ {z : ov_Z} {h : ov_H} (t : Int → Int) (m N p : Int) (d : Nat) (hd : (10 + 5 * k' + 0) ≤ d) (U : ov_cap u) (I : ov_N F z h) (dep : Int) (g_dep : ov_g dep) (p0 : 0 ≤ (h 90 7) ∧ (h 90 7) ≤ N) (p1 : (h 93 ((h 90 7))) = p) (p2 : 0 ≤ (h 90 8)) (p3 : 0 ≤ dep ∧ dep + (k' : Int) = 5) (p4 : 0 ≤ (h 90 13) ∧ (h 90 13) ≤ (h 90 7)) (mt : pt_MT t m (h 92) (h 93) (h 94) N) (wd : pt_WD (h 95)), ov_T u d ov_m230 [ov_r 90, ov_i dep] z h (P_fMo_takePart_90 F z h t m N p dep)) {z : ov_Z} {h : ov_H} (d : Nat) (hd : (10 + 5 * k + 1) ≤ d) (U : ov_cap u) (I : ov_N F z h) (dep : Int) (g_dep : ov_g dep) (p0 : 0 ≤ (h 90 7) ∧ (h 90 7) ≤ N) (p1 : (h 93 ((h 90 7))) = p) (p2 : 0 ≤ (h 90 8)) (p3 : 0 ≤ dep ∧ dep + (k : Int) = 5) (p4 : 0 ≤ (h 90 13) ∧ (h 90 13) ≤ (h 90 7)) (mt : pt_MT t m (h 92) (h 93) (h 94) N) (wd : pt_WD (h 95)) : ov_T u d ov_m229 [ov_r 90, ov_i dep] z h (P_fMo_products_90 F z h t m N p dep) := by
  refine ov_en rfl (Nat.le_of_ble_eq_true rfl) ?_
  show ov_R u d ov_m229 0 [(0, ov_r 90), (1, ov_i dep)] [] z h (P_fMo_products_90 F z h t m N p dep)
  have ma := pt_MT_at mt (k := h 90 7) (by omega)
  rw [p1] at ma
  have mp := ma.2.1
  have m2 := ma.2.2.1
  have m3 := ma.2.2.2
  have mc := pt_cm_f (t := t) (m := m) (p := p)
  have mN := mt.1.2.1
  clear ma
  refine ov_blk (ls2 := [(0, ov_r 90), (1, ov_i dep)]) (st2 := [ov_i dep, ov_r 90]) (pc2 := 2) b_229_0_2 rfl rfl ?_
  refine ov_cV (as := [ov_i dep]) (st := []) (d2 := d - 1) d_229_2 lk_Mo_269 rfl (Nat.le_of_ble_eq_true rfl) (c := 1) (zb_90 I) (zs_90 I) ⟨by decide, rfl⟩ (by omega) (c_fMo_takePart_90 t m N p k HE HP (d - 1) (by omega) U I dep (by omega) (by show 0 ≤ (h 90 7) ∧ (h 90 7) ≤ N; omega) (by show (h 93 ((h 90 7))) = p; omega) (by show 0 ≤ (h 90 8); omega) (by show 0 ≤ dep ∧ dep + (k : Int) = 5; omega) (by show 0 ≤ (h 90 13) ∧ (h 90 13) ≤ (h 90 7); omega) mt wd) ?_
  rintro _ z1 h2 ⟨rfl, I3, y4, y5, y6⟩
  have E7 : h2 92 = h 92 := Eq.trans (y4 92 (by decide)) (show h 92 = h 92 from rfl)
  have E8 : h2 93 = h 93 := Eq.trans (y4 93 (by decide)) (show h 93 = h 93 from rfl)
  have E9 : h2 94 = h 94 := Eq.trans (y4 94 (by decide)) (show h 94 = h 94 from rfl)
  have E10 : h2 95 = h 95 := Eq.trans (y4 95 (by decide)) (show h 95 = h 95 from rfl)
  have fr11 : ∀ a : Int, a ≠ 90 ∧ (a < 97 ∨ 98 < a) → h2 a = h a := fun a ca => Eq.trans (y4 a (by omega)) rfl
  have y5_ : ∀ k : Int, k ≠ 7 → k ≠ 8 → k ≠ 13 → (h2 90) k = (h 90) k := y5
  have rk12 : ∀ k : Int, k ≠ 7 → k ≠ 8 → k ≠ 13 → h2 90 k = h 90 k := fun k n0 n1 n2 => Eq.trans (y5_ k n0 n1 n2) rfl
  have g13 : h2 90 2 = (h 90 2) := y5_ 2 (by decide) (by decide) (by decide)
  have g14 : h2 90 3 = (h 90 3) := y5_ 3 (by decide) (by decide) (by decide)
  have g15 : h2 90 15 = (h 90 15) := y5_ 15 (by decide) (by decide) (by decide)
  rcases y6 with f16 | ⟨w17, w18, f19, y20⟩ | ⟨w21, f22, y23⟩
  · skip
    show ov_R u d ov_m229 5 [(0, ov_r 90), (1, ov_i dep)] [] z1 h2 (P_fMo_products_90 F z h t m N p dep)
    have f24 : (h 90 8) ≠ 0 ∧ (h2 90 8) = (h 90 8) ∧ (h2 90 13) = (h 90 13) ∧ (h2 90 7) = (h 90 7) ∧ (h2 93 ((h2 90 7))) = p := f16
    clear f16
    refine ov_blk (ls2 := [(0, ov_r 90), (1, ov_i dep)]) (st2 := [ov_i 42, ov_r 90]) (pc2 := 8) b_229_5_2 rfl rfl ?_
    have cf25 : h2 93 ((h2 90 7)) = h 93 ((h2 90 7)) := congrFun E8 ((h2 90 7))
    refine ov_cV (as := [ov_i 42]) (st := []) (d2 := d - 1) d_229_8 lk_Mo_263 rfl (Nat.le_of_ble_eq_true rfl) (c := 1) (zb_90 I3) (zs_90 I3) ⟨by decide, rfl⟩ (by omega) (c_fMo_hasSign_90 t m N p (d - 1) (by omega) U I3 42 (by omega) (by show 0 ≤ (h2 90 7) ∧ (h2 90 7) ≤ N; omega) (by show (h2 93 ((h2 90 7))) = p; omega) (by show 0 ≤ (h2 90 8); omega) (by show 0 ≤ (42 : Int) ∧ (42 : Int) ≤ 65535; omega) (by rw [show h2 92 = h 92 from E7, show h2 93 = h 93 from E8, show h2 94 = h 94 from E9]; exact mt)) ?_
    rintro _ z27 h28 ⟨v26, rfl, I29, y30, y31, y32⟩
    have E33 : h28 92 = h 92 := Eq.trans (y30 92 (by decide)) (show h2 92 = h 92 from E7)
    have E34 : h28 93 = h 93 := Eq.trans (y30 93 (by decide)) (show h2 93 = h 93 from E8)
    have E35 : h28 94 = h 94 := Eq.trans (y30 94 (by decide)) (show h2 94 = h 94 from E9)
    have E36 : h28 95 = h 95 := Eq.trans (y30 95 (by decide)) (show h2 95 = h 95 from E10)
    have fr37 : ∀ a : Int, a ≠ 90 ∧ (a < 97 ∨ 98 < a) → h28 a = h a := fun a ca => Eq.trans (y30 a (by omega)) (fr11 a ca)
    have y31_ : ∀ k : Int, k ≠ 7 → (h28 90) k = (h2 90) k := y31
    have rk38 : ∀ k : Int, k ≠ 7 → k ≠ 8 → k ≠ 13 → h28 90 k = h 90 k := fun k n0 n1 n2 => Eq.trans (y31_ k n0) (rk12 k n0 n1 n2)
    have g39 : h28 90 2 = (h2 90 2) := y31_ 2 (by decide)
    have g40 : h28 90 3 = (h2 90 3) := y31_ 3 (by decide)
    have g41 : h28 90 8 = (h2 90 8) := y31_ 8 (by decide)
    have g42 : h28 90 13 = (h2 90 13) := y31_ 13 (by decide)
    have g43 : h28 90 15 = (h2 90 15) := y31_ 15 (by decide)
    rcases y32 with ⟨rfl, f44⟩ | ⟨rfl, f45⟩
    · skip
      show ov_R u d ov_m229 11 [(0, ov_r 90), (1, ov_i dep)] [ov_i 0] z27 h28 (P_fMo_products_90 F z h t m N p dep)
      have f46 : (h28 90 8) = (h2 90 8) ∧ ((h2 90 8) ≠ 0 ∨ pt_is t m p (42 : Int) = 0) ∧ (h28 90 7) = (h2 90 7) ∧ (h28 93 ((h28 90 7))) = p := f44
      clear f44
      refine ov_ifeq (tgt := 29) d_229_11 (by decide) (by omega) (fun c47 => ?_) (fun c47 => ?_)
      · skip
        exact ov_retv (st := []) d_229_29 rfl ⟨rfl, I29, (fun a ca => (fr37 a ca)), (fun k n0 n1 n2 => (rk38 k n0 n1 n2)), (Or.inl (by show (h 90 8) ≠ 0 ∧ (h28 90 8) = (h 90 8) ∧ (h28 90 13) = (h 90 13) ∧ (h28 90 7) = (h 90 7) ∧ (h28 93 ((h28 90 7))) = p; omega))⟩
      · omega
    · omega
  · skip
    show ov_R u d ov_m229 5 [(0, ov_r 90), (1, ov_i dep)] [] z1 h2 (P_fMo_products_90 F z h t m N p dep)
    have f48 : (h 90 8) = 0 ∧ (h2 90 8) = w17 ∧ 1 ≤ w17 ∧ (h 90 13) ≤ (h2 90 13) ∧ (h2 90 13) - (h 90 13) ≤ (h2 90 7) - (h 90 7) ∧ (h 90 7) ≤ (h2 90 7) ∧ (h2 90 7) ≤ N := f19
    clear f19
    have y20_ : pt_EV t m 0 dep p w17 w18 := y20
    refine ov_blk (ls2 := [(0, ov_r 90), (1, ov_i dep)]) (st2 := [ov_i 42, ov_r 90]) (pc2 := 8) b_229_5_2 rfl rfl ?_
    have cf49 : h2 93 ((h2 90 7)) = h 93 ((h2 90 7)) := congrFun E8 ((h2 90 7))
    refine ov_cV (as := [ov_i 42]) (st := []) (d2 := d - 1) d_229_8 lk_Mo_263 rfl (Nat.le_of_ble_eq_true rfl) (c := 1) (zb_90 I3) (zs_90 I3) ⟨by decide, rfl⟩ (by omega) (c_fMo_hasSign_90 t m N (h2 93 (h2 90 7)) (d - 1) (by omega) U I3 42 (by omega) (by show 0 ≤ (h2 90 7) ∧ (h2 90 7) ≤ N; omega) (by show (h2 93 ((h2 90 7))) = (h2 93 (h2 90 7)); omega) (by show 0 ≤ (h2 90 8); omega) (by show 0 ≤ (42 : Int) ∧ (42 : Int) ≤ 65535; omega) (by rw [show h2 92 = h 92 from E7, show h2 93 = h 93 from E8, show h2 94 = h 94 from E9]; exact mt)) ?_
    rintro _ z51 h52 ⟨v50, rfl, I53, y54, y55, y56⟩
    have E57 : h52 92 = h 92 := Eq.trans (y54 92 (by decide)) (show h2 92 = h 92 from E7)
    have E58 : h52 93 = h 93 := Eq.trans (y54 93 (by decide)) (show h2 93 = h 93 from E8)
    have E59 : h52 94 = h 94 := Eq.trans (y54 94 (by decide)) (show h2 94 = h 94 from E9)
    have E60 : h52 95 = h 95 := Eq.trans (y54 95 (by decide)) (show h2 95 = h 95 from E10)
    have fr61 : ∀ a : Int, a ≠ 90 ∧ (a < 97 ∨ 98 < a) → h52 a = h a := fun a ca => Eq.trans (y54 a (by omega)) (fr11 a ca)
    have y55_ : ∀ k : Int, k ≠ 7 → (h52 90) k = (h2 90) k := y55
    have rk62 : ∀ k : Int, k ≠ 7 → k ≠ 8 → k ≠ 13 → h52 90 k = h 90 k := fun k n0 n1 n2 => Eq.trans (y55_ k n0) (rk12 k n0 n1 n2)
    have g63 : h52 90 2 = (h2 90 2) := y55_ 2 (by decide)
    have g64 : h52 90 3 = (h2 90 3) := y55_ 3 (by decide)
    have g65 : h52 90 8 = (h2 90 8) := y55_ 8 (by decide)
    have g66 : h52 90 13 = (h2 90 13) := y55_ 13 (by decide)
    have g67 : h52 90 15 = (h2 90 15) := y55_ 15 (by decide)
    rcases y56 with ⟨rfl, f68⟩ | ⟨rfl, f69⟩
    · skip
      show ov_R u d ov_m229 11 [(0, ov_r 90), (1, ov_i dep)] [ov_i 0] z51 h52 (P_fMo_products_90 F z h t m N p dep)
      have f70 : (h52 90 8) = (h2 90 8) ∧ ((h2 90 8) ≠ 0 ∨ pt_is t m (h2 93 (h2 90 7)) (42 : Int) = 0) ∧ (h52 90 7) = (h2 90 7) ∧ (h52 93 ((h52 90 7))) = (h2 93 (h2 90 7)) := f68
      clear f68
      refine ov_ifeq (tgt := 29) d_229_11 (by decide) (by omega) (fun c71 => ?_) (fun c71 => ?_)
      · skip
        exact ov_retv (st := []) d_229_29 rfl ⟨rfl, I53, (fun a ca => (fr61 a ca)), (fun k n0 n1 n2 => (rk62 k n0 n1 n2)), (Or.inr (Or.inl ⟨w17, w18, (by show (h 90 8) = 0 ∧ (h52 90 8) = w17 ∧ 1 ≤ w17 ∧ (h 90 13) ≤ (h52 90 13) ∧ (h52 90 13) - (h 90 13) ≤ (h52 90 7) - (h 90 7) ∧ (h 90 7) ≤ (h52 90 7) ∧ (h52 90 7) ≤ N; omega), (pt_EV1_f y20_ (by omega))⟩))⟩
      · omega
    · omega
  · skip
    show ov_R u d ov_m229 5 [(0, ov_r 90), (1, ov_i dep)] [] z1 h2 (P_fMo_products_90 F z h t m N p dep)
    have f72 : (h 90 8) = 0 ∧ (h2 90 8) = 0 ∧ (h 90 13) ≤ (h2 90 13) ∧ (h2 90 13) - (h 90 13) ≤ (h2 90 7) - (h 90 7) ∧ (h 90 7) ≤ (h2 90 7) ∧ (h2 90 7) ≤ N ∧ (h2 93 ((h2 90 7))) = w21 := f22
    clear f22
    have y23_ : pt_EV t m 0 dep p 0 w21 := y23
    have L76 : ∀ (n73 : Nat) (z77 : ov_Z) (h78 : ov_H) (I79 : ov_N F z77 h78) (E80 : h78 92 = h 92) (E81 : h78 93 = h 93) (E82 : h78 94 = h 94) (E83 : h78 95 = h 95) (fr84 : ∀ a : Int, a ≠ 90 ∧ (a < 97 ∨ 98 < a) → h78 a = h a) (xc : ∀ f q : Int, pt_EV t m 2 dep (h 93 ((h78 90 7))) f q → pt_EV t m 1 dep p f q) (rkl90 : ∀ k : Int, k ≠ 7 → k ≠ 8 → k ≠ 13 → (h78 90) k = h 90 k) (q75 : (h 90 8) = 0 ∧ (h78 90 8) = 0 ∧ (h 90 13) ≤ (h78 90 13) ∧ (h78 90 13) - (h 90 13) ≤ (h78 90 7) - (h 90 7) ∧ (h 90 7) ≤ (h78 90 7) ∧ (h78 90 7) ≤ N), 1000 - (h78 90 7) < (n73 : Int) → ov_R u d ov_m229 5 [(0, ov_r 90), (1, ov_i dep)] [] z77 h78 (P_fMo_products_90 F z h t m N p dep) := by
      intro n73
      induction n73 with
      | zero =>
        intro  z77 h78 I79 E80 E81 E82 E83 fr84 xc rkl90 q75 hn85
        exact absurd hn85 (by omega)
      | succ n73 ih74 =>
        intro  z77 h78 I79 E80 E81 E82 E83 fr84 xc rkl90 q75 hn85
        have cz : h78 93 (h78 90 7) = h 93 (h78 90 7) := congrFun (show h78 93 = h 93 from E81) _
        refine ov_blk (ls2 := [(0, ov_r 90), (1, ov_i dep)]) (st2 := [ov_i 42, ov_r 90]) (pc2 := 8) b_229_5_2 rfl rfl ?_
        have cf86 : h78 93 ((h78 90 7)) = h 93 ((h78 90 7)) := congrFun E81 ((h78 90 7))
        refine ov_cV (as := [ov_i 42]) (st := []) (d2 := d - 1) d_229_8 lk_Mo_263 rfl (Nat.le_of_ble_eq_true rfl) (c := 1) (zb_90 I79) (zs_90 I79) ⟨by decide, rfl⟩ (by omega) (c_fMo_hasSign_90 t m N (h 93 (h78 90 7)) (d - 1) (by omega) U I79 42 (by omega) (by show 0 ≤ (h78 90 7) ∧ (h78 90 7) ≤ N; omega) (by show (h78 93 ((h78 90 7))) = (h 93 (h78 90 7)); omega) (by show 0 ≤ (h78 90 8); omega) (by show 0 ≤ (42 : Int) ∧ (42 : Int) ≤ 65535; omega) (by rw [show h78 92 = h 92 from E80, show h78 93 = h 93 from E81, show h78 94 = h 94 from E82]; exact mt)) ?_
        rintro _ z88 h89 ⟨v87, rfl, I90, y91, y92, y93⟩
        have E94 : h89 92 = h 92 := Eq.trans (y91 92 (by decide)) (show h78 92 = h 92 from E80)
        have E95 : h89 93 = h 93 := Eq.trans (y91 93 (by decide)) (show h78 93 = h 93 from E81)
        have E96 : h89 94 = h 94 := Eq.trans (y91 94 (by decide)) (show h78 94 = h 94 from E82)
        have E97 : h89 95 = h 95 := Eq.trans (y91 95 (by decide)) (show h78 95 = h 95 from E83)
        have fr98 : ∀ a : Int, a ≠ 90 ∧ (a < 97 ∨ 98 < a) → h89 a = h a := fun a ca => Eq.trans (y91 a (by omega)) (fr84 a ca)
        have y92_ : ∀ k : Int, k ≠ 7 → (h89 90) k = (h78 90) k := y92
        have rk99 : ∀ k : Int, k ≠ 7 → k ≠ 8 → k ≠ 13 → h89 90 k = h 90 k := fun k n0 n1 n2 => Eq.trans (y92_ k n0) (rkl90 k n0 n1 n2)
        have g100 : h89 90 2 = (h78 90 2) := y92_ 2 (by decide)
        have g101 : h89 90 3 = (h78 90 3) := y92_ 3 (by decide)
        have g102 : h89 90 8 = (h78 90 8) := y92_ 8 (by decide)
        have g103 : h89 90 13 = (h78 90 13) := y92_ 13 (by decide)
        have g104 : h89 90 15 = (h78 90 15) := y92_ 15 (by decide)
        rcases y93 with ⟨rfl, f105⟩ | ⟨rfl, f106⟩
        · skip
          show ov_R u d ov_m229 11 [(0, ov_r 90), (1, ov_i dep)] [ov_i 0] z88 h89 (P_fMo_products_90 F z h t m N p dep)
          have f107 : (h89 90 8) = (h78 90 8) ∧ ((h78 90 8) ≠ 0 ∨ pt_is t m (h 93 (h78 90 7)) (42 : Int) = 0) ∧ (h89 90 7) = (h78 90 7) ∧ (h89 93 ((h89 90 7))) = (h 93 (h78 90 7)) := f105
          clear f105
          refine ov_ifeq (tgt := 29) d_229_11 (by decide) (by omega) (fun c108 => ?_) (fun c108 => ?_)
          · skip
            exact ov_retv (st := []) d_229_29 rfl ⟨rfl, I90, (fun a ca => (fr98 a ca)), (fun k n0 n1 n2 => (rk99 k n0 n1 n2)), (Or.inr (Or.inr ⟨(h 93 (h78 90 7)), (by show (h 90 8) = 0 ∧ (h89 90 8) = 0 ∧ (h 90 13) ≤ (h89 90 13) ∧ (h89 90 13) - (h 90 13) ≤ (h89 90 7) - (h 90 7) ∧ (h 90 7) ≤ (h89 90 7) ∧ (h89 90 7) ≤ N ∧ (h89 93 ((h89 90 7))) = (h 93 (h78 90 7)); omega), (xc _ _ (pt_EV2_e (by omega)))⟩))⟩
          · omega
        · skip
          show ov_R u d ov_m229 11 [(0, ov_r 90), (1, ov_i dep)] [ov_i 1] z88 h89 (P_fMo_products_90 F z h t m N p dep)
          have f109 : (h78 90 8) = 0 ∧ pt_is t m (h 93 (h78 90 7)) (42 : Int) = 1 ∧ pt_ty t m (h 93 (h78 90 7)) = 4 ∧ (h89 90 7) = (h78 90 7) + 1 ∧ (h89 90 7) ≤ N ∧ (h89 93 ((h89 90 7))) = pt_nt t m (h 93 (h78 90 7)) := f106
          clear f106
          refine ov_ifeq (tgt := 29) d_229_11 (by decide) (by omega) (fun c110 => ?_) (fun c110 => ?_)
          · omega
          · skip
            refine ov_blk (ls2 := [(0, ov_r 90), (1, ov_i dep)]) (st2 := [ov_i dep, ov_r 90]) (pc2 := 16) b_229_14_2 rfl rfl ?_
            have cf111 : h89 93 ((h89 90 7)) = h 93 ((h89 90 7)) := congrFun E95 ((h89 90 7))
            refine ov_cV (as := [ov_i dep]) (st := []) (d2 := d - 1) d_229_16 lk_Mo_269 rfl (Nat.le_of_ble_eq_true rfl) (c := 1) (zb_90 I90) (zs_90 I90) ⟨by decide, rfl⟩ (by omega) (c_fMo_takePart_90 t m N (pt_nt t m (h 93 (h78 90 7))) k HE HP (d - 1) (by omega) U I90 dep (by omega) (by show 0 ≤ (h89 90 7) ∧ (h89 90 7) ≤ N; omega) (by show (h89 93 ((h89 90 7))) = (pt_nt t m (h 93 (h78 90 7))); omega) (by show 0 ≤ (h89 90 8); omega) (by show 0 ≤ dep ∧ dep + (k : Int) = 5; omega) (by show 0 ≤ (h89 90 13) ∧ (h89 90 13) ≤ (h89 90 7); omega) (by rw [show h89 92 = h 92 from E94, show h89 93 = h 93 from E95, show h89 94 = h 94 from E96]; exact mt) (by rw [show h89 95 = h 95 from E97]; exact wd)) ?_
            rintro _ z112 h113 ⟨rfl, I114, y115, y116, y117⟩
            have E118 : h113 92 = h 92 := Eq.trans (y115 92 (by decide)) (show h89 92 = h 92 from E94)
            have E119 : h113 93 = h 93 := Eq.trans (y115 93 (by decide)) (show h89 93 = h 93 from E95)
            have E120 : h113 94 = h 94 := Eq.trans (y115 94 (by decide)) (show h89 94 = h 94 from E96)
            have E121 : h113 95 = h 95 := Eq.trans (y115 95 (by decide)) (show h89 95 = h 95 from E97)
            have fr122 : ∀ a : Int, a ≠ 90 ∧ (a < 97 ∨ 98 < a) → h113 a = h a := fun a ca => Eq.trans (y115 a (by omega)) (fr98 a ca)
            have y116_ : ∀ k : Int, k ≠ 7 → k ≠ 8 → k ≠ 13 → (h113 90) k = (h89 90) k := y116
            have rk123 : ∀ k : Int, k ≠ 7 → k ≠ 8 → k ≠ 13 → h113 90 k = h 90 k := fun k n0 n1 n2 => Eq.trans (y116_ k n0 n1 n2) (rk99 k n0 n1 n2)
            have g124 : h113 90 2 = (h89 90 2) := y116_ 2 (by decide) (by decide) (by decide)
            have g125 : h113 90 3 = (h89 90 3) := y116_ 3 (by decide) (by decide) (by decide)
            have g126 : h113 90 15 = (h89 90 15) := y116_ 15 (by decide) (by decide) (by decide)
            rcases y117 with f127 | ⟨w128, w129, f130, y131⟩ | ⟨w132, f133, y134⟩
            · omega
            · skip
              show ov_R u d ov_m229 19 [(0, ov_r 90), (1, ov_i dep)] [] z112 h113 (P_fMo_products_90 F z h t m N p dep)
              have f135 : (h89 90 8) = 0 ∧ (h113 90 8) = w128 ∧ 1 ≤ w128 ∧ (h89 90 13) ≤ (h113 90 13) ∧ (h113 90 13) - (h89 90 13) ≤ (h113 90 7) - (h89 90 7) ∧ (h89 90 7) ≤ (h113 90 7) ∧ (h113 90 7) ≤ N := f130
              clear f130
              have y131_ : pt_EV t m 0 dep (pt_nt t m (h 93 (h78 90 7))) w128 w129 := y131
              refine ov_blk (ls2 := [(0, ov_r 90), (1, ov_i dep)]) (st2 := [ov_i 0, ov_i 6, ov_r 90]) (pc2 := 23) b_229_19_3 rfl rfl ?_
              have cf136 : h113 93 ((h113 90 7)) = h 93 ((h113 90 7)) := congrFun E119 ((h113 90 7))
              refine ov_cV (as := [ov_i 6, ov_i 0]) (st := []) (d2 := d - 1) d_229_23 lk_Mo_246 rfl (Nat.le_of_ble_eq_true rfl) (c := 1) (zb_90 I114) (zs_90 I114) ⟨by decide, rfl⟩ (by omega) (c_fMo_emit_90 (h113 93 (h113 90 7)) (d - 1) (by omega) U I114 6 0 (by omega) (by omega) (by show 0 ≤ (6 : Int) ∧ (6 : Int) ≤ 10; omega) (by show (h113 90 13) ≤ 999; omega) (by show (h113 93 ((h113 90 7))) = (h113 93 (h113 90 7)); omega)) ?_
              rintro _ z137 h138 ⟨rfl, I139, y140, f141, y142⟩
              have E143 : h138 92 = h 92 := Eq.trans (y140 92 (by decide)) (show h113 92 = h 92 from E118)
              have E144 : h138 93 = h 93 := Eq.trans (y140 93 (by decide)) (show h113 93 = h 93 from E119)
              have E145 : h138 94 = h 94 := Eq.trans (y140 94 (by decide)) (show h113 94 = h 94 from E120)
              have E146 : h138 95 = h 95 := Eq.trans (y140 95 (by decide)) (show h113 95 = h 95 from E121)
              have fr147 : ∀ a : Int, a ≠ 90 ∧ (a < 97 ∨ 98 < a) → h138 a = h a := fun a ca => Eq.trans (y140 a (by omega)) (fr122 a ca)
              have f149 : (h138 90 13) = (h113 90 13) + 1 ∧ (h138 90 7) = (h113 90 7) ∧ (h138 90 8) = (h113 90 8) ∧ (h138 93 ((h138 90 7))) = (h113 93 (h113 90 7)) := f141
              clear f141
              have y142_ : ∀ k : Int, k ≠ 13 → (h138 90) k = (h113 90) k := y142
              have rk148 : ∀ k : Int, k ≠ 7 → k ≠ 8 → k ≠ 13 → h138 90 k = h 90 k := fun k n0 n1 n2 => Eq.trans (y142_ k n2) (rk123 k n0 n1 n2)
              have g150 : h138 90 2 = (h113 90 2) := y142_ 2 (by decide)
              have g151 : h138 90 3 = (h113 90 3) := y142_ 3 (by decide)
              have g152 : h138 90 7 = (h113 90 7) := y142_ 7 (by decide)
              have g153 : h138 90 8 = (h113 90 8) := y142_ 8 (by decide)
              have g154 : h138 90 15 = (h113 90 15) := y142_ 15 (by decide)
              show ov_R u d ov_m229 26 [(0, ov_r 90), (1, ov_i dep)] [] z137 h138 (P_fMo_products_90 F z h t m N p dep)
              refine ov_goto (tgt := 5) d_229_26 (by decide) ?_
              refine ov_blk (ls2 := [(0, ov_r 90), (1, ov_i dep)]) (st2 := [ov_i 42, ov_r 90]) (pc2 := 8) b_229_5_2 rfl rfl ?_
              have cf155 : h138 93 ((h138 90 7)) = h 93 ((h138 90 7)) := congrFun E144 ((h138 90 7))
              refine ov_cV (as := [ov_i 42]) (st := []) (d2 := d - 1) d_229_8 lk_Mo_263 rfl (Nat.le_of_ble_eq_true rfl) (c := 1) (zb_90 I139) (zs_90 I139) ⟨by decide, rfl⟩ (by omega) (c_fMo_hasSign_90 t m N (h113 93 (h113 90 7)) (d - 1) (by omega) U I139 42 (by omega) (by show 0 ≤ (h138 90 7) ∧ (h138 90 7) ≤ N; omega) (by show (h138 93 ((h138 90 7))) = (h113 93 (h113 90 7)); omega) (by show 0 ≤ (h138 90 8); omega) (by show 0 ≤ (42 : Int) ∧ (42 : Int) ≤ 65535; omega) (by rw [show h138 92 = h 92 from E143, show h138 93 = h 93 from E144, show h138 94 = h 94 from E145]; exact mt)) ?_
              rintro _ z157 h158 ⟨v156, rfl, I159, y160, y161, y162⟩
              have E163 : h158 92 = h 92 := Eq.trans (y160 92 (by decide)) (show h138 92 = h 92 from E143)
              have E164 : h158 93 = h 93 := Eq.trans (y160 93 (by decide)) (show h138 93 = h 93 from E144)
              have E165 : h158 94 = h 94 := Eq.trans (y160 94 (by decide)) (show h138 94 = h 94 from E145)
              have E166 : h158 95 = h 95 := Eq.trans (y160 95 (by decide)) (show h138 95 = h 95 from E146)
              have fr167 : ∀ a : Int, a ≠ 90 ∧ (a < 97 ∨ 98 < a) → h158 a = h a := fun a ca => Eq.trans (y160 a (by omega)) (fr147 a ca)
              have y161_ : ∀ k : Int, k ≠ 7 → (h158 90) k = (h138 90) k := y161
              have rk168 : ∀ k : Int, k ≠ 7 → k ≠ 8 → k ≠ 13 → h158 90 k = h 90 k := fun k n0 n1 n2 => Eq.trans (y161_ k n0) (rk148 k n0 n1 n2)
              have g169 : h158 90 2 = (h138 90 2) := y161_ 2 (by decide)
              have g170 : h158 90 3 = (h138 90 3) := y161_ 3 (by decide)
              have g171 : h158 90 8 = (h138 90 8) := y161_ 8 (by decide)
              have g172 : h158 90 13 = (h138 90 13) := y161_ 13 (by decide)
              have g173 : h158 90 15 = (h138 90 15) := y161_ 15 (by decide)
              rcases y162 with ⟨rfl, f174⟩ | ⟨rfl, f175⟩
              · skip
                show ov_R u d ov_m229 11 [(0, ov_r 90), (1, ov_i dep)] [ov_i 0] z157 h158 (P_fMo_products_90 F z h t m N p dep)
                have f176 : (h158 90 8) = (h138 90 8) ∧ ((h138 90 8) ≠ 0 ∨ pt_is t m (h113 93 (h113 90 7)) (42 : Int) = 0) ∧ (h158 90 7) = (h138 90 7) ∧ (h158 93 ((h158 90 7))) = (h113 93 (h113 90 7)) := f174
                clear f174
                refine ov_ifeq (tgt := 29) d_229_11 (by decide) (by omega) (fun c177 => ?_) (fun c177 => ?_)
                · skip
                  exact ov_retv (st := []) d_229_29 rfl ⟨rfl, I159, (fun a ca => (fr167 a ca)), (fun k n0 n1 n2 => (rk168 k n0 n1 n2)), (Or.inr (Or.inl ⟨w128, w129, (by show (h 90 8) = 0 ∧ (h158 90 8) = w128 ∧ 1 ≤ w128 ∧ (h 90 13) ≤ (h158 90 13) ∧ (h158 90 13) - (h 90 13) ≤ (h158 90 7) - (h 90 7) ∧ (h 90 7) ≤ (h158 90 7) ∧ (h158 90 7) ≤ N; omega), (xc _ _ (pt_EV2_f (by omega) y131_ (by omega)))⟩))⟩
                · omega
              · omega
            · skip
              show ov_R u d ov_m229 19 [(0, ov_r 90), (1, ov_i dep)] [] z112 h113 (P_fMo_products_90 F z h t m N p dep)
              have f178 : (h89 90 8) = 0 ∧ (h113 90 8) = 0 ∧ (h89 90 13) ≤ (h113 90 13) ∧ (h113 90 13) - (h89 90 13) ≤ (h113 90 7) - (h89 90 7) ∧ (h89 90 7) ≤ (h113 90 7) ∧ (h113 90 7) ≤ N ∧ (h113 93 ((h113 90 7))) = w132 := f133
              clear f133
              have y134_ : pt_EV t m 0 dep (pt_nt t m (h 93 (h78 90 7))) 0 w132 := y134
              refine ov_blk (ls2 := [(0, ov_r 90), (1, ov_i dep)]) (st2 := [ov_i 0, ov_i 6, ov_r 90]) (pc2 := 23) b_229_19_3 rfl rfl ?_
              have cf179 : h113 93 ((h113 90 7)) = h 93 ((h113 90 7)) := congrFun E119 ((h113 90 7))
              refine ov_cV (as := [ov_i 6, ov_i 0]) (st := []) (d2 := d - 1) d_229_23 lk_Mo_246 rfl (Nat.le_of_ble_eq_true rfl) (c := 1) (zb_90 I114) (zs_90 I114) ⟨by decide, rfl⟩ (by omega) (c_fMo_emit_90 w132 (d - 1) (by omega) U I114 6 0 (by omega) (by omega) (by show 0 ≤ (6 : Int) ∧ (6 : Int) ≤ 10; omega) (by show (h113 90 13) ≤ 999; omega) (by show (h113 93 ((h113 90 7))) = w132; omega)) ?_
              rintro _ z180 h181 ⟨rfl, I182, y183, f184, y185⟩
              have E186 : h181 92 = h 92 := Eq.trans (y183 92 (by decide)) (show h113 92 = h 92 from E118)
              have E187 : h181 93 = h 93 := Eq.trans (y183 93 (by decide)) (show h113 93 = h 93 from E119)
              have E188 : h181 94 = h 94 := Eq.trans (y183 94 (by decide)) (show h113 94 = h 94 from E120)
              have E189 : h181 95 = h 95 := Eq.trans (y183 95 (by decide)) (show h113 95 = h 95 from E121)
              have fr190 : ∀ a : Int, a ≠ 90 ∧ (a < 97 ∨ 98 < a) → h181 a = h a := fun a ca => Eq.trans (y183 a (by omega)) (fr122 a ca)
              have f192 : (h181 90 13) = (h113 90 13) + 1 ∧ (h181 90 7) = (h113 90 7) ∧ (h181 90 8) = (h113 90 8) ∧ (h181 93 ((h181 90 7))) = w132 := f184
              clear f184
              have y185_ : ∀ k : Int, k ≠ 13 → (h181 90) k = (h113 90) k := y185
              have rk191 : ∀ k : Int, k ≠ 7 → k ≠ 8 → k ≠ 13 → h181 90 k = h 90 k := fun k n0 n1 n2 => Eq.trans (y185_ k n2) (rk123 k n0 n1 n2)
              have g193 : h181 90 2 = (h113 90 2) := y185_ 2 (by decide)
              have g194 : h181 90 3 = (h113 90 3) := y185_ 3 (by decide)
              have g195 : h181 90 7 = (h113 90 7) := y185_ 7 (by decide)
              have g196 : h181 90 8 = (h113 90 8) := y185_ 8 (by decide)
              have g197 : h181 90 15 = (h113 90 15) := y185_ 15 (by decide)
              show ov_R u d ov_m229 26 [(0, ov_r 90), (1, ov_i dep)] [] z180 h181 (P_fMo_products_90 F z h t m N p dep)
              refine ov_goto (tgt := 5) d_229_26 (by decide) ?_
              have cf198 : h181 93 (h181 90 7) = h 93 (h181 90 7) := congrFun (show h181 93 = h 93 from E187) _
              exact ih74  _ _ I182 E186 E187 E188 E189 (fun a ca => (fr190 a ca)) (fun f q e => xc f q (pt_EV2 (by omega) y134_ (by rw [show h 93 (h181 90 7) = w132 by omega] at e; exact e))) (fun k n0 n1 n2 => (rk191 k n0 n1 n2)) (by show (h 90 8) = 0 ∧ (h181 90 8) = 0 ∧ (h 90 13) ≤ (h181 90 13) ∧ (h181 90 13) - (h 90 13) ≤ (h181 90 7) - (h 90 7) ∧ (h 90 7) ≤ (h181 90 7) ∧ (h181 90 7) ≤ N; omega) (by show 1000 - (h181 90 7) < _; omega)
    have cf199 : h2 93 (h2 90 7) = h 93 (h2 90 7) := congrFun (show h2 93 = h 93 from E8) _
    exact L76 1001  _ _ I3 E7 E8 E9 E10 (fun a ca => (fr11 a ca)) (fun f q e => pt_EV1 y23_ (by rw [show h 93 (h2 90 7) = w21 by omega] at e; exact e)) (fun k n0 n1 n2 => (rk12 k n0 n1 n2)) (by show (h 90 8) = 0 ∧ (h2 90 8) = 0 ∧ (h 90 13) ≤ (h2 90 13) ∧ (h2 90 13) - (h 90 13) ≤ (h2 90 7) - (h 90 7) ∧ (h 90 7) ≤ (h2 90 7) ∧ (h2 90 7) ≤ N; omega) (by show 1000 - (h2 90 7) < _; omega)

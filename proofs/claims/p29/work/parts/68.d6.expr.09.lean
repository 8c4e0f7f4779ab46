set_option maxHeartbeats 4000000 in
theorem c_fMo_sums_90 {u : ov_U} {F : ov_H × ov_Z} (t : Int → Int) (m : Int) (N : Int) (p : Int) (k : Nat) (HE : ∀ k' : Nat, k' + 1 = k → ∀ {z : ov_Z} {h : ov_H} (t : Int → Int) (m N p : Int) (d : Nat) (hd : (10 + 5 * k' + 4) ≤ d) (U : ov_cap u) (I : ov_N F z h) (dep : Int) (g_dep : ov_g dep) (p0 : 0 ≤ (h 90 7) ∧ (h 90 7) ≤ N) (p1 : (h 93 ((h 90 7))) = p) (p2 : 0 ≤ (h 90 8)) (p3 : 0 ≤ dep ∧ dep + (k' : Int) = 5) (p4 : 0 ≤ (h 90 13) ∧ (h 90 13) ≤ (h 90 7)) (mt : pt_MT t m (h 92) (h 93) (h 94) N) (wd : pt_WD (h 95)), ov_T u d ov_m226 [ov_r 90, ov_i dep] z h (P_fMo_all_90 F z h t m N p dep)) (HP : ∀ k' : Nat, k' + 1 = k → ∀ {z : ov_Z} {h : ov_H} (t : Int → Int) (m N p : Int) (d : Nat) (hd : (10 + 5 * k' + 0) ≤ d) (U : ov_cap u) (I : ov_N F z h) (dep : Int) (g_dep : ov_g dep) (p0 : 0 ≤ (h 90 7) ∧ (h 90 7) ≤ N) (p1 : (h 93 ((h 90 7))) = p) (p2 : 0 ≤ (h 90 8)) (p3 : 0 ≤ dep ∧ dep + (k' : Int) = 5) (p4 : 0 ≤ (h 90 13) ∧ (h 90 13) ≤ (h 90 7)) (mt : pt_MT t m (h 92) (h 93) (h 94) N) (wd : pt_WD (h 95)), ov_T u d ov_m230 [ov_r 90, ov_i dep] z h (P_fMo_takePart_90 F z h t m N p dep)) {z : ov_Z} {h : ov_H} (d : Nat) (hd : (10 + 5 * k + 2) ≤ d) (U : ov_cap u) (I : ov_N F z h) (dep : Int) (g_dep : ov_g dep) (p0 : 0 ≤ (h 90 7) ∧ (h 90 7) ≤ N) (p1 : (h 93 ((h 90 7))) = p) (p2 : 0 ≤ (h 90 8)) (p3 : 0 ≤ dep ∧ dep + (k : Int) = 5) (p4 : 0 ≤ (h 90 13) ∧ (h 90 13) ≤ (h 90 7)) (mt : pt_MT t m (h 92) (h 93) (h 94) N) (wd : pt_WD (h 95)) : ov_T u d ov_m228 [ov_r 90, ov_i dep] z h (P_fMo_sums_90 F z h t m N p dep) := by
  refine ov_en rfl (Nat.le_of_ble_eq_true rfl) ?_
  show ov_R u d ov_m228 0 [(0, ov_r 90), (1, ov_i dep)] [] z h (P_fMo_sums_90 F z h t m N p dep)
  have ma := pt_MT_at mt (k := h 90 7) (by omega)
  rw [p1] at ma
  have mp := ma.2.1
  have m2 := ma.2.2.1
  have m3 := ma.2.2.2
  have mc := pt_cm_f (t := t) (m := m) (p := p)
  have mN := mt.1.2.1
  clear ma
  refine ov_blk (ls2 := [(0, ov_r 90), (1, ov_i dep)]) (st2 := [ov_i dep, ov_r 90]) (pc2 := 2) b_228_0_2 rfl rfl ?_
  refine ov_cV (as := [ov_i dep]) (st := []) (d2 := d - 1) d_228_2 lk_Mo_266 rfl (Nat.le_of_ble_eq_true rfl) (c := 1) (zb_90 I) (zs_90 I) ⟨by decide, rfl⟩ (by omega) (c_fMo_products_90 t m N p k HE HP (d - 1) (by omega) U I dep (by omega) (by show 0 ≤ (h 90 7) ∧ (h 90 7) ≤ N; omega) (by show (h 93 ((h 90 7))) = p; omega) (by show 0 ≤ (h 90 8); omega) (by show 0 ≤ dep ∧ dep + (k : Int) = 5; omega) (by show 0 ≤ (h 90 13) ∧ (h 90 13) ≤ (h 90 7); omega) mt wd) ?_
  rintro _ z1 h2 ⟨rfl, I3, y4, y5, y6⟩
  have E7 : h2 92 = h 92 := Eq.trans (y4 92 (by decide)) (show h 92 = h 92 from rfl)
  have E8 : h2 93 = h 93 := Eq.trans (y4 93 (by decide)) (show h 93 = h 93 from rfl)
  have E9 : h2 94 = h 94 := Eq.trans (y4 94 (by decide)) (show h 94 = h 94 from rfl)
  have E10 : h2 95 = h 95 := Eq.trans (y4 95 (by decide)) (show h 95 = h 95 from rfl)
  have fr11 : ∀ a : Int, a ≠ 90 ∧ (a < 97 ∨ 98 < a) → h2 a = h a := fun a ca => Eq.trans (y4 a (by omega)) rfl
  have y5_ : ∀ k : Int, k ≠ 7 → k ≠ 8 → k ≠ 13 → (h2 90) k = (h 90) k := y5
  have rk12 : ∀ k : Int, k ≠ 7 → k ≠ 8 → k ≠ 13 → h2 90 k = h 90 k := fun k n0 n1 n2 => Eq.trans (y5_ k n0 n1 n2) rfl
  have g13 : h2 90 2 = (h 90 2) := y5_ 2 (by decide) (by decide) (by decide)
  have g14 : h2 90 3 = (h 90 3) := y5_ 3 (by decide) (by decide) (by decide)
  have g15 : h2 90 15 = (h 90 15) := y5_ 15 (by decide) (by decide) (by decide)
  rcases y6 with f16 | ⟨w17, w18, f19, y20⟩ | ⟨w21, f22, y23⟩
  · skip
    show ov_R u d ov_m228 5 [(0, ov_r 90), (1, ov_i dep)] [] z1 h2 (P_fMo_sums_90 F z h t m N p dep)
    have f24 : (h 90 8) ≠ 0 ∧ (h2 90 8) = (h 90 8) ∧ (h2 90 13) = (h 90 13) ∧ (h2 90 7) = (h 90 7) ∧ (h2 93 ((h2 90 7))) = p := f16
    clear f16
    refine ov_blk (ls2 := [(0, ov_r 90), (1, ov_i dep)]) (st2 := [ov_i 43, ov_r 90]) (pc2 := 8) b_228_5_2 rfl rfl ?_
    have cf25 : h2 93 ((h2 90 7)) = h 93 ((h2 90 7)) := congrFun E8 ((h2 90 7))
    refine ov_cV (as := [ov_i 43]) (st := []) (d2 := d - 1) d_228_8 lk_Mo_183 rfl (Nat.le_of_ble_eq_true rfl) (c := 1) (zb_90 I3) (zs_90 I3) ⟨by decide, rfl⟩ (by omega) (c_fMo_isSign_90 t m N p (d - 1) (by omega) U I3 43 (by omega) (by show 0 ≤ (h2 90 7) ∧ (h2 90 7) ≤ N; omega) (by show (h2 93 ((h2 90 7))) = p; omega) (by show 0 ≤ (h2 90 8); omega) (by show 0 ≤ (43 : Int) ∧ (43 : Int) ≤ 65535; omega) (by rw [show h2 92 = h 92 from E7, show h2 93 = h 93 from E8, show h2 94 = h 94 from E9]; exact mt)) ?_
    rintro _ _ _ ⟨v26, rfl, rfl, rfl, y27⟩
    rcases y27 with ⟨rfl, f28⟩ | ⟨rfl, f29⟩
    · skip
      show ov_R u d ov_m228 11 [(0, ov_r 90), (1, ov_i dep)] [ov_i 0] z1 h2 (P_fMo_sums_90 F z h t m N p dep)
      have f30 : (h2 90 8) ≠ 0 ∨ pt_is t m p (43 : Int) = 0 := f28
      clear f28
      refine ov_ifne (tgt := 23) d_228_11 (by decide) (by omega) (fun c31 => ?_) (fun c31 => ?_)
      · omega
      · skip
        refine ov_blk (ls2 := [(0, ov_r 90), (1, ov_i dep)]) (st2 := [ov_i 45, ov_r 90]) (pc2 := 17) b_228_14_2 rfl rfl ?_
        refine ov_cV (as := [ov_i 45]) (st := []) (d2 := d - 1) d_228_17 lk_Mo_183 rfl (Nat.le_of_ble_eq_true rfl) (c := 1) (zb_90 I3) (zs_90 I3) ⟨by decide, rfl⟩ (by omega) (c_fMo_isSign_90 t m N p (d - 1) (by omega) U I3 45 (by omega) (by show 0 ≤ (h2 90 7) ∧ (h2 90 7) ≤ N; omega) (by show (h2 93 ((h2 90 7))) = p; omega) (by show 0 ≤ (h2 90 8); omega) (by show 0 ≤ (45 : Int) ∧ (45 : Int) ≤ 65535; omega) (by rw [show h2 92 = h 92 from E7, show h2 93 = h 93 from E8, show h2 94 = h 94 from E9]; exact mt)) ?_
        rintro _ _ _ ⟨v32, rfl, rfl, rfl, y33⟩
        rcases y33 with ⟨rfl, f34⟩ | ⟨rfl, f35⟩
        · skip
          show ov_R u d ov_m228 20 [(0, ov_r 90), (1, ov_i dep)] [ov_i 0] z1 h2 (P_fMo_sums_90 F z h t m N p dep)
          have f36 : (h2 90 8) ≠ 0 ∨ pt_is t m p (45 : Int) = 0 := f34
          clear f34
          refine ov_ifeq (tgt := 62) d_228_20 (by decide) (by omega) (fun c37 => ?_) (fun c37 => ?_)
          · skip
            exact ov_retv (st := []) d_228_62 rfl ⟨rfl, I3, (fun a ca => (fr11 a ca)), (fun k n0 n1 n2 => (rk12 k n0 n1 n2)), (Or.inl (by show (h 90 8) ≠ 0 ∧ (h2 90 8) = (h 90 8) ∧ (h2 90 13) = (h 90 13) ∧ (h2 90 7) = (h 90 7) ∧ (h2 93 ((h2 90 7))) = p; omega))⟩
          · omega
        · omega
    · omega
  · skip
    show ov_R u d ov_m228 5 [(0, ov_r 90), (1, ov_i dep)] [] z1 h2 (P_fMo_sums_90 F z h t m N p dep)
    have f38 : (h 90 8) = 0 ∧ (h2 90 8) = w17 ∧ 1 ≤ w17 ∧ (h 90 13) ≤ (h2 90 13) ∧ (h2 90 13) - (h 90 13) ≤ (h2 90 7) - (h 90 7) ∧ (h 90 7) ≤ (h2 90 7) ∧ (h2 90 7) ≤ N := f19
    clear f19
    have y20_ : pt_EV t m 1 dep p w17 w18 := y20
    refine ov_blk (ls2 := [(0, ov_r 90), (1, ov_i dep)]) (st2 := [ov_i 43, ov_r 90]) (pc2 := 8) b_228_5_2 rfl rfl ?_
    have cf39 : h2 93 ((h2 90 7)) = h 93 ((h2 90 7)) := congrFun E8 ((h2 90 7))
    refine ov_cV (as := [ov_i 43]) (st := []) (d2 := d - 1) d_228_8 lk_Mo_183 rfl (Nat.le_of_ble_eq_true rfl) (c := 1) (zb_90 I3) (zs_90 I3) ⟨by decide, rfl⟩ (by omega) (c_fMo_isSign_90 t m N (h2 93 (h2 90 7)) (d - 1) (by omega) U I3 43 (by omega) (by show 0 ≤ (h2 90 7) ∧ (h2 90 7) ≤ N; omega) (by show (h2 93 ((h2 90 7))) = (h2 93 (h2 90 7)); omega) (by show 0 ≤ (h2 90 8); omega) (by show 0 ≤ (43 : Int) ∧ (43 : Int) ≤ 65535; omega) (by rw [show h2 92 = h 92 from E7, show h2 93 = h 93 from E8, show h2 94 = h 94 from E9]; exact mt)) ?_
    rintro _ _ _ ⟨v40, rfl, rfl, rfl, y41⟩
    rcases y41 with ⟨rfl, f42⟩ | ⟨rfl, f43⟩
    · skip
      show ov_R u d ov_m228 11 [(0, ov_r 90), (1, ov_i dep)] [ov_i 0] z1 h2 (P_fMo_sums_90 F z h t m N p dep)
      have f44 : (h2 90 8) ≠ 0 ∨ pt_is t m (h2 93 (h2 90 7)) (43 : Int) = 0 := f42
      clear f42
      refine ov_ifne (tgt := 23) d_228_11 (by decide) (by omega) (fun c45 => ?_) (fun c45 => ?_)
      · omega
      · skip
        refine ov_blk (ls2 := [(0, ov_r 90), (1, ov_i dep)]) (st2 := [ov_i 45, ov_r 90]) (pc2 := 17) b_228_14_2 rfl rfl ?_
        refine ov_cV (as := [ov_i 45]) (st := []) (d2 := d - 1) d_228_17 lk_Mo_183 rfl (Nat.le_of_ble_eq_true rfl) (c := 1) (zb_90 I3) (zs_90 I3) ⟨by decide, rfl⟩ (by omega) (c_fMo_isSign_90 t m N (h2 93 (h2 90 7)) (d - 1) (by omega) U I3 45 (by omega) (by show 0 ≤ (h2 90 7) ∧ (h2 90 7) ≤ N; omega) (by show (h2 93 ((h2 90 7))) = (h2 93 (h2 90 7)); omega) (by show 0 ≤ (h2 90 8); omega) (by show 0 ≤ (45 : Int) ∧ (45 : Int) ≤ 65535; omega) (by rw [show h2 92 = h 92 from E7, show h2 93 = h 93 from E8, show h2 94 = h 94 from E9]; exact mt)) ?_
        rintro _ _ _ ⟨v46, rfl, rfl, rfl, y47⟩
        rcases y47 with ⟨rfl, f48⟩ | ⟨rfl, f49⟩
        · skip
          show ov_R u d ov_m228 20 [(0, ov_r 90), (1, ov_i dep)] [ov_i 0] z1 h2 (P_fMo_sums_90 F z h t m N p dep)
          have f50 : (h2 90 8) ≠ 0 ∨ pt_is t m (h2 93 (h2 90 7)) (45 : Int) = 0 := f48
          clear f48
          refine ov_ifeq (tgt := 62) d_228_20 (by decide) (by omega) (fun c51 => ?_) (fun c51 => ?_)
          · skip
            exact ov_retv (st := []) d_228_62 rfl ⟨rfl, I3, (fun a ca => (fr11 a ca)), (fun k n0 n1 n2 => (rk12 k n0 n1 n2)), (Or.inr (Or.inl ⟨w17, w18, (by show (h 90 8) = 0 ∧ (h2 90 8) = w17 ∧ 1 ≤ w17 ∧ (h 90 13) ≤ (h2 90 13) ∧ (h2 90 13) - (h 90 13) ≤ (h2 90 7) - (h 90 7) ∧ (h 90 7) ≤ (h2 90 7) ∧ (h2 90 7) ≤ N; omega), (pt_EV3_f y20_ (by omega))⟩))⟩
          · omega
        · omega
    · omega
  · skip
    show ov_R u d ov_m228 5 [(0, ov_r 90), (1, ov_i dep)] [] z1 h2 (P_fMo_sums_90 F z h t m N p dep)
    have f52 : (h 90 8) = 0 ∧ (h2 90 8) = 0 ∧ (h 90 13) ≤ (h2 90 13) ∧ (h2 90 13) - (h 90 13) ≤ (h2 90 7) - (h 90 7) ∧ (h 90 7) ≤ (h2 90 7) ∧ (h2 90 7) ≤ N ∧ (h2 93 ((h2 90 7))) = w21 := f22
    clear f22
    have y23_ : pt_EV t m 1 dep p 0 w21 := y23
    have L56 : ∀ (n53 : Nat) (z57 : ov_Z) (h58 : ov_H) (I59 : ov_N F z57 h58) (E60 : h58 92 = h 92) (E61 : h58 93 = h 93) (E62 : h58 94 = h 94) (E63 : h58 95 = h 95) (fr64 : ∀ a : Int, a ≠ 90 ∧ (a < 97 ∨ 98 < a) → h58 a = h a) (xc : ∀ f q : Int, pt_EV t m 4 dep (h 93 ((h58 90 7))) f q → pt_EV t m 3 dep p f q) (rkl90 : ∀ k : Int, k ≠ 7 → k ≠ 8 → k ≠ 13 → (h58 90) k = h 90 k) (q55 : (h 90 8) = 0 ∧ (h58 90 8) = 0 ∧ (h 90 13) ≤ (h58 90 13) ∧ (h58 90 13) - (h 90 13) ≤ (h58 90 7) - (h 90 7) ∧ (h 90 7) ≤ (h58 90 7) ∧ (h58 90 7) ≤ N), 1000 - (h58 90 7) < (n53 : Int) → ov_R u d ov_m228 5 [(0, ov_r 90), (1, ov_i dep)] [] z57 h58 (P_fMo_sums_90 F z h t m N p dep) := by
      intro n53
      induction n53 with
      | zero =>
        intro  z57 h58 I59 E60 E61 E62 E63 fr64 xc rkl90 q55 hn65
        exact absurd hn65 (by omega)
      | succ n53 ih54 =>
        intro  z57 h58 I59 E60 E61 E62 E63 fr64 xc rkl90 q55 hn65
        have cz : h58 93 (h58 90 7) = h 93 (h58 90 7) := congrFun (show h58 93 = h 93 from E61) _
        refine ov_blk (ls2 := [(0, ov_r 90), (1, ov_i dep)]) (st2 := [ov_i 43, ov_r 90]) (pc2 := 8) b_228_5_2 rfl rfl ?_
        have cf66 : h58 93 ((h58 90 7)) = h 93 ((h58 90 7)) := congrFun E61 ((h58 90 7))
        refine ov_cV (as := [ov_i 43]) (st := []) (d2 := d - 1) d_228_8 lk_Mo_183 rfl (Nat.le_of_ble_eq_true rfl) (c := 1) (zb_90 I59) (zs_90 I59) ⟨by decide, rfl⟩ (by omega) (c_fMo_isSign_90 t m N (h 93 (h58 90 7)) (d - 1) (by omega) U I59 43 (by omega) (by show 0 ≤ (h58 90 7) ∧ (h58 90 7) ≤ N; omega) (by show (h58 93 ((h58 90 7))) = (h 93 (h58 90 7)); omega) (by show 0 ≤ (h58 90 8); omega) (by show 0 ≤ (43 : Int) ∧ (43 : Int) ≤ 65535; omega) (by rw [show h58 92 = h 92 from E60, show h58 93 = h 93 from E61, show h58 94 = h 94 from E62]; exact mt)) ?_
        rintro _ _ _ ⟨v67, rfl, rfl, rfl, y68⟩
        rcases y68 with ⟨rfl, f69⟩ | ⟨rfl, f70⟩
        · skip
          show ov_R u d ov_m228 11 [(0, ov_r 90), (1, ov_i dep)] [ov_i 0] z57 h58 (P_fMo_sums_90 F z h t m N p dep)
          have f71 : (h58 90 8) ≠ 0 ∨ pt_is t m (h 93 (h58 90 7)) (43 : Int) = 0 := f69
          clear f69
          refine ov_ifne (tgt := 23) d_228_11 (by decide) (by omega) (fun c72 => ?_) (fun c72 => ?_)
          · omega
          · skip
            refine ov_blk (ls2 := [(0, ov_r 90), (1, ov_i dep)]) (st2 := [ov_i 45, ov_r 90]) (pc2 := 17) b_228_14_2 rfl rfl ?_
            refine ov_cV (as := [ov_i 45]) (st := []) (d2 := d - 1) d_228_17 lk_Mo_183 rfl (Nat.le_of_ble_eq_true rfl) (c := 1) (zb_90 I59) (zs_90 I59) ⟨by decide, rfl⟩ (by omega) (c_fMo_isSign_90 t m N (h 93 (h58 90 7)) (d - 1) (by omega) U I59 45 (by omega) (by show 0 ≤ (h58 90 7) ∧ (h58 90 7) ≤ N; omega) (by show (h58 93 ((h58 90 7))) = (h 93 (h58 90 7)); omega) (by show 0 ≤ (h58 90 8); omega) (by show 0 ≤ (45 : Int) ∧ (45 : Int) ≤ 65535; omega) (by rw [show h58 92 = h 92 from E60, show h58 93 = h 93 from E61, show h58 94 = h 94 from E62]; exact mt)) ?_
            rintro _ _ _ ⟨v73, rfl, rfl, rfl, y74⟩
            rcases y74 with ⟨rfl, f75⟩ | ⟨rfl, f76⟩
            · skip
              show ov_R u d ov_m228 20 [(0, ov_r 90), (1, ov_i dep)] [ov_i 0] z57 h58 (P_fMo_sums_90 F z h t m N p dep)
              have f77 : (h58 90 8) ≠ 0 ∨ pt_is t m (h 93 (h58 90 7)) (45 : Int) = 0 := f75
              clear f75
              refine ov_ifeq (tgt := 62) d_228_20 (by decide) (by omega) (fun c78 => ?_) (fun c78 => ?_)
              · skip
                exact ov_retv (st := []) d_228_62 rfl ⟨rfl, I59, (fun a ca => (fr64 a ca)), (fun k n0 n1 n2 => (rkl90 k n0 n1 n2)), (Or.inr (Or.inr ⟨(h 93 (h58 90 7)), (by show (h 90 8) = 0 ∧ (h58 90 8) = 0 ∧ (h 90 13) ≤ (h58 90 13) ∧ (h58 90 13) - (h 90 13) ≤ (h58 90 7) - (h 90 7) ∧ (h 90 7) ≤ (h58 90 7) ∧ (h58 90 7) ≤ N ∧ (h58 93 ((h58 90 7))) = (h 93 (h58 90 7)); omega), (xc _ _ (pt_EV4_e (by omega)))⟩))⟩
              · omega
            · skip
              show ov_R u d ov_m228 20 [(0, ov_r 90), (1, ov_i dep)] [ov_i 1] z57 h58 (P_fMo_sums_90 F z h t m N p dep)
              have f79 : (h58 90 8) = 0 ∧ pt_is t m (h 93 (h58 90 7)) (45 : Int) = 1 ∧ pt_ty t m (h 93 (h58 90 7)) = 4 := f76
              clear f76
              refine ov_ifeq (tgt := 62) d_228_20 (by decide) (by omega) (fun c80 => ?_) (fun c80 => ?_)
              · omega
              · skip
                refine ov_blk (ls2 := [(0, ov_r 90), (1, ov_i dep)]) (st2 := [ov_i 43, ov_r 90]) (pc2 := 26) b_228_23_2 rfl rfl ?_
                refine ov_cV (as := [ov_i 43]) (st := []) (d2 := d - 1) d_228_26 lk_Mo_183 rfl (Nat.le_of_ble_eq_true rfl) (c := 1) (zb_90 I59) (zs_90 I59) ⟨by decide, rfl⟩ (by omega) (c_fMo_isSign_90 t m N (h 93 (h58 90 7)) (d - 1) (by omega) U I59 43 (by omega) (by show 0 ≤ (h58 90 7) ∧ (h58 90 7) ≤ N; omega) (by show (h58 93 ((h58 90 7))) = (h 93 (h58 90 7)); omega) (by show 0 ≤ (h58 90 8); omega) (by show 0 ≤ (43 : Int) ∧ (43 : Int) ≤ 65535; omega) (by rw [show h58 92 = h 92 from E60, show h58 93 = h 93 from E61, show h58 94 = h 94 from E62]; exact mt)) ?_
                rintro _ _ _ ⟨v81, rfl, rfl, rfl, y82⟩
                rcases y82 with ⟨rfl, f83⟩ | ⟨rfl, f84⟩
                · skip
                  show ov_R u d ov_m228 29 [(0, ov_r 90), (1, ov_i dep)] [ov_i 0] z57 h58 (P_fMo_sums_90 F z h t m N p dep)
                  have f85 : (h58 90 8) ≠ 0 ∨ pt_is t m (h 93 (h58 90 7)) (43 : Int) = 0 := f83
                  clear f83
                  refine ov_blk (ls2 := [(0, ov_r 90), (1, ov_i dep), (2, ov_i 0)]) (st2 := [ov_r 90, ov_r 90]) (pc2 := 32) b_228_29_3 rfl rfl ?_
                  refine ov_getf (v := ov_i (h58 90 7)) d_228_32 fl_Mo_177 (zb_90 I59) (zs_90 I59) rfl ?_
                  have g86 := rg_90_7 I59
                  refine ov_blk (ls2 := [(0, ov_r 90), (1, ov_i dep), (2, ov_i 0)]) (st2 := [ov_i ((h58 90 7) + 1), ov_r 90]) (pc2 := 37) b_228_35_2 rfl rfl ?_
                  have pp : h 93 (h58 90 7) = (h 93 (h58 90 7)) := Eq.trans (congrFun (show h 93 = h58 93 from (E61).symm) _) (by show h58 93 (h58 90 7) = (h 93 (h58 90 7)); omega)
                  have kn := pt_MT_lt mt (k := h58 90 7) ⟨by omega, by omega⟩ (by rw [pp]; omega)
                  have mn := pt_MT_nx mt (k := h58 90 7) ⟨by omega, by omega⟩
                  rw [pp] at mn
                  have mq : h58 93 (h58 90 7 + 1) = pt_nt t m (h 93 (h58 90 7)) := Eq.trans (congrFun (show h58 93 = h 93 from E61) _) mn
                  refine ov_putf (x := ((h58 90 7) + 1)) d_228_37 fl_Mo_177 (zb_90 I59) (zs_90 I59) rfl nk_0 rfl ?_
                  have I87 := up_90_7 (x := ((h58 90 7) + 1)) I59 (by omega)
                  show ov_R u d ov_m228 40 [(0, ov_r 90), (1, ov_i dep), (2, ov_i 0)] [] z57 (ov_up h58 90 7 ((h58 90 7) + 1)) (P_fMo_sums_90 F z h t m N p dep)
                  refine ov_blk (ls2 := [(0, ov_r 90), (1, ov_i dep), (2, ov_i 0)]) (st2 := [ov_i dep, ov_r 90]) (pc2 := 42) b_228_40_2 rfl rfl ?_
                  have cf88 : h58 93 (((h58 90 7) + 1)) = h 93 (((h58 90 7) + 1)) := congrFun E61 (((h58 90 7) + 1))
                  refine ov_cV (as := [ov_i dep]) (st := []) (d2 := d - 1) d_228_42 lk_Mo_266 rfl (Nat.le_of_ble_eq_true rfl) (c := 1) (zb_90 I87) (zs_90 I87) ⟨by decide, rfl⟩ (by omega) (c_fMo_products_90 t m N (pt_nt t m (h 93 (h58 90 7))) k HE HP (d - 1) (by omega) U I87 dep (by omega) (by show 0 ≤ ((h58 90 7) + 1) ∧ ((h58 90 7) + 1) ≤ N; omega) (by show (h58 93 (((h58 90 7) + 1))) = (pt_nt t m (h 93 (h58 90 7))); omega) (by show 0 ≤ (h58 90 8); omega) (by show 0 ≤ dep ∧ dep + (k : Int) = 5; omega) (by show 0 ≤ (h58 90 13) ∧ (h58 90 13) ≤ ((h58 90 7) + 1); omega) (by rw [show (ov_up h58 90 7 ((h58 90 7) + 1)) 92 = h 92 from E60, show (ov_up h58 90 7 ((h58 90 7) + 1)) 93 = h 93 from E61, show (ov_up h58 90 7 ((h58 90 7) + 1)) 94 = h 94 from E62]; exact mt) (by rw [show (ov_up h58 90 7 ((h58 90 7) + 1)) 95 = h 95 from E63]; exact wd)) ?_
                  rintro _ z89 h90 ⟨rfl, I91, y92, y93, y94⟩
                  have E95 : h90 92 = h 92 := Eq.trans (y92 92 (by decide)) (show (ov_up h58 90 7 ((h58 90 7) + 1)) 92 = h 92 from E60)
                  have E96 : h90 93 = h 93 := Eq.trans (y92 93 (by decide)) (show (ov_up h58 90 7 ((h58 90 7) + 1)) 93 = h 93 from E61)
                  have E97 : h90 94 = h 94 := Eq.trans (y92 94 (by decide)) (show (ov_up h58 90 7 ((h58 90 7) + 1)) 94 = h 94 from E62)
                  have E98 : h90 95 = h 95 := Eq.trans (y92 95 (by decide)) (show (ov_up h58 90 7 ((h58 90 7) + 1)) 95 = h 95 from E63)
                  have fr99 : ∀ a : Int, a ≠ 90 ∧ (a < 97 ∨ 98 < a) → h90 a = h a := fun a ca => Eq.trans (y92 a (by omega)) (Eq.trans (by show (ov_up h58 90 7 ((h58 90 7) + 1)) a = h58 a; rw [ov_up_ne (by omega)]) (fr64 a ca))
                  have y93_ : ∀ k : Int, k ≠ 7 → k ≠ 8 → k ≠ 13 → (h90 90) k = ((ov_up h58 90 7 ((h58 90 7) + 1)) 90) k := y93
                  have rk100 : ∀ k : Int, k ≠ 7 → k ≠ 8 → k ≠ 13 → h90 90 k = h 90 k := fun k n0 n1 n2 => Eq.trans (y93_ k n0 n1 n2) (Eq.trans (by show (ov_up h58 90 7 ((h58 90 7) + 1)) 90 k = h58 90 k; rw [ov_up_j n0]) (rkl90 k n0 n1 n2))
                  have g101 : h90 90 2 = (h58 90 2) := y93_ 2 (by decide) (by decide) (by decide)
                  have g102 : h90 90 3 = (h58 90 3) := y93_ 3 (by decide) (by decide) (by decide)
                  have g103 : h90 90 15 = (h58 90 15) := y93_ 15 (by decide) (by decide) (by decide)
                  rcases y94 with f104 | ⟨w105, w106, f107, y108⟩ | ⟨w109, f110, y111⟩
                  · have q9 : (h58 90 8) ≠ 0 ∧ (h90 90 8) = (h58 90 8) ∧ (h90 90 13) = (h58 90 13) ∧ (h90 90 7) = ((h58 90 7) + 1) ∧ (h90 93 ((h90 90 7))) = (pt_nt t m (h 93 (h58 90 7))) := f104
                    omega
                  · skip
                    show ov_R u d ov_m228 45 [(0, ov_r 90), (1, ov_i dep), (2, ov_i 0)] [] z89 h90 (P_fMo_sums_90 F z h t m N p dep)
                    have f112 : (h58 90 8) = 0 ∧ (h90 90 8) = w105 ∧ 1 ≤ w105 ∧ (h58 90 13) ≤ (h90 90 13) ∧ (h90 90 13) - (h58 90 13) ≤ (h90 90 7) - ((h58 90 7) + 1) ∧ ((h58 90 7) + 1) ≤ (h90 90 7) ∧ (h90 90 7) ≤ N := f107
                    clear f107
                    have y108_ : pt_EV t m 1 dep (pt_nt t m (h 93 (h58 90 7))) w105 w106 := y108
                    refine ov_blk (ls2 := [(0, ov_r 90), (1, ov_i dep), (2, ov_i 0)]) (st2 := [ov_i 0, ov_r 90]) (pc2 := 47) b_228_45_2 rfl rfl ?_
                    refine ov_ifeq (tgt := 54) d_228_47 (by decide) (by omega) (fun c113 => ?_) (fun c113 => ?_)
                    · skip
                      refine ov_blk (ls2 := [(0, ov_r 90), (1, ov_i dep), (2, ov_i 0)]) (st2 := [ov_i 0, ov_i 5, ov_r 90]) (pc2 := 56) b_228_54_2 rfl rfl ?_
                      have cf114 : h90 93 ((h90 90 7)) = h 93 ((h90 90 7)) := congrFun E96 ((h90 90 7))
                      refine ov_cV (as := [ov_i 5, ov_i 0]) (st := []) (d2 := d - 1) d_228_56 lk_Mo_246 rfl (Nat.le_of_ble_eq_true rfl) (c := 1) (zb_90 I91) (zs_90 I91) ⟨by decide, rfl⟩ (by omega) (c_fMo_emit_90 (h90 93 (h90 90 7)) (d - 1) (by omega) U I91 5 0 (by omega) (by omega) (by show 0 ≤ (5 : Int) ∧ (5 : Int) ≤ 10; omega) (by show (h90 90 13) ≤ 999; omega) (by show (h90 93 ((h90 90 7))) = (h90 93 (h90 90 7)); omega)) ?_
                      rintro _ z115 h116 ⟨rfl, I117, y118, f119, y120⟩
                      have E121 : h116 92 = h 92 := Eq.trans (y118 92 (by decide)) (show h90 92 = h 92 from E95)
                      have E122 : h116 93 = h 93 := Eq.trans (y118 93 (by decide)) (show h90 93 = h 93 from E96)
                      have E123 : h116 94 = h 94 := Eq.trans (y118 94 (by decide)) (show h90 94 = h 94 from E97)
                      have E124 : h116 95 = h 95 := Eq.trans (y118 95 (by decide)) (show h90 95 = h 95 from E98)
                      have fr125 : ∀ a : Int, a ≠ 90 ∧ (a < 97 ∨ 98 < a) → h116 a = h a := fun a ca => Eq.trans (y118 a (by omega)) (fr99 a ca)
                      have f127 : (h116 90 13) = (h90 90 13) + 1 ∧ (h116 90 7) = (h90 90 7) ∧ (h116 90 8) = (h90 90 8) ∧ (h116 93 ((h116 90 7))) = (h90 93 (h90 90 7)) := f119
                      clear f119
                      have y120_ : ∀ k : Int, k ≠ 13 → (h116 90) k = (h90 90) k := y120
                      have rk126 : ∀ k : Int, k ≠ 7 → k ≠ 8 → k ≠ 13 → h116 90 k = h 90 k := fun k n0 n1 n2 => Eq.trans (y120_ k n2) (rk100 k n0 n1 n2)
                      have g128 : h116 90 2 = (h90 90 2) := y120_ 2 (by decide)
                      have g129 : h116 90 3 = (h90 90 3) := y120_ 3 (by decide)
                      have g130 : h116 90 7 = (h90 90 7) := y120_ 7 (by decide)
                      have g131 : h116 90 8 = (h90 90 8) := y120_ 8 (by decide)
                      have g132 : h116 90 15 = (h90 90 15) := y120_ 15 (by decide)
                      show ov_R u d ov_m228 59 [(0, ov_r 90), (1, ov_i dep), (2, ov_i 0)] [] z115 h116 (P_fMo_sums_90 F z h t m N p dep)
                      refine ov_goto (tgt := 5) d_228_59 (by decide) ?_
                      refine ov_blk (ls2 := [(0, ov_r 90), (1, ov_i dep), (2, ov_i 0)]) (st2 := [ov_i 43, ov_r 90]) (pc2 := 8) b_228_5_2 rfl rfl ?_
                      have cf133 : h116 93 ((h116 90 7)) = h 93 ((h116 90 7)) := congrFun E122 ((h116 90 7))
                      refine ov_cV (as := [ov_i 43]) (st := []) (d2 := d - 1) d_228_8 lk_Mo_183 rfl (Nat.le_of_ble_eq_true rfl) (c := 1) (zb_90 I117) (zs_90 I117) ⟨by decide, rfl⟩ (by omega) (c_fMo_isSign_90 t m N (h90 93 (h90 90 7)) (d - 1) (by omega) U I117 43 (by omega) (by show 0 ≤ (h116 90 7) ∧ (h116 90 7) ≤ N; omega) (by show (h116 93 ((h116 90 7))) = (h90 93 (h90 90 7)); omega) (by show 0 ≤ (h116 90 8); omega) (by show 0 ≤ (43 : Int) ∧ (43 : Int) ≤ 65535; omega) (by rw [show h116 92 = h 92 from E121, show h116 93 = h 93 from E122, show h116 94 = h 94 from E123]; exact mt)) ?_
                      rintro _ _ _ ⟨v134, rfl, rfl, rfl, y135⟩
                      rcases y135 with ⟨rfl, f136⟩ | ⟨rfl, f137⟩
                      · skip
                        show ov_R u d ov_m228 11 [(0, ov_r 90), (1, ov_i dep), (2, ov_i 0)] [ov_i 0] z115 h116 (P_fMo_sums_90 F z h t m N p dep)
                        have f138 : (h116 90 8) ≠ 0 ∨ pt_is t m (h90 93 (h90 90 7)) (43 : Int) = 0 := f136
                        clear f136
                        refine ov_ifne (tgt := 23) d_228_11 (by decide) (by omega) (fun c139 => ?_) (fun c139 => ?_)
                        · omega
                        · skip
                          refine ov_blk (ls2 := [(0, ov_r 90), (1, ov_i dep), (2, ov_i 0)]) (st2 := [ov_i 45, ov_r 90]) (pc2 := 17) b_228_14_2 rfl rfl ?_
                          refine ov_cV (as := [ov_i 45]) (st := []) (d2 := d - 1) d_228_17 lk_Mo_183 rfl (Nat.le_of_ble_eq_true rfl) (c := 1) (zb_90 I117) (zs_90 I117) ⟨by decide, rfl⟩ (by omega) (c_fMo_isSign_90 t m N (h90 93 (h90 90 7)) (d - 1) (by omega) U I117 45 (by omega) (by show 0 ≤ (h116 90 7) ∧ (h116 90 7) ≤ N; omega) (by show (h116 93 ((h116 90 7))) = (h90 93 (h90 90 7)); omega) (by show 0 ≤ (h116 90 8); omega) (by show 0 ≤ (45 : Int) ∧ (45 : Int) ≤ 65535; omega) (by rw [show h116 92 = h 92 from E121, show h116 93 = h 93 from E122, show h116 94 = h 94 from E123]; exact mt)) ?_
                          rintro _ _ _ ⟨v140, rfl, rfl, rfl, y141⟩
                          rcases y141 with ⟨rfl, f142⟩ | ⟨rfl, f143⟩
                          · skip
                            show ov_R u d ov_m228 20 [(0, ov_r 90), (1, ov_i dep), (2, ov_i 0)] [ov_i 0] z115 h116 (P_fMo_sums_90 F z h t m N p dep)
                            have f144 : (h116 90 8) ≠ 0 ∨ pt_is t m (h90 93 (h90 90 7)) (45 : Int) = 0 := f142
                            clear f142
                            refine ov_ifeq (tgt := 62) d_228_20 (by decide) (by omega) (fun c145 => ?_) (fun c145 => ?_)
                            · skip
                              exact ov_retv (st := []) d_228_62 rfl ⟨rfl, I117, (fun a ca => (fr125 a ca)), (fun k n0 n1 n2 => (rk126 k n0 n1 n2)), (Or.inr (Or.inl ⟨w105, w106, (by show (h 90 8) = 0 ∧ (h116 90 8) = w105 ∧ 1 ≤ w105 ∧ (h 90 13) ≤ (h116 90 13) ∧ (h116 90 13) - (h 90 13) ≤ (h116 90 7) - (h 90 7) ∧ (h 90 7) ≤ (h116 90 7) ∧ (h116 90 7) ≤ N; omega), (xc _ _ (pt_EV4_f (by omega) y108_ (by omega)))⟩))⟩
                            · omega
                          · omega
                      · omega
                    · omega
                  · skip
                    show ov_R u d ov_m228 45 [(0, ov_r 90), (1, ov_i dep), (2, ov_i 0)] [] z89 h90 (P_fMo_sums_90 F z h t m N p dep)
                    have f146 : (h58 90 8) = 0 ∧ (h90 90 8) = 0 ∧ (h58 90 13) ≤ (h90 90 13) ∧ (h90 90 13) - (h58 90 13) ≤ (h90 90 7) - ((h58 90 7) + 1) ∧ ((h58 90 7) + 1) ≤ (h90 90 7) ∧ (h90 90 7) ≤ N ∧ (h90 93 ((h90 90 7))) = w109 := f110
                    clear f110
                    have y111_ : pt_EV t m 1 dep (pt_nt t m (h 93 (h58 90 7))) 0 w109 := y111
                    refine ov_blk (ls2 := [(0, ov_r 90), (1, ov_i dep), (2, ov_i 0)]) (st2 := [ov_i 0, ov_r 90]) (pc2 := 47) b_228_45_2 rfl rfl ?_
                    refine ov_ifeq (tgt := 54) d_228_47 (by decide) (by omega) (fun c147 => ?_) (fun c147 => ?_)
                    · skip
                      refine ov_blk (ls2 := [(0, ov_r 90), (1, ov_i dep), (2, ov_i 0)]) (st2 := [ov_i 0, ov_i 5, ov_r 90]) (pc2 := 56) b_228_54_2 rfl rfl ?_
                      have cf148 : h90 93 ((h90 90 7)) = h 93 ((h90 90 7)) := congrFun E96 ((h90 90 7))
                      refine ov_cV (as := [ov_i 5, ov_i 0]) (st := []) (d2 := d - 1) d_228_56 lk_Mo_246 rfl (Nat.le_of_ble_eq_true rfl) (c := 1) (zb_90 I91) (zs_90 I91) ⟨by decide, rfl⟩ (by omega) (c_fMo_emit_90 w109 (d - 1) (by omega) U I91 5 0 (by omega) (by omega) (by show 0 ≤ (5 : Int) ∧ (5 : Int) ≤ 10; omega) (by show (h90 90 13) ≤ 999; omega) (by show (h90 93 ((h90 90 7))) = w109; omega)) ?_
                      rintro _ z149 h150 ⟨rfl, I151, y152, f153, y154⟩
                      have E155 : h150 92 = h 92 := Eq.trans (y152 92 (by decide)) (show h90 92 = h 92 from E95)
                      have E156 : h150 93 = h 93 := Eq.trans (y152 93 (by decide)) (show h90 93 = h 93 from E96)
                      have E157 : h150 94 = h 94 := Eq.trans (y152 94 (by decide)) (show h90 94 = h 94 from E97)
                      have E158 : h150 95 = h 95 := Eq.trans (y152 95 (by decide)) (show h90 95 = h 95 from E98)
                      have fr159 : ∀ a : Int, a ≠ 90 ∧ (a < 97 ∨ 98 < a) → h150 a = h a := fun a ca => Eq.trans (y152 a (by omega)) (fr99 a ca)
                      have f161 : (h150 90 13) = (h90 90 13) + 1 ∧ (h150 90 7) = (h90 90 7) ∧ (h150 90 8) = (h90 90 8) ∧ (h150 93 ((h150 90 7))) = w109 := f153
                      clear f153
                      have y154_ : ∀ k : Int, k ≠ 13 → (h150 90) k = (h90 90) k := y154
                      have rk160 : ∀ k : Int, k ≠ 7 → k ≠ 8 → k ≠ 13 → h150 90 k = h 90 k := fun k n0 n1 n2 => Eq.trans (y154_ k n2) (rk100 k n0 n1 n2)
                      have g162 : h150 90 2 = (h90 90 2) := y154_ 2 (by decide)
                      have g163 : h150 90 3 = (h90 90 3) := y154_ 3 (by decide)
                      have g164 : h150 90 7 = (h90 90 7) := y154_ 7 (by decide)
                      have g165 : h150 90 8 = (h90 90 8) := y154_ 8 (by decide)
                      have g166 : h150 90 15 = (h90 90 15) := y154_ 15 (by decide)
                      show ov_R u d ov_m228 59 [(0, ov_r 90), (1, ov_i dep), (2, ov_i 0)] [] z149 h150 (P_fMo_sums_90 F z h t m N p dep)
                      refine ov_goto (tgt := 5) d_228_59 (by decide) ?_
                      refine ov_sub (ls2 := [(0, ov_r 90), (1, ov_i dep)]) (List.Sublist.subset (by repeat (first | exact List.Sublist.refl _ | apply List.Sublist.cons_cons | apply List.Sublist.cons))) ?_
                      have cf167 : h150 93 (h150 90 7) = h 93 (h150 90 7) := congrFun (show h150 93 = h 93 from E156) _
                      exact ih54  _ _ I151 E155 E156 E157 E158 (fun a ca => (fr159 a ca)) (fun f q e => xc f q (pt_EV4 (by omega) y111_ (by rw [show h 93 (h150 90 7) = w109 by omega] at e; exact e))) (fun k n0 n1 n2 => (rk160 k n0 n1 n2)) (by show (h 90 8) = 0 ∧ (h150 90 8) = 0 ∧ (h 90 13) ≤ (h150 90 13) ∧ (h150 90 13) - (h 90 13) ≤ (h150 90 7) - (h 90 7) ∧ (h 90 7) ≤ (h150 90 7) ∧ (h150 90 7) ≤ N; omega) (by show 1000 - (h150 90 7) < _; omega)
                    · omega
                · skip
                  show ov_R u d ov_m228 29 [(0, ov_r 90), (1, ov_i dep)] [ov_i 1] z57 h58 (P_fMo_sums_90 F z h t m N p dep)
                  have f168 : (h58 90 8) = 0 ∧ pt_is t m (h 93 (h58 90 7)) (43 : Int) = 1 ∧ pt_ty t m (h 93 (h58 90 7)) = 4 := f84
                  clear f84
                  refine ov_blk (ls2 := [(0, ov_r 90), (1, ov_i dep), (2, ov_i 1)]) (st2 := [ov_r 90, ov_r 90]) (pc2 := 32) b_228_29_3 rfl rfl ?_
                  refine ov_getf (v := ov_i (h58 90 7)) d_228_32 fl_Mo_177 (zb_90 I59) (zs_90 I59) rfl ?_
                  have g169 := rg_90_7 I59
                  refine ov_blk (ls2 := [(0, ov_r 90), (1, ov_i dep), (2, ov_i 1)]) (st2 := [ov_i ((h58 90 7) + 1), ov_r 90]) (pc2 := 37) b_228_35_2 rfl rfl ?_
                  have pp : h 93 (h58 90 7) = (h 93 (h58 90 7)) := Eq.trans (congrFun (show h 93 = h58 93 from (E61).symm) _) (by show h58 93 (h58 90 7) = (h 93 (h58 90 7)); omega)
                  have kn := pt_MT_lt mt (k := h58 90 7) ⟨by omega, by omega⟩ (by rw [pp]; omega)
                  have mn := pt_MT_nx mt (k := h58 90 7) ⟨by omega, by omega⟩
                  rw [pp] at mn
                  have mq : h58 93 (h58 90 7 + 1) = pt_nt t m (h 93 (h58 90 7)) := Eq.trans (congrFun (show h58 93 = h 93 from E61) _) mn
                  refine ov_putf (x := ((h58 90 7) + 1)) d_228_37 fl_Mo_177 (zb_90 I59) (zs_90 I59) rfl nk_0 rfl ?_
                  have I170 := up_90_7 (x := ((h58 90 7) + 1)) I59 (by omega)
                  show ov_R u d ov_m228 40 [(0, ov_r 90), (1, ov_i dep), (2, ov_i 1)] [] z57 (ov_up h58 90 7 ((h58 90 7) + 1)) (P_fMo_sums_90 F z h t m N p dep)
                  refine ov_blk (ls2 := [(0, ov_r 90), (1, ov_i dep), (2, ov_i 1)]) (st2 := [ov_i dep, ov_r 90]) (pc2 := 42) b_228_40_2 rfl rfl ?_
                  have cf171 : h58 93 (((h58 90 7) + 1)) = h 93 (((h58 90 7) + 1)) := congrFun E61 (((h58 90 7) + 1))
                  refine ov_cV (as := [ov_i dep]) (st := []) (d2 := d - 1) d_228_42 lk_Mo_266 rfl (Nat.le_of_ble_eq_true rfl) (c := 1) (zb_90 I170) (zs_90 I170) ⟨by decide, rfl⟩ (by omega) (c_fMo_products_90 t m N (pt_nt t m (h 93 (h58 90 7))) k HE HP (d - 1) (by omega) U I170 dep (by omega) (by show 0 ≤ ((h58 90 7) + 1) ∧ ((h58 90 7) + 1) ≤ N; omega) (by show (h58 93 (((h58 90 7) + 1))) = (pt_nt t m (h 93 (h58 90 7))); omega) (by show 0 ≤ (h58 90 8); omega) (by show 0 ≤ dep ∧ dep + (k : Int) = 5; omega) (by show 0 ≤ (h58 90 13) ∧ (h58 90 13) ≤ ((h58 90 7) + 1); omega) (by rw [show (ov_up h58 90 7 ((h58 90 7) + 1)) 92 = h 92 from E60, show (ov_up h58 90 7 ((h58 90 7) + 1)) 93 = h 93 from E61, show (ov_up h58 90 7 ((h58 90 7) + 1)) 94 = h 94 from E62]; exact mt) (by rw [show (ov_up h58 90 7 ((h58 90 7) + 1)) 95 = h 95 from E63]; exact wd)) ?_
                  rintro _ z172 h173 ⟨rfl, I174, y175, y176, y177⟩
                  have E178 : h173 92 = h 92 := Eq.trans (y175 92 (by decide)) (show (ov_up h58 90 7 ((h58 90 7) + 1)) 92 = h 92 from E60)
                  have E179 : h173 93 = h 93 := Eq.trans (y175 93 (by decide)) (show (ov_up h58 90 7 ((h58 90 7) + 1)) 93 = h 93 from E61)
                  have E180 : h173 94 = h 94 := Eq.trans (y175 94 (by decide)) (show (ov_up h58 90 7 ((h58 90 7) + 1)) 94 = h 94 from E62)
                  have E181 : h173 95 = h 95 := Eq.trans (y175 95 (by decide)) (show (ov_up h58 90 7 ((h58 90 7) + 1)) 95 = h 95 from E63)
                  have fr182 : ∀ a : Int, a ≠ 90 ∧ (a < 97 ∨ 98 < a) → h173 a = h a := fun a ca => Eq.trans (y175 a (by omega)) (Eq.trans (by show (ov_up h58 90 7 ((h58 90 7) + 1)) a = h58 a; rw [ov_up_ne (by omega)]) (fr64 a ca))
                  have y176_ : ∀ k : Int, k ≠ 7 → k ≠ 8 → k ≠ 13 → (h173 90) k = ((ov_up h58 90 7 ((h58 90 7) + 1)) 90) k := y176
                  have rk183 : ∀ k : Int, k ≠ 7 → k ≠ 8 → k ≠ 13 → h173 90 k = h 90 k := fun k n0 n1 n2 => Eq.trans (y176_ k n0 n1 n2) (Eq.trans (by show (ov_up h58 90 7 ((h58 90 7) + 1)) 90 k = h58 90 k; rw [ov_up_j n0]) (rkl90 k n0 n1 n2))
                  have g184 : h173 90 2 = (h58 90 2) := y176_ 2 (by decide) (by decide) (by decide)
                  have g185 : h173 90 3 = (h58 90 3) := y176_ 3 (by decide) (by decide) (by decide)
                  have g186 : h173 90 15 = (h58 90 15) := y176_ 15 (by decide) (by decide) (by decide)
                  rcases y177 with f187 | ⟨w188, w189, f190, y191⟩ | ⟨w192, f193, y194⟩
                  · have q9 : (h58 90 8) ≠ 0 ∧ (h173 90 8) = (h58 90 8) ∧ (h173 90 13) = (h58 90 13) ∧ (h173 90 7) = ((h58 90 7) + 1) ∧ (h173 93 ((h173 90 7))) = (pt_nt t m (h 93 (h58 90 7))) := f187
                    omega
                  · skip
                    show ov_R u d ov_m228 45 [(0, ov_r 90), (1, ov_i dep), (2, ov_i 1)] [] z172 h173 (P_fMo_sums_90 F z h t m N p dep)
                    have f195 : (h58 90 8) = 0 ∧ (h173 90 8) = w188 ∧ 1 ≤ w188 ∧ (h58 90 13) ≤ (h173 90 13) ∧ (h173 90 13) - (h58 90 13) ≤ (h173 90 7) - ((h58 90 7) + 1) ∧ ((h58 90 7) + 1) ≤ (h173 90 7) ∧ (h173 90 7) ≤ N := f190
                    clear f190
                    have y191_ : pt_EV t m 1 dep (pt_nt t m (h 93 (h58 90 7))) w188 w189 := y191
                    refine ov_blk (ls2 := [(0, ov_r 90), (1, ov_i dep), (2, ov_i 1)]) (st2 := [ov_i 1, ov_r 90]) (pc2 := 47) b_228_45_2 rfl rfl ?_
                    refine ov_ifeq (tgt := 54) d_228_47 (by decide) (by omega) (fun c196 => ?_) (fun c196 => ?_)
                    · omega
                    · skip
                      refine ov_blk (ls2 := [(0, ov_r 90), (1, ov_i dep), (2, ov_i 1)]) (st2 := [ov_i 4, ov_r 90]) (pc2 := 51) b_228_50_1 rfl rfl ?_
                      refine ov_goto (tgt := 55) d_228_51 (by decide) ?_
                      refine ov_blk (ls2 := [(0, ov_r 90), (1, ov_i dep), (2, ov_i 1)]) (st2 := [ov_i 0, ov_i 4, ov_r 90]) (pc2 := 56) b_228_55_1 rfl rfl ?_
                      have cf197 : h173 93 ((h173 90 7)) = h 93 ((h173 90 7)) := congrFun E179 ((h173 90 7))
                      refine ov_cV (as := [ov_i 4, ov_i 0]) (st := []) (d2 := d - 1) d_228_56 lk_Mo_246 rfl (Nat.le_of_ble_eq_true rfl) (c := 1) (zb_90 I174) (zs_90 I174) ⟨by decide, rfl⟩ (by omega) (c_fMo_emit_90 (h173 93 (h173 90 7)) (d - 1) (by omega) U I174 4 0 (by omega) (by omega) (by show 0 ≤ (4 : Int) ∧ (4 : Int) ≤ 10; omega) (by show (h173 90 13) ≤ 999; omega) (by show (h173 93 ((h173 90 7))) = (h173 93 (h173 90 7)); omega)) ?_
                      rintro _ z198 h199 ⟨rfl, I200, y201, f202, y203⟩
                      have E204 : h199 92 = h 92 := Eq.trans (y201 92 (by decide)) (show h173 92 = h 92 from E178)
                      have E205 : h199 93 = h 93 := Eq.trans (y201 93 (by decide)) (show h173 93 = h 93 from E179)
                      have E206 : h199 94 = h 94 := Eq.trans (y201 94 (by decide)) (show h173 94 = h 94 from E180)
                      have E207 : h199 95 = h 95 := Eq.trans (y201 95 (by decide)) (show h173 95 = h 95 from E181)
                      have fr208 : ∀ a : Int, a ≠ 90 ∧ (a < 97 ∨ 98 < a) → h199 a = h a := fun a ca => Eq.trans (y201 a (by omega)) (fr182 a ca)
                      have f210 : (h199 90 13) = (h173 90 13) + 1 ∧ (h199 90 7) = (h173 90 7) ∧ (h199 90 8) = (h173 90 8) ∧ (h199 93 ((h199 90 7))) = (h173 93 (h173 90 7)) := f202
                      clear f202
                      have y203_ : ∀ k : Int, k ≠ 13 → (h199 90) k = (h173 90) k := y203
                      have rk209 : ∀ k : Int, k ≠ 7 → k ≠ 8 → k ≠ 13 → h199 90 k = h 90 k := fun k n0 n1 n2 => Eq.trans (y203_ k n2) (rk183 k n0 n1 n2)
                      have g211 : h199 90 2 = (h173 90 2) := y203_ 2 (by decide)
                      have g212 : h199 90 3 = (h173 90 3) := y203_ 3 (by decide)
                      have g213 : h199 90 7 = (h173 90 7) := y203_ 7 (by decide)
                      have g214 : h199 90 8 = (h173 90 8) := y203_ 8 (by decide)
                      have g215 : h199 90 15 = (h173 90 15) := y203_ 15 (by decide)
                      show ov_R u d ov_m228 59 [(0, ov_r 90), (1, ov_i dep), (2, ov_i 1)] [] z198 h199 (P_fMo_sums_90 F z h t m N p dep)
                      refine ov_goto (tgt := 5) d_228_59 (by decide) ?_
                      refine ov_blk (ls2 := [(0, ov_r 90), (1, ov_i dep), (2, ov_i 1)]) (st2 := [ov_i 43, ov_r 90]) (pc2 := 8) b_228_5_2 rfl rfl ?_
                      have cf216 : h199 93 ((h199 90 7)) = h 93 ((h199 90 7)) := congrFun E205 ((h199 90 7))
                      refine ov_cV (as := [ov_i 43]) (st := []) (d2 := d - 1) d_228_8 lk_Mo_183 rfl (Nat.le_of_ble_eq_true rfl) (c := 1) (zb_90 I200) (zs_90 I200) ⟨by decide, rfl⟩ (by omega) (c_fMo_isSign_90 t m N (h173 93 (h173 90 7)) (d - 1) (by omega) U I200 43 (by omega) (by show 0 ≤ (h199 90 7) ∧ (h199 90 7) ≤ N; omega) (by show (h199 93 ((h199 90 7))) = (h173 93 (h173 90 7)); omega) (by show 0 ≤ (h199 90 8); omega) (by show 0 ≤ (43 : Int) ∧ (43 : Int) ≤ 65535; omega) (by rw [show h199 92 = h 92 from E204, show h199 93 = h 93 from E205, show h199 94 = h 94 from E206]; exact mt)) ?_
                      rintro _ _ _ ⟨v217, rfl, rfl, rfl, y218⟩
                      rcases y218 with ⟨rfl, f219⟩ | ⟨rfl, f220⟩
                      · skip
                        show ov_R u d ov_m228 11 [(0, ov_r 90), (1, ov_i dep), (2, ov_i 1)] [ov_i 0] z198 h199 (P_fMo_sums_90 F z h t m N p dep)
                        have f221 : (h199 90 8) ≠ 0 ∨ pt_is t m (h173 93 (h173 90 7)) (43 : Int) = 0 := f219
                        clear f219
                        refine ov_ifne (tgt := 23) d_228_11 (by decide) (by omega) (fun c222 => ?_) (fun c222 => ?_)
                        · omega
                        · skip
                          refine ov_blk (ls2 := [(0, ov_r 90), (1, ov_i dep), (2, ov_i 1)]) (st2 := [ov_i 45, ov_r 90]) (pc2 := 17) b_228_14_2 rfl rfl ?_
                          refine ov_cV (as := [ov_i 45]) (st := []) (d2 := d - 1) d_228_17 lk_Mo_183 rfl (Nat.le_of_ble_eq_true rfl) (c := 1) (zb_90 I200) (zs_90 I200) ⟨by decide, rfl⟩ (by omega) (c_fMo_isSign_90 t m N (h173 93 (h173 90 7)) (d - 1) (by omega) U I200 45 (by omega) (by show 0 ≤ (h199 90 7) ∧ (h199 90 7) ≤ N; omega) (by show (h199 93 ((h199 90 7))) = (h173 93 (h173 90 7)); omega) (by show 0 ≤ (h199 90 8); omega) (by show 0 ≤ (45 : Int) ∧ (45 : Int) ≤ 65535; omega) (by rw [show h199 92 = h 92 from E204, show h199 93 = h 93 from E205, show h199 94 = h 94 from E206]; exact mt)) ?_
                          rintro _ _ _ ⟨v223, rfl, rfl, rfl, y224⟩
                          rcases y224 with ⟨rfl, f225⟩ | ⟨rfl, f226⟩
                          · skip
                            show ov_R u d ov_m228 20 [(0, ov_r 90), (1, ov_i dep), (2, ov_i 1)] [ov_i 0] z198 h199 (P_fMo_sums_90 F z h t m N p dep)
                            have f227 : (h199 90 8) ≠ 0 ∨ pt_is t m (h173 93 (h173 90 7)) (45 : Int) = 0 := f225
                            clear f225
                            refine ov_ifeq (tgt := 62) d_228_20 (by decide) (by omega) (fun c228 => ?_) (fun c228 => ?_)
                            · skip
                              exact ov_retv (st := []) d_228_62 rfl ⟨rfl, I200, (fun a ca => (fr208 a ca)), (fun k n0 n1 n2 => (rk209 k n0 n1 n2)), (Or.inr (Or.inl ⟨w188, w189, (by show (h 90 8) = 0 ∧ (h199 90 8) = w188 ∧ 1 ≤ w188 ∧ (h 90 13) ≤ (h199 90 13) ∧ (h199 90 13) - (h 90 13) ≤ (h199 90 7) - (h 90 7) ∧ (h 90 7) ≤ (h199 90 7) ∧ (h199 90 7) ≤ N; omega), (xc _ _ (pt_EV4_f (by omega) y191_ (by omega)))⟩))⟩
                            · omega
                          · omega
                      · omega
                  · skip
                    show ov_R u d ov_m228 45 [(0, ov_r 90), (1, ov_i dep), (2, ov_i 1)] [] z172 h173 (P_fMo_sums_90 F z h t m N p dep)
                    have f229 : (h58 90 8) = 0 ∧ (h173 90 8) = 0 ∧ (h58 90 13) ≤ (h173 90 13) ∧ (h173 90 13) - (h58 90 13) ≤ (h173 90 7) - ((h58 90 7) + 1) ∧ ((h58 90 7) + 1) ≤ (h173 90 7) ∧ (h173 90 7) ≤ N ∧ (h173 93 ((h173 90 7))) = w192 := f193
                    clear f193
                    have y194_ : pt_EV t m 1 dep (pt_nt t m (h 93 (h58 90 7))) 0 w192 := y194
                    refine ov_blk (ls2 := [(0, ov_r 90), (1, ov_i dep), (2, ov_i 1)]) (st2 := [ov_i 1, ov_r 90]) (pc2 := 47) b_228_45_2 rfl rfl ?_
                    refine ov_ifeq (tgt := 54) d_228_47 (by decide) (by omega) (fun c230 => ?_) (fun c230 => ?_)
                    · omega
                    · skip
                      refine ov_blk (ls2 := [(0, ov_r 90), (1, ov_i dep), (2, ov_i 1)]) (st2 := [ov_i 4, ov_r 90]) (pc2 := 51) b_228_50_1 rfl rfl ?_
                      refine ov_goto (tgt := 55) d_228_51 (by decide) ?_
                      refine ov_blk (ls2 := [(0, ov_r 90), (1, ov_i dep), (2, ov_i 1)]) (st2 := [ov_i 0, ov_i 4, ov_r 90]) (pc2 := 56) b_228_55_1 rfl rfl ?_
                      have cf231 : h173 93 ((h173 90 7)) = h 93 ((h173 90 7)) := congrFun E179 ((h173 90 7))
                      refine ov_cV (as := [ov_i 4, ov_i 0]) (st := []) (d2 := d - 1) d_228_56 lk_Mo_246 rfl (Nat.le_of_ble_eq_true rfl) (c := 1) (zb_90 I174) (zs_90 I174) ⟨by decide, rfl⟩ (by omega) (c_fMo_emit_90 w192 (d - 1) (by omega) U I174 4 0 (by omega) (by omega) (by show 0 ≤ (4 : Int) ∧ (4 : Int) ≤ 10; omega) (by show (h173 90 13) ≤ 999; omega) (by show (h173 93 ((h173 90 7))) = w192; omega)) ?_
                      rintro _ z232 h233 ⟨rfl, I234, y235, f236, y237⟩
                      have E238 : h233 92 = h 92 := Eq.trans (y235 92 (by decide)) (show h173 92 = h 92 from E178)
                      have E239 : h233 93 = h 93 := Eq.trans (y235 93 (by decide)) (show h173 93 = h 93 from E179)
                      have E240 : h233 94 = h 94 := Eq.trans (y235 94 (by decide)) (show h173 94 = h 94 from E180)
                      have E241 : h233 95 = h 95 := Eq.trans (y235 95 (by decide)) (show h173 95 = h 95 from E181)
                      have fr242 : ∀ a : Int, a ≠ 90 ∧ (a < 97 ∨ 98 < a) → h233 a = h a := fun a ca => Eq.trans (y235 a (by omega)) (fr182 a ca)
                      have f244 : (h233 90 13) = (h173 90 13) + 1 ∧ (h233 90 7) = (h173 90 7) ∧ (h233 90 8) = (h173 90 8) ∧ (h233 93 ((h233 90 7))) = w192 := f236
                      clear f236
                      have y237_ : ∀ k : Int, k ≠ 13 → (h233 90) k = (h173 90) k := y237
                      have rk243 : ∀ k : Int, k ≠ 7 → k ≠ 8 → k ≠ 13 → h233 90 k = h 90 k := fun k n0 n1 n2 => Eq.trans (y237_ k n2) (rk183 k n0 n1 n2)
                      have g245 : h233 90 2 = (h173 90 2) := y237_ 2 (by decide)
                      have g246 : h233 90 3 = (h173 90 3) := y237_ 3 (by decide)
                      have g247 : h233 90 7 = (h173 90 7) := y237_ 7 (by decide)
                      have g248 : h233 90 8 = (h173 90 8) := y237_ 8 (by decide)
                      have g249 : h233 90 15 = (h173 90 15) := y237_ 15 (by decide)
                      show ov_R u d ov_m228 59 [(0, ov_r 90), (1, ov_i dep), (2, ov_i 1)] [] z232 h233 (P_fMo_sums_90 F z h t m N p dep)
                      refine ov_goto (tgt := 5) d_228_59 (by decide) ?_
                      refine ov_sub (ls2 := [(0, ov_r 90), (1, ov_i dep)]) (List.Sublist.subset (by repeat (first | exact List.Sublist.refl _ | apply List.Sublist.cons_cons | apply List.Sublist.cons))) ?_
                      have cf250 : h233 93 (h233 90 7) = h 93 (h233 90 7) := congrFun (show h233 93 = h 93 from E239) _
                      exact ih54  _ _ I234 E238 E239 E240 E241 (fun a ca => (fr242 a ca)) (fun f q e => xc f q (pt_EV4 (by omega) y194_ (by rw [show h 93 (h233 90 7) = w192 by omega] at e; exact e))) (fun k n0 n1 n2 => (rk243 k n0 n1 n2)) (by show (h 90 8) = 0 ∧ (h233 90 8) = 0 ∧ (h 90 13) ≤ (h233 90 13) ∧ (h233 90 13) - (h 90 13) ≤ (h233 90 7) - (h 90 7) ∧ (h 90 7) ≤ (h233 90 7) ∧ (h233 90 7) ≤ N; omega) (by show 1000 - (h233 90 7) < _; omega)
        · skip
          show ov_R u d ov_m228 11 [(0, ov_r 90), (1, ov_i dep)] [ov_i 1] z57 h58 (P_fMo_sums_90 F z h t m N p dep)
          have f251 : (h58 90 8) = 0 ∧ pt_is t m (h 93 (h58 90 7)) (43 : Int) = 1 ∧ pt_ty t m (h 93 (h58 90 7)) = 4 := f70
          clear f70
          refine ov_ifne (tgt := 23) d_228_11 (by decide) (by omega) (fun c252 => ?_) (fun c252 => ?_)
          · skip
            refine ov_blk (ls2 := [(0, ov_r 90), (1, ov_i dep)]) (st2 := [ov_i 43, ov_r 90]) (pc2 := 26) b_228_23_2 rfl rfl ?_
            refine ov_cV (as := [ov_i 43]) (st := []) (d2 := d - 1) d_228_26 lk_Mo_183 rfl (Nat.le_of_ble_eq_true rfl) (c := 1) (zb_90 I59) (zs_90 I59) ⟨by decide, rfl⟩ (by omega) (c_fMo_isSign_90 t m N (h 93 (h58 90 7)) (d - 1) (by omega) U I59 43 (by omega) (by show 0 ≤ (h58 90 7) ∧ (h58 90 7) ≤ N; omega) (by show (h58 93 ((h58 90 7))) = (h 93 (h58 90 7)); omega) (by show 0 ≤ (h58 90 8); omega) (by show 0 ≤ (43 : Int) ∧ (43 : Int) ≤ 65535; omega) (by rw [show h58 92 = h 92 from E60, show h58 93 = h 93 from E61, show h58 94 = h 94 from E62]; exact mt)) ?_
            rintro _ _ _ ⟨v253, rfl, rfl, rfl, y254⟩
            rcases y254 with ⟨rfl, f255⟩ | ⟨rfl, f256⟩
            · skip
              show ov_R u d ov_m228 29 [(0, ov_r 90), (1, ov_i dep)] [ov_i 0] z57 h58 (P_fMo_sums_90 F z h t m N p dep)
              have f257 : (h58 90 8) ≠ 0 ∨ pt_is t m (h 93 (h58 90 7)) (43 : Int) = 0 := f255
              clear f255
              refine ov_blk (ls2 := [(0, ov_r 90), (1, ov_i dep), (2, ov_i 0)]) (st2 := [ov_r 90, ov_r 90]) (pc2 := 32) b_228_29_3 rfl rfl ?_
              refine ov_getf (v := ov_i (h58 90 7)) d_228_32 fl_Mo_177 (zb_90 I59) (zs_90 I59) rfl ?_
              have g258 := rg_90_7 I59
              refine ov_blk (ls2 := [(0, ov_r 90), (1, ov_i dep), (2, ov_i 0)]) (st2 := [ov_i ((h58 90 7) + 1), ov_r 90]) (pc2 := 37) b_228_35_2 rfl rfl ?_
              have pp : h 93 (h58 90 7) = (h 93 (h58 90 7)) := Eq.trans (congrFun (show h 93 = h58 93 from (E61).symm) _) (by show h58 93 (h58 90 7) = (h 93 (h58 90 7)); omega)
              have kn := pt_MT_lt mt (k := h58 90 7) ⟨by omega, by omega⟩ (by rw [pp]; omega)
              have mn := pt_MT_nx mt (k := h58 90 7) ⟨by omega, by omega⟩
              rw [pp] at mn
              have mq : h58 93 (h58 90 7 + 1) = pt_nt t m (h 93 (h58 90 7)) := Eq.trans (congrFun (show h58 93 = h 93 from E61) _) mn
              refine ov_putf (x := ((h58 90 7) + 1)) d_228_37 fl_Mo_177 (zb_90 I59) (zs_90 I59) rfl nk_0 rfl ?_
              have I259 := up_90_7 (x := ((h58 90 7) + 1)) I59 (by omega)
              show ov_R u d ov_m228 40 [(0, ov_r 90), (1, ov_i dep), (2, ov_i 0)] [] z57 (ov_up h58 90 7 ((h58 90 7) + 1)) (P_fMo_sums_90 F z h t m N p dep)
              refine ov_blk (ls2 := [(0, ov_r 90), (1, ov_i dep), (2, ov_i 0)]) (st2 := [ov_i dep, ov_r 90]) (pc2 := 42) b_228_40_2 rfl rfl ?_
              have cf260 : h58 93 (((h58 90 7) + 1)) = h 93 (((h58 90 7) + 1)) := congrFun E61 (((h58 90 7) + 1))
              refine ov_cV (as := [ov_i dep]) (st := []) (d2 := d - 1) d_228_42 lk_Mo_266 rfl (Nat.le_of_ble_eq_true rfl) (c := 1) (zb_90 I259) (zs_90 I259) ⟨by decide, rfl⟩ (by omega) (c_fMo_products_90 t m N (pt_nt t m (h 93 (h58 90 7))) k HE HP (d - 1) (by omega) U I259 dep (by omega) (by show 0 ≤ ((h58 90 7) + 1) ∧ ((h58 90 7) + 1) ≤ N; omega) (by show (h58 93 (((h58 90 7) + 1))) = (pt_nt t m (h 93 (h58 90 7))); omega) (by show 0 ≤ (h58 90 8); omega) (by show 0 ≤ dep ∧ dep + (k : Int) = 5; omega) (by show 0 ≤ (h58 90 13) ∧ (h58 90 13) ≤ ((h58 90 7) + 1); omega) (by rw [show (ov_up h58 90 7 ((h58 90 7) + 1)) 92 = h 92 from E60, show (ov_up h58 90 7 ((h58 90 7) + 1)) 93 = h 93 from E61, show (ov_up h58 90 7 ((h58 90 7) + 1)) 94 = h 94 from E62]; exact mt) (by rw [show (ov_up h58 90 7 ((h58 90 7) + 1)) 95 = h 95 from E63]; exact wd)) ?_
              rintro _ z261 h262 ⟨rfl, I263, y264, y265, y266⟩
              have E267 : h262 92 = h 92 := Eq.trans (y264 92 (by decide)) (show (ov_up h58 90 7 ((h58 90 7) + 1)) 92 = h 92 from E60)
              have E268 : h262 93 = h 93 := Eq.trans (y264 93 (by decide)) (show (ov_up h58 90 7 ((h58 90 7) + 1)) 93 = h 93 from E61)
              have E269 : h262 94 = h 94 := Eq.trans (y264 94 (by decide)) (show (ov_up h58 90 7 ((h58 90 7) + 1)) 94 = h 94 from E62)
              have E270 : h262 95 = h 95 := Eq.trans (y264 95 (by decide)) (show (ov_up h58 90 7 ((h58 90 7) + 1)) 95 = h 95 from E63)
              have fr271 : ∀ a : Int, a ≠ 90 ∧ (a < 97 ∨ 98 < a) → h262 a = h a := fun a ca => Eq.trans (y264 a (by omega)) (Eq.trans (by show (ov_up h58 90 7 ((h58 90 7) + 1)) a = h58 a; rw [ov_up_ne (by omega)]) (fr64 a ca))
              have y265_ : ∀ k : Int, k ≠ 7 → k ≠ 8 → k ≠ 13 → (h262 90) k = ((ov_up h58 90 7 ((h58 90 7) + 1)) 90) k := y265
              have rk272 : ∀ k : Int, k ≠ 7 → k ≠ 8 → k ≠ 13 → h262 90 k = h 90 k := fun k n0 n1 n2 => Eq.trans (y265_ k n0 n1 n2) (Eq.trans (by show (ov_up h58 90 7 ((h58 90 7) + 1)) 90 k = h58 90 k; rw [ov_up_j n0]) (rkl90 k n0 n1 n2))
              have g273 : h262 90 2 = (h58 90 2) := y265_ 2 (by decide) (by decide) (by decide)
              have g274 : h262 90 3 = (h58 90 3) := y265_ 3 (by decide) (by decide) (by decide)
              have g275 : h262 90 15 = (h58 90 15) := y265_ 15 (by decide) (by decide) (by decide)
              rcases y266 with f276 | ⟨w277, w278, f279, y280⟩ | ⟨w281, f282, y283⟩
              · have q9 : (h58 90 8) ≠ 0 ∧ (h262 90 8) = (h58 90 8) ∧ (h262 90 13) = (h58 90 13) ∧ (h262 90 7) = ((h58 90 7) + 1) ∧ (h262 93 ((h262 90 7))) = (pt_nt t m (h 93 (h58 90 7))) := f276
                omega
              · skip
                show ov_R u d ov_m228 45 [(0, ov_r 90), (1, ov_i dep), (2, ov_i 0)] [] z261 h262 (P_fMo_sums_90 F z h t m N p dep)
                have f284 : (h58 90 8) = 0 ∧ (h262 90 8) = w277 ∧ 1 ≤ w277 ∧ (h58 90 13) ≤ (h262 90 13) ∧ (h262 90 13) - (h58 90 13) ≤ (h262 90 7) - ((h58 90 7) + 1) ∧ ((h58 90 7) + 1) ≤ (h262 90 7) ∧ (h262 90 7) ≤ N := f279
                clear f279
                have y280_ : pt_EV t m 1 dep (pt_nt t m (h 93 (h58 90 7))) w277 w278 := y280
                refine ov_blk (ls2 := [(0, ov_r 90), (1, ov_i dep), (2, ov_i 0)]) (st2 := [ov_i 0, ov_r 90]) (pc2 := 47) b_228_45_2 rfl rfl ?_
                refine ov_ifeq (tgt := 54) d_228_47 (by decide) (by omega) (fun c285 => ?_) (fun c285 => ?_)
                · skip
                  refine ov_blk (ls2 := [(0, ov_r 90), (1, ov_i dep), (2, ov_i 0)]) (st2 := [ov_i 0, ov_i 5, ov_r 90]) (pc2 := 56) b_228_54_2 rfl rfl ?_
                  have cf286 : h262 93 ((h262 90 7)) = h 93 ((h262 90 7)) := congrFun E268 ((h262 90 7))
                  refine ov_cV (as := [ov_i 5, ov_i 0]) (st := []) (d2 := d - 1) d_228_56 lk_Mo_246 rfl (Nat.le_of_ble_eq_true rfl) (c := 1) (zb_90 I263) (zs_90 I263) ⟨by decide, rfl⟩ (by omega) (c_fMo_emit_90 (h262 93 (h262 90 7)) (d - 1) (by omega) U I263 5 0 (by omega) (by omega) (by show 0 ≤ (5 : Int) ∧ (5 : Int) ≤ 10; omega) (by show (h262 90 13) ≤ 999; omega) (by show (h262 93 ((h262 90 7))) = (h262 93 (h262 90 7)); omega)) ?_
                  rintro _ z287 h288 ⟨rfl, I289, y290, f291, y292⟩
                  have E293 : h288 92 = h 92 := Eq.trans (y290 92 (by decide)) (show h262 92 = h 92 from E267)
                  have E294 : h288 93 = h 93 := Eq.trans (y290 93 (by decide)) (show h262 93 = h 93 from E268)
                  have E295 : h288 94 = h 94 := Eq.trans (y290 94 (by decide)) (show h262 94 = h 94 from E269)
                  have E296 : h288 95 = h 95 := Eq.trans (y290 95 (by decide)) (show h262 95 = h 95 from E270)
                  have fr297 : ∀ a : Int, a ≠ 90 ∧ (a < 97 ∨ 98 < a) → h288 a = h a := fun a ca => Eq.trans (y290 a (by omega)) (fr271 a ca)
                  have f299 : (h288 90 13) = (h262 90 13) + 1 ∧ (h288 90 7) = (h262 90 7) ∧ (h288 90 8) = (h262 90 8) ∧ (h288 93 ((h288 90 7))) = (h262 93 (h262 90 7)) := f291
                  clear f291
                  have y292_ : ∀ k : Int, k ≠ 13 → (h288 90) k = (h262 90) k := y292
                  have rk298 : ∀ k : Int, k ≠ 7 → k ≠ 8 → k ≠ 13 → h288 90 k = h 90 k := fun k n0 n1 n2 => Eq.trans (y292_ k n2) (rk272 k n0 n1 n2)
                  have g300 : h288 90 2 = (h262 90 2) := y292_ 2 (by decide)
                  have g301 : h288 90 3 = (h262 90 3) := y292_ 3 (by decide)
                  have g302 : h288 90 7 = (h262 90 7) := y292_ 7 (by decide)
                  have g303 : h288 90 8 = (h262 90 8) := y292_ 8 (by decide)
                  have g304 : h288 90 15 = (h262 90 15) := y292_ 15 (by decide)
                  show ov_R u d ov_m228 59 [(0, ov_r 90), (1, ov_i dep), (2, ov_i 0)] [] z287 h288 (P_fMo_sums_90 F z h t m N p dep)
                  refine ov_goto (tgt := 5) d_228_59 (by decide) ?_
                  refine ov_blk (ls2 := [(0, ov_r 90), (1, ov_i dep), (2, ov_i 0)]) (st2 := [ov_i 43, ov_r 90]) (pc2 := 8) b_228_5_2 rfl rfl ?_
                  have cf305 : h288 93 ((h288 90 7)) = h 93 ((h288 90 7)) := congrFun E294 ((h288 90 7))
                  refine ov_cV (as := [ov_i 43]) (st := []) (d2 := d - 1) d_228_8 lk_Mo_183 rfl (Nat.le_of_ble_eq_true rfl) (c := 1) (zb_90 I289) (zs_90 I289) ⟨by decide, rfl⟩ (by omega) (c_fMo_isSign_90 t m N (h262 93 (h262 90 7)) (d - 1) (by omega) U I289 43 (by omega) (by show 0 ≤ (h288 90 7) ∧ (h288 90 7) ≤ N; omega) (by show (h288 93 ((h288 90 7))) = (h262 93 (h262 90 7)); omega) (by show 0 ≤ (h288 90 8); omega) (by show 0 ≤ (43 : Int) ∧ (43 : Int) ≤ 65535; omega) (by rw [show h288 92 = h 92 from E293, show h288 93 = h 93 from E294, show h288 94 = h 94 from E295]; exact mt)) ?_
                  rintro _ _ _ ⟨v306, rfl, rfl, rfl, y307⟩
                  rcases y307 with ⟨rfl, f308⟩ | ⟨rfl, f309⟩
                  · skip
                    show ov_R u d ov_m228 11 [(0, ov_r 90), (1, ov_i dep), (2, ov_i 0)] [ov_i 0] z287 h288 (P_fMo_sums_90 F z h t m N p dep)
                    have f310 : (h288 90 8) ≠ 0 ∨ pt_is t m (h262 93 (h262 90 7)) (43 : Int) = 0 := f308
                    clear f308
                    refine ov_ifne (tgt := 23) d_228_11 (by decide) (by omega) (fun c311 => ?_) (fun c311 => ?_)
                    · omega
                    · skip
                      refine ov_blk (ls2 := [(0, ov_r 90), (1, ov_i dep), (2, ov_i 0)]) (st2 := [ov_i 45, ov_r 90]) (pc2 := 17) b_228_14_2 rfl rfl ?_
                      refine ov_cV (as := [ov_i 45]) (st := []) (d2 := d - 1) d_228_17 lk_Mo_183 rfl (Nat.le_of_ble_eq_true rfl) (c := 1) (zb_90 I289) (zs_90 I289) ⟨by decide, rfl⟩ (by omega) (c_fMo_isSign_90 t m N (h262 93 (h262 90 7)) (d - 1) (by omega) U I289 45 (by omega) (by show 0 ≤ (h288 90 7) ∧ (h288 90 7) ≤ N; omega) (by show (h288 93 ((h288 90 7))) = (h262 93 (h262 90 7)); omega) (by show 0 ≤ (h288 90 8); omega) (by show 0 ≤ (45 : Int) ∧ (45 : Int) ≤ 65535; omega) (by rw [show h288 92 = h 92 from E293, show h288 93 = h 93 from E294, show h288 94 = h 94 from E295]; exact mt)) ?_
                      rintro _ _ _ ⟨v312, rfl, rfl, rfl, y313⟩
                      rcases y313 with ⟨rfl, f314⟩ | ⟨rfl, f315⟩
                      · skip
                        show ov_R u d ov_m228 20 [(0, ov_r 90), (1, ov_i dep), (2, ov_i 0)] [ov_i 0] z287 h288 (P_fMo_sums_90 F z h t m N p dep)
                        have f316 : (h288 90 8) ≠ 0 ∨ pt_is t m (h262 93 (h262 90 7)) (45 : Int) = 0 := f314
                        clear f314
                        refine ov_ifeq (tgt := 62) d_228_20 (by decide) (by omega) (fun c317 => ?_) (fun c317 => ?_)
                        · skip
                          exact ov_retv (st := []) d_228_62 rfl ⟨rfl, I289, (fun a ca => (fr297 a ca)), (fun k n0 n1 n2 => (rk298 k n0 n1 n2)), (Or.inr (Or.inl ⟨w277, w278, (by show (h 90 8) = 0 ∧ (h288 90 8) = w277 ∧ 1 ≤ w277 ∧ (h 90 13) ≤ (h288 90 13) ∧ (h288 90 13) - (h 90 13) ≤ (h288 90 7) - (h 90 7) ∧ (h 90 7) ≤ (h288 90 7) ∧ (h288 90 7) ≤ N; omega), (xc _ _ (pt_EV4_f (by omega) y280_ (by omega)))⟩))⟩
                        · omega
                      · omega
                  · omega
                · omega
              · skip
                show ov_R u d ov_m228 45 [(0, ov_r 90), (1, ov_i dep), (2, ov_i 0)] [] z261 h262 (P_fMo_sums_90 F z h t m N p dep)
                have f318 : (h58 90 8) = 0 ∧ (h262 90 8) = 0 ∧ (h58 90 13) ≤ (h262 90 13) ∧ (h262 90 13) - (h58 90 13) ≤ (h262 90 7) - ((h58 90 7) + 1) ∧ ((h58 90 7) + 1) ≤ (h262 90 7) ∧ (h262 90 7) ≤ N ∧ (h262 93 ((h262 90 7))) = w281 := f282
                clear f282
                have y283_ : pt_EV t m 1 dep (pt_nt t m (h 93 (h58 90 7))) 0 w281 := y283
                refine ov_blk (ls2 := [(0, ov_r 90), (1, ov_i dep), (2, ov_i 0)]) (st2 := [ov_i 0, ov_r 90]) (pc2 := 47) b_228_45_2 rfl rfl ?_
                refine ov_ifeq (tgt := 54) d_228_47 (by decide) (by omega) (fun c319 => ?_) (fun c319 => ?_)
                · skip
                  refine ov_blk (ls2 := [(0, ov_r 90), (1, ov_i dep), (2, ov_i 0)]) (st2 := [ov_i 0, ov_i 5, ov_r 90]) (pc2 := 56) b_228_54_2 rfl rfl ?_
                  have cf320 : h262 93 ((h262 90 7)) = h 93 ((h262 90 7)) := congrFun E268 ((h262 90 7))
                  refine ov_cV (as := [ov_i 5, ov_i 0]) (st := []) (d2 := d - 1) d_228_56 lk_Mo_246 rfl (Nat.le_of_ble_eq_true rfl) (c := 1) (zb_90 I263) (zs_90 I263) ⟨by decide, rfl⟩ (by omega) (c_fMo_emit_90 w281 (d - 1) (by omega) U I263 5 0 (by omega) (by omega) (by show 0 ≤ (5 : Int) ∧ (5 : Int) ≤ 10; omega) (by show (h262 90 13) ≤ 999; omega) (by show (h262 93 ((h262 90 7))) = w281; omega)) ?_
                  rintro _ z321 h322 ⟨rfl, I323, y324, f325, y326⟩
                  have E327 : h322 92 = h 92 := Eq.trans (y324 92 (by decide)) (show h262 92 = h 92 from E267)
                  have E328 : h322 93 = h 93 := Eq.trans (y324 93 (by decide)) (show h262 93 = h 93 from E268)
                  have E329 : h322 94 = h 94 := Eq.trans (y324 94 (by decide)) (show h262 94 = h 94 from E269)
                  have E330 : h322 95 = h 95 := Eq.trans (y324 95 (by decide)) (show h262 95 = h 95 from E270)
                  have fr331 : ∀ a : Int, a ≠ 90 ∧ (a < 97 ∨ 98 < a) → h322 a = h a := fun a ca => Eq.trans (y324 a (by omega)) (fr271 a ca)
                  have f333 : (h322 90 13) = (h262 90 13) + 1 ∧ (h322 90 7) = (h262 90 7) ∧ (h322 90 8) = (h262 90 8) ∧ (h322 93 ((h322 90 7))) = w281 := f325
                  clear f325
                  have y326_ : ∀ k : Int, k ≠ 13 → (h322 90) k = (h262 90) k := y326
                  have rk332 : ∀ k : Int, k ≠ 7 → k ≠ 8 → k ≠ 13 → h322 90 k = h 90 k := fun k n0 n1 n2 => Eq.trans (y326_ k n2) (rk272 k n0 n1 n2)
                  have g334 : h322 90 2 = (h262 90 2) := y326_ 2 (by decide)
                  have g335 : h322 90 3 = (h262 90 3) := y326_ 3 (by decide)
                  have g336 : h322 90 7 = (h262 90 7) := y326_ 7 (by decide)
                  have g337 : h322 90 8 = (h262 90 8) := y326_ 8 (by decide)
                  have g338 : h322 90 15 = (h262 90 15) := y326_ 15 (by decide)
                  show ov_R u d ov_m228 59 [(0, ov_r 90), (1, ov_i dep), (2, ov_i 0)] [] z321 h322 (P_fMo_sums_90 F z h t m N p dep)
                  refine ov_goto (tgt := 5) d_228_59 (by decide) ?_
                  refine ov_sub (ls2 := [(0, ov_r 90), (1, ov_i dep)]) (List.Sublist.subset (by repeat (first | exact List.Sublist.refl _ | apply List.Sublist.cons_cons | apply List.Sublist.cons))) ?_
                  have cf339 : h322 93 (h322 90 7) = h 93 (h322 90 7) := congrFun (show h322 93 = h 93 from E328) _
                  exact ih54  _ _ I323 E327 E328 E329 E330 (fun a ca => (fr331 a ca)) (fun f q e => xc f q (pt_EV4 (by omega) y283_ (by rw [show h 93 (h322 90 7) = w281 by omega] at e; exact e))) (fun k n0 n1 n2 => (rk332 k n0 n1 n2)) (by show (h 90 8) = 0 ∧ (h322 90 8) = 0 ∧ (h 90 13) ≤ (h322 90 13) ∧ (h322 90 13) - (h 90 13) ≤ (h322 90 7) - (h 90 7) ∧ (h 90 7) ≤ (h322 90 7) ∧ (h322 90 7) ≤ N; omega) (by show 1000 - (h322 90 7) < _; omega)
                · omega
            · skip
              show ov_R u d ov_m228 29 [(0, ov_r 90), (1, ov_i dep)] [ov_i 1] z57 h58 (P_fMo_sums_90 F z h t m N p dep)
              have f340 : (h58 90 8) = 0 ∧ pt_is t m (h 93 (h58 90 7)) (43 : Int) = 1 ∧ pt_ty t m (h 93 (h58 90 7)) = 4 := f256
              clear f256
              refine ov_blk (ls2 := [(0, ov_r 90), (1, ov_i dep), (2, ov_i 1)]) (st2 := [ov_r 90, ov_r 90]) (pc2 := 32) b_228_29_3 rfl rfl ?_
              refine ov_getf (v := ov_i (h58 90 7)) d_228_32 fl_Mo_177 (zb_90 I59) (zs_90 I59) rfl ?_
              have g341 := rg_90_7 I59
              refine ov_blk (ls2 := [(0, ov_r 90), (1, ov_i dep), (2, ov_i 1)]) (st2 := [ov_i ((h58 90 7) + 1), ov_r 90]) (pc2 := 37) b_228_35_2 rfl rfl ?_
              have pp : h 93 (h58 90 7) = (h 93 (h58 90 7)) := Eq.trans (congrFun (show h 93 = h58 93 from (E61).symm) _) (by show h58 93 (h58 90 7) = (h 93 (h58 90 7)); omega)
              have kn := pt_MT_lt mt (k := h58 90 7) ⟨by omega, by omega⟩ (by rw [pp]; omega)
              have mn := pt_MT_nx mt (k := h58 90 7) ⟨by omega, by omega⟩
              rw [pp] at mn
              have mq : h58 93 (h58 90 7 + 1) = pt_nt t m (h 93 (h58 90 7)) := Eq.trans (congrFun (show h58 93 = h 93 from E61) _) mn
              refine ov_putf (x := ((h58 90 7) + 1)) d_228_37 fl_Mo_177 (zb_90 I59) (zs_90 I59) rfl nk_0 rfl ?_
              have I342 := up_90_7 (x := ((h58 90 7) + 1)) I59 (by omega)
              show ov_R u d ov_m228 40 [(0, ov_r 90), (1, ov_i dep), (2, ov_i 1)] [] z57 (ov_up h58 90 7 ((h58 90 7) + 1)) (P_fMo_sums_90 F z h t m N p dep)
              refine ov_blk (ls2 := [(0, ov_r 90), (1, ov_i dep), (2, ov_i 1)]) (st2 := [ov_i dep, ov_r 90]) (pc2 := 42) b_228_40_2 rfl rfl ?_
              have cf343 : h58 93 (((h58 90 7) + 1)) = h 93 (((h58 90 7) + 1)) := congrFun E61 (((h58 90 7) + 1))
              refine ov_cV (as := [ov_i dep]) (st := []) (d2 := d - 1) d_228_42 lk_Mo_266 rfl (Nat.le_of_ble_eq_true rfl) (c := 1) (zb_90 I342) (zs_90 I342) ⟨by decide, rfl⟩ (by omega) (c_fMo_products_90 t m N (pt_nt t m (h 93 (h58 90 7))) k HE HP (d - 1) (by omega) U I342 dep (by omega) (by show 0 ≤ ((h58 90 7) + 1) ∧ ((h58 90 7) + 1) ≤ N; omega) (by show (h58 93 (((h58 90 7) + 1))) = (pt_nt t m (h 93 (h58 90 7))); omega) (by show 0 ≤ (h58 90 8); omega) (by show 0 ≤ dep ∧ dep + (k : Int) = 5; omega) (by show 0 ≤ (h58 90 13) ∧ (h58 90 13) ≤ ((h58 90 7) + 1); omega) (by rw [show (ov_up h58 90 7 ((h58 90 7) + 1)) 92 = h 92 from E60, show (ov_up h58 90 7 ((h58 90 7) + 1)) 93 = h 93 from E61, show (ov_up h58 90 7 ((h58 90 7) + 1)) 94 = h 94 from E62]; exact mt) (by rw [show (ov_up h58 90 7 ((h58 90 7) + 1)) 95 = h 95 from E63]; exact wd)) ?_
              rintro _ z344 h345 ⟨rfl, I346, y347, y348, y349⟩
              have E350 : h345 92 = h 92 := Eq.trans (y347 92 (by decide)) (show (ov_up h58 90 7 ((h58 90 7) + 1)) 92 = h 92 from E60)
              have E351 : h345 93 = h 93 := Eq.trans (y347 93 (by decide)) (show (ov_up h58 90 7 ((h58 90 7) + 1)) 93 = h 93 from E61)
              have E352 : h345 94 = h 94 := Eq.trans (y347 94 (by decide)) (show (ov_up h58 90 7 ((h58 90 7) + 1)) 94 = h 94 from E62)
              have E353 : h345 95 = h 95 := Eq.trans (y347 95 (by decide)) (show (ov_up h58 90 7 ((h58 90 7) + 1)) 95 = h 95 from E63)
              have fr354 : ∀ a : Int, a ≠ 90 ∧ (a < 97 ∨ 98 < a) → h345 a = h a := fun a ca => Eq.trans (y347 a (by omega)) (Eq.trans (by show (ov_up h58 90 7 ((h58 90 7) + 1)) a = h58 a; rw [ov_up_ne (by omega)]) (fr64 a ca))
              have y348_ : ∀ k : Int, k ≠ 7 → k ≠ 8 → k ≠ 13 → (h345 90) k = ((ov_up h58 90 7 ((h58 90 7) + 1)) 90) k := y348
              have rk355 : ∀ k : Int, k ≠ 7 → k ≠ 8 → k ≠ 13 → h345 90 k = h 90 k := fun k n0 n1 n2 => Eq.trans (y348_ k n0 n1 n2) (Eq.trans (by show (ov_up h58 90 7 ((h58 90 7) + 1)) 90 k = h58 90 k; rw [ov_up_j n0]) (rkl90 k n0 n1 n2))
              have g356 : h345 90 2 = (h58 90 2) := y348_ 2 (by decide) (by decide) (by decide)
              have g357 : h345 90 3 = (h58 90 3) := y348_ 3 (by decide) (by decide) (by decide)
              have g358 : h345 90 15 = (h58 90 15) := y348_ 15 (by decide) (by decide) (by decide)
              rcases y349 with f359 | ⟨w360, w361, f362, y363⟩ | ⟨w364, f365, y366⟩
              · have q9 : (h58 90 8) ≠ 0 ∧ (h345 90 8) = (h58 90 8) ∧ (h345 90 13) = (h58 90 13) ∧ (h345 90 7) = ((h58 90 7) + 1) ∧ (h345 93 ((h345 90 7))) = (pt_nt t m (h 93 (h58 90 7))) := f359
                omega
              · skip
                show ov_R u d ov_m228 45 [(0, ov_r 90), (1, ov_i dep), (2, ov_i 1)] [] z344 h345 (P_fMo_sums_90 F z h t m N p dep)
                have f367 : (h58 90 8) = 0 ∧ (h345 90 8) = w360 ∧ 1 ≤ w360 ∧ (h58 90 13) ≤ (h345 90 13) ∧ (h345 90 13) - (h58 90 13) ≤ (h345 90 7) - ((h58 90 7) + 1) ∧ ((h58 90 7) + 1) ≤ (h345 90 7) ∧ (h345 90 7) ≤ N := f362
                clear f362
                have y363_ : pt_EV t m 1 dep (pt_nt t m (h 93 (h58 90 7))) w360 w361 := y363
                refine ov_blk (ls2 := [(0, ov_r 90), (1, ov_i dep), (2, ov_i 1)]) (st2 := [ov_i 1, ov_r 90]) (pc2 := 47) b_228_45_2 rfl rfl ?_
                refine ov_ifeq (tgt := 54) d_228_47 (by decide) (by omega) (fun c368 => ?_) (fun c368 => ?_)
                · omega
                · skip
                  refine ov_blk (ls2 := [(0, ov_r 90), (1, ov_i dep), (2, ov_i 1)]) (st2 := [ov_i 4, ov_r 90]) (pc2 := 51) b_228_50_1 rfl rfl ?_
                  refine ov_goto (tgt := 55) d_228_51 (by decide) ?_
                  refine ov_blk (ls2 := [(0, ov_r 90), (1, ov_i dep), (2, ov_i 1)]) (st2 := [ov_i 0, ov_i 4, ov_r 90]) (pc2 := 56) b_228_55_1 rfl rfl ?_
                  have cf369 : h345 93 ((h345 90 7)) = h 93 ((h345 90 7)) := congrFun E351 ((h345 90 7))
                  refine ov_cV (as := [ov_i 4, ov_i 0]) (st := []) (d2 := d - 1) d_228_56 lk_Mo_246 rfl (Nat.le_of_ble_eq_true rfl) (c := 1) (zb_90 I346) (zs_90 I346) ⟨by decide, rfl⟩ (by omega) (c_fMo_emit_90 (h345 93 (h345 90 7)) (d - 1) (by omega) U I346 4 0 (by omega) (by omega) (by show 0 ≤ (4 : Int) ∧ (4 : Int) ≤ 10; omega) (by show (h345 90 13) ≤ 999; omega) (by show (h345 93 ((h345 90 7))) = (h345 93 (h345 90 7)); omega)) ?_
                  rintro _ z370 h371 ⟨rfl, I372, y373, f374, y375⟩
                  have E376 : h371 92 = h 92 := Eq.trans (y373 92 (by decide)) (show h345 92 = h 92 from E350)
                  have E377 : h371 93 = h 93 := Eq.trans (y373 93 (by decide)) (show h345 93 = h 93 from E351)
                  have E378 : h371 94 = h 94 := Eq.trans (y373 94 (by decide)) (show h345 94 = h 94 from E352)
                  have E379 : h371 95 = h 95 := Eq.trans (y373 95 (by decide)) (show h345 95 = h 95 from E353)
                  have fr380 : ∀ a : Int, a ≠ 90 ∧ (a < 97 ∨ 98 < a) → h371 a = h a := fun a ca => Eq.trans (y373 a (by omega)) (fr354 a ca)
                  have f382 : (h371 90 13) = (h345 90 13) + 1 ∧ (h371 90 7) = (h345 90 7) ∧ (h371 90 8) = (h345 90 8) ∧ (h371 93 ((h371 90 7))) = (h345 93 (h345 90 7)) := f374
                  clear f374
                  have y375_ : ∀ k : Int, k ≠ 13 → (h371 90) k = (h345 90) k := y375
                  have rk381 : ∀ k : Int, k ≠ 7 → k ≠ 8 → k ≠ 13 → h371 90 k = h 90 k := fun k n0 n1 n2 => Eq.trans (y375_ k n2) (rk355 k n0 n1 n2)
                  have g383 : h371 90 2 = (h345 90 2) := y375_ 2 (by decide)
                  have g384 : h371 90 3 = (h345 90 3) := y375_ 3 (by decide)
                  have g385 : h371 90 7 = (h345 90 7) := y375_ 7 (by decide)
                  have g386 : h371 90 8 = (h345 90 8) := y375_ 8 (by decide)
                  have g387 : h371 90 15 = (h345 90 15) := y375_ 15 (by decide)
                  show ov_R u d ov_m228 59 [(0, ov_r 90), (1, ov_i dep), (2, ov_i 1)] [] z370 h371 (P_fMo_sums_90 F z h t m N p dep)
                  refine ov_goto (tgt := 5) d_228_59 (by decide) ?_
                  refine ov_blk (ls2 := [(0, ov_r 90), (1, ov_i dep), (2, ov_i 1)]) (st2 := [ov_i 43, ov_r 90]) (pc2 := 8) b_228_5_2 rfl rfl ?_
                  have cf388 : h371 93 ((h371 90 7)) = h 93 ((h371 90 7)) := congrFun E377 ((h371 90 7))
                  refine ov_cV (as := [ov_i 43]) (st := []) (d2 := d - 1) d_228_8 lk_Mo_183 rfl (Nat.le_of_ble_eq_true rfl) (c := 1) (zb_90 I372) (zs_90 I372) ⟨by decide, rfl⟩ (by omega) (c_fMo_isSign_90 t m N (h345 93 (h345 90 7)) (d - 1) (by omega) U I372 43 (by omega) (by show 0 ≤ (h371 90 7) ∧ (h371 90 7) ≤ N; omega) (by show (h371 93 ((h371 90 7))) = (h345 93 (h345 90 7)); omega) (by show 0 ≤ (h371 90 8); omega) (by show 0 ≤ (43 : Int) ∧ (43 : Int) ≤ 65535; omega) (by rw [show h371 92 = h 92 from E376, show h371 93 = h 93 from E377, show h371 94 = h 94 from E378]; exact mt)) ?_
                  rintro _ _ _ ⟨v389, rfl, rfl, rfl, y390⟩
                  rcases y390 with ⟨rfl, f391⟩ | ⟨rfl, f392⟩
                  · skip
                    show ov_R u d ov_m228 11 [(0, ov_r 90), (1, ov_i dep), (2, ov_i 1)] [ov_i 0] z370 h371 (P_fMo_sums_90 F z h t m N p dep)
                    have f393 : (h371 90 8) ≠ 0 ∨ pt_is t m (h345 93 (h345 90 7)) (43 : Int) = 0 := f391
                    clear f391
                    refine ov_ifne (tgt := 23) d_228_11 (by decide) (by omega) (fun c394 => ?_) (fun c394 => ?_)
                    · omega
                    · skip
                      refine ov_blk (ls2 := [(0, ov_r 90), (1, ov_i dep), (2, ov_i 1)]) (st2 := [ov_i 45, ov_r 90]) (pc2 := 17) b_228_14_2 rfl rfl ?_
                      refine ov_cV (as := [ov_i 45]) (st := []) (d2 := d - 1) d_228_17 lk_Mo_183 rfl (Nat.le_of_ble_eq_true rfl) (c := 1) (zb_90 I372) (zs_90 I372) ⟨by decide, rfl⟩ (by omega) (c_fMo_isSign_90 t m N (h345 93 (h345 90 7)) (d - 1) (by omega) U I372 45 (by omega) (by show 0 ≤ (h371 90 7) ∧ (h371 90 7) ≤ N; omega) (by show (h371 93 ((h371 90 7))) = (h345 93 (h345 90 7)); omega) (by show 0 ≤ (h371 90 8); omega) (by show 0 ≤ (45 : Int) ∧ (45 : Int) ≤ 65535; omega) (by rw [show h371 92 = h 92 from E376, show h371 93 = h 93 from E377, show h371 94 = h 94 from E378]; exact mt)) ?_
                      rintro _ _ _ ⟨v395, rfl, rfl, rfl, y396⟩
                      rcases y396 with ⟨rfl, f397⟩ | ⟨rfl, f398⟩
                      · skip
                        show ov_R u d ov_m228 20 [(0, ov_r 90), (1, ov_i dep), (2, ov_i 1)] [ov_i 0] z370 h371 (P_fMo_sums_90 F z h t m N p dep)
                        have f399 : (h371 90 8) ≠ 0 ∨ pt_is t m (h345 93 (h345 90 7)) (45 : Int) = 0 := f397
                        clear f397
                        refine ov_ifeq (tgt := 62) d_228_20 (by decide) (by omega) (fun c400 => ?_) (fun c400 => ?_)
                        · skip
                          exact ov_retv (st := []) d_228_62 rfl ⟨rfl, I372, (fun a ca => (fr380 a ca)), (fun k n0 n1 n2 => (rk381 k n0 n1 n2)), (Or.inr (Or.inl ⟨w360, w361, (by show (h 90 8) = 0 ∧ (h371 90 8) = w360 ∧ 1 ≤ w360 ∧ (h 90 13) ≤ (h371 90 13) ∧ (h371 90 13) - (h 90 13) ≤ (h371 90 7) - (h 90 7) ∧ (h 90 7) ≤ (h371 90 7) ∧ (h371 90 7) ≤ N; omega), (xc _ _ (pt_EV4_f (by omega) y363_ (by omega)))⟩))⟩
                        · omega
                      · omega
                  · omega
              · skip
                show ov_R u d ov_m228 45 [(0, ov_r 90), (1, ov_i dep), (2, ov_i 1)] [] z344 h345 (P_fMo_sums_90 F z h t m N p dep)
                have f401 : (h58 90 8) = 0 ∧ (h345 90 8) = 0 ∧ (h58 90 13) ≤ (h345 90 13) ∧ (h345 90 13) - (h58 90 13) ≤ (h345 90 7) - ((h58 90 7) + 1) ∧ ((h58 90 7) + 1) ≤ (h345 90 7) ∧ (h345 90 7) ≤ N ∧ (h345 93 ((h345 90 7))) = w364 := f365
                clear f365
                have y366_ : pt_EV t m 1 dep (pt_nt t m (h 93 (h58 90 7))) 0 w364 := y366
                refine ov_blk (ls2 := [(0, ov_r 90), (1, ov_i dep), (2, ov_i 1)]) (st2 := [ov_i 1, ov_r 90]) (pc2 := 47) b_228_45_2 rfl rfl ?_
                refine ov_ifeq (tgt := 54) d_228_47 (by decide) (by omega) (fun c402 => ?_) (fun c402 => ?_)
                · omega
                · skip
                  refine ov_blk (ls2 := [(0, ov_r 90), (1, ov_i dep), (2, ov_i 1)]) (st2 := [ov_i 4, ov_r 90]) (pc2 := 51) b_228_50_1 rfl rfl ?_
                  refine ov_goto (tgt := 55) d_228_51 (by decide) ?_
                  refine ov_blk (ls2 := [(0, ov_r 90), (1, ov_i dep), (2, ov_i 1)]) (st2 := [ov_i 0, ov_i 4, ov_r 90]) (pc2 := 56) b_228_55_1 rfl rfl ?_
                  have cf403 : h345 93 ((h345 90 7)) = h 93 ((h345 90 7)) := congrFun E351 ((h345 90 7))
                  refine ov_cV (as := [ov_i 4, ov_i 0]) (st := []) (d2 := d - 1) d_228_56 lk_Mo_246 rfl (Nat.le_of_ble_eq_true rfl) (c := 1) (zb_90 I346) (zs_90 I346) ⟨by decide, rfl⟩ (by omega) (c_fMo_emit_90 w364 (d - 1) (by omega) U I346 4 0 (by omega) (by omega) (by show 0 ≤ (4 : Int) ∧ (4 : Int) ≤ 10; omega) (by show (h345 90 13) ≤ 999; omega) (by show (h345 93 ((h345 90 7))) = w364; omega)) ?_
                  rintro _ z404 h405 ⟨rfl, I406, y407, f408, y409⟩
                  have E410 : h405 92 = h 92 := Eq.trans (y407 92 (by decide)) (show h345 92 = h 92 from E350)
                  have E411 : h405 93 = h 93 := Eq.trans (y407 93 (by decide)) (show h345 93 = h 93 from E351)
                  have E412 : h405 94 = h 94 := Eq.trans (y407 94 (by decide)) (show h345 94 = h 94 from E352)
                  have E413 : h405 95 = h 95 := Eq.trans (y407 95 (by decide)) (show h345 95 = h 95 from E353)
                  have fr414 : ∀ a : Int, a ≠ 90 ∧ (a < 97 ∨ 98 < a) → h405 a = h a := fun a ca => Eq.trans (y407 a (by omega)) (fr354 a ca)
                  have f416 : (h405 90 13) = (h345 90 13) + 1 ∧ (h405 90 7) = (h345 90 7) ∧ (h405 90 8) = (h345 90 8) ∧ (h405 93 ((h405 90 7))) = w364 := f408
                  clear f408
                  have y409_ : ∀ k : Int, k ≠ 13 → (h405 90) k = (h345 90) k := y409
                  have rk415 : ∀ k : Int, k ≠ 7 → k ≠ 8 → k ≠ 13 → h405 90 k = h 90 k := fun k n0 n1 n2 => Eq.trans (y409_ k n2) (rk355 k n0 n1 n2)
                  have g417 : h405 90 2 = (h345 90 2) := y409_ 2 (by decide)
                  have g418 : h405 90 3 = (h345 90 3) := y409_ 3 (by decide)
                  have g419 : h405 90 7 = (h345 90 7) := y409_ 7 (by decide)
                  have g420 : h405 90 8 = (h345 90 8) := y409_ 8 (by decide)
                  have g421 : h405 90 15 = (h345 90 15) := y409_ 15 (by decide)
                  show ov_R u d ov_m228 59 [(0, ov_r 90), (1, ov_i dep), (2, ov_i 1)] [] z404 h405 (P_fMo_sums_90 F z h t m N p dep)
                  refine ov_goto (tgt := 5) d_228_59 (by decide) ?_
                  refine ov_sub (ls2 := [(0, ov_r 90), (1, ov_i dep)]) (List.Sublist.subset (by repeat (first | exact List.Sublist.refl _ | apply List.Sublist.cons_cons | apply List.Sublist.cons))) ?_
                  have cf422 : h405 93 (h405 90 7) = h 93 (h405 90 7) := congrFun (show h405 93 = h 93 from E411) _
                  exact ih54  _ _ I406 E410 E411 E412 E413 (fun a ca => (fr414 a ca)) (fun f q e => xc f q (pt_EV4 (by omega) y366_ (by rw [show h 93 (h405 90 7) = w364 by omega] at e; exact e))) (fun k n0 n1 n2 => (rk415 k n0 n1 n2)) (by show (h 90 8) = 0 ∧ (h405 90 8) = 0 ∧ (h 90 13) ≤ (h405 90 13) ∧ (h405 90 13) - (h 90 13) ≤ (h405 90 7) - (h 90 7) ∧ (h 90 7) ≤ (h405 90 7) ∧ (h405 90 7) ≤ N; omega) (by show 1000 - (h405 90 7) < _; omega)
          · omega
    have cf423 : h2 93 (h2 90 7) = h 93 (h2 90 7) := congrFun (show h2 93 = h 93 from E8) _
    exact L56 1001  _ _ I3 E7 E8 E9 E10 (fun a ca => (fr11 a ca)) (fun f q e => pt_EV3 y23_ (by rw [show h 93 (h2 90 7) = w21 by omega] at e; exact e)) (fun k n0 n1 n2 => (rk12 k n0 n1 n2)) (by show (h 90 8) = 0 ∧ (h2 90 8) = 0 ∧ (h 90 13) ≤ (h2 90 13) ∧ (h2 90 13) - (h 90 13) ≤ (h2 90 7) - (h 90 7) ∧ (h 90 7) ≤ (h2 90 7) ∧ (h2 90 7) ≤ N; omega) (by show 1000 - (h2 90 7) < _; omega)

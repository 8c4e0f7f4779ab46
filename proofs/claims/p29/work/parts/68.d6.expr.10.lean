set_option maxHeartbeats 4000000 in
theorem c_fMo_test_90 {u : ov_U} {F : ov_H × ov_Z} (t : Int → Int) (m : Int) (N : Int) (p : Int) (k : Nat) (HE : ∀ k' : Nat, k' + 1 = k → ∀ {z : ov_Z} {h : ov_H} (t : Int → Int) (m N p : Int) (d : Nat) (hd : (10 + 5 * k' + 4) ≤ d) (U : ov_cap u) (I : ov_N F z h) (dep : Int) (g_dep : ov_g dep) (p0 : 0 ≤ (h 90 7) ∧ (h 90 7) ≤ N) (p1 : (h 93 ((h 90 7))) = p) (p2 : 0 ≤ (h 90 8)) (p3 : 0 ≤ dep ∧ dep + (k' : Int) = 5) (p4 : 0 ≤ (h 90 13) ∧ (h 90 13) ≤ (h 90 7)) (mt : pt_MT t m (h 92) (h 93) (h 94) N) (wd : pt_WD (h 95)), ov_T u d ov_m226 [ov_r 90, ov_i dep] z h (P_fMo_all_90 F z h t m N p dep)) (HP : ∀ k' : Nat, k' + 1 = k → ∀ {z : ov_Z} {h : ov_H} (t : Int → Int) (m N p : Int) (d : Nat) (hd : (10 + 5 * k' + 0) ≤ d) (U : ov_cap u) (I : ov_N F z h) (dep : Int) (g_dep : ov_g dep) (p0 : 0 ≤ (h 90 7) ∧ (h 90 7) ≤ N) (p1 : (h 93 ((h 90 7))) = p) (p2 : 0 ≤ (h 90 8)) (p3 : 0 ≤ dep ∧ dep + (k' : Int) = 5) (p4 : 0 ≤ (h 90 13) ∧ (h 90 13) ≤ (h 90 7)) (mt : pt_MT t m (h 92) (h 93) (h 94) N) (wd : pt_WD (h 95)), ov_T u d ov_m230 [ov_r 90, ov_i dep] z h (P_fMo_takePart_90 F z h t m N p dep)) {z : ov_Z} {h : ov_H} (d : Nat) (hd : (10 + 5 * k + 3) ≤ d) (U : ov_cap u) (I : ov_N F z h) (dep : Int) (g_dep : ov_g dep) (p0 : 0 ≤ (h 90 7) ∧ (h 90 7) ≤ N) (p1 : (h 93 ((h 90 7))) = p) (p2 : 0 ≤ (h 90 8)) (p3 : 0 ≤ dep ∧ dep + (k : Int) = 5) (p4 : 0 ≤ (h 90 13) ∧ (h 90 13) ≤ (h 90 7)) (mt : pt_MT t m (h 92) (h 93) (h 94) N) (wd : pt_WD (h 95)) : ov_T u d ov_m227 [ov_r 90, ov_i dep] z h (P_fMo_test_90 F z h t m N p dep) := by
  refine ov_en rfl (Nat.le_of_ble_eq_true rfl) ?_
  show ov_R u d ov_m227 0 [(0, ov_r 90), (1, ov_i dep)] [] z h (P_fMo_test_90 F z h t m N p dep)
  have ma := pt_MT_at mt (k := h 90 7) (by omega)
  rw [p1] at ma
  have mp := ma.2.1
  have m2 := ma.2.2.1
  have m3 := ma.2.2.2
  have mc := pt_cm_f (t := t) (m := m) (p := p)
  have mN := mt.1.2.1
  clear ma
  refine ov_blk (ls2 := [(0, ov_r 90), (1, ov_i dep)]) (st2 := [ov_i dep, ov_r 90]) (pc2 := 2) b_227_0_2 rfl rfl ?_
  refine ov_cV (as := [ov_i dep]) (st := []) (d2 := d - 1) d_227_2 lk_Mo_260 rfl (Nat.le_of_ble_eq_true rfl) (c := 1) (zb_90 I) (zs_90 I) ⟨by decide, rfl⟩ (by omega) (c_fMo_sums_90 t m N p k HE HP (d - 1) (by omega) U I dep (by omega) (by show 0 ≤ (h 90 7) ∧ (h 90 7) ≤ N; omega) (by show (h 93 ((h 90 7))) = p; omega) (by show 0 ≤ (h 90 8); omega) (by show 0 ≤ dep ∧ dep + (k : Int) = 5; omega) (by show 0 ≤ (h 90 13) ∧ (h 90 13) ≤ (h 90 7); omega) mt wd) ?_
  rintro _ z1 h2 ⟨rfl, I3, y4, y5, y6⟩
  have E7 : h2 92 = h 92 := Eq.trans (y4 92 (by decide)) (show h 92 = h 92 from rfl)
  have E8 : h2 93 = h 93 := Eq.trans (y4 93 (by decide)) (show h 93 = h 93 from rfl)
  have E9 : h2 94 = h 94 := Eq.trans (y4 94 (by decide)) (show h 94 = h 94 from rfl)
  have E10 : h2 95 = h 95 := Eq.trans (y4 95 (by decide)) (show h 95 = h 95 from rfl)
  have fr11 : ∀ a : Int, a ≠ 90 ∧ (a < 97 ∨ 98 < a) → h2 a = h a := fun a ca => Eq.trans (y4 a (by omega)) rfl
  have y5_ : ∀ k : Int, k ≠ 7 → k ≠ 8 → k ≠ 13 → (h2 90) k = (h 90) k := y5
  have rk12 : ∀ k : Int, k ≠ 7 → k ≠ 8 → k ≠ 13 → h2 90 k = h 90 k := fun k n0 n1 n2 => Eq.trans (y5_ k n0 n1 n2) rfl
  have g13 : h2 90 2 = (h 90 2) := y5_ 2 (by decide) (by decide) (by decide)
  have g14 : h2 90 3 = (h 90 3) := y5_ 3 (by decide) (by decide) (by decide)
  have g15 : h2 90 15 = (h 90 15) := y5_ 15 (by decide) (by decide) (by decide)
  rcases y6 with f16 | ⟨w17, w18, f19, y20⟩ | ⟨w21, f22, y23⟩
  · skip
    show ov_R u d ov_m227 5 [(0, ov_r 90), (1, ov_i dep)] [] z1 h2 (P_fMo_test_90 F z h t m N p dep)
    have f24 : (h 90 8) ≠ 0 ∧ (h2 90 8) = (h 90 8) ∧ (h2 90 13) = (h 90 13) ∧ (h2 90 7) = (h 90 7) ∧ (h2 93 ((h2 90 7))) = p := f16
    clear f16
    refine ov_blk (ls2 := [(0, ov_r 90), (1, ov_i dep)]) (st2 := [ov_i 60, ov_r 90]) (pc2 := 8) b_227_5_2 rfl rfl ?_
    have cf25 : h2 93 ((h2 90 7)) = h 93 ((h2 90 7)) := congrFun E8 ((h2 90 7))
    refine ov_cV (as := [ov_i 60]) (st := []) (d2 := d - 1) d_227_8 lk_Mo_183 rfl (Nat.le_of_ble_eq_true rfl) (c := 1) (zb_90 I3) (zs_90 I3) ⟨by decide, rfl⟩ (by omega) (c_fMo_isSign_90 t m N p (d - 1) (by omega) U I3 60 (by omega) (by show 0 ≤ (h2 90 7) ∧ (h2 90 7) ≤ N; omega) (by show (h2 93 ((h2 90 7))) = p; omega) (by show 0 ≤ (h2 90 8); omega) (by show 0 ≤ (60 : Int) ∧ (60 : Int) ≤ 65535; omega) (by rw [show h2 92 = h 92 from E7, show h2 93 = h 93 from E8, show h2 94 = h 94 from E9]; exact mt)) ?_
    rintro _ _ _ ⟨v26, rfl, rfl, rfl, y27⟩
    rcases y27 with ⟨rfl, f28⟩ | ⟨rfl, f29⟩
    · skip
      show ov_R u d ov_m227 11 [(0, ov_r 90), (1, ov_i dep)] [ov_i 0] z1 h2 (P_fMo_test_90 F z h t m N p dep)
      have f30 : (h2 90 8) ≠ 0 ∨ pt_is t m p (60 : Int) = 0 := f28
      clear f28
      refine ov_blk (ls2 := [(0, ov_r 90), (1, ov_i dep), (2, ov_i 0)]) (st2 := [ov_i 60, ov_r 90]) (pc2 := 15) b_227_11_3 rfl rfl ?_
      refine ov_cV (as := [ov_i 60]) (st := []) (d2 := d - 1) d_227_15 lk_Mo_263 rfl (Nat.le_of_ble_eq_true rfl) (c := 1) (zb_90 I3) (zs_90 I3) ⟨by decide, rfl⟩ (by omega) (c_fMo_hasSign_90 t m N p (d - 1) (by omega) U I3 60 (by omega) (by show 0 ≤ (h2 90 7) ∧ (h2 90 7) ≤ N; omega) (by show (h2 93 ((h2 90 7))) = p; omega) (by show 0 ≤ (h2 90 8); omega) (by show 0 ≤ (60 : Int) ∧ (60 : Int) ≤ 65535; omega) (by rw [show h2 92 = h 92 from E7, show h2 93 = h 93 from E8, show h2 94 = h 94 from E9]; exact mt)) ?_
      rintro _ z32 h33 ⟨v31, rfl, I34, y35, y36, y37⟩
      have E38 : h33 92 = h 92 := Eq.trans (y35 92 (by decide)) (show h2 92 = h 92 from E7)
      have E39 : h33 93 = h 93 := Eq.trans (y35 93 (by decide)) (show h2 93 = h 93 from E8)
      have E40 : h33 94 = h 94 := Eq.trans (y35 94 (by decide)) (show h2 94 = h 94 from E9)
      have E41 : h33 95 = h 95 := Eq.trans (y35 95 (by decide)) (show h2 95 = h 95 from E10)
      have fr42 : ∀ a : Int, a ≠ 90 ∧ (a < 97 ∨ 98 < a) → h33 a = h a := fun a ca => Eq.trans (y35 a (by omega)) (fr11 a ca)
      have y36_ : ∀ k : Int, k ≠ 7 → (h33 90) k = (h2 90) k := y36
      have rk43 : ∀ k : Int, k ≠ 7 → k ≠ 8 → k ≠ 13 → h33 90 k = h 90 k := fun k n0 n1 n2 => Eq.trans (y36_ k n0) (rk12 k n0 n1 n2)
      have g44 : h33 90 2 = (h2 90 2) := y36_ 2 (by decide)
      have g45 : h33 90 3 = (h2 90 3) := y36_ 3 (by decide)
      have g46 : h33 90 8 = (h2 90 8) := y36_ 8 (by decide)
      have g47 : h33 90 13 = (h2 90 13) := y36_ 13 (by decide)
      have g48 : h33 90 15 = (h2 90 15) := y36_ 15 (by decide)
      rcases y37 with ⟨rfl, f49⟩ | ⟨rfl, f50⟩
      · skip
        show ov_R u d ov_m227 18 [(0, ov_r 90), (1, ov_i dep), (2, ov_i 0)] [ov_i 0] z32 h33 (P_fMo_test_90 F z h t m N p dep)
        have f51 : (h33 90 8) = (h2 90 8) ∧ ((h2 90 8) ≠ 0 ∨ pt_is t m p (60 : Int) = 0) ∧ (h33 90 7) = (h2 90 7) ∧ (h33 93 ((h33 90 7))) = p := f49
        clear f49
        refine ov_ifne (tgt := 30) d_227_18 (by decide) (by omega) (fun c52 => ?_) (fun c52 => ?_)
        · omega
        · skip
          refine ov_blk (ls2 := [(0, ov_r 90), (1, ov_i dep), (2, ov_i 0)]) (st2 := [ov_i 61, ov_r 90]) (pc2 := 24) b_227_21_2 rfl rfl ?_
          have cf53 : h33 93 ((h33 90 7)) = h 93 ((h33 90 7)) := congrFun E39 ((h33 90 7))
          refine ov_cV (as := [ov_i 61]) (st := []) (d2 := d - 1) d_227_24 lk_Mo_263 rfl (Nat.le_of_ble_eq_true rfl) (c := 1) (zb_90 I34) (zs_90 I34) ⟨by decide, rfl⟩ (by omega) (c_fMo_hasSign_90 t m N p (d - 1) (by omega) U I34 61 (by omega) (by show 0 ≤ (h33 90 7) ∧ (h33 90 7) ≤ N; omega) (by show (h33 93 ((h33 90 7))) = p; omega) (by show 0 ≤ (h33 90 8); omega) (by show 0 ≤ (61 : Int) ∧ (61 : Int) ≤ 65535; omega) (by rw [show h33 92 = h 92 from E38, show h33 93 = h 93 from E39, show h33 94 = h 94 from E40]; exact mt)) ?_
          rintro _ z55 h56 ⟨v54, rfl, I57, y58, y59, y60⟩
          have E61 : h56 92 = h 92 := Eq.trans (y58 92 (by decide)) (show h33 92 = h 92 from E38)
          have E62 : h56 93 = h 93 := Eq.trans (y58 93 (by decide)) (show h33 93 = h 93 from E39)
          have E63 : h56 94 = h 94 := Eq.trans (y58 94 (by decide)) (show h33 94 = h 94 from E40)
          have E64 : h56 95 = h 95 := Eq.trans (y58 95 (by decide)) (show h33 95 = h 95 from E41)
          have fr65 : ∀ a : Int, a ≠ 90 ∧ (a < 97 ∨ 98 < a) → h56 a = h a := fun a ca => Eq.trans (y58 a (by omega)) (fr42 a ca)
          have y59_ : ∀ k : Int, k ≠ 7 → (h56 90) k = (h33 90) k := y59
          have rk66 : ∀ k : Int, k ≠ 7 → k ≠ 8 → k ≠ 13 → h56 90 k = h 90 k := fun k n0 n1 n2 => Eq.trans (y59_ k n0) (rk43 k n0 n1 n2)
          have g67 : h56 90 2 = (h33 90 2) := y59_ 2 (by decide)
          have g68 : h56 90 3 = (h33 90 3) := y59_ 3 (by decide)
          have g69 : h56 90 8 = (h33 90 8) := y59_ 8 (by decide)
          have g70 : h56 90 13 = (h33 90 13) := y59_ 13 (by decide)
          have g71 : h56 90 15 = (h33 90 15) := y59_ 15 (by decide)
          rcases y60 with ⟨rfl, f72⟩ | ⟨rfl, f73⟩
          · skip
            show ov_R u d ov_m227 27 [(0, ov_r 90), (1, ov_i dep), (2, ov_i 0)] [ov_i 0] z55 h56 (P_fMo_test_90 F z h t m N p dep)
            have f74 : (h56 90 8) = (h33 90 8) ∧ ((h33 90 8) ≠ 0 ∨ pt_is t m p (61 : Int) = 0) ∧ (h56 90 7) = (h33 90 7) ∧ (h56 93 ((h56 90 7))) = p := f72
            clear f72
            refine ov_ifeq (tgt := 51) d_227_27 (by decide) (by omega) (fun c75 => ?_) (fun c75 => ?_)
            · skip
              exact ov_retv (st := []) d_227_51 rfl ⟨rfl, I57, (fun a ca => (fr65 a ca)), (fun k n0 n1 n2 => (rk66 k n0 n1 n2)), (Or.inl (by show (h 90 8) ≠ 0 ∧ (h56 90 8) = (h 90 8) ∧ (h56 90 13) = (h 90 13) ∧ (h56 90 7) = (h 90 7) ∧ (h56 93 ((h56 90 7))) = p; omega))⟩
            · omega
          · omega
      · omega
    · omega
  · skip
    show ov_R u d ov_m227 5 [(0, ov_r 90), (1, ov_i dep)] [] z1 h2 (P_fMo_test_90 F z h t m N p dep)
    have f76 : (h 90 8) = 0 ∧ (h2 90 8) = w17 ∧ 1 ≤ w17 ∧ (h 90 13) ≤ (h2 90 13) ∧ (h2 90 13) - (h 90 13) ≤ (h2 90 7) - (h 90 7) ∧ (h 90 7) ≤ (h2 90 7) ∧ (h2 90 7) ≤ N := f19
    clear f19
    have y20_ : pt_EV t m 3 dep p w17 w18 := y20
    refine ov_blk (ls2 := [(0, ov_r 90), (1, ov_i dep)]) (st2 := [ov_i 60, ov_r 90]) (pc2 := 8) b_227_5_2 rfl rfl ?_
    have cf77 : h2 93 ((h2 90 7)) = h 93 ((h2 90 7)) := congrFun E8 ((h2 90 7))
    refine ov_cV (as := [ov_i 60]) (st := []) (d2 := d - 1) d_227_8 lk_Mo_183 rfl (Nat.le_of_ble_eq_true rfl) (c := 1) (zb_90 I3) (zs_90 I3) ⟨by decide, rfl⟩ (by omega) (c_fMo_isSign_90 t m N (h2 93 (h2 90 7)) (d - 1) (by omega) U I3 60 (by omega) (by show 0 ≤ (h2 90 7) ∧ (h2 90 7) ≤ N; omega) (by show (h2 93 ((h2 90 7))) = (h2 93 (h2 90 7)); omega) (by show 0 ≤ (h2 90 8); omega) (by show 0 ≤ (60 : Int) ∧ (60 : Int) ≤ 65535; omega) (by rw [show h2 92 = h 92 from E7, show h2 93 = h 93 from E8, show h2 94 = h 94 from E9]; exact mt)) ?_
    rintro _ _ _ ⟨v78, rfl, rfl, rfl, y79⟩
    rcases y79 with ⟨rfl, f80⟩ | ⟨rfl, f81⟩
    · skip
      show ov_R u d ov_m227 11 [(0, ov_r 90), (1, ov_i dep)] [ov_i 0] z1 h2 (P_fMo_test_90 F z h t m N p dep)
      have f82 : (h2 90 8) ≠ 0 ∨ pt_is t m (h2 93 (h2 90 7)) (60 : Int) = 0 := f80
      clear f80
      refine ov_blk (ls2 := [(0, ov_r 90), (1, ov_i dep), (2, ov_i 0)]) (st2 := [ov_i 60, ov_r 90]) (pc2 := 15) b_227_11_3 rfl rfl ?_
      refine ov_cV (as := [ov_i 60]) (st := []) (d2 := d - 1) d_227_15 lk_Mo_263 rfl (Nat.le_of_ble_eq_true rfl) (c := 1) (zb_90 I3) (zs_90 I3) ⟨by decide, rfl⟩ (by omega) (c_fMo_hasSign_90 t m N (h2 93 (h2 90 7)) (d - 1) (by omega) U I3 60 (by omega) (by show 0 ≤ (h2 90 7) ∧ (h2 90 7) ≤ N; omega) (by show (h2 93 ((h2 90 7))) = (h2 93 (h2 90 7)); omega) (by show 0 ≤ (h2 90 8); omega) (by show 0 ≤ (60 : Int) ∧ (60 : Int) ≤ 65535; omega) (by rw [show h2 92 = h 92 from E7, show h2 93 = h 93 from E8, show h2 94 = h 94 from E9]; exact mt)) ?_
      rintro _ z84 h85 ⟨v83, rfl, I86, y87, y88, y89⟩
      have E90 : h85 92 = h 92 := Eq.trans (y87 92 (by decide)) (show h2 92 = h 92 from E7)
      have E91 : h85 93 = h 93 := Eq.trans (y87 93 (by decide)) (show h2 93 = h 93 from E8)
      have E92 : h85 94 = h 94 := Eq.trans (y87 94 (by decide)) (show h2 94 = h 94 from E9)
      have E93 : h85 95 = h 95 := Eq.trans (y87 95 (by decide)) (show h2 95 = h 95 from E10)
      have fr94 : ∀ a : Int, a ≠ 90 ∧ (a < 97 ∨ 98 < a) → h85 a = h a := fun a ca => Eq.trans (y87 a (by omega)) (fr11 a ca)
      have y88_ : ∀ k : Int, k ≠ 7 → (h85 90) k = (h2 90) k := y88
      have rk95 : ∀ k : Int, k ≠ 7 → k ≠ 8 → k ≠ 13 → h85 90 k = h 90 k := fun k n0 n1 n2 => Eq.trans (y88_ k n0) (rk12 k n0 n1 n2)
      have g96 : h85 90 2 = (h2 90 2) := y88_ 2 (by decide)
      have g97 : h85 90 3 = (h2 90 3) := y88_ 3 (by decide)
      have g98 : h85 90 8 = (h2 90 8) := y88_ 8 (by decide)
      have g99 : h85 90 13 = (h2 90 13) := y88_ 13 (by decide)
      have g100 : h85 90 15 = (h2 90 15) := y88_ 15 (by decide)
      rcases y89 with ⟨rfl, f101⟩ | ⟨rfl, f102⟩
      · skip
        show ov_R u d ov_m227 18 [(0, ov_r 90), (1, ov_i dep), (2, ov_i 0)] [ov_i 0] z84 h85 (P_fMo_test_90 F z h t m N p dep)
        have f103 : (h85 90 8) = (h2 90 8) ∧ ((h2 90 8) ≠ 0 ∨ pt_is t m (h2 93 (h2 90 7)) (60 : Int) = 0) ∧ (h85 90 7) = (h2 90 7) ∧ (h85 93 ((h85 90 7))) = (h2 93 (h2 90 7)) := f101
        clear f101
        refine ov_ifne (tgt := 30) d_227_18 (by decide) (by omega) (fun c104 => ?_) (fun c104 => ?_)
        · omega
        · skip
          refine ov_blk (ls2 := [(0, ov_r 90), (1, ov_i dep), (2, ov_i 0)]) (st2 := [ov_i 61, ov_r 90]) (pc2 := 24) b_227_21_2 rfl rfl ?_
          have cf105 : h85 93 ((h85 90 7)) = h 93 ((h85 90 7)) := congrFun E91 ((h85 90 7))
          refine ov_cV (as := [ov_i 61]) (st := []) (d2 := d - 1) d_227_24 lk_Mo_263 rfl (Nat.le_of_ble_eq_true rfl) (c := 1) (zb_90 I86) (zs_90 I86) ⟨by decide, rfl⟩ (by omega) (c_fMo_hasSign_90 t m N (h2 93 (h2 90 7)) (d - 1) (by omega) U I86 61 (by omega) (by show 0 ≤ (h85 90 7) ∧ (h85 90 7) ≤ N; omega) (by show (h85 93 ((h85 90 7))) = (h2 93 (h2 90 7)); omega) (by show 0 ≤ (h85 90 8); omega) (by show 0 ≤ (61 : Int) ∧ (61 : Int) ≤ 65535; omega) (by rw [show h85 92 = h 92 from E90, show h85 93 = h 93 from E91, show h85 94 = h 94 from E92]; exact mt)) ?_
          rintro _ z107 h108 ⟨v106, rfl, I109, y110, y111, y112⟩
          have E113 : h108 92 = h 92 := Eq.trans (y110 92 (by decide)) (show h85 92 = h 92 from E90)
          have E114 : h108 93 = h 93 := Eq.trans (y110 93 (by decide)) (show h85 93 = h 93 from E91)
          have E115 : h108 94 = h 94 := Eq.trans (y110 94 (by decide)) (show h85 94 = h 94 from E92)
          have E116 : h108 95 = h 95 := Eq.trans (y110 95 (by decide)) (show h85 95 = h 95 from E93)
          have fr117 : ∀ a : Int, a ≠ 90 ∧ (a < 97 ∨ 98 < a) → h108 a = h a := fun a ca => Eq.trans (y110 a (by omega)) (fr94 a ca)
          have y111_ : ∀ k : Int, k ≠ 7 → (h108 90) k = (h85 90) k := y111
          have rk118 : ∀ k : Int, k ≠ 7 → k ≠ 8 → k ≠ 13 → h108 90 k = h 90 k := fun k n0 n1 n2 => Eq.trans (y111_ k n0) (rk95 k n0 n1 n2)
          have g119 : h108 90 2 = (h85 90 2) := y111_ 2 (by decide)
          have g120 : h108 90 3 = (h85 90 3) := y111_ 3 (by decide)
          have g121 : h108 90 8 = (h85 90 8) := y111_ 8 (by decide)
          have g122 : h108 90 13 = (h85 90 13) := y111_ 13 (by decide)
          have g123 : h108 90 15 = (h85 90 15) := y111_ 15 (by decide)
          rcases y112 with ⟨rfl, f124⟩ | ⟨rfl, f125⟩
          · skip
            show ov_R u d ov_m227 27 [(0, ov_r 90), (1, ov_i dep), (2, ov_i 0)] [ov_i 0] z107 h108 (P_fMo_test_90 F z h t m N p dep)
            have f126 : (h108 90 8) = (h85 90 8) ∧ ((h85 90 8) ≠ 0 ∨ pt_is t m (h2 93 (h2 90 7)) (61 : Int) = 0) ∧ (h108 90 7) = (h85 90 7) ∧ (h108 93 ((h108 90 7))) = (h2 93 (h2 90 7)) := f124
            clear f124
            refine ov_ifeq (tgt := 51) d_227_27 (by decide) (by omega) (fun c127 => ?_) (fun c127 => ?_)
            · skip
              exact ov_retv (st := []) d_227_51 rfl ⟨rfl, I109, (fun a ca => (fr117 a ca)), (fun k n0 n1 n2 => (rk118 k n0 n1 n2)), (Or.inr (Or.inl ⟨w17, w18, (by show (h 90 8) = 0 ∧ (h108 90 8) = w17 ∧ 1 ≤ w17 ∧ (h 90 13) ≤ (h108 90 13) ∧ (h108 90 13) - (h 90 13) ≤ (h108 90 7) - (h 90 7) ∧ (h 90 7) ≤ (h108 90 7) ∧ (h108 90 7) ≤ N; omega), (pt_EV5_f y20_ (by omega))⟩))⟩
            · omega
          · omega
      · omega
    · omega
  · skip
    show ov_R u d ov_m227 5 [(0, ov_r 90), (1, ov_i dep)] [] z1 h2 (P_fMo_test_90 F z h t m N p dep)
    have f128 : (h 90 8) = 0 ∧ (h2 90 8) = 0 ∧ (h 90 13) ≤ (h2 90 13) ∧ (h2 90 13) - (h 90 13) ≤ (h2 90 7) - (h 90 7) ∧ (h 90 7) ≤ (h2 90 7) ∧ (h2 90 7) ≤ N ∧ (h2 93 ((h2 90 7))) = w21 := f22
    clear f22
    have y23_ : pt_EV t m 3 dep p 0 w21 := y23
    refine ov_blk (ls2 := [(0, ov_r 90), (1, ov_i dep)]) (st2 := [ov_i 60, ov_r 90]) (pc2 := 8) b_227_5_2 rfl rfl ?_
    have cf129 : h2 93 ((h2 90 7)) = h 93 ((h2 90 7)) := congrFun E8 ((h2 90 7))
    refine ov_cV (as := [ov_i 60]) (st := []) (d2 := d - 1) d_227_8 lk_Mo_183 rfl (Nat.le_of_ble_eq_true rfl) (c := 1) (zb_90 I3) (zs_90 I3) ⟨by decide, rfl⟩ (by omega) (c_fMo_isSign_90 t m N w21 (d - 1) (by omega) U I3 60 (by omega) (by show 0 ≤ (h2 90 7) ∧ (h2 90 7) ≤ N; omega) (by show (h2 93 ((h2 90 7))) = w21; omega) (by show 0 ≤ (h2 90 8); omega) (by show 0 ≤ (60 : Int) ∧ (60 : Int) ≤ 65535; omega) (by rw [show h2 92 = h 92 from E7, show h2 93 = h 93 from E8, show h2 94 = h 94 from E9]; exact mt)) ?_
    rintro _ _ _ ⟨v130, rfl, rfl, rfl, y131⟩
    rcases y131 with ⟨rfl, f132⟩ | ⟨rfl, f133⟩
    · skip
      show ov_R u d ov_m227 11 [(0, ov_r 90), (1, ov_i dep)] [ov_i 0] z1 h2 (P_fMo_test_90 F z h t m N p dep)
      have f134 : (h2 90 8) ≠ 0 ∨ pt_is t m w21 (60 : Int) = 0 := f132
      clear f132
      refine ov_blk (ls2 := [(0, ov_r 90), (1, ov_i dep), (2, ov_i 0)]) (st2 := [ov_i 60, ov_r 90]) (pc2 := 15) b_227_11_3 rfl rfl ?_
      refine ov_cV (as := [ov_i 60]) (st := []) (d2 := d - 1) d_227_15 lk_Mo_263 rfl (Nat.le_of_ble_eq_true rfl) (c := 1) (zb_90 I3) (zs_90 I3) ⟨by decide, rfl⟩ (by omega) (c_fMo_hasSign_90 t m N w21 (d - 1) (by omega) U I3 60 (by omega) (by show 0 ≤ (h2 90 7) ∧ (h2 90 7) ≤ N; omega) (by show (h2 93 ((h2 90 7))) = w21; omega) (by show 0 ≤ (h2 90 8); omega) (by show 0 ≤ (60 : Int) ∧ (60 : Int) ≤ 65535; omega) (by rw [show h2 92 = h 92 from E7, show h2 93 = h 93 from E8, show h2 94 = h 94 from E9]; exact mt)) ?_
      rintro _ z136 h137 ⟨v135, rfl, I138, y139, y140, y141⟩
      have E142 : h137 92 = h 92 := Eq.trans (y139 92 (by decide)) (show h2 92 = h 92 from E7)
      have E143 : h137 93 = h 93 := Eq.trans (y139 93 (by decide)) (show h2 93 = h 93 from E8)
      have E144 : h137 94 = h 94 := Eq.trans (y139 94 (by decide)) (show h2 94 = h 94 from E9)
      have E145 : h137 95 = h 95 := Eq.trans (y139 95 (by decide)) (show h2 95 = h 95 from E10)
      have fr146 : ∀ a : Int, a ≠ 90 ∧ (a < 97 ∨ 98 < a) → h137 a = h a := fun a ca => Eq.trans (y139 a (by omega)) (fr11 a ca)
      have y140_ : ∀ k : Int, k ≠ 7 → (h137 90) k = (h2 90) k := y140
      have rk147 : ∀ k : Int, k ≠ 7 → k ≠ 8 → k ≠ 13 → h137 90 k = h 90 k := fun k n0 n1 n2 => Eq.trans (y140_ k n0) (rk12 k n0 n1 n2)
      have g148 : h137 90 2 = (h2 90 2) := y140_ 2 (by decide)
      have g149 : h137 90 3 = (h2 90 3) := y140_ 3 (by decide)
      have g150 : h137 90 8 = (h2 90 8) := y140_ 8 (by decide)
      have g151 : h137 90 13 = (h2 90 13) := y140_ 13 (by decide)
      have g152 : h137 90 15 = (h2 90 15) := y140_ 15 (by decide)
      rcases y141 with ⟨rfl, f153⟩ | ⟨rfl, f154⟩
      · skip
        show ov_R u d ov_m227 18 [(0, ov_r 90), (1, ov_i dep), (2, ov_i 0)] [ov_i 0] z136 h137 (P_fMo_test_90 F z h t m N p dep)
        have f155 : (h137 90 8) = (h2 90 8) ∧ ((h2 90 8) ≠ 0 ∨ pt_is t m w21 (60 : Int) = 0) ∧ (h137 90 7) = (h2 90 7) ∧ (h137 93 ((h137 90 7))) = w21 := f153
        clear f153
        refine ov_ifne (tgt := 30) d_227_18 (by decide) (by omega) (fun c156 => ?_) (fun c156 => ?_)
        · omega
        · skip
          refine ov_blk (ls2 := [(0, ov_r 90), (1, ov_i dep), (2, ov_i 0)]) (st2 := [ov_i 61, ov_r 90]) (pc2 := 24) b_227_21_2 rfl rfl ?_
          have cf157 : h137 93 ((h137 90 7)) = h 93 ((h137 90 7)) := congrFun E143 ((h137 90 7))
          refine ov_cV (as := [ov_i 61]) (st := []) (d2 := d - 1) d_227_24 lk_Mo_263 rfl (Nat.le_of_ble_eq_true rfl) (c := 1) (zb_90 I138) (zs_90 I138) ⟨by decide, rfl⟩ (by omega) (c_fMo_hasSign_90 t m N w21 (d - 1) (by omega) U I138 61 (by omega) (by show 0 ≤ (h137 90 7) ∧ (h137 90 7) ≤ N; omega) (by show (h137 93 ((h137 90 7))) = w21; omega) (by show 0 ≤ (h137 90 8); omega) (by show 0 ≤ (61 : Int) ∧ (61 : Int) ≤ 65535; omega) (by rw [show h137 92 = h 92 from E142, show h137 93 = h 93 from E143, show h137 94 = h 94 from E144]; exact mt)) ?_
          rintro _ z159 h160 ⟨v158, rfl, I161, y162, y163, y164⟩
          have E165 : h160 92 = h 92 := Eq.trans (y162 92 (by decide)) (show h137 92 = h 92 from E142)
          have E166 : h160 93 = h 93 := Eq.trans (y162 93 (by decide)) (show h137 93 = h 93 from E143)
          have E167 : h160 94 = h 94 := Eq.trans (y162 94 (by decide)) (show h137 94 = h 94 from E144)
          have E168 : h160 95 = h 95 := Eq.trans (y162 95 (by decide)) (show h137 95 = h 95 from E145)
          have fr169 : ∀ a : Int, a ≠ 90 ∧ (a < 97 ∨ 98 < a) → h160 a = h a := fun a ca => Eq.trans (y162 a (by omega)) (fr146 a ca)
          have y163_ : ∀ k : Int, k ≠ 7 → (h160 90) k = (h137 90) k := y163
          have rk170 : ∀ k : Int, k ≠ 7 → k ≠ 8 → k ≠ 13 → h160 90 k = h 90 k := fun k n0 n1 n2 => Eq.trans (y163_ k n0) (rk147 k n0 n1 n2)
          have g171 : h160 90 2 = (h137 90 2) := y163_ 2 (by decide)
          have g172 : h160 90 3 = (h137 90 3) := y163_ 3 (by decide)
          have g173 : h160 90 8 = (h137 90 8) := y163_ 8 (by decide)
          have g174 : h160 90 13 = (h137 90 13) := y163_ 13 (by decide)
          have g175 : h160 90 15 = (h137 90 15) := y163_ 15 (by decide)
          rcases y164 with ⟨rfl, f176⟩ | ⟨rfl, f177⟩
          · skip
            show ov_R u d ov_m227 27 [(0, ov_r 90), (1, ov_i dep), (2, ov_i 0)] [ov_i 0] z159 h160 (P_fMo_test_90 F z h t m N p dep)
            have f178 : (h160 90 8) = (h137 90 8) ∧ ((h137 90 8) ≠ 0 ∨ pt_is t m w21 (61 : Int) = 0) ∧ (h160 90 7) = (h137 90 7) ∧ (h160 93 ((h160 90 7))) = w21 := f176
            clear f176
            refine ov_ifeq (tgt := 51) d_227_27 (by decide) (by omega) (fun c179 => ?_) (fun c179 => ?_)
            · skip
              exact ov_retv (st := []) d_227_51 rfl ⟨rfl, I161, (fun a ca => (fr169 a ca)), (fun k n0 n1 n2 => (rk170 k n0 n1 n2)), (Or.inr (Or.inr ⟨w21, (by show (h 90 8) = 0 ∧ (h160 90 8) = 0 ∧ (h 90 13) ≤ (h160 90 13) ∧ (h160 90 13) - (h 90 13) ≤ (h160 90 7) - (h 90 7) ∧ (h 90 7) ≤ (h160 90 7) ∧ (h160 90 7) ≤ N ∧ (h160 93 ((h160 90 7))) = w21; omega), (pt_EV5_e y23_ (by omega))⟩))⟩
            · omega
          · skip
            show ov_R u d ov_m227 27 [(0, ov_r 90), (1, ov_i dep), (2, ov_i 0)] [ov_i 1] z159 h160 (P_fMo_test_90 F z h t m N p dep)
            have f180 : (h137 90 8) = 0 ∧ pt_is t m w21 (61 : Int) = 1 ∧ pt_ty t m w21 = 4 ∧ (h160 90 7) = (h137 90 7) + 1 ∧ (h160 90 7) ≤ N ∧ (h160 93 ((h160 90 7))) = pt_nt t m w21 := f177
            clear f177
            refine ov_ifeq (tgt := 51) d_227_27 (by decide) (by omega) (fun c181 => ?_) (fun c181 => ?_)
            · omega
            · skip
              refine ov_blk (ls2 := [(0, ov_r 90), (1, ov_i dep), (2, ov_i 0)]) (st2 := [ov_i dep, ov_r 90]) (pc2 := 32) b_227_30_2 rfl rfl ?_
              have cf182 : h160 93 ((h160 90 7)) = h 93 ((h160 90 7)) := congrFun E166 ((h160 90 7))
              refine ov_cV (as := [ov_i dep]) (st := []) (d2 := d - 1) d_227_32 lk_Mo_260 rfl (Nat.le_of_ble_eq_true rfl) (c := 1) (zb_90 I161) (zs_90 I161) ⟨by decide, rfl⟩ (by omega) (c_fMo_sums_90 t m N (pt_nt t m w21) k HE HP (d - 1) (by omega) U I161 dep (by omega) (by show 0 ≤ (h160 90 7) ∧ (h160 90 7) ≤ N; omega) (by show (h160 93 ((h160 90 7))) = (pt_nt t m w21); omega) (by show 0 ≤ (h160 90 8); omega) (by show 0 ≤ dep ∧ dep + (k : Int) = 5; omega) (by show 0 ≤ (h160 90 13) ∧ (h160 90 13) ≤ (h160 90 7); omega) (by rw [show h160 92 = h 92 from E165, show h160 93 = h 93 from E166, show h160 94 = h 94 from E167]; exact mt) (by rw [show h160 95 = h 95 from E168]; exact wd)) ?_
              rintro _ z183 h184 ⟨rfl, I185, y186, y187, y188⟩
              have E189 : h184 92 = h 92 := Eq.trans (y186 92 (by decide)) (show h160 92 = h 92 from E165)
              have E190 : h184 93 = h 93 := Eq.trans (y186 93 (by decide)) (show h160 93 = h 93 from E166)
              have E191 : h184 94 = h 94 := Eq.trans (y186 94 (by decide)) (show h160 94 = h 94 from E167)
              have E192 : h184 95 = h 95 := Eq.trans (y186 95 (by decide)) (show h160 95 = h 95 from E168)
              have fr193 : ∀ a : Int, a ≠ 90 ∧ (a < 97 ∨ 98 < a) → h184 a = h a := fun a ca => Eq.trans (y186 a (by omega)) (fr169 a ca)
              have y187_ : ∀ k : Int, k ≠ 7 → k ≠ 8 → k ≠ 13 → (h184 90) k = (h160 90) k := y187
              have rk194 : ∀ k : Int, k ≠ 7 → k ≠ 8 → k ≠ 13 → h184 90 k = h 90 k := fun k n0 n1 n2 => Eq.trans (y187_ k n0 n1 n2) (rk170 k n0 n1 n2)
              have g195 : h184 90 2 = (h160 90 2) := y187_ 2 (by decide) (by decide) (by decide)
              have g196 : h184 90 3 = (h160 90 3) := y187_ 3 (by decide) (by decide) (by decide)
              have g197 : h184 90 15 = (h160 90 15) := y187_ 15 (by decide) (by decide) (by decide)
              rcases y188 with f198 | ⟨w199, w200, f201, y202⟩ | ⟨w203, f204, y205⟩
              · omega
              · skip
                show ov_R u d ov_m227 35 [(0, ov_r 90), (1, ov_i dep), (2, ov_i 0)] [] z183 h184 (P_fMo_test_90 F z h t m N p dep)
                have f206 : (h160 90 8) = 0 ∧ (h184 90 8) = w199 ∧ 1 ≤ w199 ∧ (h160 90 13) ≤ (h184 90 13) ∧ (h184 90 13) - (h160 90 13) ≤ (h184 90 7) - (h160 90 7) ∧ (h160 90 7) ≤ (h184 90 7) ∧ (h184 90 7) ≤ N := f201
                clear f201
                have y202_ : pt_EV t m 3 dep (pt_nt t m w21) w199 w200 := y202
                refine ov_blk (ls2 := [(0, ov_r 90), (1, ov_i dep), (2, ov_i 0)]) (st2 := [ov_i 0, ov_r 90]) (pc2 := 37) b_227_35_2 rfl rfl ?_
                refine ov_ifeq (tgt := 45) d_227_37 (by decide) (by omega) (fun c207 => ?_) (fun c207 => ?_)
                · skip
                  refine ov_blk (ls2 := [(0, ov_r 90), (1, ov_i dep), (2, ov_i 0)]) (st2 := [ov_i 0, ov_i 8, ov_r 90]) (pc2 := 48) b_227_45_2 rfl rfl ?_
                  have cf208 : h184 93 ((h184 90 7)) = h 93 ((h184 90 7)) := congrFun E190 ((h184 90 7))
                  refine ov_cV (as := [ov_i 8, ov_i 0]) (st := []) (d2 := d - 1) d_227_48 lk_Mo_246 rfl (Nat.le_of_ble_eq_true rfl) (c := 1) (zb_90 I185) (zs_90 I185) ⟨by decide, rfl⟩ (by omega) (c_fMo_emit_90 (h184 93 (h184 90 7)) (d - 1) (by omega) U I185 8 0 (by omega) (by omega) (by show 0 ≤ (8 : Int) ∧ (8 : Int) ≤ 10; omega) (by show (h184 90 13) ≤ 999; omega) (by show (h184 93 ((h184 90 7))) = (h184 93 (h184 90 7)); omega)) ?_
                  rintro _ z209 h210 ⟨rfl, I211, y212, f213, y214⟩
                  have E215 : h210 92 = h 92 := Eq.trans (y212 92 (by decide)) (show h184 92 = h 92 from E189)
                  have E216 : h210 93 = h 93 := Eq.trans (y212 93 (by decide)) (show h184 93 = h 93 from E190)
                  have E217 : h210 94 = h 94 := Eq.trans (y212 94 (by decide)) (show h184 94 = h 94 from E191)
                  have E218 : h210 95 = h 95 := Eq.trans (y212 95 (by decide)) (show h184 95 = h 95 from E192)
                  have fr219 : ∀ a : Int, a ≠ 90 ∧ (a < 97 ∨ 98 < a) → h210 a = h a := fun a ca => Eq.trans (y212 a (by omega)) (fr193 a ca)
                  have f221 : (h210 90 13) = (h184 90 13) + 1 ∧ (h210 90 7) = (h184 90 7) ∧ (h210 90 8) = (h184 90 8) ∧ (h210 93 ((h210 90 7))) = (h184 93 (h184 90 7)) := f213
                  clear f213
                  have y214_ : ∀ k : Int, k ≠ 13 → (h210 90) k = (h184 90) k := y214
                  have rk220 : ∀ k : Int, k ≠ 7 → k ≠ 8 → k ≠ 13 → h210 90 k = h 90 k := fun k n0 n1 n2 => Eq.trans (y214_ k n2) (rk194 k n0 n1 n2)
                  have g222 : h210 90 2 = (h184 90 2) := y214_ 2 (by decide)
                  have g223 : h210 90 3 = (h184 90 3) := y214_ 3 (by decide)
                  have g224 : h210 90 7 = (h184 90 7) := y214_ 7 (by decide)
                  have g225 : h210 90 8 = (h184 90 8) := y214_ 8 (by decide)
                  have g226 : h210 90 15 = (h184 90 15) := y214_ 15 (by decide)
                  show ov_R u d ov_m227 51 [(0, ov_r 90), (1, ov_i dep), (2, ov_i 0)] [] z209 h210 (P_fMo_test_90 F z h t m N p dep)
                  exact ov_retv (st := []) d_227_51 rfl ⟨rfl, I211, (fun a ca => (fr219 a ca)), (fun k n0 n1 n2 => (rk220 k n0 n1 n2)), (Or.inr (Or.inl ⟨w199, w200, (by show (h 90 8) = 0 ∧ (h210 90 8) = w199 ∧ 1 ≤ w199 ∧ (h 90 13) ≤ (h210 90 13) ∧ (h210 90 13) - (h 90 13) ≤ (h210 90 7) - (h 90 7) ∧ (h 90 7) ≤ (h210 90 7) ∧ (h210 90 7) ≤ N; omega), (pt_EV5 y23_ (by omega) y202_)⟩))⟩
                · omega
              · skip
                show ov_R u d ov_m227 35 [(0, ov_r 90), (1, ov_i dep), (2, ov_i 0)] [] z183 h184 (P_fMo_test_90 F z h t m N p dep)
                have f227 : (h160 90 8) = 0 ∧ (h184 90 8) = 0 ∧ (h160 90 13) ≤ (h184 90 13) ∧ (h184 90 13) - (h160 90 13) ≤ (h184 90 7) - (h160 90 7) ∧ (h160 90 7) ≤ (h184 90 7) ∧ (h184 90 7) ≤ N ∧ (h184 93 ((h184 90 7))) = w203 := f204
                clear f204
                have y205_ : pt_EV t m 3 dep (pt_nt t m w21) 0 w203 := y205
                refine ov_blk (ls2 := [(0, ov_r 90), (1, ov_i dep), (2, ov_i 0)]) (st2 := [ov_i 0, ov_r 90]) (pc2 := 37) b_227_35_2 rfl rfl ?_
                refine ov_ifeq (tgt := 45) d_227_37 (by decide) (by omega) (fun c228 => ?_) (fun c228 => ?_)
                · skip
                  refine ov_blk (ls2 := [(0, ov_r 90), (1, ov_i dep), (2, ov_i 0)]) (st2 := [ov_i 0, ov_i 8, ov_r 90]) (pc2 := 48) b_227_45_2 rfl rfl ?_
                  have cf229 : h184 93 ((h184 90 7)) = h 93 ((h184 90 7)) := congrFun E190 ((h184 90 7))
                  refine ov_cV (as := [ov_i 8, ov_i 0]) (st := []) (d2 := d - 1) d_227_48 lk_Mo_246 rfl (Nat.le_of_ble_eq_true rfl) (c := 1) (zb_90 I185) (zs_90 I185) ⟨by decide, rfl⟩ (by omega) (c_fMo_emit_90 w203 (d - 1) (by omega) U I185 8 0 (by omega) (by omega) (by show 0 ≤ (8 : Int) ∧ (8 : Int) ≤ 10; omega) (by show (h184 90 13) ≤ 999; omega) (by show (h184 93 ((h184 90 7))) = w203; omega)) ?_
                  rintro _ z230 h231 ⟨rfl, I232, y233, f234, y235⟩
                  have E236 : h231 92 = h 92 := Eq.trans (y233 92 (by decide)) (show h184 92 = h 92 from E189)
                  have E237 : h231 93 = h 93 := Eq.trans (y233 93 (by decide)) (show h184 93 = h 93 from E190)
                  have E238 : h231 94 = h 94 := Eq.trans (y233 94 (by decide)) (show h184 94 = h 94 from E191)
                  have E239 : h231 95 = h 95 := Eq.trans (y233 95 (by decide)) (show h184 95 = h 95 from E192)
                  have fr240 : ∀ a : Int, a ≠ 90 ∧ (a < 97 ∨ 98 < a) → h231 a = h a := fun a ca => Eq.trans (y233 a (by omega)) (fr193 a ca)
                  have f242 : (h231 90 13) = (h184 90 13) + 1 ∧ (h231 90 7) = (h184 90 7) ∧ (h231 90 8) = (h184 90 8) ∧ (h231 93 ((h231 90 7))) = w203 := f234
                  clear f234
                  have y235_ : ∀ k : Int, k ≠ 13 → (h231 90) k = (h184 90) k := y235
                  have rk241 : ∀ k : Int, k ≠ 7 → k ≠ 8 → k ≠ 13 → h231 90 k = h 90 k := fun k n0 n1 n2 => Eq.trans (y235_ k n2) (rk194 k n0 n1 n2)
                  have g243 : h231 90 2 = (h184 90 2) := y235_ 2 (by decide)
                  have g244 : h231 90 3 = (h184 90 3) := y235_ 3 (by decide)
                  have g245 : h231 90 7 = (h184 90 7) := y235_ 7 (by decide)
                  have g246 : h231 90 8 = (h184 90 8) := y235_ 8 (by decide)
                  have g247 : h231 90 15 = (h184 90 15) := y235_ 15 (by decide)
                  show ov_R u d ov_m227 51 [(0, ov_r 90), (1, ov_i dep), (2, ov_i 0)] [] z230 h231 (P_fMo_test_90 F z h t m N p dep)
                  exact ov_retv (st := []) d_227_51 rfl ⟨rfl, I232, (fun a ca => (fr240 a ca)), (fun k n0 n1 n2 => (rk241 k n0 n1 n2)), (Or.inr (Or.inr ⟨w203, (by show (h 90 8) = 0 ∧ (h231 90 8) = 0 ∧ (h 90 13) ≤ (h231 90 13) ∧ (h231 90 13) - (h 90 13) ≤ (h231 90 7) - (h 90 7) ∧ (h 90 7) ≤ (h231 90 7) ∧ (h231 90 7) ≤ N ∧ (h231 93 ((h231 90 7))) = w203; omega), (pt_EV5 y23_ (by omega) y205_)⟩))⟩
                · omega
      · skip
        show ov_R u d ov_m227 18 [(0, ov_r 90), (1, ov_i dep), (2, ov_i 0)] [ov_i 1] z136 h137 (P_fMo_test_90 F z h t m N p dep)
        have f248 : (h2 90 8) = 0 ∧ pt_is t m w21 (60 : Int) = 1 ∧ pt_ty t m w21 = 4 ∧ (h137 90 7) = (h2 90 7) + 1 ∧ (h137 90 7) ≤ N ∧ (h137 93 ((h137 90 7))) = pt_nt t m w21 := f154
        clear f154
        refine ov_ifne (tgt := 30) d_227_18 (by decide) (by omega) (fun c249 => ?_) (fun c249 => ?_)
        · skip
          refine ov_blk (ls2 := [(0, ov_r 90), (1, ov_i dep), (2, ov_i 0)]) (st2 := [ov_i dep, ov_r 90]) (pc2 := 32) b_227_30_2 rfl rfl ?_
          have cf250 : h137 93 ((h137 90 7)) = h 93 ((h137 90 7)) := congrFun E143 ((h137 90 7))
          refine ov_cV (as := [ov_i dep]) (st := []) (d2 := d - 1) d_227_32 lk_Mo_260 rfl (Nat.le_of_ble_eq_true rfl) (c := 1) (zb_90 I138) (zs_90 I138) ⟨by decide, rfl⟩ (by omega) (c_fMo_sums_90 t m N (pt_nt t m w21) k HE HP (d - 1) (by omega) U I138 dep (by omega) (by show 0 ≤ (h137 90 7) ∧ (h137 90 7) ≤ N; omega) (by show (h137 93 ((h137 90 7))) = (pt_nt t m w21); omega) (by show 0 ≤ (h137 90 8); omega) (by show 0 ≤ dep ∧ dep + (k : Int) = 5; omega) (by show 0 ≤ (h137 90 13) ∧ (h137 90 13) ≤ (h137 90 7); omega) (by rw [show h137 92 = h 92 from E142, show h137 93 = h 93 from E143, show h137 94 = h 94 from E144]; exact mt) (by rw [show h137 95 = h 95 from E145]; exact wd)) ?_
          rintro _ z251 h252 ⟨rfl, I253, y254, y255, y256⟩
          have E257 : h252 92 = h 92 := Eq.trans (y254 92 (by decide)) (show h137 92 = h 92 from E142)
          have E258 : h252 93 = h 93 := Eq.trans (y254 93 (by decide)) (show h137 93 = h 93 from E143)
          have E259 : h252 94 = h 94 := Eq.trans (y254 94 (by decide)) (show h137 94 = h 94 from E144)
          have E260 : h252 95 = h 95 := Eq.trans (y254 95 (by decide)) (show h137 95 = h 95 from E145)
          have fr261 : ∀ a : Int, a ≠ 90 ∧ (a < 97 ∨ 98 < a) → h252 a = h a := fun a ca => Eq.trans (y254 a (by omega)) (fr146 a ca)
          have y255_ : ∀ k : Int, k ≠ 7 → k ≠ 8 → k ≠ 13 → (h252 90) k = (h137 90) k := y255
          have rk262 : ∀ k : Int, k ≠ 7 → k ≠ 8 → k ≠ 13 → h252 90 k = h 90 k := fun k n0 n1 n2 => Eq.trans (y255_ k n0 n1 n2) (rk147 k n0 n1 n2)
          have g263 : h252 90 2 = (h137 90 2) := y255_ 2 (by decide) (by decide) (by decide)
          have g264 : h252 90 3 = (h137 90 3) := y255_ 3 (by decide) (by decide) (by decide)
          have g265 : h252 90 15 = (h137 90 15) := y255_ 15 (by decide) (by decide) (by decide)
          rcases y256 with f266 | ⟨w267, w268, f269, y270⟩ | ⟨w271, f272, y273⟩
          · omega
          · skip
            show ov_R u d ov_m227 35 [(0, ov_r 90), (1, ov_i dep), (2, ov_i 0)] [] z251 h252 (P_fMo_test_90 F z h t m N p dep)
            have f274 : (h137 90 8) = 0 ∧ (h252 90 8) = w267 ∧ 1 ≤ w267 ∧ (h137 90 13) ≤ (h252 90 13) ∧ (h252 90 13) - (h137 90 13) ≤ (h252 90 7) - (h137 90 7) ∧ (h137 90 7) ≤ (h252 90 7) ∧ (h252 90 7) ≤ N := f269
            clear f269
            have y270_ : pt_EV t m 3 dep (pt_nt t m w21) w267 w268 := y270
            refine ov_blk (ls2 := [(0, ov_r 90), (1, ov_i dep), (2, ov_i 0)]) (st2 := [ov_i 0, ov_r 90]) (pc2 := 37) b_227_35_2 rfl rfl ?_
            refine ov_ifeq (tgt := 45) d_227_37 (by decide) (by omega) (fun c275 => ?_) (fun c275 => ?_)
            · skip
              refine ov_blk (ls2 := [(0, ov_r 90), (1, ov_i dep), (2, ov_i 0)]) (st2 := [ov_i 0, ov_i 8, ov_r 90]) (pc2 := 48) b_227_45_2 rfl rfl ?_
              have cf276 : h252 93 ((h252 90 7)) = h 93 ((h252 90 7)) := congrFun E258 ((h252 90 7))
              refine ov_cV (as := [ov_i 8, ov_i 0]) (st := []) (d2 := d - 1) d_227_48 lk_Mo_246 rfl (Nat.le_of_ble_eq_true rfl) (c := 1) (zb_90 I253) (zs_90 I253) ⟨by decide, rfl⟩ (by omega) (c_fMo_emit_90 (h252 93 (h252 90 7)) (d - 1) (by omega) U I253 8 0 (by omega) (by omega) (by show 0 ≤ (8 : Int) ∧ (8 : Int) ≤ 10; omega) (by show (h252 90 13) ≤ 999; omega) (by show (h252 93 ((h252 90 7))) = (h252 93 (h252 90 7)); omega)) ?_
              rintro _ z277 h278 ⟨rfl, I279, y280, f281, y282⟩
              have E283 : h278 92 = h 92 := Eq.trans (y280 92 (by decide)) (show h252 92 = h 92 from E257)
              have E284 : h278 93 = h 93 := Eq.trans (y280 93 (by decide)) (show h252 93 = h 93 from E258)
              have E285 : h278 94 = h 94 := Eq.trans (y280 94 (by decide)) (show h252 94 = h 94 from E259)
              have E286 : h278 95 = h 95 := Eq.trans (y280 95 (by decide)) (show h252 95 = h 95 from E260)
              have fr287 : ∀ a : Int, a ≠ 90 ∧ (a < 97 ∨ 98 < a) → h278 a = h a := fun a ca => Eq.trans (y280 a (by omega)) (fr261 a ca)
              have f289 : (h278 90 13) = (h252 90 13) + 1 ∧ (h278 90 7) = (h252 90 7) ∧ (h278 90 8) = (h252 90 8) ∧ (h278 93 ((h278 90 7))) = (h252 93 (h252 90 7)) := f281
              clear f281
              have y282_ : ∀ k : Int, k ≠ 13 → (h278 90) k = (h252 90) k := y282
              have rk288 : ∀ k : Int, k ≠ 7 → k ≠ 8 → k ≠ 13 → h278 90 k = h 90 k := fun k n0 n1 n2 => Eq.trans (y282_ k n2) (rk262 k n0 n1 n2)
              have g290 : h278 90 2 = (h252 90 2) := y282_ 2 (by decide)
              have g291 : h278 90 3 = (h252 90 3) := y282_ 3 (by decide)
              have g292 : h278 90 7 = (h252 90 7) := y282_ 7 (by decide)
              have g293 : h278 90 8 = (h252 90 8) := y282_ 8 (by decide)
              have g294 : h278 90 15 = (h252 90 15) := y282_ 15 (by decide)
              show ov_R u d ov_m227 51 [(0, ov_r 90), (1, ov_i dep), (2, ov_i 0)] [] z277 h278 (P_fMo_test_90 F z h t m N p dep)
              exact ov_retv (st := []) d_227_51 rfl ⟨rfl, I279, (fun a ca => (fr287 a ca)), (fun k n0 n1 n2 => (rk288 k n0 n1 n2)), (Or.inr (Or.inl ⟨w267, w268, (by show (h 90 8) = 0 ∧ (h278 90 8) = w267 ∧ 1 ≤ w267 ∧ (h 90 13) ≤ (h278 90 13) ∧ (h278 90 13) - (h 90 13) ≤ (h278 90 7) - (h 90 7) ∧ (h 90 7) ≤ (h278 90 7) ∧ (h278 90 7) ≤ N; omega), (pt_EV5 y23_ (by omega) y270_)⟩))⟩
            · omega
          · skip
            show ov_R u d ov_m227 35 [(0, ov_r 90), (1, ov_i dep), (2, ov_i 0)] [] z251 h252 (P_fMo_test_90 F z h t m N p dep)
            have f295 : (h137 90 8) = 0 ∧ (h252 90 8) = 0 ∧ (h137 90 13) ≤ (h252 90 13) ∧ (h252 90 13) - (h137 90 13) ≤ (h252 90 7) - (h137 90 7) ∧ (h137 90 7) ≤ (h252 90 7) ∧ (h252 90 7) ≤ N ∧ (h252 93 ((h252 90 7))) = w271 := f272
            clear f272
            have y273_ : pt_EV t m 3 dep (pt_nt t m w21) 0 w271 := y273
            refine ov_blk (ls2 := [(0, ov_r 90), (1, ov_i dep), (2, ov_i 0)]) (st2 := [ov_i 0, ov_r 90]) (pc2 := 37) b_227_35_2 rfl rfl ?_
            refine ov_ifeq (tgt := 45) d_227_37 (by decide) (by omega) (fun c296 => ?_) (fun c296 => ?_)
            · skip
              refine ov_blk (ls2 := [(0, ov_r 90), (1, ov_i dep), (2, ov_i 0)]) (st2 := [ov_i 0, ov_i 8, ov_r 90]) (pc2 := 48) b_227_45_2 rfl rfl ?_
              have cf297 : h252 93 ((h252 90 7)) = h 93 ((h252 90 7)) := congrFun E258 ((h252 90 7))
              refine ov_cV (as := [ov_i 8, ov_i 0]) (st := []) (d2 := d - 1) d_227_48 lk_Mo_246 rfl (Nat.le_of_ble_eq_true rfl) (c := 1) (zb_90 I253) (zs_90 I253) ⟨by decide, rfl⟩ (by omega) (c_fMo_emit_90 w271 (d - 1) (by omega) U I253 8 0 (by omega) (by omega) (by show 0 ≤ (8 : Int) ∧ (8 : Int) ≤ 10; omega) (by show (h252 90 13) ≤ 999; omega) (by show (h252 93 ((h252 90 7))) = w271; omega)) ?_
              rintro _ z298 h299 ⟨rfl, I300, y301, f302, y303⟩
              have E304 : h299 92 = h 92 := Eq.trans (y301 92 (by decide)) (show h252 92 = h 92 from E257)
              have E305 : h299 93 = h 93 := Eq.trans (y301 93 (by decide)) (show h252 93 = h 93 from E258)
              have E306 : h299 94 = h 94 := Eq.trans (y301 94 (by decide)) (show h252 94 = h 94 from E259)
              have E307 : h299 95 = h 95 := Eq.trans (y301 95 (by decide)) (show h252 95 = h 95 from E260)
              have fr308 : ∀ a : Int, a ≠ 90 ∧ (a < 97 ∨ 98 < a) → h299 a = h a := fun a ca => Eq.trans (y301 a (by omega)) (fr261 a ca)
              have f310 : (h299 90 13) = (h252 90 13) + 1 ∧ (h299 90 7) = (h252 90 7) ∧ (h299 90 8) = (h252 90 8) ∧ (h299 93 ((h299 90 7))) = w271 := f302
              clear f302
              have y303_ : ∀ k : Int, k ≠ 13 → (h299 90) k = (h252 90) k := y303
              have rk309 : ∀ k : Int, k ≠ 7 → k ≠ 8 → k ≠ 13 → h299 90 k = h 90 k := fun k n0 n1 n2 => Eq.trans (y303_ k n2) (rk262 k n0 n1 n2)
              have g311 : h299 90 2 = (h252 90 2) := y303_ 2 (by decide)
              have g312 : h299 90 3 = (h252 90 3) := y303_ 3 (by decide)
              have g313 : h299 90 7 = (h252 90 7) := y303_ 7 (by decide)
              have g314 : h299 90 8 = (h252 90 8) := y303_ 8 (by decide)
              have g315 : h299 90 15 = (h252 90 15) := y303_ 15 (by decide)
              show ov_R u d ov_m227 51 [(0, ov_r 90), (1, ov_i dep), (2, ov_i 0)] [] z298 h299 (P_fMo_test_90 F z h t m N p dep)
              exact ov_retv (st := []) d_227_51 rfl ⟨rfl, I300, (fun a ca => (fr308 a ca)), (fun k n0 n1 n2 => (rk309 k n0 n1 n2)), (Or.inr (Or.inr ⟨w271, (by show (h 90 8) = 0 ∧ (h299 90 8) = 0 ∧ (h 90 13) ≤ (h299 90 13) ∧ (h299 90 13) - (h 90 13) ≤ (h299 90 7) - (h 90 7) ∧ (h 90 7) ≤ (h299 90 7) ∧ (h299 90 7) ≤ N ∧ (h299 93 ((h299 90 7))) = w271; omega), (pt_EV5 y23_ (by omega) y273_)⟩))⟩
            · omega
        · omega
    · skip
      show ov_R u d ov_m227 11 [(0, ov_r 90), (1, ov_i dep)] [ov_i 1] z1 h2 (P_fMo_test_90 F z h t m N p dep)
      have f316 : (h2 90 8) = 0 ∧ pt_is t m w21 (60 : Int) = 1 ∧ pt_ty t m w21 = 4 := f133
      clear f133
      refine ov_blk (ls2 := [(0, ov_r 90), (1, ov_i dep), (2, ov_i 1)]) (st2 := [ov_i 60, ov_r 90]) (pc2 := 15) b_227_11_3 rfl rfl ?_
      refine ov_cV (as := [ov_i 60]) (st := []) (d2 := d - 1) d_227_15 lk_Mo_263 rfl (Nat.le_of_ble_eq_true rfl) (c := 1) (zb_90 I3) (zs_90 I3) ⟨by decide, rfl⟩ (by omega) (c_fMo_hasSign_90 t m N w21 (d - 1) (by omega) U I3 60 (by omega) (by show 0 ≤ (h2 90 7) ∧ (h2 90 7) ≤ N; omega) (by show (h2 93 ((h2 90 7))) = w21; omega) (by show 0 ≤ (h2 90 8); omega) (by show 0 ≤ (60 : Int) ∧ (60 : Int) ≤ 65535; omega) (by rw [show h2 92 = h 92 from E7, show h2 93 = h 93 from E8, show h2 94 = h 94 from E9]; exact mt)) ?_
      rintro _ z318 h319 ⟨v317, rfl, I320, y321, y322, y323⟩
      have E324 : h319 92 = h 92 := Eq.trans (y321 92 (by decide)) (show h2 92 = h 92 from E7)
      have E325 : h319 93 = h 93 := Eq.trans (y321 93 (by decide)) (show h2 93 = h 93 from E8)
      have E326 : h319 94 = h 94 := Eq.trans (y321 94 (by decide)) (show h2 94 = h 94 from E9)
      have E327 : h319 95 = h 95 := Eq.trans (y321 95 (by decide)) (show h2 95 = h 95 from E10)
      have fr328 : ∀ a : Int, a ≠ 90 ∧ (a < 97 ∨ 98 < a) → h319 a = h a := fun a ca => Eq.trans (y321 a (by omega)) (fr11 a ca)
      have y322_ : ∀ k : Int, k ≠ 7 → (h319 90) k = (h2 90) k := y322
      have rk329 : ∀ k : Int, k ≠ 7 → k ≠ 8 → k ≠ 13 → h319 90 k = h 90 k := fun k n0 n1 n2 => Eq.trans (y322_ k n0) (rk12 k n0 n1 n2)
      have g330 : h319 90 2 = (h2 90 2) := y322_ 2 (by decide)
      have g331 : h319 90 3 = (h2 90 3) := y322_ 3 (by decide)
      have g332 : h319 90 8 = (h2 90 8) := y322_ 8 (by decide)
      have g333 : h319 90 13 = (h2 90 13) := y322_ 13 (by decide)
      have g334 : h319 90 15 = (h2 90 15) := y322_ 15 (by decide)
      rcases y323 with ⟨rfl, f335⟩ | ⟨rfl, f336⟩
      · skip
        show ov_R u d ov_m227 18 [(0, ov_r 90), (1, ov_i dep), (2, ov_i 1)] [ov_i 0] z318 h319 (P_fMo_test_90 F z h t m N p dep)
        have f337 : (h319 90 8) = (h2 90 8) ∧ ((h2 90 8) ≠ 0 ∨ pt_is t m w21 (60 : Int) = 0) ∧ (h319 90 7) = (h2 90 7) ∧ (h319 93 ((h319 90 7))) = w21 := f335
        clear f335
        refine ov_ifne (tgt := 30) d_227_18 (by decide) (by omega) (fun c338 => ?_) (fun c338 => ?_)
        · omega
        · skip
          refine ov_blk (ls2 := [(0, ov_r 90), (1, ov_i dep), (2, ov_i 1)]) (st2 := [ov_i 61, ov_r 90]) (pc2 := 24) b_227_21_2 rfl rfl ?_
          have cf339 : h319 93 ((h319 90 7)) = h 93 ((h319 90 7)) := congrFun E325 ((h319 90 7))
          refine ov_cV (as := [ov_i 61]) (st := []) (d2 := d - 1) d_227_24 lk_Mo_263 rfl (Nat.le_of_ble_eq_true rfl) (c := 1) (zb_90 I320) (zs_90 I320) ⟨by decide, rfl⟩ (by omega) (c_fMo_hasSign_90 t m N w21 (d - 1) (by omega) U I320 61 (by omega) (by show 0 ≤ (h319 90 7) ∧ (h319 90 7) ≤ N; omega) (by show (h319 93 ((h319 90 7))) = w21; omega) (by show 0 ≤ (h319 90 8); omega) (by show 0 ≤ (61 : Int) ∧ (61 : Int) ≤ 65535; omega) (by rw [show h319 92 = h 92 from E324, show h319 93 = h 93 from E325, show h319 94 = h 94 from E326]; exact mt)) ?_
          rintro _ z341 h342 ⟨v340, rfl, I343, y344, y345, y346⟩
          have E347 : h342 92 = h 92 := Eq.trans (y344 92 (by decide)) (show h319 92 = h 92 from E324)
          have E348 : h342 93 = h 93 := Eq.trans (y344 93 (by decide)) (show h319 93 = h 93 from E325)
          have E349 : h342 94 = h 94 := Eq.trans (y344 94 (by decide)) (show h319 94 = h 94 from E326)
          have E350 : h342 95 = h 95 := Eq.trans (y344 95 (by decide)) (show h319 95 = h 95 from E327)
          have fr351 : ∀ a : Int, a ≠ 90 ∧ (a < 97 ∨ 98 < a) → h342 a = h a := fun a ca => Eq.trans (y344 a (by omega)) (fr328 a ca)
          have y345_ : ∀ k : Int, k ≠ 7 → (h342 90) k = (h319 90) k := y345
          have rk352 : ∀ k : Int, k ≠ 7 → k ≠ 8 → k ≠ 13 → h342 90 k = h 90 k := fun k n0 n1 n2 => Eq.trans (y345_ k n0) (rk329 k n0 n1 n2)
          have g353 : h342 90 2 = (h319 90 2) := y345_ 2 (by decide)
          have g354 : h342 90 3 = (h319 90 3) := y345_ 3 (by decide)
          have g355 : h342 90 8 = (h319 90 8) := y345_ 8 (by decide)
          have g356 : h342 90 13 = (h319 90 13) := y345_ 13 (by decide)
          have g357 : h342 90 15 = (h319 90 15) := y345_ 15 (by decide)
          rcases y346 with ⟨rfl, f358⟩ | ⟨rfl, f359⟩
          · skip
            show ov_R u d ov_m227 27 [(0, ov_r 90), (1, ov_i dep), (2, ov_i 1)] [ov_i 0] z341 h342 (P_fMo_test_90 F z h t m N p dep)
            have f360 : (h342 90 8) = (h319 90 8) ∧ ((h319 90 8) ≠ 0 ∨ pt_is t m w21 (61 : Int) = 0) ∧ (h342 90 7) = (h319 90 7) ∧ (h342 93 ((h342 90 7))) = w21 := f358
            clear f358
            refine ov_ifeq (tgt := 51) d_227_27 (by decide) (by omega) (fun c361 => ?_) (fun c361 => ?_)
            · skip
              exact ov_retv (st := []) d_227_51 rfl ⟨rfl, I343, (fun a ca => (fr351 a ca)), (fun k n0 n1 n2 => (rk352 k n0 n1 n2)), (Or.inr (Or.inr ⟨w21, (by show (h 90 8) = 0 ∧ (h342 90 8) = 0 ∧ (h 90 13) ≤ (h342 90 13) ∧ (h342 90 13) - (h 90 13) ≤ (h342 90 7) - (h 90 7) ∧ (h 90 7) ≤ (h342 90 7) ∧ (h342 90 7) ≤ N ∧ (h342 93 ((h342 90 7))) = w21; omega), (pt_EV5_e y23_ (by omega))⟩))⟩
            · omega
          · skip
            show ov_R u d ov_m227 27 [(0, ov_r 90), (1, ov_i dep), (2, ov_i 1)] [ov_i 1] z341 h342 (P_fMo_test_90 F z h t m N p dep)
            have f362 : (h319 90 8) = 0 ∧ pt_is t m w21 (61 : Int) = 1 ∧ pt_ty t m w21 = 4 ∧ (h342 90 7) = (h319 90 7) + 1 ∧ (h342 90 7) ≤ N ∧ (h342 93 ((h342 90 7))) = pt_nt t m w21 := f359
            clear f359
            refine ov_ifeq (tgt := 51) d_227_27 (by decide) (by omega) (fun c363 => ?_) (fun c363 => ?_)
            · omega
            · skip
              refine ov_blk (ls2 := [(0, ov_r 90), (1, ov_i dep), (2, ov_i 1)]) (st2 := [ov_i dep, ov_r 90]) (pc2 := 32) b_227_30_2 rfl rfl ?_
              have cf364 : h342 93 ((h342 90 7)) = h 93 ((h342 90 7)) := congrFun E348 ((h342 90 7))
              refine ov_cV (as := [ov_i dep]) (st := []) (d2 := d - 1) d_227_32 lk_Mo_260 rfl (Nat.le_of_ble_eq_true rfl) (c := 1) (zb_90 I343) (zs_90 I343) ⟨by decide, rfl⟩ (by omega) (c_fMo_sums_90 t m N (pt_nt t m w21) k HE HP (d - 1) (by omega) U I343 dep (by omega) (by show 0 ≤ (h342 90 7) ∧ (h342 90 7) ≤ N; omega) (by show (h342 93 ((h342 90 7))) = (pt_nt t m w21); omega) (by show 0 ≤ (h342 90 8); omega) (by show 0 ≤ dep ∧ dep + (k : Int) = 5; omega) (by show 0 ≤ (h342 90 13) ∧ (h342 90 13) ≤ (h342 90 7); omega) (by rw [show h342 92 = h 92 from E347, show h342 93 = h 93 from E348, show h342 94 = h 94 from E349]; exact mt) (by rw [show h342 95 = h 95 from E350]; exact wd)) ?_
              rintro _ z365 h366 ⟨rfl, I367, y368, y369, y370⟩
              have E371 : h366 92 = h 92 := Eq.trans (y368 92 (by decide)) (show h342 92 = h 92 from E347)
              have E372 : h366 93 = h 93 := Eq.trans (y368 93 (by decide)) (show h342 93 = h 93 from E348)
              have E373 : h366 94 = h 94 := Eq.trans (y368 94 (by decide)) (show h342 94 = h 94 from E349)
              have E374 : h366 95 = h 95 := Eq.trans (y368 95 (by decide)) (show h342 95 = h 95 from E350)
              have fr375 : ∀ a : Int, a ≠ 90 ∧ (a < 97 ∨ 98 < a) → h366 a = h a := fun a ca => Eq.trans (y368 a (by omega)) (fr351 a ca)
              have y369_ : ∀ k : Int, k ≠ 7 → k ≠ 8 → k ≠ 13 → (h366 90) k = (h342 90) k := y369
              have rk376 : ∀ k : Int, k ≠ 7 → k ≠ 8 → k ≠ 13 → h366 90 k = h 90 k := fun k n0 n1 n2 => Eq.trans (y369_ k n0 n1 n2) (rk352 k n0 n1 n2)
              have g377 : h366 90 2 = (h342 90 2) := y369_ 2 (by decide) (by decide) (by decide)
              have g378 : h366 90 3 = (h342 90 3) := y369_ 3 (by decide) (by decide) (by decide)
              have g379 : h366 90 15 = (h342 90 15) := y369_ 15 (by decide) (by decide) (by decide)
              rcases y370 with f380 | ⟨w381, w382, f383, y384⟩ | ⟨w385, f386, y387⟩
              · omega
              · skip
                show ov_R u d ov_m227 35 [(0, ov_r 90), (1, ov_i dep), (2, ov_i 1)] [] z365 h366 (P_fMo_test_90 F z h t m N p dep)
                have f388 : (h342 90 8) = 0 ∧ (h366 90 8) = w381 ∧ 1 ≤ w381 ∧ (h342 90 13) ≤ (h366 90 13) ∧ (h366 90 13) - (h342 90 13) ≤ (h366 90 7) - (h342 90 7) ∧ (h342 90 7) ≤ (h366 90 7) ∧ (h366 90 7) ≤ N := f383
                clear f383
                have y384_ : pt_EV t m 3 dep (pt_nt t m w21) w381 w382 := y384
                refine ov_blk (ls2 := [(0, ov_r 90), (1, ov_i dep), (2, ov_i 1)]) (st2 := [ov_i 1, ov_r 90]) (pc2 := 37) b_227_35_2 rfl rfl ?_
                refine ov_ifeq (tgt := 45) d_227_37 (by decide) (by omega) (fun c389 => ?_) (fun c389 => ?_)
                · omega
                · skip
                  refine ov_blk (ls2 := [(0, ov_r 90), (1, ov_i dep), (2, ov_i 1)]) (st2 := [ov_i 7, ov_r 90]) (pc2 := 42) b_227_40_1 rfl rfl ?_
                  refine ov_goto (tgt := 47) d_227_42 (by decide) ?_
                  refine ov_blk (ls2 := [(0, ov_r 90), (1, ov_i dep), (2, ov_i 1)]) (st2 := [ov_i 0, ov_i 7, ov_r 90]) (pc2 := 48) b_227_47_1 rfl rfl ?_
                  have cf390 : h366 93 ((h366 90 7)) = h 93 ((h366 90 7)) := congrFun E372 ((h366 90 7))
                  refine ov_cV (as := [ov_i 7, ov_i 0]) (st := []) (d2 := d - 1) d_227_48 lk_Mo_246 rfl (Nat.le_of_ble_eq_true rfl) (c := 1) (zb_90 I367) (zs_90 I367) ⟨by decide, rfl⟩ (by omega) (c_fMo_emit_90 (h366 93 (h366 90 7)) (d - 1) (by omega) U I367 7 0 (by omega) (by omega) (by show 0 ≤ (7 : Int) ∧ (7 : Int) ≤ 10; omega) (by show (h366 90 13) ≤ 999; omega) (by show (h366 93 ((h366 90 7))) = (h366 93 (h366 90 7)); omega)) ?_
                  rintro _ z391 h392 ⟨rfl, I393, y394, f395, y396⟩
                  have E397 : h392 92 = h 92 := Eq.trans (y394 92 (by decide)) (show h366 92 = h 92 from E371)
                  have E398 : h392 93 = h 93 := Eq.trans (y394 93 (by decide)) (show h366 93 = h 93 from E372)
                  have E399 : h392 94 = h 94 := Eq.trans (y394 94 (by decide)) (show h366 94 = h 94 from E373)
                  have E400 : h392 95 = h 95 := Eq.trans (y394 95 (by decide)) (show h366 95 = h 95 from E374)
                  have fr401 : ∀ a : Int, a ≠ 90 ∧ (a < 97 ∨ 98 < a) → h392 a = h a := fun a ca => Eq.trans (y394 a (by omega)) (fr375 a ca)
                  have f403 : (h392 90 13) = (h366 90 13) + 1 ∧ (h392 90 7) = (h366 90 7) ∧ (h392 90 8) = (h366 90 8) ∧ (h392 93 ((h392 90 7))) = (h366 93 (h366 90 7)) := f395
                  clear f395
                  have y396_ : ∀ k : Int, k ≠ 13 → (h392 90) k = (h366 90) k := y396
                  have rk402 : ∀ k : Int, k ≠ 7 → k ≠ 8 → k ≠ 13 → h392 90 k = h 90 k := fun k n0 n1 n2 => Eq.trans (y396_ k n2) (rk376 k n0 n1 n2)
                  have g404 : h392 90 2 = (h366 90 2) := y396_ 2 (by decide)
                  have g405 : h392 90 3 = (h366 90 3) := y396_ 3 (by decide)
                  have g406 : h392 90 7 = (h366 90 7) := y396_ 7 (by decide)
                  have g407 : h392 90 8 = (h366 90 8) := y396_ 8 (by decide)
                  have g408 : h392 90 15 = (h366 90 15) := y396_ 15 (by decide)
                  show ov_R u d ov_m227 51 [(0, ov_r 90), (1, ov_i dep), (2, ov_i 1)] [] z391 h392 (P_fMo_test_90 F z h t m N p dep)
                  exact ov_retv (st := []) d_227_51 rfl ⟨rfl, I393, (fun a ca => (fr401 a ca)), (fun k n0 n1 n2 => (rk402 k n0 n1 n2)), (Or.inr (Or.inl ⟨w381, w382, (by show (h 90 8) = 0 ∧ (h392 90 8) = w381 ∧ 1 ≤ w381 ∧ (h 90 13) ≤ (h392 90 13) ∧ (h392 90 13) - (h 90 13) ≤ (h392 90 7) - (h 90 7) ∧ (h 90 7) ≤ (h392 90 7) ∧ (h392 90 7) ≤ N; omega), (pt_EV5 y23_ (by omega) y384_)⟩))⟩
              · skip
                show ov_R u d ov_m227 35 [(0, ov_r 90), (1, ov_i dep), (2, ov_i 1)] [] z365 h366 (P_fMo_test_90 F z h t m N p dep)
                have f409 : (h342 90 8) = 0 ∧ (h366 90 8) = 0 ∧ (h342 90 13) ≤ (h366 90 13) ∧ (h366 90 13) - (h342 90 13) ≤ (h366 90 7) - (h342 90 7) ∧ (h342 90 7) ≤ (h366 90 7) ∧ (h366 90 7) ≤ N ∧ (h366 93 ((h366 90 7))) = w385 := f386
                clear f386
                have y387_ : pt_EV t m 3 dep (pt_nt t m w21) 0 w385 := y387
                refine ov_blk (ls2 := [(0, ov_r 90), (1, ov_i dep), (2, ov_i 1)]) (st2 := [ov_i 1, ov_r 90]) (pc2 := 37) b_227_35_2 rfl rfl ?_
                refine ov_ifeq (tgt := 45) d_227_37 (by decide) (by omega) (fun c410 => ?_) (fun c410 => ?_)
                · omega
                · skip
                  refine ov_blk (ls2 := [(0, ov_r 90), (1, ov_i dep), (2, ov_i 1)]) (st2 := [ov_i 7, ov_r 90]) (pc2 := 42) b_227_40_1 rfl rfl ?_
                  refine ov_goto (tgt := 47) d_227_42 (by decide) ?_
                  refine ov_blk (ls2 := [(0, ov_r 90), (1, ov_i dep), (2, ov_i 1)]) (st2 := [ov_i 0, ov_i 7, ov_r 90]) (pc2 := 48) b_227_47_1 rfl rfl ?_
                  have cf411 : h366 93 ((h366 90 7)) = h 93 ((h366 90 7)) := congrFun E372 ((h366 90 7))
                  refine ov_cV (as := [ov_i 7, ov_i 0]) (st := []) (d2 := d - 1) d_227_48 lk_Mo_246 rfl (Nat.le_of_ble_eq_true rfl) (c := 1) (zb_90 I367) (zs_90 I367) ⟨by decide, rfl⟩ (by omega) (c_fMo_emit_90 w385 (d - 1) (by omega) U I367 7 0 (by omega) (by omega) (by show 0 ≤ (7 : Int) ∧ (7 : Int) ≤ 10; omega) (by show (h366 90 13) ≤ 999; omega) (by show (h366 93 ((h366 90 7))) = w385; omega)) ?_
                  rintro _ z412 h413 ⟨rfl, I414, y415, f416, y417⟩
                  have E418 : h413 92 = h 92 := Eq.trans (y415 92 (by decide)) (show h366 92 = h 92 from E371)
                  have E419 : h413 93 = h 93 := Eq.trans (y415 93 (by decide)) (show h366 93 = h 93 from E372)
                  have E420 : h413 94 = h 94 := Eq.trans (y415 94 (by decide)) (show h366 94 = h 94 from E373)
                  have E421 : h413 95 = h 95 := Eq.trans (y415 95 (by decide)) (show h366 95 = h 95 from E374)
                  have fr422 : ∀ a : Int, a ≠ 90 ∧ (a < 97 ∨ 98 < a) → h413 a = h a := fun a ca => Eq.trans (y415 a (by omega)) (fr375 a ca)
                  have f424 : (h413 90 13) = (h366 90 13) + 1 ∧ (h413 90 7) = (h366 90 7) ∧ (h413 90 8) = (h366 90 8) ∧ (h413 93 ((h413 90 7))) = w385 := f416
                  clear f416
                  have y417_ : ∀ k : Int, k ≠ 13 → (h413 90) k = (h366 90) k := y417
                  have rk423 : ∀ k : Int, k ≠ 7 → k ≠ 8 → k ≠ 13 → h413 90 k = h 90 k := fun k n0 n1 n2 => Eq.trans (y417_ k n2) (rk376 k n0 n1 n2)
                  have g425 : h413 90 2 = (h366 90 2) := y417_ 2 (by decide)
                  have g426 : h413 90 3 = (h366 90 3) := y417_ 3 (by decide)
                  have g427 : h413 90 7 = (h366 90 7) := y417_ 7 (by decide)
                  have g428 : h413 90 8 = (h366 90 8) := y417_ 8 (by decide)
                  have g429 : h413 90 15 = (h366 90 15) := y417_ 15 (by decide)
                  show ov_R u d ov_m227 51 [(0, ov_r 90), (1, ov_i dep), (2, ov_i 1)] [] z412 h413 (P_fMo_test_90 F z h t m N p dep)
                  exact ov_retv (st := []) d_227_51 rfl ⟨rfl, I414, (fun a ca => (fr422 a ca)), (fun k n0 n1 n2 => (rk423 k n0 n1 n2)), (Or.inr (Or.inr ⟨w385, (by show (h 90 8) = 0 ∧ (h413 90 8) = 0 ∧ (h 90 13) ≤ (h413 90 13) ∧ (h413 90 13) - (h 90 13) ≤ (h413 90 7) - (h 90 7) ∧ (h 90 7) ≤ (h413 90 7) ∧ (h413 90 7) ≤ N ∧ (h413 93 ((h413 90 7))) = w385; omega), (pt_EV5 y23_ (by omega) y387_)⟩))⟩
      · skip
        show ov_R u d ov_m227 18 [(0, ov_r 90), (1, ov_i dep), (2, ov_i 1)] [ov_i 1] z318 h319 (P_fMo_test_90 F z h t m N p dep)
        have f430 : (h2 90 8) = 0 ∧ pt_is t m w21 (60 : Int) = 1 ∧ pt_ty t m w21 = 4 ∧ (h319 90 7) = (h2 90 7) + 1 ∧ (h319 90 7) ≤ N ∧ (h319 93 ((h319 90 7))) = pt_nt t m w21 := f336
        clear f336
        refine ov_ifne (tgt := 30) d_227_18 (by decide) (by omega) (fun c431 => ?_) (fun c431 => ?_)
        · skip
          refine ov_blk (ls2 := [(0, ov_r 90), (1, ov_i dep), (2, ov_i 1)]) (st2 := [ov_i dep, ov_r 90]) (pc2 := 32) b_227_30_2 rfl rfl ?_
          have cf432 : h319 93 ((h319 90 7)) = h 93 ((h319 90 7)) := congrFun E325 ((h319 90 7))
          refine ov_cV (as := [ov_i dep]) (st := []) (d2 := d - 1) d_227_32 lk_Mo_260 rfl (Nat.le_of_ble_eq_true rfl) (c := 1) (zb_90 I320) (zs_90 I320) ⟨by decide, rfl⟩ (by omega) (c_fMo_sums_90 t m N (pt_nt t m w21) k HE HP (d - 1) (by omega) U I320 dep (by omega) (by show 0 ≤ (h319 90 7) ∧ (h319 90 7) ≤ N; omega) (by show (h319 93 ((h319 90 7))) = (pt_nt t m w21); omega) (by show 0 ≤ (h319 90 8); omega) (by show 0 ≤ dep ∧ dep + (k : Int) = 5; omega) (by show 0 ≤ (h319 90 13) ∧ (h319 90 13) ≤ (h319 90 7); omega) (by rw [show h319 92 = h 92 from E324, show h319 93 = h 93 from E325, show h319 94 = h 94 from E326]; exact mt) (by rw [show h319 95 = h 95 from E327]; exact wd)) ?_
          rintro _ z433 h434 ⟨rfl, I435, y436, y437, y438⟩
          have E439 : h434 92 = h 92 := Eq.trans (y436 92 (by decide)) (show h319 92 = h 92 from E324)
          have E440 : h434 93 = h 93 := Eq.trans (y436 93 (by decide)) (show h319 93 = h 93 from E325)
          have E441 : h434 94 = h 94 := Eq.trans (y436 94 (by decide)) (show h319 94 = h 94 from E326)
          have E442 : h434 95 = h 95 := Eq.trans (y436 95 (by decide)) (show h319 95 = h 95 from E327)
          have fr443 : ∀ a : Int, a ≠ 90 ∧ (a < 97 ∨ 98 < a) → h434 a = h a := fun a ca => Eq.trans (y436 a (by omega)) (fr328 a ca)
          have y437_ : ∀ k : Int, k ≠ 7 → k ≠ 8 → k ≠ 13 → (h434 90) k = (h319 90) k := y437
          have rk444 : ∀ k : Int, k ≠ 7 → k ≠ 8 → k ≠ 13 → h434 90 k = h 90 k := fun k n0 n1 n2 => Eq.trans (y437_ k n0 n1 n2) (rk329 k n0 n1 n2)
          have g445 : h434 90 2 = (h319 90 2) := y437_ 2 (by decide) (by decide) (by decide)
          have g446 : h434 90 3 = (h319 90 3) := y437_ 3 (by decide) (by decide) (by decide)
          have g447 : h434 90 15 = (h319 90 15) := y437_ 15 (by decide) (by decide) (by decide)
          rcases y438 with f448 | ⟨w449, w450, f451, y452⟩ | ⟨w453, f454, y455⟩
          · omega
          · skip
            show ov_R u d ov_m227 35 [(0, ov_r 90), (1, ov_i dep), (2, ov_i 1)] [] z433 h434 (P_fMo_test_90 F z h t m N p dep)
            have f456 : (h319 90 8) = 0 ∧ (h434 90 8) = w449 ∧ 1 ≤ w449 ∧ (h319 90 13) ≤ (h434 90 13) ∧ (h434 90 13) - (h319 90 13) ≤ (h434 90 7) - (h319 90 7) ∧ (h319 90 7) ≤ (h434 90 7) ∧ (h434 90 7) ≤ N := f451
            clear f451
            have y452_ : pt_EV t m 3 dep (pt_nt t m w21) w449 w450 := y452
            refine ov_blk (ls2 := [(0, ov_r 90), (1, ov_i dep), (2, ov_i 1)]) (st2 := [ov_i 1, ov_r 90]) (pc2 := 37) b_227_35_2 rfl rfl ?_
            refine ov_ifeq (tgt := 45) d_227_37 (by decide) (by omega) (fun c457 => ?_) (fun c457 => ?_)
            · omega
            · skip
              refine ov_blk (ls2 := [(0, ov_r 90), (1, ov_i dep), (2, ov_i 1)]) (st2 := [ov_i 7, ov_r 90]) (pc2 := 42) b_227_40_1 rfl rfl ?_
              refine ov_goto (tgt := 47) d_227_42 (by decide) ?_
              refine ov_blk (ls2 := [(0, ov_r 90), (1, ov_i dep), (2, ov_i 1)]) (st2 := [ov_i 0, ov_i 7, ov_r 90]) (pc2 := 48) b_227_47_1 rfl rfl ?_
              have cf458 : h434 93 ((h434 90 7)) = h 93 ((h434 90 7)) := congrFun E440 ((h434 90 7))
              refine ov_cV (as := [ov_i 7, ov_i 0]) (st := []) (d2 := d - 1) d_227_48 lk_Mo_246 rfl (Nat.le_of_ble_eq_true rfl) (c := 1) (zb_90 I435) (zs_90 I435) ⟨by decide, rfl⟩ (by omega) (c_fMo_emit_90 (h434 93 (h434 90 7)) (d - 1) (by omega) U I435 7 0 (by omega) (by omega) (by show 0 ≤ (7 : Int) ∧ (7 : Int) ≤ 10; omega) (by show (h434 90 13) ≤ 999; omega) (by show (h434 93 ((h434 90 7))) = (h434 93 (h434 90 7)); omega)) ?_
              rintro _ z459 h460 ⟨rfl, I461, y462, f463, y464⟩
              have E465 : h460 92 = h 92 := Eq.trans (y462 92 (by decide)) (show h434 92 = h 92 from E439)
              have E466 : h460 93 = h 93 := Eq.trans (y462 93 (by decide)) (show h434 93 = h 93 from E440)
              have E467 : h460 94 = h 94 := Eq.trans (y462 94 (by decide)) (show h434 94 = h 94 from E441)
              have E468 : h460 95 = h 95 := Eq.trans (y462 95 (by decide)) (show h434 95 = h 95 from E442)
              have fr469 : ∀ a : Int, a ≠ 90 ∧ (a < 97 ∨ 98 < a) → h460 a = h a := fun a ca => Eq.trans (y462 a (by omega)) (fr443 a ca)
              have f471 : (h460 90 13) = (h434 90 13) + 1 ∧ (h460 90 7) = (h434 90 7) ∧ (h460 90 8) = (h434 90 8) ∧ (h460 93 ((h460 90 7))) = (h434 93 (h434 90 7)) := f463
              clear f463
              have y464_ : ∀ k : Int, k ≠ 13 → (h460 90) k = (h434 90) k := y464
              have rk470 : ∀ k : Int, k ≠ 7 → k ≠ 8 → k ≠ 13 → h460 90 k = h 90 k := fun k n0 n1 n2 => Eq.trans (y464_ k n2) (rk444 k n0 n1 n2)
              have g472 : h460 90 2 = (h434 90 2) := y464_ 2 (by decide)
              have g473 : h460 90 3 = (h434 90 3) := y464_ 3 (by decide)
              have g474 : h460 90 7 = (h434 90 7) := y464_ 7 (by decide)
              have g475 : h460 90 8 = (h434 90 8) := y464_ 8 (by decide)
              have g476 : h460 90 15 = (h434 90 15) := y464_ 15 (by decide)
              show ov_R u d ov_m227 51 [(0, ov_r 90), (1, ov_i dep), (2, ov_i 1)] [] z459 h460 (P_fMo_test_90 F z h t m N p dep)
              exact ov_retv (st := []) d_227_51 rfl ⟨rfl, I461, (fun a ca => (fr469 a ca)), (fun k n0 n1 n2 => (rk470 k n0 n1 n2)), (Or.inr (Or.inl ⟨w449, w450, (by show (h 90 8) = 0 ∧ (h460 90 8) = w449 ∧ 1 ≤ w449 ∧ (h 90 13) ≤ (h460 90 13) ∧ (h460 90 13) - (h 90 13) ≤ (h460 90 7) - (h 90 7) ∧ (h 90 7) ≤ (h460 90 7) ∧ (h460 90 7) ≤ N; omega), (pt_EV5 y23_ (by omega) y452_)⟩))⟩
          · skip
            show ov_R u d ov_m227 35 [(0, ov_r 90), (1, ov_i dep), (2, ov_i 1)] [] z433 h434 (P_fMo_test_90 F z h t m N p dep)
            have f477 : (h319 90 8) = 0 ∧ (h434 90 8) = 0 ∧ (h319 90 13) ≤ (h434 90 13) ∧ (h434 90 13) - (h319 90 13) ≤ (h434 90 7) - (h319 90 7) ∧ (h319 90 7) ≤ (h434 90 7) ∧ (h434 90 7) ≤ N ∧ (h434 93 ((h434 90 7))) = w453 := f454
            clear f454
            have y455_ : pt_EV t m 3 dep (pt_nt t m w21) 0 w453 := y455
            refine ov_blk (ls2 := [(0, ov_r 90), (1, ov_i dep), (2, ov_i 1)]) (st2 := [ov_i 1, ov_r 90]) (pc2 := 37) b_227_35_2 rfl rfl ?_
            refine ov_ifeq (tgt := 45) d_227_37 (by decide) (by omega) (fun c478 => ?_) (fun c478 => ?_)
            · omega
            · skip
              refine ov_blk (ls2 := [(0, ov_r 90), (1, ov_i dep), (2, ov_i 1)]) (st2 := [ov_i 7, ov_r 90]) (pc2 := 42) b_227_40_1 rfl rfl ?_
              refine ov_goto (tgt := 47) d_227_42 (by decide) ?_
              refine ov_blk (ls2 := [(0, ov_r 90), (1, ov_i dep), (2, ov_i 1)]) (st2 := [ov_i 0, ov_i 7, ov_r 90]) (pc2 := 48) b_227_47_1 rfl rfl ?_
              have cf479 : h434 93 ((h434 90 7)) = h 93 ((h434 90 7)) := congrFun E440 ((h434 90 7))
              refine ov_cV (as := [ov_i 7, ov_i 0]) (st := []) (d2 := d - 1) d_227_48 lk_Mo_246 rfl (Nat.le_of_ble_eq_true rfl) (c := 1) (zb_90 I435) (zs_90 I435) ⟨by decide, rfl⟩ (by omega) (c_fMo_emit_90 w453 (d - 1) (by omega) U I435 7 0 (by omega) (by omega) (by show 0 ≤ (7 : Int) ∧ (7 : Int) ≤ 10; omega) (by show (h434 90 13) ≤ 999; omega) (by show (h434 93 ((h434 90 7))) = w453; omega)) ?_
              rintro _ z480 h481 ⟨rfl, I482, y483, f484, y485⟩
              have E486 : h481 92 = h 92 := Eq.trans (y483 92 (by decide)) (show h434 92 = h 92 from E439)
              have E487 : h481 93 = h 93 := Eq.trans (y483 93 (by decide)) (show h434 93 = h 93 from E440)
              have E488 : h481 94 = h 94 := Eq.trans (y483 94 (by decide)) (show h434 94 = h 94 from E441)
              have E489 : h481 95 = h 95 := Eq.trans (y483 95 (by decide)) (show h434 95 = h 95 from E442)
              have fr490 : ∀ a : Int, a ≠ 90 ∧ (a < 97 ∨ 98 < a) → h481 a = h a := fun a ca => Eq.trans (y483 a (by omega)) (fr443 a ca)
              have f492 : (h481 90 13) = (h434 90 13) + 1 ∧ (h481 90 7) = (h434 90 7) ∧ (h481 90 8) = (h434 90 8) ∧ (h481 93 ((h481 90 7))) = w453 := f484
              clear f484
              have y485_ : ∀ k : Int, k ≠ 13 → (h481 90) k = (h434 90) k := y485
              have rk491 : ∀ k : Int, k ≠ 7 → k ≠ 8 → k ≠ 13 → h481 90 k = h 90 k := fun k n0 n1 n2 => Eq.trans (y485_ k n2) (rk444 k n0 n1 n2)
              have g493 : h481 90 2 = (h434 90 2) := y485_ 2 (by decide)
              have g494 : h481 90 3 = (h434 90 3) := y485_ 3 (by decide)
              have g495 : h481 90 7 = (h434 90 7) := y485_ 7 (by decide)
              have g496 : h481 90 8 = (h434 90 8) := y485_ 8 (by decide)
              have g497 : h481 90 15 = (h434 90 15) := y485_ 15 (by decide)
              show ov_R u d ov_m227 51 [(0, ov_r 90), (1, ov_i dep), (2, ov_i 1)] [] z480 h481 (P_fMo_test_90 F z h t m N p dep)
              exact ov_retv (st := []) d_227_51 rfl ⟨rfl, I482, (fun a ca => (fr490 a ca)), (fun k n0 n1 n2 => (rk491 k n0 n1 n2)), (Or.inr (Or.inr ⟨w453, (by show (h 90 8) = 0 ∧ (h481 90 8) = 0 ∧ (h 90 13) ≤ (h481 90 13) ∧ (h481 90 13) - (h 90 13) ≤ (h481 90 7) - (h 90 7) ∧ (h 90 7) ≤ (h481 90 7) ∧ (h481 90 7) ≤ N ∧ (h481 93 ((h481 90 7))) = w453; omega), (pt_EV5 y23_ (by omega) y455_)⟩))⟩
        · omega

set_option maxHeartbeats 4000000 in
theorem c_Mo_all_90 {u : ov_U} {F : ov_H × ov_Z} (n : Int) (k : Nat) (HE : ∀ k' : Nat, k' + 1 = k → ∀ {z : ov_Z} {h : ov_H} (d : Nat) (hd : (10 + 5 * k' + 4) ≤ d) (U : ov_cap u) (I : ov_N F z h) (dep : Int) (g_dep : ov_g dep) (p0 : 0 ≤ n ∧ n ≤ 1000 ∧ (h 92 (n)) = 0 ∧ (h 90 7) ≤ n) (p1 : 0 ≤ dep ∧ dep + (k' : Int) = 5) (p2 : (h 90 13) ≤ (h 90 7)), ov_T u d ov_m226 [ov_r 90, ov_i dep] z h (P_Mo_all_90 F z h n dep)) (HP : ∀ k' : Nat, k' + 1 = k → ∀ {z : ov_Z} {h : ov_H} (d : Nat) (hd : (10 + 5 * k' + 0) ≤ d) (U : ov_cap u) (I : ov_N F z h) (dep : Int) (g_dep : ov_g dep) (p0 : 0 ≤ n ∧ n ≤ 1000 ∧ (h 92 (n)) = 0 ∧ (h 90 7) ≤ n) (p1 : 0 ≤ dep ∧ dep + (k' : Int) = 5) (p2 : (h 90 13) ≤ (h 90 7)), ov_T u d ov_m230 [ov_r 90, ov_i dep] z h (P_Mo_takePart_90 F z h n dep)) {z : ov_Z} {h : ov_H} (d : Nat) (hd : (10 + 5 * k + 4) ≤ d) (U : ov_cap u) (I : ov_N F z h) (dep : Int) (g_dep : ov_g dep) (p0 : 0 ≤ n ∧ n ≤ 1000 ∧ (h 92 (n)) = 0 ∧ (h 90 7) ≤ n) (p1 : 0 ≤ dep ∧ dep + (k : Int) = 5) (p2 : (h 90 13) ≤ (h 90 7)) : ov_T u d ov_m226 [ov_r 90, ov_i dep] z h (P_Mo_all_90 F z h n dep) := by
  refine ov_en rfl (Nat.le_of_ble_eq_true rfl) ?_
  show ov_R u d ov_m226 0 [(0, ov_r 90), (1, ov_i dep)] [] z h (P_Mo_all_90 F z h n dep)
  refine ov_blk (ls2 := [(0, ov_r 90), (1, ov_i dep)]) (st2 := [ov_i dep, ov_r 90]) (pc2 := 2) b_226_0_2 rfl rfl ?_
  refine ov_cV (as := [ov_i dep]) (st := []) (d2 := d - 1) d_226_2 lk_Mo_257 rfl (Nat.le_of_ble_eq_true rfl) (c := 1) (zb_90 I) (zs_90 I) ⟨by decide, rfl⟩ (by omega) (c_Mo_test_90 n k HE HP (d - 1) (by omega) U I dep (by omega) (by show 0 ≤ n ∧ n ≤ 1000 ∧ (h 92 (n)) = 0 ∧ (h 90 7) ≤ n; omega) (by omega) (by show (h 90 13) ≤ (h 90 7); omega)) ?_
  rintro _ z16 h17 ⟨rfl, I18, f1, e2, e3, e4, e5, e6, e7, e8, e9, e10, e11, e12, e13, y14, y15⟩
  have E19 : h17 92 = h 92 := e2
  have E20 : h17 93 = h 93 := e3
  have E21 : h17 94 = h 94 := e4
  have E22 : h17 95 = h 95 := e5
  have E23 : h17 96 = h 96 := e6
  have E24 : h17 99 = h 99 := e7
  have E25 : h17 100 = h 100 := e8
  have E26 : h17 103 = h 103 := e9
  have E27 : h17 105 = h 105 := e10
  have E28 : h17 106 = h 106 := e11
  have E29 : h17 109 = h 109 := e12
  have E30 : h17 114 = h 114 := e13
  show ov_R u d ov_m226 5 [(0, ov_r 90), (1, ov_i dep)] [] z16 h17 (P_Mo_all_90 F z h n dep)
  have f31 : (h 90 7) ≤ (h17 90 7) ∧ (h17 90 7) ≤ n ∧ (0 < (h 90 8) → (h17 90 8) = (h 90 8)) ∧ (h 90 13) ≤ (h17 90 13) ∧ (h17 90 13) - (h 90 13) ≤ (h17 90 7) - (h 90 7) ∧ (h17 90 2) = (h 90 2) ∧ (h17 90 3) = (h 90 3) ∧ (h17 90 20) = (h 90 20) ∧ (h17 90 22) = (h 90 22) ∧ (h17 90 25) = (h 90 25) ∧ (h17 90 26) = (h 90 26) ∧ (h17 90 27) = (h 90 27) ∧ (h17 90 28) = (h 90 28) ∧ (h17 90 29) = (h 90 29) ∧ (h17 90 30) = (h 90 30) ∧ (h17 90 34) = (h 90 34) ∧ (h17 90 35) = (h 90 35) ∧ (h17 90 37) = (h 90 37) := f1
  clear f1
  have y14_ : ∀ j : Int, j < 1100 + (h 90 13) → (h17 97) j = (h 97) j ∧ (h17 98) j = (h 98) j := y14
  have y15_ : (h17 90 8) = 0 → ov_sg (h17 97) (h17 98) (h 90 13) (h17 90 13) := y15
  have K32 : ∀ j : Int, j < 1100 + (h 90 13) → h17 97 j = h 97 j ∧ h17 98 j = h 98 j := fun j hj => y14_ j (by omega)
  have K33 : h17 90 8 = 0 → ov_sg (h17 97) (h17 98) (h 90 13) (h17 90 13) := fun e => by have q := y15_ e; rw [show (h 90 13) = h 90 13 by omega] at q; exact q
  have L37 : ∀ (n34 : Nat) (z38 : ov_Z) (h39 : ov_H) (I40 : ov_N F z38 h39) (E41 : h39 92 = h 92) (E42 : h39 93 = h 93) (E43 : h39 94 = h 94) (E44 : h39 95 = h 95) (E45 : h39 96 = h 96) (E46 : h39 99 = h 99) (E47 : h39 100 = h 100) (E48 : h39 103 = h 103) (E49 : h39 105 = h 105) (E50 : h39 106 = h 106) (E51 : h39 109 = h 109) (E52 : h39 114 = h 114) (xa : ∀ j : Int, j < 1100 + (h 90 13) → (h39 97) j = (h 97) j ∧ (h39 98) j = (h 98) j) (xb : (h39 90 8) = 0 → ov_sg (h39 97) (h39 98) (h 90 13) (h39 90 13)) (q36 : (h 90 7) ≤ (h39 90 7) ∧ (h39 90 7) ≤ n ∧ (0 < (h 90 8) → (h39 90 8) = (h 90 8)) ∧ (h 90 13) ≤ (h39 90 13) ∧ (h39 90 13) - (h 90 13) ≤ (h39 90 7) - (h 90 7) ∧ (h39 90 2) = (h17 90 2) ∧ (h39 90 3) = (h17 90 3) ∧ (h39 90 20) = (h17 90 20) ∧ (h39 90 22) = (h17 90 22) ∧ (h39 90 25) = (h17 90 25) ∧ (h39 90 26) = (h17 90 26) ∧ (h39 90 27) = (h17 90 27) ∧ (h39 90 28) = (h17 90 28) ∧ (h39 90 29) = (h17 90 29) ∧ (h39 90 30) = (h17 90 30) ∧ (h39 90 34) = (h17 90 34) ∧ (h39 90 35) = (h17 90 35) ∧ (h39 90 37) = (h17 90 37)), 1000 - (h39 90 7) < (n34 : Int) → ov_R u d ov_m226 5 [(0, ov_r 90), (1, ov_i dep)] [] z38 h39 (P_Mo_all_90 F z h n dep) := by
    intro n34
    induction n34 with
    | zero =>
      intro  z38 h39 I40 E41 E42 E43 E44 E45 E46 E47 E48 E49 E50 E51 E52 xa xb q36 hn53
      exact absurd hn53 (by omega)
    | succ n34 ih35 =>
      intro  z38 h39 I40 E41 E42 E43 E44 E45 E46 E47 E48 E49 E50 E51 E52 xa xb q36 hn53
      refine ov_blk (ls2 := [(0, ov_r 90), (1, ov_i dep)]) (st2 := [ov_r 90]) (pc2 := 6) b_226_5_1 rfl rfl ?_
      refine ov_blk (ls2 := [(0, ov_r 90), (1, ov_i dep)]) (st2 := [ov_i 18, ov_r 90]) (pc2 := 8) b_226_6_1 rfl rfl ?_
      have cf54 : h39 92 (n) = h 92 (n) := congrFun E41 (n)
      refine ov_cV (as := [ov_i 18]) (st := []) (d2 := d - 1) d_226_8 lk_Mo_189 rfl (Nat.le_of_ble_eq_true rfl) (c := 1) (zb_90 I40) (zs_90 I40) ⟨by decide, rfl⟩ (by omega) (c_Mo_isWord_90 n (d - 1) (by omega) U I40 18 (by omega) (by show 0 ≤ n ∧ n ≤ 1000 ∧ (h39 92 (n)) = 0 ∧ (h39 90 7) ≤ n; omega) (by omega)) ?_
      rintro _ _ _ ⟨v56, rfl, rfl, rfl, f55⟩
      show ov_R u d ov_m226 11 [(0, ov_r 90), (1, ov_i dep)] [ov_i v56] z38 h39 (P_Mo_all_90 F z h n dep)
      rw [show h39 92 = h 92 from E41] at f55
      rw [show h39 94 = h 94 from E43] at f55
      rw [show h39 95 = h 95 from E44] at f55
      have f57 : (v56 = 0 ∨ v56 = 1) ∧ (v56 = 1 → (h39 90 7) < n) ∧ (v56 = 1 → (h39 90 8) = 0 ∧ (h 92 ((h39 90 7))) = 1 ∧ (h 94 ((h39 90 7))) = (h 95 ((18 : Int)))) ∧ (v56 = 0 → ¬ ((h39 90 8) = 0 ∧ (h 92 ((h39 90 7))) = 1 ∧ (h 94 ((h39 90 7))) = (h 95 ((18 : Int))))) := f55
      clear f55
      refine ov_ifne (tgt := 23) d_226_11 (by decide) (by omega) (fun c58 => ?_) (fun c58 => ?_)
      · skip
        refine ov_blk (ls2 := [(0, ov_r 90), (1, ov_i dep)]) (st2 := [ov_i 18, ov_r 90]) (pc2 := 26) b_226_23_2 rfl rfl ?_
        have cf59 : h39 92 (n) = h 92 (n) := congrFun E41 (n)
        refine ov_cV (as := [ov_i 18]) (st := []) (d2 := d - 1) d_226_26 lk_Mo_189 rfl (Nat.le_of_ble_eq_true rfl) (c := 1) (zb_90 I40) (zs_90 I40) ⟨by decide, rfl⟩ (by omega) (c_Mo_isWord_90 n (d - 1) (by omega) U I40 18 (by omega) (by show 0 ≤ n ∧ n ≤ 1000 ∧ (h39 92 (n)) = 0 ∧ (h39 90 7) ≤ n; omega) (by omega)) ?_
        rintro _ _ _ ⟨v61, rfl, rfl, rfl, f60⟩
        show ov_R u d ov_m226 29 [(0, ov_r 90), (1, ov_i dep)] [ov_i v61] z38 h39 (P_Mo_all_90 F z h n dep)
        rw [show h39 92 = h 92 from E41] at f60
        rw [show h39 94 = h 94 from E43] at f60
        rw [show h39 95 = h 95 from E44] at f60
        have f62 : (v61 = 0 ∨ v61 = 1) ∧ (v61 = 1 → (h39 90 7) < n) ∧ (v61 = 1 → (h39 90 8) = 0 ∧ (h 92 ((h39 90 7))) = 1 ∧ (h 94 ((h39 90 7))) = (h 95 ((18 : Int)))) ∧ (v61 = 0 → ¬ ((h39 90 8) = 0 ∧ (h 92 ((h39 90 7))) = 1 ∧ (h 94 ((h39 90 7))) = (h 95 ((18 : Int))))) := f60
        clear f60
        refine ov_blk (ls2 := [(0, ov_r 90), (1, ov_i dep), (2, ov_i v61)]) (st2 := [ov_r 90, ov_r 90]) (pc2 := 32) b_226_29_3 rfl rfl ?_
        refine ov_getf (v := ov_i (h39 90 7)) d_226_32 fl_Mo_177 (zb_90 I40) (zs_90 I40) rfl ?_
        have g63 := rg_90_7 I40
        refine ov_blk (ls2 := [(0, ov_r 90), (1, ov_i dep), (2, ov_i v61)]) (st2 := [ov_i ((h39 90 7) + 1), ov_r 90]) (pc2 := 37) b_226_35_2 rfl rfl ?_
        refine ov_putf (x := ((h39 90 7) + 1)) d_226_37 fl_Mo_177 (zb_90 I40) (zs_90 I40) rfl nk_0 rfl ?_
        have I64 := up_90_7 (x := ((h39 90 7) + 1)) I40 (by omega)
        refine ov_blk (ls2 := [(0, ov_r 90), (1, ov_i dep), (2, ov_i v61)]) (st2 := [ov_i dep, ov_r 90]) (pc2 := 42) b_226_40_2 rfl rfl ?_
        have cf65 : h39 92 (n) = h 92 (n) := congrFun E41 (n)
        refine ov_cV (as := [ov_i dep]) (st := []) (d2 := d - 1) d_226_42 lk_Mo_257 rfl (Nat.le_of_ble_eq_true rfl) (c := 1) (zb_90 I64) (zs_90 I64) ⟨by decide, rfl⟩ (by omega) (c_Mo_test_90 n k HE HP (d - 1) (by omega) U I64 dep (by omega) (by show 0 ≤ n ∧ n ≤ 1000 ∧ (h39 92 (n)) = 0 ∧ ((h39 90 7) + 1) ≤ n; omega) (by omega) (by show (h39 90 13) ≤ ((h39 90 7) + 1); omega)) ?_
        rintro _ z81 h82 ⟨rfl, I83, f66, e67, e68, e69, e70, e71, e72, e73, e74, e75, e76, e77, e78, y79, y80⟩
        have E84 : h82 92 = h 92 := Eq.trans e67 E41
        have E85 : h82 93 = h 93 := Eq.trans e68 E42
        have E86 : h82 94 = h 94 := Eq.trans e69 E43
        have E87 : h82 95 = h 95 := Eq.trans e70 E44
        have E88 : h82 96 = h 96 := Eq.trans e71 E45
        have E89 : h82 99 = h 99 := Eq.trans e72 E46
        have E90 : h82 100 = h 100 := Eq.trans e73 E47
        have E91 : h82 103 = h 103 := Eq.trans e74 E48
        have E92 : h82 105 = h 105 := Eq.trans e75 E49
        have E93 : h82 106 = h 106 := Eq.trans e76 E50
        have E94 : h82 109 = h 109 := Eq.trans e77 E51
        have E95 : h82 114 = h 114 := Eq.trans e78 E52
        show ov_R u d ov_m226 45 [(0, ov_r 90), (1, ov_i dep), (2, ov_i v61)] [] z81 h82 (P_Mo_all_90 F z h n dep)
        have f96 : ((h39 90 7) + 1) ≤ (h82 90 7) ∧ (h82 90 7) ≤ n ∧ (0 < (h39 90 8) → (h82 90 8) = (h39 90 8)) ∧ (h39 90 13) ≤ (h82 90 13) ∧ (h82 90 13) - (h39 90 13) ≤ (h82 90 7) - ((h39 90 7) + 1) ∧ (h82 90 2) = (h39 90 2) ∧ (h82 90 3) = (h39 90 3) ∧ (h82 90 20) = (h39 90 20) ∧ (h82 90 22) = (h39 90 22) ∧ (h82 90 25) = (h39 90 25) ∧ (h82 90 26) = (h39 90 26) ∧ (h82 90 27) = (h39 90 27) ∧ (h82 90 28) = (h39 90 28) ∧ (h82 90 29) = (h39 90 29) ∧ (h82 90 30) = (h39 90 30) ∧ (h82 90 34) = (h39 90 34) ∧ (h82 90 35) = (h39 90 35) ∧ (h82 90 37) = (h39 90 37) := f66
        clear f66
        have y79_ : ∀ j : Int, j < 1100 + (h39 90 13) → (h82 97) j = (h39 97) j ∧ (h82 98) j = (h39 98) j := y79
        have y80_ : (h82 90 8) = 0 → ov_sg (h82 97) (h82 98) (h39 90 13) (h82 90 13) := y80
        refine ov_blk (ls2 := [(0, ov_r 90), (1, ov_i dep), (2, ov_i v61)]) (st2 := [ov_i v61, ov_r 90]) (pc2 := 47) b_226_45_2 rfl rfl ?_
        refine ov_ifeq (tgt := 55) d_226_47 (by decide) (by omega) (fun c97 => ?_) (fun c97 => ?_)
        · skip
          refine ov_blk (ls2 := [(0, ov_r 90), (1, ov_i dep), (2, ov_i v61)]) (st2 := [ov_i 0, ov_i 10, ov_r 90]) (pc2 := 58) b_226_55_2 rfl rfl ?_
          refine ov_cV (as := [ov_i 10, ov_i 0]) (st := []) (d2 := d - 1) d_226_58 lk_Mo_246 rfl (Nat.le_of_ble_eq_true rfl) (c := 1) (zb_90 I83) (zs_90 I83) ⟨by decide, rfl⟩ (by omega) (c_Mo_emit_90 (d - 1) (by omega) U I83 10 0 (by omega) (by omega) (by omega) (by show (h82 90 13) ≤ 999; omega)) ?_
          rintro _ z113 h114 ⟨rfl, I115, f98, e99, e100, e101, e102, e103, e104, e105, e106, e107, e108, e109, e110, y111, y112⟩
          have E116 : h114 92 = h 92 := Eq.trans e99 E84
          have E117 : h114 93 = h 93 := Eq.trans e100 E85
          have E118 : h114 94 = h 94 := Eq.trans e101 E86
          have E119 : h114 95 = h 95 := Eq.trans e102 E87
          have E120 : h114 96 = h 96 := Eq.trans e103 E88
          have E121 : h114 99 = h 99 := Eq.trans e104 E89
          have E122 : h114 100 = h 100 := Eq.trans e105 E90
          have E123 : h114 103 = h 103 := Eq.trans e106 E91
          have E124 : h114 105 = h 105 := Eq.trans e107 E92
          have E125 : h114 106 = h 106 := Eq.trans e108 E93
          have E126 : h114 109 = h 109 := Eq.trans e109 E94
          have E127 : h114 114 = h 114 := Eq.trans e110 E95
          show ov_R u d ov_m226 61 [(0, ov_r 90), (1, ov_i dep), (2, ov_i v61)] [] z113 h114 (P_Mo_all_90 F z h n dep)
          have f128 : (h114 90 13) = (h82 90 13) + 1 ∧ (h114 90 2) = (h82 90 2) ∧ (h114 90 3) = (h82 90 3) ∧ (h114 90 7) = (h82 90 7) ∧ (h114 90 8) = (h82 90 8) ∧ (h114 90 20) = (h82 90 20) ∧ (h114 90 22) = (h82 90 22) ∧ (h114 90 25) = (h82 90 25) ∧ (h114 90 26) = (h82 90 26) ∧ (h114 90 27) = (h82 90 27) ∧ (h114 90 28) = (h82 90 28) ∧ (h114 90 29) = (h82 90 29) ∧ (h114 90 30) = (h82 90 30) ∧ (h114 90 34) = (h82 90 34) ∧ (h114 90 35) = (h82 90 35) ∧ (h114 90 37) = (h82 90 37) := f98
          clear f98
          have y111_ : (h114 97) = ov_rs (h82 97) (1100 + (h82 90 13)) (10 : Int) := y111
          have y112_ : (h114 98) = ov_rs (h82 98) (1100 + (h82 90 13)) (0 : Int) := y112
          have K129 : ∀ j : Int, j < 1100 + (h 90 13) → h114 97 j = h 97 j ∧ h114 98 j = h 98 j := ov_kpe (ov_kp xa y79_ (by omega)) y111_ y112_ (by omega)
          have K130 : h114 90 8 = 0 → ov_sg (h114 97) (h114 98) (h 90 13) (h114 90 13) := fun e => by have q1 := xb (by omega); have q2 := y80_ (by omega); rw [show (h39 90 13) = (h39 90 13) by omega] at q2; have q3 := ov_sg_bin q1 (fun j hj => y79_ j (by omega)) q2 y111_ y112_ (by omega); rw [show h114 90 13 = (h82 90 13) + 1 by omega]; exact q3
          refine ov_goto (tgt := 5) d_226_61 (by decide) ?_
          refine ov_sub (ls2 := [(0, ov_r 90), (1, ov_i dep)]) (List.Sublist.subset (by repeat (first | exact List.Sublist.refl _ | apply List.Sublist.cons_cons | apply List.Sublist.cons))) ?_
          exact ih35  _ _ I115 E116 E117 E118 E119 E120 E121 E122 E123 E124 E125 E126 E127 K129 K130 (by show (h 90 7) ≤ (h114 90 7) ∧ (h114 90 7) ≤ n ∧ (0 < (h 90 8) → (h114 90 8) = (h 90 8)) ∧ (h 90 13) ≤ (h114 90 13) ∧ (h114 90 13) - (h 90 13) ≤ (h114 90 7) - (h 90 7) ∧ (h114 90 2) = (h17 90 2) ∧ (h114 90 3) = (h17 90 3) ∧ (h114 90 20) = (h17 90 20) ∧ (h114 90 22) = (h17 90 22) ∧ (h114 90 25) = (h17 90 25) ∧ (h114 90 26) = (h17 90 26) ∧ (h114 90 27) = (h17 90 27) ∧ (h114 90 28) = (h17 90 28) ∧ (h114 90 29) = (h17 90 29) ∧ (h114 90 30) = (h17 90 30) ∧ (h114 90 34) = (h17 90 34) ∧ (h114 90 35) = (h17 90 35) ∧ (h114 90 37) = (h17 90 37); omega) (by omega)
        · skip
          refine ov_blk (ls2 := [(0, ov_r 90), (1, ov_i dep), (2, ov_i v61)]) (st2 := [ov_i 9, ov_r 90]) (pc2 := 52) b_226_50_1 rfl rfl ?_
          refine ov_goto (tgt := 57) d_226_52 (by decide) ?_
          refine ov_blk (ls2 := [(0, ov_r 90), (1, ov_i dep), (2, ov_i v61)]) (st2 := [ov_i 0, ov_i 9, ov_r 90]) (pc2 := 58) b_226_57_1 rfl rfl ?_
          refine ov_cV (as := [ov_i 9, ov_i 0]) (st := []) (d2 := d - 1) d_226_58 lk_Mo_246 rfl (Nat.le_of_ble_eq_true rfl) (c := 1) (zb_90 I83) (zs_90 I83) ⟨by decide, rfl⟩ (by omega) (c_Mo_emit_90 (d - 1) (by omega) U I83 9 0 (by omega) (by omega) (by omega) (by show (h82 90 13) ≤ 999; omega)) ?_
          rintro _ z146 h147 ⟨rfl, I148, f131, e132, e133, e134, e135, e136, e137, e138, e139, e140, e141, e142, e143, y144, y145⟩
          have E149 : h147 92 = h 92 := Eq.trans e132 E84
          have E150 : h147 93 = h 93 := Eq.trans e133 E85
          have E151 : h147 94 = h 94 := Eq.trans e134 E86
          have E152 : h147 95 = h 95 := Eq.trans e135 E87
          have E153 : h147 96 = h 96 := Eq.trans e136 E88
          have E154 : h147 99 = h 99 := Eq.trans e137 E89
          have E155 : h147 100 = h 100 := Eq.trans e138 E90
          have E156 : h147 103 = h 103 := Eq.trans e139 E91
          have E157 : h147 105 = h 105 := Eq.trans e140 E92
          have E158 : h147 106 = h 106 := Eq.trans e141 E93
          have E159 : h147 109 = h 109 := Eq.trans e142 E94
          have E160 : h147 114 = h 114 := Eq.trans e143 E95
          show ov_R u d ov_m226 61 [(0, ov_r 90), (1, ov_i dep), (2, ov_i v61)] [] z146 h147 (P_Mo_all_90 F z h n dep)
          have f161 : (h147 90 13) = (h82 90 13) + 1 ∧ (h147 90 2) = (h82 90 2) ∧ (h147 90 3) = (h82 90 3) ∧ (h147 90 7) = (h82 90 7) ∧ (h147 90 8) = (h82 90 8) ∧ (h147 90 20) = (h82 90 20) ∧ (h147 90 22) = (h82 90 22) ∧ (h147 90 25) = (h82 90 25) ∧ (h147 90 26) = (h82 90 26) ∧ (h147 90 27) = (h82 90 27) ∧ (h147 90 28) = (h82 90 28) ∧ (h147 90 29) = (h82 90 29) ∧ (h147 90 30) = (h82 90 30) ∧ (h147 90 34) = (h82 90 34) ∧ (h147 90 35) = (h82 90 35) ∧ (h147 90 37) = (h82 90 37) := f131
          clear f131
          have y144_ : (h147 97) = ov_rs (h82 97) (1100 + (h82 90 13)) (9 : Int) := y144
          have y145_ : (h147 98) = ov_rs (h82 98) (1100 + (h82 90 13)) (0 : Int) := y145
          have K162 : ∀ j : Int, j < 1100 + (h 90 13) → h147 97 j = h 97 j ∧ h147 98 j = h 98 j := ov_kpe (ov_kp xa y79_ (by omega)) y144_ y145_ (by omega)
          have K163 : h147 90 8 = 0 → ov_sg (h147 97) (h147 98) (h 90 13) (h147 90 13) := fun e => by have q1 := xb (by omega); have q2 := y80_ (by omega); rw [show (h39 90 13) = (h39 90 13) by omega] at q2; have q3 := ov_sg_bin q1 (fun j hj => y79_ j (by omega)) q2 y144_ y145_ (by omega); rw [show h147 90 13 = (h82 90 13) + 1 by omega]; exact q3
          refine ov_goto (tgt := 5) d_226_61 (by decide) ?_
          refine ov_sub (ls2 := [(0, ov_r 90), (1, ov_i dep)]) (List.Sublist.subset (by repeat (first | exact List.Sublist.refl _ | apply List.Sublist.cons_cons | apply List.Sublist.cons))) ?_
          exact ih35  _ _ I148 E149 E150 E151 E152 E153 E154 E155 E156 E157 E158 E159 E160 K162 K163 (by show (h 90 7) ≤ (h147 90 7) ∧ (h147 90 7) ≤ n ∧ (0 < (h 90 8) → (h147 90 8) = (h 90 8)) ∧ (h 90 13) ≤ (h147 90 13) ∧ (h147 90 13) - (h 90 13) ≤ (h147 90 7) - (h 90 7) ∧ (h147 90 2) = (h17 90 2) ∧ (h147 90 3) = (h17 90 3) ∧ (h147 90 20) = (h17 90 20) ∧ (h147 90 22) = (h17 90 22) ∧ (h147 90 25) = (h17 90 25) ∧ (h147 90 26) = (h17 90 26) ∧ (h147 90 27) = (h17 90 27) ∧ (h147 90 28) = (h17 90 28) ∧ (h147 90 29) = (h17 90 29) ∧ (h147 90 30) = (h17 90 30) ∧ (h147 90 34) = (h17 90 34) ∧ (h147 90 35) = (h17 90 35) ∧ (h147 90 37) = (h17 90 37); omega) (by omega)
      · skip
        refine ov_blk (ls2 := [(0, ov_r 90), (1, ov_i dep)]) (st2 := [ov_i 19, ov_r 90]) (pc2 := 17) b_226_14_2 rfl rfl ?_
        have cf164 : h39 92 (n) = h 92 (n) := congrFun E41 (n)
        refine ov_cV (as := [ov_i 19]) (st := []) (d2 := d - 1) d_226_17 lk_Mo_189 rfl (Nat.le_of_ble_eq_true rfl) (c := 1) (zb_90 I40) (zs_90 I40) ⟨by decide, rfl⟩ (by omega) (c_Mo_isWord_90 n (d - 1) (by omega) U I40 19 (by omega) (by show 0 ≤ n ∧ n ≤ 1000 ∧ (h39 92 (n)) = 0 ∧ (h39 90 7) ≤ n; omega) (by omega)) ?_
        rintro _ _ _ ⟨v166, rfl, rfl, rfl, f165⟩
        show ov_R u d ov_m226 20 [(0, ov_r 90), (1, ov_i dep)] [ov_i v166] z38 h39 (P_Mo_all_90 F z h n dep)
        rw [show h39 92 = h 92 from E41] at f165
        rw [show h39 94 = h 94 from E43] at f165
        rw [show h39 95 = h 95 from E44] at f165
        have f167 : (v166 = 0 ∨ v166 = 1) ∧ (v166 = 1 → (h39 90 7) < n) ∧ (v166 = 1 → (h39 90 8) = 0 ∧ (h 92 ((h39 90 7))) = 1 ∧ (h 94 ((h39 90 7))) = (h 95 ((19 : Int)))) ∧ (v166 = 0 → ¬ ((h39 90 8) = 0 ∧ (h 92 ((h39 90 7))) = 1 ∧ (h 94 ((h39 90 7))) = (h 95 ((19 : Int))))) := f165
        clear f165
        refine ov_ifeq (tgt := 64) d_226_20 (by decide) (by omega) (fun c168 => ?_) (fun c168 => ?_)
        · skip
          exact ov_retv (st := []) d_226_64 rfl ⟨rfl, I40, (by show (h 90 7) ≤ (h39 90 7) ∧ (h39 90 7) ≤ n ∧ (0 < (h 90 8) → (h39 90 8) = (h 90 8)) ∧ (h 90 13) ≤ (h39 90 13) ∧ (h39 90 13) - (h 90 13) ≤ (h39 90 7) - (h 90 7) ∧ (h39 90 2) = (h 90 2) ∧ (h39 90 3) = (h 90 3) ∧ (h39 90 20) = (h 90 20) ∧ (h39 90 22) = (h 90 22) ∧ (h39 90 25) = (h 90 25) ∧ (h39 90 26) = (h 90 26) ∧ (h39 90 27) = (h 90 27) ∧ (h39 90 28) = (h 90 28) ∧ (h39 90 29) = (h 90 29) ∧ (h39 90 30) = (h 90 30) ∧ (h39 90 34) = (h 90 34) ∧ (h39 90 35) = (h 90 35) ∧ (h39 90 37) = (h 90 37); omega), E41, E42, E43, E44, E45, E46, E47, E48, E49, E50, E51, E52, xa, (fun e => by have e0 : (h39 90 8) = 0 := e; show ov_sg (h39 97) (h39 98) _ (h39 90 13); rw [show (h39 90 13) = (h39 90 13) by omega]; exact xb (by omega))⟩
        · skip
          refine ov_blk (ls2 := [(0, ov_r 90), (1, ov_i dep)]) (st2 := [ov_i 18, ov_r 90]) (pc2 := 26) b_226_23_2 rfl rfl ?_
          have cf169 : h39 92 (n) = h 92 (n) := congrFun E41 (n)
          refine ov_cV (as := [ov_i 18]) (st := []) (d2 := d - 1) d_226_26 lk_Mo_189 rfl (Nat.le_of_ble_eq_true rfl) (c := 1) (zb_90 I40) (zs_90 I40) ⟨by decide, rfl⟩ (by omega) (c_Mo_isWord_90 n (d - 1) (by omega) U I40 18 (by omega) (by show 0 ≤ n ∧ n ≤ 1000 ∧ (h39 92 (n)) = 0 ∧ (h39 90 7) ≤ n; omega) (by omega)) ?_
          rintro _ _ _ ⟨v171, rfl, rfl, rfl, f170⟩
          show ov_R u d ov_m226 29 [(0, ov_r 90), (1, ov_i dep)] [ov_i v171] z38 h39 (P_Mo_all_90 F z h n dep)
          rw [show h39 92 = h 92 from E41] at f170
          rw [show h39 94 = h 94 from E43] at f170
          rw [show h39 95 = h 95 from E44] at f170
          have f172 : (v171 = 0 ∨ v171 = 1) ∧ (v171 = 1 → (h39 90 7) < n) ∧ (v171 = 1 → (h39 90 8) = 0 ∧ (h 92 ((h39 90 7))) = 1 ∧ (h 94 ((h39 90 7))) = (h 95 ((18 : Int)))) ∧ (v171 = 0 → ¬ ((h39 90 8) = 0 ∧ (h 92 ((h39 90 7))) = 1 ∧ (h 94 ((h39 90 7))) = (h 95 ((18 : Int))))) := f170
          clear f170
          refine ov_blk (ls2 := [(0, ov_r 90), (1, ov_i dep), (2, ov_i v171)]) (st2 := [ov_r 90, ov_r 90]) (pc2 := 32) b_226_29_3 rfl rfl ?_
          refine ov_getf (v := ov_i (h39 90 7)) d_226_32 fl_Mo_177 (zb_90 I40) (zs_90 I40) rfl ?_
          have g173 := rg_90_7 I40
          refine ov_blk (ls2 := [(0, ov_r 90), (1, ov_i dep), (2, ov_i v171)]) (st2 := [ov_i ((h39 90 7) + 1), ov_r 90]) (pc2 := 37) b_226_35_2 rfl rfl ?_
          refine ov_putf (x := ((h39 90 7) + 1)) d_226_37 fl_Mo_177 (zb_90 I40) (zs_90 I40) rfl nk_0 rfl ?_
          have I174 := up_90_7 (x := ((h39 90 7) + 1)) I40 (by omega)
          refine ov_blk (ls2 := [(0, ov_r 90), (1, ov_i dep), (2, ov_i v171)]) (st2 := [ov_i dep, ov_r 90]) (pc2 := 42) b_226_40_2 rfl rfl ?_
          have cf175 : h39 92 (n) = h 92 (n) := congrFun E41 (n)
          refine ov_cV (as := [ov_i dep]) (st := []) (d2 := d - 1) d_226_42 lk_Mo_257 rfl (Nat.le_of_ble_eq_true rfl) (c := 1) (zb_90 I174) (zs_90 I174) ⟨by decide, rfl⟩ (by omega) (c_Mo_test_90 n k HE HP (d - 1) (by omega) U I174 dep (by omega) (by show 0 ≤ n ∧ n ≤ 1000 ∧ (h39 92 (n)) = 0 ∧ ((h39 90 7) + 1) ≤ n; omega) (by omega) (by show (h39 90 13) ≤ ((h39 90 7) + 1); omega)) ?_
          rintro _ z191 h192 ⟨rfl, I193, f176, e177, e178, e179, e180, e181, e182, e183, e184, e185, e186, e187, e188, y189, y190⟩
          have E194 : h192 92 = h 92 := Eq.trans e177 E41
          have E195 : h192 93 = h 93 := Eq.trans e178 E42
          have E196 : h192 94 = h 94 := Eq.trans e179 E43
          have E197 : h192 95 = h 95 := Eq.trans e180 E44
          have E198 : h192 96 = h 96 := Eq.trans e181 E45
          have E199 : h192 99 = h 99 := Eq.trans e182 E46
          have E200 : h192 100 = h 100 := Eq.trans e183 E47
          have E201 : h192 103 = h 103 := Eq.trans e184 E48
          have E202 : h192 105 = h 105 := Eq.trans e185 E49
          have E203 : h192 106 = h 106 := Eq.trans e186 E50
          have E204 : h192 109 = h 109 := Eq.trans e187 E51
          have E205 : h192 114 = h 114 := Eq.trans e188 E52
          show ov_R u d ov_m226 45 [(0, ov_r 90), (1, ov_i dep), (2, ov_i v171)] [] z191 h192 (P_Mo_all_90 F z h n dep)
          have f206 : ((h39 90 7) + 1) ≤ (h192 90 7) ∧ (h192 90 7) ≤ n ∧ (0 < (h39 90 8) → (h192 90 8) = (h39 90 8)) ∧ (h39 90 13) ≤ (h192 90 13) ∧ (h192 90 13) - (h39 90 13) ≤ (h192 90 7) - ((h39 90 7) + 1) ∧ (h192 90 2) = (h39 90 2) ∧ (h192 90 3) = (h39 90 3) ∧ (h192 90 20) = (h39 90 20) ∧ (h192 90 22) = (h39 90 22) ∧ (h192 90 25) = (h39 90 25) ∧ (h192 90 26) = (h39 90 26) ∧ (h192 90 27) = (h39 90 27) ∧ (h192 90 28) = (h39 90 28) ∧ (h192 90 29) = (h39 90 29) ∧ (h192 90 30) = (h39 90 30) ∧ (h192 90 34) = (h39 90 34) ∧ (h192 90 35) = (h39 90 35) ∧ (h192 90 37) = (h39 90 37) := f176
          clear f176
          have y189_ : ∀ j : Int, j < 1100 + (h39 90 13) → (h192 97) j = (h39 97) j ∧ (h192 98) j = (h39 98) j := y189
          have y190_ : (h192 90 8) = 0 → ov_sg (h192 97) (h192 98) (h39 90 13) (h192 90 13) := y190
          refine ov_blk (ls2 := [(0, ov_r 90), (1, ov_i dep), (2, ov_i v171)]) (st2 := [ov_i v171, ov_r 90]) (pc2 := 47) b_226_45_2 rfl rfl ?_
          refine ov_ifeq (tgt := 55) d_226_47 (by decide) (by omega) (fun c207 => ?_) (fun c207 => ?_)
          · skip
            refine ov_blk (ls2 := [(0, ov_r 90), (1, ov_i dep), (2, ov_i v171)]) (st2 := [ov_i 0, ov_i 10, ov_r 90]) (pc2 := 58) b_226_55_2 rfl rfl ?_
            refine ov_cV (as := [ov_i 10, ov_i 0]) (st := []) (d2 := d - 1) d_226_58 lk_Mo_246 rfl (Nat.le_of_ble_eq_true rfl) (c := 1) (zb_90 I193) (zs_90 I193) ⟨by decide, rfl⟩ (by omega) (c_Mo_emit_90 (d - 1) (by omega) U I193 10 0 (by omega) (by omega) (by omega) (by show (h192 90 13) ≤ 999; omega)) ?_
            rintro _ z223 h224 ⟨rfl, I225, f208, e209, e210, e211, e212, e213, e214, e215, e216, e217, e218, e219, e220, y221, y222⟩
            have E226 : h224 92 = h 92 := Eq.trans e209 E194
            have E227 : h224 93 = h 93 := Eq.trans e210 E195
            have E228 : h224 94 = h 94 := Eq.trans e211 E196
            have E229 : h224 95 = h 95 := Eq.trans e212 E197
            have E230 : h224 96 = h 96 := Eq.trans e213 E198
            have E231 : h224 99 = h 99 := Eq.trans e214 E199
            have E232 : h224 100 = h 100 := Eq.trans e215 E200
            have E233 : h224 103 = h 103 := Eq.trans e216 E201
            have E234 : h224 105 = h 105 := Eq.trans e217 E202
            have E235 : h224 106 = h 106 := Eq.trans e218 E203
            have E236 : h224 109 = h 109 := Eq.trans e219 E204
            have E237 : h224 114 = h 114 := Eq.trans e220 E205
            show ov_R u d ov_m226 61 [(0, ov_r 90), (1, ov_i dep), (2, ov_i v171)] [] z223 h224 (P_Mo_all_90 F z h n dep)
            have f238 : (h224 90 13) = (h192 90 13) + 1 ∧ (h224 90 2) = (h192 90 2) ∧ (h224 90 3) = (h192 90 3) ∧ (h224 90 7) = (h192 90 7) ∧ (h224 90 8) = (h192 90 8) ∧ (h224 90 20) = (h192 90 20) ∧ (h224 90 22) = (h192 90 22) ∧ (h224 90 25) = (h192 90 25) ∧ (h224 90 26) = (h192 90 26) ∧ (h224 90 27) = (h192 90 27) ∧ (h224 90 28) = (h192 90 28) ∧ (h224 90 29) = (h192 90 29) ∧ (h224 90 30) = (h192 90 30) ∧ (h224 90 34) = (h192 90 34) ∧ (h224 90 35) = (h192 90 35) ∧ (h224 90 37) = (h192 90 37) := f208
            clear f208
            have y221_ : (h224 97) = ov_rs (h192 97) (1100 + (h192 90 13)) (10 : Int) := y221
            have y222_ : (h224 98) = ov_rs (h192 98) (1100 + (h192 90 13)) (0 : Int) := y222
            have K239 : ∀ j : Int, j < 1100 + (h 90 13) → h224 97 j = h 97 j ∧ h224 98 j = h 98 j := ov_kpe (ov_kp xa y189_ (by omega)) y221_ y222_ (by omega)
            have K240 : h224 90 8 = 0 → ov_sg (h224 97) (h224 98) (h 90 13) (h224 90 13) := fun e => by have q1 := xb (by omega); have q2 := y190_ (by omega); rw [show (h39 90 13) = (h39 90 13) by omega] at q2; have q3 := ov_sg_bin q1 (fun j hj => y189_ j (by omega)) q2 y221_ y222_ (by omega); rw [show h224 90 13 = (h192 90 13) + 1 by omega]; exact q3
            refine ov_goto (tgt := 5) d_226_61 (by decide) ?_
            refine ov_sub (ls2 := [(0, ov_r 90), (1, ov_i dep)]) (List.Sublist.subset (by repeat (first | exact List.Sublist.refl _ | apply List.Sublist.cons_cons | apply List.Sublist.cons))) ?_
            exact ih35  _ _ I225 E226 E227 E228 E229 E230 E231 E232 E233 E234 E235 E236 E237 K239 K240 (by show (h 90 7) ≤ (h224 90 7) ∧ (h224 90 7) ≤ n ∧ (0 < (h 90 8) → (h224 90 8) = (h 90 8)) ∧ (h 90 13) ≤ (h224 90 13) ∧ (h224 90 13) - (h 90 13) ≤ (h224 90 7) - (h 90 7) ∧ (h224 90 2) = (h17 90 2) ∧ (h224 90 3) = (h17 90 3) ∧ (h224 90 20) = (h17 90 20) ∧ (h224 90 22) = (h17 90 22) ∧ (h224 90 25) = (h17 90 25) ∧ (h224 90 26) = (h17 90 26) ∧ (h224 90 27) = (h17 90 27) ∧ (h224 90 28) = (h17 90 28) ∧ (h224 90 29) = (h17 90 29) ∧ (h224 90 30) = (h17 90 30) ∧ (h224 90 34) = (h17 90 34) ∧ (h224 90 35) = (h17 90 35) ∧ (h224 90 37) = (h17 90 37); omega) (by omega)
          · skip
            refine ov_blk (ls2 := [(0, ov_r 90), (1, ov_i dep), (2, ov_i v171)]) (st2 := [ov_i 9, ov_r 90]) (pc2 := 52) b_226_50_1 rfl rfl ?_
            refine ov_goto (tgt := 57) d_226_52 (by decide) ?_
            refine ov_blk (ls2 := [(0, ov_r 90), (1, ov_i dep), (2, ov_i v171)]) (st2 := [ov_i 0, ov_i 9, ov_r 90]) (pc2 := 58) b_226_57_1 rfl rfl ?_
            refine ov_cV (as := [ov_i 9, ov_i 0]) (st := []) (d2 := d - 1) d_226_58 lk_Mo_246 rfl (Nat.le_of_ble_eq_true rfl) (c := 1) (zb_90 I193) (zs_90 I193) ⟨by decide, rfl⟩ (by omega) (c_Mo_emit_90 (d - 1) (by omega) U I193 9 0 (by omega) (by omega) (by omega) (by show (h192 90 13) ≤ 999; omega)) ?_
            rintro _ z256 h257 ⟨rfl, I258, f241, e242, e243, e244, e245, e246, e247, e248, e249, e250, e251, e252, e253, y254, y255⟩
            have E259 : h257 92 = h 92 := Eq.trans e242 E194
            have E260 : h257 93 = h 93 := Eq.trans e243 E195
            have E261 : h257 94 = h 94 := Eq.trans e244 E196
            have E262 : h257 95 = h 95 := Eq.trans e245 E197
            have E263 : h257 96 = h 96 := Eq.trans e246 E198
            have E264 : h257 99 = h 99 := Eq.trans e247 E199
            have E265 : h257 100 = h 100 := Eq.trans e248 E200
            have E266 : h257 103 = h 103 := Eq.trans e249 E201
            have E267 : h257 105 = h 105 := Eq.trans e250 E202
            have E268 : h257 106 = h 106 := Eq.trans e251 E203
            have E269 : h257 109 = h 109 := Eq.trans e252 E204
            have E270 : h257 114 = h 114 := Eq.trans e253 E205
            show ov_R u d ov_m226 61 [(0, ov_r 90), (1, ov_i dep), (2, ov_i v171)] [] z256 h257 (P_Mo_all_90 F z h n dep)
            have f271 : (h257 90 13) = (h192 90 13) + 1 ∧ (h257 90 2) = (h192 90 2) ∧ (h257 90 3) = (h192 90 3) ∧ (h257 90 7) = (h192 90 7) ∧ (h257 90 8) = (h192 90 8) ∧ (h257 90 20) = (h192 90 20) ∧ (h257 90 22) = (h192 90 22) ∧ (h257 90 25) = (h192 90 25) ∧ (h257 90 26) = (h192 90 26) ∧ (h257 90 27) = (h192 90 27) ∧ (h257 90 28) = (h192 90 28) ∧ (h257 90 29) = (h192 90 29) ∧ (h257 90 30) = (h192 90 30) ∧ (h257 90 34) = (h192 90 34) ∧ (h257 90 35) = (h192 90 35) ∧ (h257 90 37) = (h192 90 37) := f241
            clear f241
            have y254_ : (h257 97) = ov_rs (h192 97) (1100 + (h192 90 13)) (9 : Int) := y254
            have y255_ : (h257 98) = ov_rs (h192 98) (1100 + (h192 90 13)) (0 : Int) := y255
            have K272 : ∀ j : Int, j < 1100 + (h 90 13) → h257 97 j = h 97 j ∧ h257 98 j = h 98 j := ov_kpe (ov_kp xa y189_ (by omega)) y254_ y255_ (by omega)
            have K273 : h257 90 8 = 0 → ov_sg (h257 97) (h257 98) (h 90 13) (h257 90 13) := fun e => by have q1 := xb (by omega); have q2 := y190_ (by omega); rw [show (h39 90 13) = (h39 90 13) by omega] at q2; have q3 := ov_sg_bin q1 (fun j hj => y189_ j (by omega)) q2 y254_ y255_ (by omega); rw [show h257 90 13 = (h192 90 13) + 1 by omega]; exact q3
            refine ov_goto (tgt := 5) d_226_61 (by decide) ?_
            refine ov_sub (ls2 := [(0, ov_r 90), (1, ov_i dep)]) (List.Sublist.subset (by repeat (first | exact List.Sublist.refl _ | apply List.Sublist.cons_cons | apply List.Sublist.cons))) ?_
            exact ih35  _ _ I258 E259 E260 E261 E262 E263 E264 E265 E266 E267 E268 E269 E270 K272 K273 (by show (h 90 7) ≤ (h257 90 7) ∧ (h257 90 7) ≤ n ∧ (0 < (h 90 8) → (h257 90 8) = (h 90 8)) ∧ (h 90 13) ≤ (h257 90 13) ∧ (h257 90 13) - (h 90 13) ≤ (h257 90 7) - (h 90 7) ∧ (h257 90 2) = (h17 90 2) ∧ (h257 90 3) = (h17 90 3) ∧ (h257 90 20) = (h17 90 20) ∧ (h257 90 22) = (h17 90 22) ∧ (h257 90 25) = (h17 90 25) ∧ (h257 90 26) = (h17 90 26) ∧ (h257 90 27) = (h17 90 27) ∧ (h257 90 28) = (h17 90 28) ∧ (h257 90 29) = (h17 90 29) ∧ (h257 90 30) = (h17 90 30) ∧ (h257 90 34) = (h17 90 34) ∧ (h257 90 35) = (h17 90 35) ∧ (h257 90 37) = (h17 90 37); omega) (by omega)
  exact L37 1001  _ _ I18 E19 E20 E21 E22 E23 E24 E25 E26 E27 E28 E29 E30 K32 K33 (by show (h 90 7) ≤ (h17 90 7) ∧ (h17 90 7) ≤ n ∧ (0 < (h 90 8) → (h17 90 8) = (h 90 8)) ∧ (h 90 13) ≤ (h17 90 13) ∧ (h17 90 13) - (h 90 13) ≤ (h17 90 7) - (h 90 7) ∧ (h17 90 2) = (h17 90 2) ∧ (h17 90 3) = (h17 90 3) ∧ (h17 90 20) = (h17 90 20) ∧ (h17 90 22) = (h17 90 22) ∧ (h17 90 25) = (h17 90 25) ∧ (h17 90 26) = (h17 90 26) ∧ (h17 90 27) = (h17 90 27) ∧ (h17 90 28) = (h17 90 28) ∧ (h17 90 29) = (h17 90 29) ∧ (h17 90 30) = (h17 90 30) ∧ (h17 90 34) = (h17 90 34) ∧ (h17 90 35) = (h17 90 35) ∧ (h17 90 37) = (h17 90 37); omega) (by omega)
theorem c_Mo_all_90_both {u : ov_U} {F : ov_H × ov_Z} (n : Int) : ∀ k : Nat, (∀ {z : ov_Z} {h : ov_H} (d : Nat) (hd : (10 + 5 * k + 4) ≤ d) (U : ov_cap u) (I : ov_N F z h) (dep : Int) (g_dep : ov_g dep) (p0 : 0 ≤ n ∧ n ≤ 1000 ∧ (h 92 (n)) = 0 ∧ (h 90 7) ≤ n) (p1 : 0 ≤ dep ∧ dep + (k : Int) = 5) (p2 : (h 90 13) ≤ (h 90 7)), ov_T u d ov_m226 [ov_r 90, ov_i dep] z h (P_Mo_all_90 F z h n dep)) ∧ (∀ {z : ov_Z} {h : ov_H} (d : Nat) (hd : (10 + 5 * k + 0) ≤ d) (U : ov_cap u) (I : ov_N F z h) (dep : Int) (g_dep : ov_g dep) (p0 : 0 ≤ n ∧ n ≤ 1000 ∧ (h 92 (n)) = 0 ∧ (h 90 7) ≤ n) (p1 : 0 ≤ dep ∧ dep + (k : Int) = 5) (p2 : (h 90 13) ≤ (h 90 7)), ov_T u d ov_m230 [ov_r 90, ov_i dep] z h (P_Mo_takePart_90 F z h n dep)) := by
  intro k
  induction k with
  | zero => exact ⟨c_Mo_all_90 n 0 (fun k' e => by omega) (fun k' e => by omega), c_Mo_takePart_90 n 0 (fun k' e => by omega) (fun k' e => by omega)⟩
  | succ k ih =>
    have HE : ∀ k' : Nat, k' + 1 = k + 1 → ∀ {z : ov_Z} {h : ov_H} (d : Nat) (hd : (10 + 5 * k' + 4) ≤ d) (U : ov_cap u) (I : ov_N F z h) (dep : Int) (g_dep : ov_g dep) (p0 : 0 ≤ n ∧ n ≤ 1000 ∧ (h 92 (n)) = 0 ∧ (h 90 7) ≤ n) (p1 : 0 ≤ dep ∧ dep + (k' : Int) = 5) (p2 : (h 90 13) ≤ (h 90 7)), ov_T u d ov_m226 [ov_r 90, ov_i dep] z h (P_Mo_all_90 F z h n dep) := fun k' e => by
      have e2 : k' = k := by omega
      rw [e2]
      exact fun {z} {h} => @(ih.1) z h
    have HP : ∀ k' : Nat, k' + 1 = k + 1 → ∀ {z : ov_Z} {h : ov_H} (d : Nat) (hd : (10 + 5 * k' + 0) ≤ d) (U : ov_cap u) (I : ov_N F z h) (dep : Int) (g_dep : ov_g dep) (p0 : 0 ≤ n ∧ n ≤ 1000 ∧ (h 92 (n)) = 0 ∧ (h 90 7) ≤ n) (p1 : 0 ≤ dep ∧ dep + (k' : Int) = 5) (p2 : (h 90 13) ≤ (h 90 7)), ov_T u d ov_m230 [ov_r 90, ov_i dep] z h (P_Mo_takePart_90 F z h n dep) := fun k' e => by
      have e2 : k' = k := by omega
      rw [e2]
      exact fun {z} {h} => @(ih.2) z h
    exact ⟨c_Mo_all_90 n (k + 1) HE HP, c_Mo_takePart_90 n (k + 1) HE HP⟩
theorem c_Mo_all_90_all {u : ov_U} {F : ov_H × ov_Z} (n : Int) (k : Nat) : ∀ {z : ov_Z} {h : ov_H} (d : Nat) (hd : (10 + 5 * k + 4) ≤ d) (U : ov_cap u) (I : ov_N F z h) (dep : Int) (g_dep : ov_g dep) (p0 : 0 ≤ n ∧ n ≤ 1000 ∧ (h 92 (n)) = 0 ∧ (h 90 7) ≤ n) (p1 : 0 ≤ dep ∧ dep + (k : Int) = 5) (p2 : (h 90 13) ≤ (h 90 7)), ov_T u d ov_m226 [ov_r 90, ov_i dep] z h (P_Mo_all_90 F z h n dep) := (c_Mo_all_90_both n k).1

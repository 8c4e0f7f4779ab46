set_option maxHeartbeats 4000000 in
theorem c_Mo_test_90 {u : ov_U} {F : ov_H × ov_Z} (n : Int) (k : Nat) (HE : ∀ k' : Nat, k' + 1 = k → ∀ {z : ov_Z} {h : ov_H} (d : Nat) (hd : (10 + 5 * k' + 4) ≤ d) (U : ov_cap u) (I : ov_N F z h) (dep : Int) (g_dep : ov_g dep) (p0 : 0 ≤ n ∧ n ≤ 1000 ∧ (h 92 (n)) = 0 ∧ (h 90 7) ≤ n) (p1 : 0 ≤ dep ∧ dep + (k' : Int) = 5) (p2 : (h 90 13) ≤ (h 90 7)), ov_T u d ov_m226 [ov_r 90, ov_i dep] z h (P_Mo_all_90 F z h n dep)) (HP : ∀ k' : Nat, k' + 1 = k → ∀ {z : ov_Z} {h : ov_H} (d : Nat) (hd : (10 + 5 * k' + 0) ≤ d) (U : ov_cap u) (I : ov_N F z h) (dep : Int) (g_dep : ov_g dep) (p0 : 0 ≤ n ∧ n ≤ 1000 ∧ (h 92 (n)) = 0 ∧ (h 90 7) ≤ n) (p1 : 0 ≤ dep ∧ dep + (k' : Int) = 5) (p2 : (h 90 13) ≤ (h 90 7)), ov_T u d ov_m230 [ov_r 90, ov_i dep] z h (P_Mo_takePart_90 F z h n dep)) {z : ov_Z} {h : ov_H} (d : Nat) (hd : (10 + 5 * k + 3) ≤ d) (U : ov_cap u) (I : ov_N F z h) (dep : Int) (g_dep : ov_g dep) (p0 : 0 ≤ n ∧ n ≤ 1000 ∧ (h 92 (n)) = 0 ∧ (h 90 7) ≤ n) (p1 : 0 ≤ dep ∧ dep + (k : Int) = 5) (p2 : (h 90 13) ≤ (h 90 7)) : ov_T u d ov_m227 [ov_r 90, ov_i dep] z h (P_Mo_test_90 F z h n dep) := by
  refine ov_en rfl (Nat.le_of_ble_eq_true rfl) ?_
  show ov_R u d ov_m227 0 [(0, ov_r 90), (1, ov_i dep)] [] z h (P_Mo_test_90 F z h n dep)
  have gq7 := rg_90_7 I
  refine ov_blk (ls2 := [(0, ov_r 90), (1, ov_i dep)]) (st2 := [ov_i dep, ov_r 90]) (pc2 := 2) b_227_0_2 rfl rfl ?_
  refine ov_cV (as := [ov_i dep]) (st := []) (d2 := d - 1) d_227_2 lk_Mo_260 rfl (Nat.le_of_ble_eq_true rfl) (c := 1) (zb_90 I) (zs_90 I) ⟨by decide, rfl⟩ (by omega) (c_Mo_sums_90 n k HE HP (d - 1) (by omega) U I dep (by omega) (by show 0 ≤ n ∧ n ≤ 1000 ∧ (h 92 (n)) = 0 ∧ (h 90 7) ≤ n; omega) (by omega) (by show (h 90 13) ≤ (h 90 7); omega)) ?_
  rintro _ z17 h18 ⟨rfl, I19, f1, e2, e3, e4, e5, e6, e7, e8, e9, e10, e11, e12, e13, e14, y15, y16⟩
  have E20 : h18 91 = h 91 := e2
  have E21 : h18 92 = h 92 := e3
  have E22 : h18 93 = h 93 := e4
  have E23 : h18 94 = h 94 := e5
  have E24 : h18 95 = h 95 := e6
  have E25 : h18 96 = h 96 := e7
  have E26 : h18 99 = h 99 := e8
  have E27 : h18 100 = h 100 := e9
  have E28 : h18 103 = h 103 := e10
  have E29 : h18 105 = h 105 := e11
  have E30 : h18 106 = h 106 := e12
  have E31 : h18 109 = h 109 := e13
  have E32 : h18 114 = h 114 := e14
  show ov_R u d ov_m227 5 [(0, ov_r 90), (1, ov_i dep)] [] z17 h18 (P_Mo_test_90 F z h n dep)
  have f33 : (h18 90 2) = (h 90 2) ∧ (h18 90 20) = (h 90 20) ∧ (h18 90 22) = (h 90 22) ∧ (h18 90 25) = (h 90 25) ∧ (h18 90 26) = (h 90 26) ∧ (h18 90 28) = (h 90 28) ∧ (h18 90 29) = (h 90 29) ∧ (h18 90 30) = (h 90 30) ∧ (h18 90 34) = (h 90 34) ∧ (h 90 7) ≤ (h18 90 7) ∧ (h18 90 7) ≤ n ∧ (h 90 8) ≤ (h18 90 8) ∧ (h 90 13) ≤ (h18 90 13) ∧ (h18 90 13) - (h 90 13) ≤ (h18 90 7) - (h 90 7) := f1
  clear f1
  have y15_ : ∀ j : Int, j < 1100 + (h 90 13) → (h18 97) j = (h 97) j ∧ (h18 98) j = (h 98) j := y15
  have y16_ : (h18 90 8) = 0 → ov_sg (h18 97) (h18 98) (h 90 13) (h18 90 13) := y16
  have K34 : ∀ j : Int, j < 1100 + (h 90 13) → h18 97 j = h 97 j ∧ h18 98 j = h 98 j := fun j hj => y15_ j (by omega)
  have K35 : h18 90 8 = 0 → ov_sg (h18 97) (h18 98) (h 90 13) (h18 90 13) := fun e => by have q := y16_ e; rw [show (h 90 13) = h 90 13 by omega] at q; exact q
  refine ov_blk (ls2 := [(0, ov_r 90), (1, ov_i dep)]) (st2 := [ov_i 60, ov_r 90]) (pc2 := 8) b_227_5_2 rfl rfl ?_
  have cf36 : h18 92 (n) = h 92 (n) := congrFun E21 (n)
  refine ov_cV (as := [ov_i 60]) (st := []) (d2 := d - 1) d_227_8 lk_Mo_183 rfl (Nat.le_of_ble_eq_true rfl) (c := 1) (zb_90 I19) (zs_90 I19) ⟨by decide, rfl⟩ (by omega) (c_Mo_isSign_90 n (d - 1) (by omega) U I19 60 (by omega) (by show 0 ≤ n ∧ n ≤ 1000 ∧ (h18 92 (n)) = 0 ∧ (h18 90 7) ≤ n; omega)) ?_
  rintro _ _ _ ⟨v38, rfl, rfl, rfl, f37⟩
  show ov_R u d ov_m227 11 [(0, ov_r 90), (1, ov_i dep)] [ov_i v38] z17 h18 (P_Mo_test_90 F z h n dep)
  rw [show h18 92 = h 92 from E21] at f37
  rw [show h18 94 = h 94 from E23] at f37
  have f39 : (v38 = 0 ∨ v38 = 1) ∧ (v38 = 1 → (h18 90 7) < n) ∧ (v38 = 1 → (h18 90 8) = 0 ∧ (h 92 ((h18 90 7))) = 3 ∧ (h 94 ((h18 90 7))) = (60 : Int)) ∧ (v38 = 0 → ¬ ((h18 90 8) = 0 ∧ (h 92 ((h18 90 7))) = 3 ∧ (h 94 ((h18 90 7))) = (60 : Int))) := f37
  clear f37
  refine ov_blk (ls2 := [(0, ov_r 90), (1, ov_i dep), (2, ov_i v38)]) (st2 := [ov_i 60, ov_r 90]) (pc2 := 15) b_227_11_3 rfl rfl ?_
  have cf40 : h18 92 (n) = h 92 (n) := congrFun E21 (n)
  refine ov_cV (as := [ov_i 60]) (st := []) (d2 := d - 1) d_227_15 lk_Mo_263 rfl (Nat.le_of_ble_eq_true rfl) (c := 1) (zb_90 I19) (zs_90 I19) ⟨by decide, rfl⟩ (by omega) (c_Mo_hasSign_90 n (d - 1) (by omega) U I19 60 (by omega) (by show 0 ≤ n ∧ n ≤ 1000 ∧ (h18 92 (n)) = 0 ∧ (h18 90 7) ≤ n; omega)) ?_
  rintro _ z58 h59 ⟨v42, rfl, I60, f41, e43, e44, e45, e46, e47, e48, e49, e50, e51, e52, e53, e54, e55, e56, e57⟩
  have E61 : h59 91 = h 91 := Eq.trans e43 E20
  have E62 : h59 92 = h 92 := Eq.trans e44 E21
  have E63 : h59 93 = h 93 := Eq.trans e45 E22
  have E64 : h59 94 = h 94 := Eq.trans e46 E23
  have E65 : h59 95 = h 95 := Eq.trans e47 E24
  have E66 : h59 96 = h 96 := Eq.trans e48 E25
  have E67 : h59 97 = h18 97 := e49
  have E68 : h59 98 = h18 98 := e50
  have E69 : h59 99 = h 99 := Eq.trans e51 E26
  have E70 : h59 100 = h 100 := Eq.trans e52 E27
  have E71 : h59 103 = h 103 := Eq.trans e53 E28
  have E72 : h59 105 = h 105 := Eq.trans e54 E29
  have E73 : h59 106 = h 106 := Eq.trans e55 E30
  have E74 : h59 109 = h 109 := Eq.trans e56 E31
  have E75 : h59 114 = h 114 := Eq.trans e57 E32
  show ov_R u d ov_m227 18 [(0, ov_r 90), (1, ov_i dep), (2, ov_i v38)] [ov_i v42] z58 h59 (P_Mo_test_90 F z h n dep)
  rw [show h18 92 = h 92 from E21] at f41
  rw [show h18 94 = h 94 from E23] at f41
  have f76 : (h59 90 2) = (h18 90 2) ∧ (h59 90 8) = (h18 90 8) ∧ (h59 90 13) = (h18 90 13) ∧ (h59 90 20) = (h18 90 20) ∧ (h59 90 22) = (h18 90 22) ∧ (h59 90 25) = (h18 90 25) ∧ (h59 90 26) = (h18 90 26) ∧ (h59 90 28) = (h18 90 28) ∧ (h59 90 29) = (h18 90 29) ∧ (h59 90 30) = (h18 90 30) ∧ (h59 90 34) = (h18 90 34) ∧ (v42 = 0 ∨ v42 = 1) ∧ (h18 90 7) ≤ (h59 90 7) ∧ (h59 90 7) ≤ n ∧ (v42 = 1 → (h59 90 7) = (h18 90 7) + 1 ∧ (h18 90 8) = 0) ∧ (v42 = 0 → (h59 90 7) = (h18 90 7)) ∧ (v42 = 1 → (h18 90 8) = 0 ∧ (h 92 ((h18 90 7))) = 3 ∧ (h 94 ((h18 90 7))) = (60 : Int)) ∧ (v42 = 0 → ¬ ((h18 90 8) = 0 ∧ (h 92 ((h18 90 7))) = 3 ∧ (h 94 ((h18 90 7))) = (60 : Int))) := f41
  clear f41
  refine ov_ifne (tgt := 30) d_227_18 (by decide) (by omega) (fun c77 => ?_) (fun c77 => ?_)
  · skip
    have f76_ : v42 = 1 := by omega
    have f78 : (h59 90 2) = (h18 90 2) := f76.1
    have f79 : (h59 90 8) = (h18 90 8) := f76.2.1
    have f80 : (h59 90 13) = (h18 90 13) := f76.2.2.1
    have f81 : (h59 90 20) = (h18 90 20) := f76.2.2.2.1
    have f82 : (h59 90 22) = (h18 90 22) := f76.2.2.2.2.1
    have f83 : (h59 90 25) = (h18 90 25) := f76.2.2.2.2.2.1
    have f84 : (h59 90 26) = (h18 90 26) := f76.2.2.2.2.2.2.1
    have f85 : (h59 90 28) = (h18 90 28) := f76.2.2.2.2.2.2.2.1
    have f86 : (h59 90 29) = (h18 90 29) := f76.2.2.2.2.2.2.2.2.1
    have f87 : (h59 90 30) = (h18 90 30) := f76.2.2.2.2.2.2.2.2.2.1
    have f88 : (h59 90 34) = (h18 90 34) := f76.2.2.2.2.2.2.2.2.2.2.1
    have f89 : (h18 90 7) ≤ (h59 90 7) := f76.2.2.2.2.2.2.2.2.2.2.2.2.1
    have f90 : (h59 90 7) ≤ n := f76.2.2.2.2.2.2.2.2.2.2.2.2.2.1
    have f91 : (h59 90 7) = (h18 90 7) + 1 ∧ (h18 90 8) = 0 := f76.2.2.2.2.2.2.2.2.2.2.2.2.2.2.1 (by omega)
    have f92 : (h18 90 8) = 0 ∧ (h 92 ((h18 90 7))) = 3 ∧ (h 94 ((h18 90 7))) = (60 : Int) := f76.2.2.2.2.2.2.2.2.2.2.2.2.2.2.2.2.1 (by omega)
    clear f76
    refine ov_blk (ls2 := [(0, ov_r 90), (1, ov_i dep), (2, ov_i v38)]) (st2 := [ov_i dep, ov_r 90]) (pc2 := 32) b_227_30_2 rfl rfl ?_
    have cf93 : h59 92 (n) = h 92 (n) := congrFun E62 (n)
    refine ov_cV (as := [ov_i dep]) (st := []) (d2 := d - 1) d_227_32 lk_Mo_260 rfl (Nat.le_of_ble_eq_true rfl) (c := 1) (zb_90 I60) (zs_90 I60) ⟨by decide, rfl⟩ (by omega) (c_Mo_sums_90 n k HE HP (d - 1) (by omega) U I60 dep (by omega) (by show 0 ≤ n ∧ n ≤ 1000 ∧ (h59 92 (n)) = 0 ∧ (h59 90 7) ≤ n; omega) (by omega) (by show (h59 90 13) ≤ (h59 90 7); omega)) ?_
    rintro _ z110 h111 ⟨rfl, I112, f94, e95, e96, e97, e98, e99, e100, e101, e102, e103, e104, e105, e106, e107, y108, y109⟩
    have E113 : h111 91 = h 91 := Eq.trans e95 E61
    have E114 : h111 92 = h 92 := Eq.trans e96 E62
    have E115 : h111 93 = h 93 := Eq.trans e97 E63
    have E116 : h111 94 = h 94 := Eq.trans e98 E64
    have E117 : h111 95 = h 95 := Eq.trans e99 E65
    have E118 : h111 96 = h 96 := Eq.trans e100 E66
    have E119 : h111 99 = h 99 := Eq.trans e101 E69
    have E120 : h111 100 = h 100 := Eq.trans e102 E70
    have E121 : h111 103 = h 103 := Eq.trans e103 E71
    have E122 : h111 105 = h 105 := Eq.trans e104 E72
    have E123 : h111 106 = h 106 := Eq.trans e105 E73
    have E124 : h111 109 = h 109 := Eq.trans e106 E74
    have E125 : h111 114 = h 114 := Eq.trans e107 E75
    show ov_R u d ov_m227 35 [(0, ov_r 90), (1, ov_i dep), (2, ov_i v38)] [] z110 h111 (P_Mo_test_90 F z h n dep)
    have f126 : (h111 90 2) = (h59 90 2) ∧ (h111 90 20) = (h59 90 20) ∧ (h111 90 22) = (h59 90 22) ∧ (h111 90 25) = (h59 90 25) ∧ (h111 90 26) = (h59 90 26) ∧ (h111 90 28) = (h59 90 28) ∧ (h111 90 29) = (h59 90 29) ∧ (h111 90 30) = (h59 90 30) ∧ (h111 90 34) = (h59 90 34) ∧ (h59 90 7) ≤ (h111 90 7) ∧ (h111 90 7) ≤ n ∧ (h59 90 8) ≤ (h111 90 8) ∧ (h59 90 13) ≤ (h111 90 13) ∧ (h111 90 13) - (h59 90 13) ≤ (h111 90 7) - (h59 90 7) := f94
    clear f94
    rw [show h59 97 = h18 97 from E67] at y108
    rw [show h59 98 = h18 98 from E68] at y108
    have y108_ : ∀ j : Int, j < 1100 + (h59 90 13) → (h111 97) j = (h18 97) j ∧ (h111 98) j = (h18 98) j := y108
    have y109_ : (h111 90 8) = 0 → ov_sg (h111 97) (h111 98) (h59 90 13) (h111 90 13) := y109
    refine ov_blk (ls2 := [(0, ov_r 90), (1, ov_i dep), (2, ov_i v38)]) (st2 := [ov_i v38, ov_r 90]) (pc2 := 37) b_227_35_2 rfl rfl ?_
    refine ov_ifeq (tgt := 45) d_227_37 (by decide) (by omega) (fun c127 => ?_) (fun c127 => ?_)
    · skip
      have f39_ : v38 = 0 := by omega
      have f128 : ¬ ((h18 90 8) = 0 ∧ (h 92 ((h18 90 7))) = 3 ∧ (h 94 ((h18 90 7))) = (60 : Int)) := f39.2.2.2 (by omega)
      clear f39
      refine ov_blk (ls2 := [(0, ov_r 90), (1, ov_i dep), (2, ov_i v38)]) (st2 := [ov_i 0, ov_i 8, ov_r 90]) (pc2 := 48) b_227_45_2 rfl rfl ?_
      refine ov_cV (as := [ov_i 8, ov_i 0]) (st := []) (d2 := d - 1) d_227_48 lk_Mo_246 rfl (Nat.le_of_ble_eq_true rfl) (c := 1) (zb_90 I112) (zs_90 I112) ⟨by decide, rfl⟩ (by omega) (c_Mo_emit_90 (d - 1) (by omega) U I112 8 0 (by omega) (by omega) (by omega) (by show (h111 90 13) ≤ 999; omega)) ?_
      rintro _ z145 h146 ⟨rfl, I147, f129, e130, e131, e132, e133, e134, e135, e136, e137, e138, e139, e140, e141, e142, y143, y144⟩
      have E148 : h146 91 = h 91 := Eq.trans e130 E113
      have E149 : h146 92 = h 92 := Eq.trans e131 E114
      have E150 : h146 93 = h 93 := Eq.trans e132 E115
      have E151 : h146 94 = h 94 := Eq.trans e133 E116
      have E152 : h146 95 = h 95 := Eq.trans e134 E117
      have E153 : h146 96 = h 96 := Eq.trans e135 E118
      have E154 : h146 99 = h 99 := Eq.trans e136 E119
      have E155 : h146 100 = h 100 := Eq.trans e137 E120
      have E156 : h146 103 = h 103 := Eq.trans e138 E121
      have E157 : h146 105 = h 105 := Eq.trans e139 E122
      have E158 : h146 106 = h 106 := Eq.trans e140 E123
      have E159 : h146 109 = h 109 := Eq.trans e141 E124
      have E160 : h146 114 = h 114 := Eq.trans e142 E125
      show ov_R u d ov_m227 51 [(0, ov_r 90), (1, ov_i dep), (2, ov_i v38)] [] z145 h146 (P_Mo_test_90 F z h n dep)
      have f161 : (h146 90 2) = (h111 90 2) ∧ (h146 90 7) = (h111 90 7) ∧ (h146 90 8) = (h111 90 8) ∧ (h146 90 20) = (h111 90 20) ∧ (h146 90 22) = (h111 90 22) ∧ (h146 90 25) = (h111 90 25) ∧ (h146 90 26) = (h111 90 26) ∧ (h146 90 28) = (h111 90 28) ∧ (h146 90 29) = (h111 90 29) ∧ (h146 90 30) = (h111 90 30) ∧ (h146 90 34) = (h111 90 34) ∧ (h146 90 13) = (h111 90 13) + 1 := f129
      clear f129
      have y143_ : (h146 97) = ov_rs (h111 97) (1100 + (h111 90 13)) (8 : Int) := y143
      have y144_ : (h146 98) = ov_rs (h111 98) (1100 + (h111 90 13)) (0 : Int) := y144
      have K162 : ∀ j : Int, j < 1100 + (h 90 13) → h146 97 j = h 97 j ∧ h146 98 j = h 98 j := ov_kpe (ov_kp K34 y108_ (by omega)) y143_ y144_ (by omega)
      have K163 : h146 90 8 = 0 → ov_sg (h146 97) (h146 98) (h 90 13) (h146 90 13) := fun e => by have q1 := K35 (by omega); have q2 := y109_ (by omega); rw [show (h59 90 13) = (h18 90 13) by omega] at q2; have q3 := ov_sg_bin q1 (fun j hj => y108_ j (by omega)) q2 y143_ y144_ (by omega); rw [show h146 90 13 = (h111 90 13) + 1 by omega]; exact q3
      exact ov_retv (st := []) d_227_51 rfl ⟨rfl, I147, (by show (h146 90 2) = (h 90 2) ∧ (h146 90 20) = (h 90 20) ∧ (h146 90 22) = (h 90 22) ∧ (h146 90 25) = (h 90 25) ∧ (h146 90 26) = (h 90 26) ∧ (h146 90 28) = (h 90 28) ∧ (h146 90 29) = (h 90 29) ∧ (h146 90 30) = (h 90 30) ∧ (h146 90 34) = (h 90 34) ∧ (h 90 7) ≤ (h146 90 7) ∧ (h146 90 7) ≤ n ∧ (h 90 8) ≤ (h146 90 8) ∧ (h 90 13) ≤ (h146 90 13) ∧ (h146 90 13) - (h 90 13) ≤ (h146 90 7) - (h 90 7); omega), E148, E149, E150, E151, E152, E153, E154, E155, E156, E157, E158, E159, E160, K162, (fun e => by have e0 : (h146 90 8) = 0 := e; show ov_sg (h146 97) (h146 98) _ (h146 90 13); rw [show (h146 90 13) = (h146 90 13) by omega]; exact K163 (by omega))⟩
    · skip
      have f39_ : v38 = 1 := by omega
      have f164 : (h18 90 7) < n := f39.2.1 (by omega)
      have f165 : (h18 90 8) = 0 ∧ (h 92 ((h18 90 7))) = 3 ∧ (h 94 ((h18 90 7))) = (60 : Int) := f39.2.2.1 (by omega)
      clear f39
      refine ov_blk (ls2 := [(0, ov_r 90), (1, ov_i dep), (2, ov_i v38)]) (st2 := [ov_i 7, ov_r 90]) (pc2 := 42) b_227_40_1 rfl rfl ?_
      refine ov_goto (tgt := 47) d_227_42 (by decide) ?_
      refine ov_blk (ls2 := [(0, ov_r 90), (1, ov_i dep), (2, ov_i v38)]) (st2 := [ov_i 0, ov_i 7, ov_r 90]) (pc2 := 48) b_227_47_1 rfl rfl ?_
      refine ov_cV (as := [ov_i 7, ov_i 0]) (st := []) (d2 := d - 1) d_227_48 lk_Mo_246 rfl (Nat.le_of_ble_eq_true rfl) (c := 1) (zb_90 I112) (zs_90 I112) ⟨by decide, rfl⟩ (by omega) (c_Mo_emit_90 (d - 1) (by omega) U I112 7 0 (by omega) (by omega) (by omega) (by show (h111 90 13) ≤ 999; omega)) ?_
      rintro _ z182 h183 ⟨rfl, I184, f166, e167, e168, e169, e170, e171, e172, e173, e174, e175, e176, e177, e178, e179, y180, y181⟩
      have E185 : h183 91 = h 91 := Eq.trans e167 E113
      have E186 : h183 92 = h 92 := Eq.trans e168 E114
      have E187 : h183 93 = h 93 := Eq.trans e169 E115
      have E188 : h183 94 = h 94 := Eq.trans e170 E116
      have E189 : h183 95 = h 95 := Eq.trans e171 E117
      have E190 : h183 96 = h 96 := Eq.trans e172 E118
      have E191 : h183 99 = h 99 := Eq.trans e173 E119
      have E192 : h183 100 = h 100 := Eq.trans e174 E120
      have E193 : h183 103 = h 103 := Eq.trans e175 E121
      have E194 : h183 105 = h 105 := Eq.trans e176 E122
      have E195 : h183 106 = h 106 := Eq.trans e177 E123
      have E196 : h183 109 = h 109 := Eq.trans e178 E124
      have E197 : h183 114 = h 114 := Eq.trans e179 E125
      show ov_R u d ov_m227 51 [(0, ov_r 90), (1, ov_i dep), (2, ov_i v38)] [] z182 h183 (P_Mo_test_90 F z h n dep)
      have f198 : (h183 90 2) = (h111 90 2) ∧ (h183 90 7) = (h111 90 7) ∧ (h183 90 8) = (h111 90 8) ∧ (h183 90 20) = (h111 90 20) ∧ (h183 90 22) = (h111 90 22) ∧ (h183 90 25) = (h111 90 25) ∧ (h183 90 26) = (h111 90 26) ∧ (h183 90 28) = (h111 90 28) ∧ (h183 90 29) = (h111 90 29) ∧ (h183 90 30) = (h111 90 30) ∧ (h183 90 34) = (h111 90 34) ∧ (h183 90 13) = (h111 90 13) + 1 := f166
      clear f166
      have y180_ : (h183 97) = ov_rs (h111 97) (1100 + (h111 90 13)) (7 : Int) := y180
      have y181_ : (h183 98) = ov_rs (h111 98) (1100 + (h111 90 13)) (0 : Int) := y181
      have K199 : ∀ j : Int, j < 1100 + (h 90 13) → h183 97 j = h 97 j ∧ h183 98 j = h 98 j := ov_kpe (ov_kp K34 y108_ (by omega)) y180_ y181_ (by omega)
      have K200 : h183 90 8 = 0 → ov_sg (h183 97) (h183 98) (h 90 13) (h183 90 13) := fun e => by have q1 := K35 (by omega); have q2 := y109_ (by omega); rw [show (h59 90 13) = (h18 90 13) by omega] at q2; have q3 := ov_sg_bin q1 (fun j hj => y108_ j (by omega)) q2 y180_ y181_ (by omega); rw [show h183 90 13 = (h111 90 13) + 1 by omega]; exact q3
      exact ov_retv (st := []) d_227_51 rfl ⟨rfl, I184, (by show (h183 90 2) = (h 90 2) ∧ (h183 90 20) = (h 90 20) ∧ (h183 90 22) = (h 90 22) ∧ (h183 90 25) = (h 90 25) ∧ (h183 90 26) = (h 90 26) ∧ (h183 90 28) = (h 90 28) ∧ (h183 90 29) = (h 90 29) ∧ (h183 90 30) = (h 90 30) ∧ (h183 90 34) = (h 90 34) ∧ (h 90 7) ≤ (h183 90 7) ∧ (h183 90 7) ≤ n ∧ (h 90 8) ≤ (h183 90 8) ∧ (h 90 13) ≤ (h183 90 13) ∧ (h183 90 13) - (h 90 13) ≤ (h183 90 7) - (h 90 7); omega), E185, E186, E187, E188, E189, E190, E191, E192, E193, E194, E195, E196, E197, K199, (fun e => by have e0 : (h183 90 8) = 0 := e; show ov_sg (h183 97) (h183 98) _ (h183 90 13); rw [show (h183 90 13) = (h183 90 13) by omega]; exact K200 (by omega))⟩
  · skip
    have f76_ : v42 = 0 := by omega
    have f201 : (h59 90 2) = (h18 90 2) := f76.1
    have f202 : (h59 90 8) = (h18 90 8) := f76.2.1
    have f203 : (h59 90 13) = (h18 90 13) := f76.2.2.1
    have f204 : (h59 90 20) = (h18 90 20) := f76.2.2.2.1
    have f205 : (h59 90 22) = (h18 90 22) := f76.2.2.2.2.1
    have f206 : (h59 90 25) = (h18 90 25) := f76.2.2.2.2.2.1
    have f207 : (h59 90 26) = (h18 90 26) := f76.2.2.2.2.2.2.1
    have f208 : (h59 90 28) = (h18 90 28) := f76.2.2.2.2.2.2.2.1
    have f209 : (h59 90 29) = (h18 90 29) := f76.2.2.2.2.2.2.2.2.1
    have f210 : (h59 90 30) = (h18 90 30) := f76.2.2.2.2.2.2.2.2.2.1
    have f211 : (h59 90 34) = (h18 90 34) := f76.2.2.2.2.2.2.2.2.2.2.1
    have f212 : (h18 90 7) ≤ (h59 90 7) := f76.2.2.2.2.2.2.2.2.2.2.2.2.1
    have f213 : (h59 90 7) ≤ n := f76.2.2.2.2.2.2.2.2.2.2.2.2.2.1
    have f214 : (h59 90 7) = (h18 90 7) := f76.2.2.2.2.2.2.2.2.2.2.2.2.2.2.2.1 (by omega)
    have f215 : ¬ ((h18 90 8) = 0 ∧ (h 92 ((h18 90 7))) = 3 ∧ (h 94 ((h18 90 7))) = (60 : Int)) := f76.2.2.2.2.2.2.2.2.2.2.2.2.2.2.2.2.2 (by omega)
    clear f76
    refine ov_blk (ls2 := [(0, ov_r 90), (1, ov_i dep), (2, ov_i v38)]) (st2 := [ov_i 61, ov_r 90]) (pc2 := 24) b_227_21_2 rfl rfl ?_
    have cf216 : h59 92 (n) = h 92 (n) := congrFun E62 (n)
    refine ov_cV (as := [ov_i 61]) (st := []) (d2 := d - 1) d_227_24 lk_Mo_263 rfl (Nat.le_of_ble_eq_true rfl) (c := 1) (zb_90 I60) (zs_90 I60) ⟨by decide, rfl⟩ (by omega) (c_Mo_hasSign_90 n (d - 1) (by omega) U I60 61 (by omega) (by show 0 ≤ n ∧ n ≤ 1000 ∧ (h59 92 (n)) = 0 ∧ (h59 90 7) ≤ n; omega)) ?_
    rintro _ z234 h235 ⟨v218, rfl, I236, f217, e219, e220, e221, e222, e223, e224, e225, e226, e227, e228, e229, e230, e231, e232, e233⟩
    have E237 : h235 91 = h 91 := Eq.trans e219 E61
    have E238 : h235 92 = h 92 := Eq.trans e220 E62
    have E239 : h235 93 = h 93 := Eq.trans e221 E63
    have E240 : h235 94 = h 94 := Eq.trans e222 E64
    have E241 : h235 95 = h 95 := Eq.trans e223 E65
    have E242 : h235 96 = h 96 := Eq.trans e224 E66
    have E243 : h235 97 = h18 97 := Eq.trans e225 E67
    have E244 : h235 98 = h18 98 := Eq.trans e226 E68
    have E245 : h235 99 = h 99 := Eq.trans e227 E69
    have E246 : h235 100 = h 100 := Eq.trans e228 E70
    have E247 : h235 103 = h 103 := Eq.trans e229 E71
    have E248 : h235 105 = h 105 := Eq.trans e230 E72
    have E249 : h235 106 = h 106 := Eq.trans e231 E73
    have E250 : h235 109 = h 109 := Eq.trans e232 E74
    have E251 : h235 114 = h 114 := Eq.trans e233 E75
    show ov_R u d ov_m227 27 [(0, ov_r 90), (1, ov_i dep), (2, ov_i v38)] [ov_i v218] z234 h235 (P_Mo_test_90 F z h n dep)
    rw [show h59 92 = h 92 from E62] at f217
    rw [show h59 94 = h 94 from E64] at f217
    have f252 : (h235 90 2) = (h59 90 2) ∧ (h235 90 8) = (h59 90 8) ∧ (h235 90 13) = (h59 90 13) ∧ (h235 90 20) = (h59 90 20) ∧ (h235 90 22) = (h59 90 22) ∧ (h235 90 25) = (h59 90 25) ∧ (h235 90 26) = (h59 90 26) ∧ (h235 90 28) = (h59 90 28) ∧ (h235 90 29) = (h59 90 29) ∧ (h235 90 30) = (h59 90 30) ∧ (h235 90 34) = (h59 90 34) ∧ (v218 = 0 ∨ v218 = 1) ∧ (h59 90 7) ≤ (h235 90 7) ∧ (h235 90 7) ≤ n ∧ (v218 = 1 → (h235 90 7) = (h59 90 7) + 1 ∧ (h59 90 8) = 0) ∧ (v218 = 0 → (h235 90 7) = (h59 90 7)) ∧ (v218 = 1 → (h59 90 8) = 0 ∧ (h 92 ((h59 90 7))) = 3 ∧ (h 94 ((h59 90 7))) = (61 : Int)) ∧ (v218 = 0 → ¬ ((h59 90 8) = 0 ∧ (h 92 ((h59 90 7))) = 3 ∧ (h 94 ((h59 90 7))) = (61 : Int))) := f217
    clear f217
    refine ov_ifeq (tgt := 51) d_227_27 (by decide) (by omega) (fun c253 => ?_) (fun c253 => ?_)
    · skip
      have f252_ : v218 = 0 := by omega
      have f254 : (h235 90 2) = (h59 90 2) := f252.1
      have f255 : (h235 90 8) = (h59 90 8) := f252.2.1
      have f256 : (h235 90 13) = (h59 90 13) := f252.2.2.1
      have f257 : (h235 90 20) = (h59 90 20) := f252.2.2.2.1
      have f258 : (h235 90 22) = (h59 90 22) := f252.2.2.2.2.1
      have f259 : (h235 90 25) = (h59 90 25) := f252.2.2.2.2.2.1
      have f260 : (h235 90 26) = (h59 90 26) := f252.2.2.2.2.2.2.1
      have f261 : (h235 90 28) = (h59 90 28) := f252.2.2.2.2.2.2.2.1
      have f262 : (h235 90 29) = (h59 90 29) := f252.2.2.2.2.2.2.2.2.1
      have f263 : (h235 90 30) = (h59 90 30) := f252.2.2.2.2.2.2.2.2.2.1
      have f264 : (h235 90 34) = (h59 90 34) := f252.2.2.2.2.2.2.2.2.2.2.1
      have f265 : (h59 90 7) ≤ (h235 90 7) := f252.2.2.2.2.2.2.2.2.2.2.2.2.1
      have f266 : (h235 90 7) ≤ n := f252.2.2.2.2.2.2.2.2.2.2.2.2.2.1
      have f267 : (h235 90 7) = (h59 90 7) := f252.2.2.2.2.2.2.2.2.2.2.2.2.2.2.2.1 (by omega)
      have f268 : ¬ ((h59 90 8) = 0 ∧ (h 92 ((h59 90 7))) = 3 ∧ (h 94 ((h59 90 7))) = (61 : Int)) := f252.2.2.2.2.2.2.2.2.2.2.2.2.2.2.2.2.2 (by omega)
      clear f252
      exact ov_retv (st := []) d_227_51 rfl ⟨rfl, I236, (by show (h235 90 2) = (h 90 2) ∧ (h235 90 20) = (h 90 20) ∧ (h235 90 22) = (h 90 22) ∧ (h235 90 25) = (h 90 25) ∧ (h235 90 26) = (h 90 26) ∧ (h235 90 28) = (h 90 28) ∧ (h235 90 29) = (h 90 29) ∧ (h235 90 30) = (h 90 30) ∧ (h235 90 34) = (h 90 34) ∧ (h 90 7) ≤ (h235 90 7) ∧ (h235 90 7) ≤ n ∧ (h 90 8) ≤ (h235 90 8) ∧ (h 90 13) ≤ (h235 90 13) ∧ (h235 90 13) - (h 90 13) ≤ (h235 90 7) - (h 90 7); omega), E237, E238, E239, E240, E241, E242, E245, E246, E247, E248, E249, E250, E251, (by rw [show h235 97 = h18 97 from E243, show h235 98 = h18 98 from E244]; exact K34), (fun e => by have e0 : (h235 90 8) = 0 := e; show ov_sg (h235 97) (h235 98) _ (h235 90 13); rw [show h235 97 = h18 97 from E243, show h235 98 = h18 98 from E244, show (h235 90 13) = (h18 90 13) by omega]; exact K35 (by omega))⟩
    · skip
      have f252_ : v218 = 1 := by omega
      have f269 : (h235 90 2) = (h59 90 2) := f252.1
      have f270 : (h235 90 8) = (h59 90 8) := f252.2.1
      have f271 : (h235 90 13) = (h59 90 13) := f252.2.2.1
      have f272 : (h235 90 20) = (h59 90 20) := f252.2.2.2.1
      have f273 : (h235 90 22) = (h59 90 22) := f252.2.2.2.2.1
      have f274 : (h235 90 25) = (h59 90 25) := f252.2.2.2.2.2.1
      have f275 : (h235 90 26) = (h59 90 26) := f252.2.2.2.2.2.2.1
      have f276 : (h235 90 28) = (h59 90 28) := f252.2.2.2.2.2.2.2.1
      have f277 : (h235 90 29) = (h59 90 29) := f252.2.2.2.2.2.2.2.2.1
      have f278 : (h235 90 30) = (h59 90 30) := f252.2.2.2.2.2.2.2.2.2.1
      have f279 : (h235 90 34) = (h59 90 34) := f252.2.2.2.2.2.2.2.2.2.2.1
      have f280 : (h59 90 7) ≤ (h235 90 7) := f252.2.2.2.2.2.2.2.2.2.2.2.2.1
      have f281 : (h235 90 7) ≤ n := f252.2.2.2.2.2.2.2.2.2.2.2.2.2.1
      have f282 : (h235 90 7) = (h59 90 7) + 1 ∧ (h59 90 8) = 0 := f252.2.2.2.2.2.2.2.2.2.2.2.2.2.2.1 (by omega)
      have f283 : (h59 90 8) = 0 ∧ (h 92 ((h59 90 7))) = 3 ∧ (h 94 ((h59 90 7))) = (61 : Int) := f252.2.2.2.2.2.2.2.2.2.2.2.2.2.2.2.2.1 (by omega)
      clear f252
      refine ov_blk (ls2 := [(0, ov_r 90), (1, ov_i dep), (2, ov_i v38)]) (st2 := [ov_i dep, ov_r 90]) (pc2 := 32) b_227_30_2 rfl rfl ?_
      have cf284 : h235 92 (n) = h 92 (n) := congrFun E238 (n)
      refine ov_cV (as := [ov_i dep]) (st := []) (d2 := d - 1) d_227_32 lk_Mo_260 rfl (Nat.le_of_ble_eq_true rfl) (c := 1) (zb_90 I236) (zs_90 I236) ⟨by decide, rfl⟩ (by omega) (c_Mo_sums_90 n k HE HP (d - 1) (by omega) U I236 dep (by omega) (by show 0 ≤ n ∧ n ≤ 1000 ∧ (h235 92 (n)) = 0 ∧ (h235 90 7) ≤ n; omega) (by omega) (by show (h235 90 13) ≤ (h235 90 7); omega)) ?_
      rintro _ z301 h302 ⟨rfl, I303, f285, e286, e287, e288, e289, e290, e291, e292, e293, e294, e295, e296, e297, e298, y299, y300⟩
      have E304 : h302 91 = h 91 := Eq.trans e286 E237
      have E305 : h302 92 = h 92 := Eq.trans e287 E238
      have E306 : h302 93 = h 93 := Eq.trans e288 E239
      have E307 : h302 94 = h 94 := Eq.trans e289 E240
      have E308 : h302 95 = h 95 := Eq.trans e290 E241
      have E309 : h302 96 = h 96 := Eq.trans e291 E242
      have E310 : h302 99 = h 99 := Eq.trans e292 E245
      have E311 : h302 100 = h 100 := Eq.trans e293 E246
      have E312 : h302 103 = h 103 := Eq.trans e294 E247
      have E313 : h302 105 = h 105 := Eq.trans e295 E248
      have E314 : h302 106 = h 106 := Eq.trans e296 E249
      have E315 : h302 109 = h 109 := Eq.trans e297 E250
      have E316 : h302 114 = h 114 := Eq.trans e298 E251
      show ov_R u d ov_m227 35 [(0, ov_r 90), (1, ov_i dep), (2, ov_i v38)] [] z301 h302 (P_Mo_test_90 F z h n dep)
      have f317 : (h302 90 2) = (h235 90 2) ∧ (h302 90 20) = (h235 90 20) ∧ (h302 90 22) = (h235 90 22) ∧ (h302 90 25) = (h235 90 25) ∧ (h302 90 26) = (h235 90 26) ∧ (h302 90 28) = (h235 90 28) ∧ (h302 90 29) = (h235 90 29) ∧ (h302 90 30) = (h235 90 30) ∧ (h302 90 34) = (h235 90 34) ∧ (h235 90 7) ≤ (h302 90 7) ∧ (h302 90 7) ≤ n ∧ (h235 90 8) ≤ (h302 90 8) ∧ (h235 90 13) ≤ (h302 90 13) ∧ (h302 90 13) - (h235 90 13) ≤ (h302 90 7) - (h235 90 7) := f285
      clear f285
      rw [show h235 97 = h18 97 from E243] at y299
      rw [show h235 98 = h18 98 from E244] at y299
      have y299_ : ∀ j : Int, j < 1100 + (h235 90 13) → (h302 97) j = (h18 97) j ∧ (h302 98) j = (h18 98) j := y299
      have y300_ : (h302 90 8) = 0 → ov_sg (h302 97) (h302 98) (h235 90 13) (h302 90 13) := y300
      refine ov_blk (ls2 := [(0, ov_r 90), (1, ov_i dep), (2, ov_i v38)]) (st2 := [ov_i v38, ov_r 90]) (pc2 := 37) b_227_35_2 rfl rfl ?_
      refine ov_ifeq (tgt := 45) d_227_37 (by decide) (by omega) (fun c318 => ?_) (fun c318 => ?_)
      · skip
        have f39_ : v38 = 0 := by omega
        have f319 : ¬ ((h18 90 8) = 0 ∧ (h 92 ((h18 90 7))) = 3 ∧ (h 94 ((h18 90 7))) = (60 : Int)) := f39.2.2.2 (by omega)
        clear f39
        refine ov_blk (ls2 := [(0, ov_r 90), (1, ov_i dep), (2, ov_i v38)]) (st2 := [ov_i 0, ov_i 8, ov_r 90]) (pc2 := 48) b_227_45_2 rfl rfl ?_
        refine ov_cV (as := [ov_i 8, ov_i 0]) (st := []) (d2 := d - 1) d_227_48 lk_Mo_246 rfl (Nat.le_of_ble_eq_true rfl) (c := 1) (zb_90 I303) (zs_90 I303) ⟨by decide, rfl⟩ (by omega) (c_Mo_emit_90 (d - 1) (by omega) U I303 8 0 (by omega) (by omega) (by omega) (by show (h302 90 13) ≤ 999; omega)) ?_
        rintro _ z336 h337 ⟨rfl, I338, f320, e321, e322, e323, e324, e325, e326, e327, e328, e329, e330, e331, e332, e333, y334, y335⟩
        have E339 : h337 91 = h 91 := Eq.trans e321 E304
        have E340 : h337 92 = h 92 := Eq.trans e322 E305
        have E341 : h337 93 = h 93 := Eq.trans e323 E306
        have E342 : h337 94 = h 94 := Eq.trans e324 E307
        have E343 : h337 95 = h 95 := Eq.trans e325 E308
        have E344 : h337 96 = h 96 := Eq.trans e326 E309
        have E345 : h337 99 = h 99 := Eq.trans e327 E310
        have E346 : h337 100 = h 100 := Eq.trans e328 E311
        have E347 : h337 103 = h 103 := Eq.trans e329 E312
        have E348 : h337 105 = h 105 := Eq.trans e330 E313
        have E349 : h337 106 = h 106 := Eq.trans e331 E314
        have E350 : h337 109 = h 109 := Eq.trans e332 E315
        have E351 : h337 114 = h 114 := Eq.trans e333 E316
        show ov_R u d ov_m227 51 [(0, ov_r 90), (1, ov_i dep), (2, ov_i v38)] [] z336 h337 (P_Mo_test_90 F z h n dep)
        have f352 : (h337 90 2) = (h302 90 2) ∧ (h337 90 7) = (h302 90 7) ∧ (h337 90 8) = (h302 90 8) ∧ (h337 90 20) = (h302 90 20) ∧ (h337 90 22) = (h302 90 22) ∧ (h337 90 25) = (h302 90 25) ∧ (h337 90 26) = (h302 90 26) ∧ (h337 90 28) = (h302 90 28) ∧ (h337 90 29) = (h302 90 29) ∧ (h337 90 30) = (h302 90 30) ∧ (h337 90 34) = (h302 90 34) ∧ (h337 90 13) = (h302 90 13) + 1 := f320
        clear f320
        have y334_ : (h337 97) = ov_rs (h302 97) (1100 + (h302 90 13)) (8 : Int) := y334
        have y335_ : (h337 98) = ov_rs (h302 98) (1100 + (h302 90 13)) (0 : Int) := y335
        have K353 : ∀ j : Int, j < 1100 + (h 90 13) → h337 97 j = h 97 j ∧ h337 98 j = h 98 j := ov_kpe (ov_kp K34 y299_ (by omega)) y334_ y335_ (by omega)
        have K354 : h337 90 8 = 0 → ov_sg (h337 97) (h337 98) (h 90 13) (h337 90 13) := fun e => by have q1 := K35 (by omega); have q2 := y300_ (by omega); rw [show (h235 90 13) = (h18 90 13) by omega] at q2; have q3 := ov_sg_bin q1 (fun j hj => y299_ j (by omega)) q2 y334_ y335_ (by omega); rw [show h337 90 13 = (h302 90 13) + 1 by omega]; exact q3
        exact ov_retv (st := []) d_227_51 rfl ⟨rfl, I338, (by show (h337 90 2) = (h 90 2) ∧ (h337 90 20) = (h 90 20) ∧ (h337 90 22) = (h 90 22) ∧ (h337 90 25) = (h 90 25) ∧ (h337 90 26) = (h 90 26) ∧ (h337 90 28) = (h 90 28) ∧ (h337 90 29) = (h 90 29) ∧ (h337 90 30) = (h 90 30) ∧ (h337 90 34) = (h 90 34) ∧ (h 90 7) ≤ (h337 90 7) ∧ (h337 90 7) ≤ n ∧ (h 90 8) ≤ (h337 90 8) ∧ (h 90 13) ≤ (h337 90 13) ∧ (h337 90 13) - (h 90 13) ≤ (h337 90 7) - (h 90 7); omega), E339, E340, E341, E342, E343, E344, E345, E346, E347, E348, E349, E350, E351, K353, (fun e => by have e0 : (h337 90 8) = 0 := e; show ov_sg (h337 97) (h337 98) _ (h337 90 13); rw [show (h337 90 13) = (h337 90 13) by omega]; exact K354 (by omega))⟩
      · skip
        have f39_ : v38 = 1 := by omega
        have f355 : (h18 90 7) < n := f39.2.1 (by omega)
        have f356 : (h18 90 8) = 0 ∧ (h 92 ((h18 90 7))) = 3 ∧ (h 94 ((h18 90 7))) = (60 : Int) := f39.2.2.1 (by omega)
        clear f39
        refine ov_blk (ls2 := [(0, ov_r 90), (1, ov_i dep), (2, ov_i v38)]) (st2 := [ov_i 7, ov_r 90]) (pc2 := 42) b_227_40_1 rfl rfl ?_
        refine ov_goto (tgt := 47) d_227_42 (by decide) ?_
        refine ov_blk (ls2 := [(0, ov_r 90), (1, ov_i dep), (2, ov_i v38)]) (st2 := [ov_i 0, ov_i 7, ov_r 90]) (pc2 := 48) b_227_47_1 rfl rfl ?_
        refine ov_cV (as := [ov_i 7, ov_i 0]) (st := []) (d2 := d - 1) d_227_48 lk_Mo_246 rfl (Nat.le_of_ble_eq_true rfl) (c := 1) (zb_90 I303) (zs_90 I303) ⟨by decide, rfl⟩ (by omega) (c_Mo_emit_90 (d - 1) (by omega) U I303 7 0 (by omega) (by omega) (by omega) (by show (h302 90 13) ≤ 999; omega)) ?_
        rintro _ z373 h374 ⟨rfl, I375, f357, e358, e359, e360, e361, e362, e363, e364, e365, e366, e367, e368, e369, e370, y371, y372⟩
        have E376 : h374 91 = h 91 := Eq.trans e358 E304
        have E377 : h374 92 = h 92 := Eq.trans e359 E305
        have E378 : h374 93 = h 93 := Eq.trans e360 E306
        have E379 : h374 94 = h 94 := Eq.trans e361 E307
        have E380 : h374 95 = h 95 := Eq.trans e362 E308
        have E381 : h374 96 = h 96 := Eq.trans e363 E309
        have E382 : h374 99 = h 99 := Eq.trans e364 E310
        have E383 : h374 100 = h 100 := Eq.trans e365 E311
        have E384 : h374 103 = h 103 := Eq.trans e366 E312
        have E385 : h374 105 = h 105 := Eq.trans e367 E313
        have E386 : h374 106 = h 106 := Eq.trans e368 E314
        have E387 : h374 109 = h 109 := Eq.trans e369 E315
        have E388 : h374 114 = h 114 := Eq.trans e370 E316
        show ov_R u d ov_m227 51 [(0, ov_r 90), (1, ov_i dep), (2, ov_i v38)] [] z373 h374 (P_Mo_test_90 F z h n dep)
        have f389 : (h374 90 2) = (h302 90 2) ∧ (h374 90 7) = (h302 90 7) ∧ (h374 90 8) = (h302 90 8) ∧ (h374 90 20) = (h302 90 20) ∧ (h374 90 22) = (h302 90 22) ∧ (h374 90 25) = (h302 90 25) ∧ (h374 90 26) = (h302 90 26) ∧ (h374 90 28) = (h302 90 28) ∧ (h374 90 29) = (h302 90 29) ∧ (h374 90 30) = (h302 90 30) ∧ (h374 90 34) = (h302 90 34) ∧ (h374 90 13) = (h302 90 13) + 1 := f357
        clear f357
        have y371_ : (h374 97) = ov_rs (h302 97) (1100 + (h302 90 13)) (7 : Int) := y371
        have y372_ : (h374 98) = ov_rs (h302 98) (1100 + (h302 90 13)) (0 : Int) := y372
        have K390 : ∀ j : Int, j < 1100 + (h 90 13) → h374 97 j = h 97 j ∧ h374 98 j = h 98 j := ov_kpe (ov_kp K34 y299_ (by omega)) y371_ y372_ (by omega)
        have K391 : h374 90 8 = 0 → ov_sg (h374 97) (h374 98) (h 90 13) (h374 90 13) := fun e => by have q1 := K35 (by omega); have q2 := y300_ (by omega); rw [show (h235 90 13) = (h18 90 13) by omega] at q2; have q3 := ov_sg_bin q1 (fun j hj => y299_ j (by omega)) q2 y371_ y372_ (by omega); rw [show h374 90 13 = (h302 90 13) + 1 by omega]; exact q3
        exact ov_retv (st := []) d_227_51 rfl ⟨rfl, I375, (by show (h374 90 2) = (h 90 2) ∧ (h374 90 20) = (h 90 20) ∧ (h374 90 22) = (h 90 22) ∧ (h374 90 25) = (h 90 25) ∧ (h374 90 26) = (h 90 26) ∧ (h374 90 28) = (h 90 28) ∧ (h374 90 29) = (h 90 29) ∧ (h374 90 30) = (h 90 30) ∧ (h374 90 34) = (h 90 34) ∧ (h 90 7) ≤ (h374 90 7) ∧ (h374 90 7) ≤ n ∧ (h 90 8) ≤ (h374 90 8) ∧ (h 90 13) ≤ (h374 90 13) ∧ (h374 90 13) - (h 90 13) ≤ (h374 90 7) - (h 90 7); omega), E376, E377, E378, E379, E380, E381, E382, E383, E384, E385, E386, E387, E388, K390, (fun e => by have e0 : (h374 90 8) = 0 := e; show ov_sg (h374 97) (h374 98) _ (h374 90 13); rw [show (h374 90 13) = (h374 90 13) by omega]; exact K391 (by omega))⟩
set_option maxHeartbeats 4000000 in
theorem c_Mo_all_90 {u : ov_U} {F : ov_H × ov_Z} (n : Int) (k : Nat) (HE : ∀ k' : Nat, k' + 1 = k → ∀ {z : ov_Z} {h : ov_H} (d : Nat) (hd : (10 + 5 * k' + 4) ≤ d) (U : ov_cap u) (I : ov_N F z h) (dep : Int) (g_dep : ov_g dep) (p0 : 0 ≤ n ∧ n ≤ 1000 ∧ (h 92 (n)) = 0 ∧ (h 90 7) ≤ n) (p1 : 0 ≤ dep ∧ dep + (k' : Int) = 5) (p2 : (h 90 13) ≤ (h 90 7)), ov_T u d ov_m226 [ov_r 90, ov_i dep] z h (P_Mo_all_90 F z h n dep)) (HP : ∀ k' : Nat, k' + 1 = k → ∀ {z : ov_Z} {h : ov_H} (d : Nat) (hd : (10 + 5 * k' + 0) ≤ d) (U : ov_cap u) (I : ov_N F z h) (dep : Int) (g_dep : ov_g dep) (p0 : 0 ≤ n ∧ n ≤ 1000 ∧ (h 92 (n)) = 0 ∧ (h 90 7) ≤ n) (p1 : 0 ≤ dep ∧ dep + (k' : Int) = 5) (p2 : (h 90 13) ≤ (h 90 7)), ov_T u d ov_m230 [ov_r 90, ov_i dep] z h (P_Mo_takePart_90 F z h n dep)) {z : ov_Z} {h : ov_H} (d : Nat) (hd : (10 + 5 * k + 4) ≤ d) (U : ov_cap u) (I : ov_N F z h) (dep : Int) (g_dep : ov_g dep) (p0 : 0 ≤ n ∧ n ≤ 1000 ∧ (h 92 (n)) = 0 ∧ (h 90 7) ≤ n) (p1 : 0 ≤ dep ∧ dep + (k : Int) = 5) (p2 : (h 90 13) ≤ (h 90 7)) : ov_T u d ov_m226 [ov_r 90, ov_i dep] z h (P_Mo_all_90 F z h n dep) := by
  refine ov_en rfl (Nat.le_of_ble_eq_true rfl) ?_
  show ov_R u d ov_m226 0 [(0, ov_r 90), (1, ov_i dep)] [] z h (P_Mo_all_90 F z h n dep)
  have gq7 := rg_90_7 I
  refine ov_blk (ls2 := [(0, ov_r 90), (1, ov_i dep)]) (st2 := [ov_i dep, ov_r 90]) (pc2 := 2) b_226_0_2 rfl rfl ?_
  refine ov_cV (as := [ov_i dep]) (st := []) (d2 := d - 1) d_226_2 lk_Mo_257 rfl (Nat.le_of_ble_eq_true rfl) (c := 1) (zb_90 I) (zs_90 I) ⟨by decide, rfl⟩ (by omega) (c_Mo_test_90 n k HE HP (d - 1) (by omega) U I dep (by omega) (by show 0 ≤ n ∧ n ≤ 1000 ∧ (h 92 (n)) = 0 ∧ (h 90 7) ≤ n; omega) (by omega) (by show (h 90 13) ≤ (h 90 7); omega)) ?_
  rintro _ z17 h18 ⟨rfl, I19, f1, e2, e3, e4, e5, e6, e7, e8, e9, e10, e11, e12, e13, e14, y15, y16⟩
  have E20 : h18 91 = h 91 := e2
  have E21 : h18 92 = h 92 := e3
  have E22 : h18 93 = h 93 := e4
  have E23 : h18 94 = h 94 := e5
  have E24 : h18 95 = h 95 := e6
  have E25 : h18 96 = h 96 := e7
  have E26 : h18 99 = h 99 := e8
  have E27 : h18 100 = h 100 := e9
  have E28 : h18 103 = h 103 := e10
  have E29 : h18 105 = h 105 := e11
  have E30 : h18 106 = h 106 := e12
  have E31 : h18 109 = h 109 := e13
  have E32 : h18 114 = h 114 := e14
  show ov_R u d ov_m226 5 [(0, ov_r 90), (1, ov_i dep)] [] z17 h18 (P_Mo_all_90 F z h n dep)
  have f33 : (h18 90 2) = (h 90 2) ∧ (h18 90 20) = (h 90 20) ∧ (h18 90 22) = (h 90 22) ∧ (h18 90 25) = (h 90 25) ∧ (h18 90 26) = (h 90 26) ∧ (h18 90 28) = (h 90 28) ∧ (h18 90 29) = (h 90 29) ∧ (h18 90 30) = (h 90 30) ∧ (h18 90 34) = (h 90 34) ∧ (h 90 7) ≤ (h18 90 7) ∧ (h18 90 7) ≤ n ∧ (h 90 8) ≤ (h18 90 8) ∧ (h 90 13) ≤ (h18 90 13) ∧ (h18 90 13) - (h 90 13) ≤ (h18 90 7) - (h 90 7) := f1
  clear f1
  have y15_ : ∀ j : Int, j < 1100 + (h 90 13) → (h18 97) j = (h 97) j ∧ (h18 98) j = (h 98) j := y15
  have y16_ : (h18 90 8) = 0 → ov_sg (h18 97) (h18 98) (h 90 13) (h18 90 13) := y16
  have K34 : ∀ j : Int, j < 1100 + (h 90 13) → h18 97 j = h 97 j ∧ h18 98 j = h 98 j := fun j hj => y15_ j (by omega)
  have K35 : h18 90 8 = 0 → ov_sg (h18 97) (h18 98) (h 90 13) (h18 90 13) := fun e => by have q := y16_ e; rw [show (h 90 13) = h 90 13 by omega] at q; exact q
  have L39 : ∀ (n36 : Nat) (z40 : ov_Z) (h41 : ov_H) (I42 : ov_N F z40 h41) (E43 : h41 91 = h 91) (E44 : h41 92 = h 92) (E45 : h41 93 = h 93) (E46 : h41 94 = h 94) (E47 : h41 95 = h 95) (E48 : h41 96 = h 96) (E49 : h41 99 = h 99) (E50 : h41 100 = h 100) (E51 : h41 103 = h 103) (E52 : h41 105 = h 105) (E53 : h41 106 = h 106) (E54 : h41 109 = h 109) (E55 : h41 114 = h 114) (xa : ∀ j : Int, j < 1100 + (h 90 13) → (h41 97) j = (h 97) j ∧ (h41 98) j = (h 98) j) (xb : (h41 90 8) = 0 → ov_sg (h41 97) (h41 98) (h 90 13) (h41 90 13)) (q38 : (h 90 7) ≤ (h41 90 7) ∧ (h41 90 7) ≤ n ∧ (h 90 8) ≤ (h41 90 8) ∧ (h 90 13) ≤ (h41 90 13) ∧ (h41 90 13) - (h 90 13) ≤ (h41 90 7) - (h 90 7) ∧ (h41 90 2) = (h18 90 2) ∧ (h41 90 20) = (h18 90 20) ∧ (h41 90 22) = (h18 90 22) ∧ (h41 90 25) = (h18 90 25) ∧ (h41 90 26) = (h18 90 26) ∧ (h41 90 28) = (h18 90 28) ∧ (h41 90 29) = (h18 90 29) ∧ (h41 90 30) = (h18 90 30) ∧ (h41 90 34) = (h18 90 34)), 1000 - (h41 90 7) < (n36 : Int) → ov_R u d ov_m226 5 [(0, ov_r 90), (1, ov_i dep)] [] z40 h41 (P_Mo_all_90 F z h n dep) := by
    intro n36
    induction n36 with
    | zero =>
      intro  z40 h41 I42 E43 E44 E45 E46 E47 E48 E49 E50 E51 E52 E53 E54 E55 xa xb q38 hn56
      exact absurd hn56 (by omega)
    | succ n36 ih37 =>
      intro  z40 h41 I42 E43 E44 E45 E46 E47 E48 E49 E50 E51 E52 E53 E54 E55 xa xb q38 hn56
      refine ov_blk (ls2 := [(0, ov_r 90), (1, ov_i dep)]) (st2 := [ov_r 90]) (pc2 := 6) b_226_5_1 rfl rfl ?_
      refine ov_blk (ls2 := [(0, ov_r 90), (1, ov_i dep)]) (st2 := [ov_i 18, ov_r 90]) (pc2 := 8) b_226_6_1 rfl rfl ?_
      have cf57 : h41 92 (n) = h 92 (n) := congrFun E44 (n)
      refine ov_cV (as := [ov_i 18]) (st := []) (d2 := d - 1) d_226_8 lk_Mo_189 rfl (Nat.le_of_ble_eq_true rfl) (c := 1) (zb_90 I42) (zs_90 I42) ⟨by decide, rfl⟩ (by omega) (c_Mo_isWord_90 n (d - 1) (by omega) U I42 18 (by omega) (by show 0 ≤ n ∧ n ≤ 1000 ∧ (h41 92 (n)) = 0 ∧ (h41 90 7) ≤ n; omega) (by omega)) ?_
      rintro _ _ _ ⟨v59, rfl, rfl, rfl, f58⟩
      show ov_R u d ov_m226 11 [(0, ov_r 90), (1, ov_i dep)] [ov_i v59] z40 h41 (P_Mo_all_90 F z h n dep)
      rw [show h41 92 = h 92 from E44] at f58
      rw [show h41 94 = h 94 from E46] at f58
      rw [show h41 95 = h 95 from E47] at f58
      have f60 : (v59 = 0 ∨ v59 = 1) ∧ (v59 = 1 → (h41 90 7) < n) ∧ (v59 = 1 → (h41 90 8) = 0 ∧ (h 92 ((h41 90 7))) = 1 ∧ (h 94 ((h41 90 7))) = (h 95 ((18 : Int)))) ∧ (v59 = 0 → ¬ ((h41 90 8) = 0 ∧ (h 92 ((h41 90 7))) = 1 ∧ (h 94 ((h41 90 7))) = (h 95 ((18 : Int))))) := f58
      clear f58
      refine ov_ifne (tgt := 23) d_226_11 (by decide) (by omega) (fun c61 => ?_) (fun c61 => ?_)
      · skip
        have f60_ : v59 = 1 := by omega
        have f62 : (h41 90 7) < n := f60.2.1 (by omega)
        have f63 : (h41 90 8) = 0 ∧ (h 92 ((h41 90 7))) = 1 ∧ (h 94 ((h41 90 7))) = (h 95 ((18 : Int))) := f60.2.2.1 (by omega)
        clear f60
        refine ov_blk (ls2 := [(0, ov_r 90), (1, ov_i dep)]) (st2 := [ov_i 18, ov_r 90]) (pc2 := 26) b_226_23_2 rfl rfl ?_
        have cf64 : h41 92 (n) = h 92 (n) := congrFun E44 (n)
        refine ov_cV (as := [ov_i 18]) (st := []) (d2 := d - 1) d_226_26 lk_Mo_189 rfl (Nat.le_of_ble_eq_true rfl) (c := 1) (zb_90 I42) (zs_90 I42) ⟨by decide, rfl⟩ (by omega) (c_Mo_isWord_90 n (d - 1) (by omega) U I42 18 (by omega) (by show 0 ≤ n ∧ n ≤ 1000 ∧ (h41 92 (n)) = 0 ∧ (h41 90 7) ≤ n; omega) (by omega)) ?_
        rintro _ _ _ ⟨v66, rfl, rfl, rfl, f65⟩
        show ov_R u d ov_m226 29 [(0, ov_r 90), (1, ov_i dep)] [ov_i v66] z40 h41 (P_Mo_all_90 F z h n dep)
        rw [show h41 92 = h 92 from E44] at f65
        rw [show h41 94 = h 94 from E46] at f65
        rw [show h41 95 = h 95 from E47] at f65
        have f67 : (v66 = 0 ∨ v66 = 1) ∧ (v66 = 1 → (h41 90 7) < n) ∧ (v66 = 1 → (h41 90 8) = 0 ∧ (h 92 ((h41 90 7))) = 1 ∧ (h 94 ((h41 90 7))) = (h 95 ((18 : Int)))) ∧ (v66 = 0 → ¬ ((h41 90 8) = 0 ∧ (h 92 ((h41 90 7))) = 1 ∧ (h 94 ((h41 90 7))) = (h 95 ((18 : Int))))) := f65
        clear f65
        refine ov_blk (ls2 := [(0, ov_r 90), (1, ov_i dep), (2, ov_i v66)]) (st2 := [ov_r 90, ov_r 90]) (pc2 := 32) b_226_29_3 rfl rfl ?_
        refine ov_getf (v := ov_i (h41 90 7)) d_226_32 fl_Mo_177 (zb_90 I42) (zs_90 I42) rfl ?_
        have g68 := rg_90_7 I42
        refine ov_blk (ls2 := [(0, ov_r 90), (1, ov_i dep), (2, ov_i v66)]) (st2 := [ov_i ((h41 90 7) + 1), ov_r 90]) (pc2 := 37) b_226_35_2 rfl rfl ?_
        refine ov_putf (x := ((h41 90 7) + 1)) d_226_37 fl_Mo_177 (zb_90 I42) (zs_90 I42) rfl nk_0 rfl ?_
        have I69 := up_90_7 (x := ((h41 90 7) + 1)) I42 (by omega)
        refine ov_blk (ls2 := [(0, ov_r 90), (1, ov_i dep), (2, ov_i v66)]) (st2 := [ov_i dep, ov_r 90]) (pc2 := 42) b_226_40_2 rfl rfl ?_
        have cf70 : h41 92 (n) = h 92 (n) := congrFun E44 (n)
        refine ov_cV (as := [ov_i dep]) (st := []) (d2 := d - 1) d_226_42 lk_Mo_257 rfl (Nat.le_of_ble_eq_true rfl) (c := 1) (zb_90 I69) (zs_90 I69) ⟨by decide, rfl⟩ (by omega) (c_Mo_test_90 n k HE HP (d - 1) (by omega) U I69 dep (by omega) (by show 0 ≤ n ∧ n ≤ 1000 ∧ (h41 92 (n)) = 0 ∧ ((h41 90 7) + 1) ≤ n; omega) (by omega) (by show (h41 90 13) ≤ ((h41 90 7) + 1); omega)) ?_
        rintro _ z87 h88 ⟨rfl, I89, f71, e72, e73, e74, e75, e76, e77, e78, e79, e80, e81, e82, e83, e84, y85, y86⟩
        have E90 : h88 91 = h 91 := Eq.trans e72 E43
        have E91 : h88 92 = h 92 := Eq.trans e73 E44
        have E92 : h88 93 = h 93 := Eq.trans e74 E45
        have E93 : h88 94 = h 94 := Eq.trans e75 E46
        have E94 : h88 95 = h 95 := Eq.trans e76 E47
        have E95 : h88 96 = h 96 := Eq.trans e77 E48
        have E96 : h88 99 = h 99 := Eq.trans e78 E49
        have E97 : h88 100 = h 100 := Eq.trans e79 E50
        have E98 : h88 103 = h 103 := Eq.trans e80 E51
        have E99 : h88 105 = h 105 := Eq.trans e81 E52
        have E100 : h88 106 = h 106 := Eq.trans e82 E53
        have E101 : h88 109 = h 109 := Eq.trans e83 E54
        have E102 : h88 114 = h 114 := Eq.trans e84 E55
        show ov_R u d ov_m226 45 [(0, ov_r 90), (1, ov_i dep), (2, ov_i v66)] [] z87 h88 (P_Mo_all_90 F z h n dep)
        have f103 : (h88 90 2) = (h41 90 2) ∧ (h88 90 20) = (h41 90 20) ∧ (h88 90 22) = (h41 90 22) ∧ (h88 90 25) = (h41 90 25) ∧ (h88 90 26) = (h41 90 26) ∧ (h88 90 28) = (h41 90 28) ∧ (h88 90 29) = (h41 90 29) ∧ (h88 90 30) = (h41 90 30) ∧ (h88 90 34) = (h41 90 34) ∧ ((h41 90 7) + 1) ≤ (h88 90 7) ∧ (h88 90 7) ≤ n ∧ (h41 90 8) ≤ (h88 90 8) ∧ (h41 90 13) ≤ (h88 90 13) ∧ (h88 90 13) - (h41 90 13) ≤ (h88 90 7) - ((h41 90 7) + 1) := f71
        clear f71
        have y85_ : ∀ j : Int, j < 1100 + (h41 90 13) → (h88 97) j = (h41 97) j ∧ (h88 98) j = (h41 98) j := y85
        have y86_ : (h88 90 8) = 0 → ov_sg (h88 97) (h88 98) (h41 90 13) (h88 90 13) := y86
        refine ov_blk (ls2 := [(0, ov_r 90), (1, ov_i dep), (2, ov_i v66)]) (st2 := [ov_i v66, ov_r 90]) (pc2 := 47) b_226_45_2 rfl rfl ?_
        refine ov_ifeq (tgt := 55) d_226_47 (by decide) (by omega) (fun c104 => ?_) (fun c104 => ?_)
        · skip
          have f67_ : v66 = 0 := by omega
          have f105 : ¬ ((h41 90 8) = 0 ∧ (h 92 ((h41 90 7))) = 1 ∧ (h 94 ((h41 90 7))) = (h 95 ((18 : Int)))) := f67.2.2.2 (by omega)
          clear f67
          refine ov_blk (ls2 := [(0, ov_r 90), (1, ov_i dep), (2, ov_i v66)]) (st2 := [ov_i 0, ov_i 10, ov_r 90]) (pc2 := 58) b_226_55_2 rfl rfl ?_
          refine ov_cV (as := [ov_i 10, ov_i 0]) (st := []) (d2 := d - 1) d_226_58 lk_Mo_246 rfl (Nat.le_of_ble_eq_true rfl) (c := 1) (zb_90 I89) (zs_90 I89) ⟨by decide, rfl⟩ (by omega) (c_Mo_emit_90 (d - 1) (by omega) U I89 10 0 (by omega) (by omega) (by omega) (by show (h88 90 13) ≤ 999; omega)) ?_
          rintro _ z122 h123 ⟨rfl, I124, f106, e107, e108, e109, e110, e111, e112, e113, e114, e115, e116, e117, e118, e119, y120, y121⟩
          have E125 : h123 91 = h 91 := Eq.trans e107 E90
          have E126 : h123 92 = h 92 := Eq.trans e108 E91
          have E127 : h123 93 = h 93 := Eq.trans e109 E92
          have E128 : h123 94 = h 94 := Eq.trans e110 E93
          have E129 : h123 95 = h 95 := Eq.trans e111 E94
          have E130 : h123 96 = h 96 := Eq.trans e112 E95
          have E131 : h123 99 = h 99 := Eq.trans e113 E96
          have E132 : h123 100 = h 100 := Eq.trans e114 E97
          have E133 : h123 103 = h 103 := Eq.trans e115 E98
          have E134 : h123 105 = h 105 := Eq.trans e116 E99
          have E135 : h123 106 = h 106 := Eq.trans e117 E100
          have E136 : h123 109 = h 109 := Eq.trans e118 E101
          have E137 : h123 114 = h 114 := Eq.trans e119 E102
          show ov_R u d ov_m226 61 [(0, ov_r 90), (1, ov_i dep), (2, ov_i v66)] [] z122 h123 (P_Mo_all_90 F z h n dep)
          have f138 : (h123 90 2) = (h88 90 2) ∧ (h123 90 7) = (h88 90 7) ∧ (h123 90 8) = (h88 90 8) ∧ (h123 90 20) = (h88 90 20) ∧ (h123 90 22) = (h88 90 22) ∧ (h123 90 25) = (h88 90 25) ∧ (h123 90 26) = (h88 90 26) ∧ (h123 90 28) = (h88 90 28) ∧ (h123 90 29) = (h88 90 29) ∧ (h123 90 30) = (h88 90 30) ∧ (h123 90 34) = (h88 90 34) ∧ (h123 90 13) = (h88 90 13) + 1 := f106
          clear f106
          have y120_ : (h123 97) = ov_rs (h88 97) (1100 + (h88 90 13)) (10 : Int) := y120
          have y121_ : (h123 98) = ov_rs (h88 98) (1100 + (h88 90 13)) (0 : Int) := y121
          have K139 : ∀ j : Int, j < 1100 + (h 90 13) → h123 97 j = h 97 j ∧ h123 98 j = h 98 j := ov_kpe (ov_kp xa y85_ (by omega)) y120_ y121_ (by omega)
          have K140 : h123 90 8 = 0 → ov_sg (h123 97) (h123 98) (h 90 13) (h123 90 13) := fun e => by have q1 := xb (by omega); have q2 := y86_ (by omega); rw [show (h41 90 13) = (h41 90 13) by omega] at q2; have q3 := ov_sg_bin q1 (fun j hj => y85_ j (by omega)) q2 y120_ y121_ (by omega); rw [show h123 90 13 = (h88 90 13) + 1 by omega]; exact q3
          refine ov_goto (tgt := 5) d_226_61 (by decide) ?_
          refine ov_sub (ls2 := [(0, ov_r 90), (1, ov_i dep)]) (List.Sublist.subset (by repeat (first | exact List.Sublist.refl _ | apply List.Sublist.cons_cons | apply List.Sublist.cons))) ?_
          exact ih37  _ _ I124 E125 E126 E127 E128 E129 E130 E131 E132 E133 E134 E135 E136 E137 K139 K140 (by show (h 90 7) ≤ (h123 90 7) ∧ (h123 90 7) ≤ n ∧ (h 90 8) ≤ (h123 90 8) ∧ (h 90 13) ≤ (h123 90 13) ∧ (h123 90 13) - (h 90 13) ≤ (h123 90 7) - (h 90 7) ∧ (h123 90 2) = (h18 90 2) ∧ (h123 90 20) = (h18 90 20) ∧ (h123 90 22) = (h18 90 22) ∧ (h123 90 25) = (h18 90 25) ∧ (h123 90 26) = (h18 90 26) ∧ (h123 90 28) = (h18 90 28) ∧ (h123 90 29) = (h18 90 29) ∧ (h123 90 30) = (h18 90 30) ∧ (h123 90 34) = (h18 90 34); omega) (by omega)
        · skip
          have f67_ : v66 = 1 := by omega
          have f141 : (h41 90 7) < n := f67.2.1 (by omega)
          have f142 : (h41 90 8) = 0 ∧ (h 92 ((h41 90 7))) = 1 ∧ (h 94 ((h41 90 7))) = (h 95 ((18 : Int))) := f67.2.2.1 (by omega)
          clear f67
          refine ov_blk (ls2 := [(0, ov_r 90), (1, ov_i dep), (2, ov_i v66)]) (st2 := [ov_i 9, ov_r 90]) (pc2 := 52) b_226_50_1 rfl rfl ?_
          refine ov_goto (tgt := 57) d_226_52 (by decide) ?_
          refine ov_blk (ls2 := [(0, ov_r 90), (1, ov_i dep), (2, ov_i v66)]) (st2 := [ov_i 0, ov_i 9, ov_r 90]) (pc2 := 58) b_226_57_1 rfl rfl ?_
          refine ov_cV (as := [ov_i 9, ov_i 0]) (st := []) (d2 := d - 1) d_226_58 lk_Mo_246 rfl (Nat.le_of_ble_eq_true rfl) (c := 1) (zb_90 I89) (zs_90 I89) ⟨by decide, rfl⟩ (by omega) (c_Mo_emit_90 (d - 1) (by omega) U I89 9 0 (by omega) (by omega) (by omega) (by show (h88 90 13) ≤ 999; omega)) ?_
          rintro _ z159 h160 ⟨rfl, I161, f143, e144, e145, e146, e147, e148, e149, e150, e151, e152, e153, e154, e155, e156, y157, y158⟩
          have E162 : h160 91 = h 91 := Eq.trans e144 E90
          have E163 : h160 92 = h 92 := Eq.trans e145 E91
          have E164 : h160 93 = h 93 := Eq.trans e146 E92
          have E165 : h160 94 = h 94 := Eq.trans e147 E93
          have E166 : h160 95 = h 95 := Eq.trans e148 E94
          have E167 : h160 96 = h 96 := Eq.trans e149 E95
          have E168 : h160 99 = h 99 := Eq.trans e150 E96
          have E169 : h160 100 = h 100 := Eq.trans e151 E97
          have E170 : h160 103 = h 103 := Eq.trans e152 E98
          have E171 : h160 105 = h 105 := Eq.trans e153 E99
          have E172 : h160 106 = h 106 := Eq.trans e154 E100
          have E173 : h160 109 = h 109 := Eq.trans e155 E101
          have E174 : h160 114 = h 114 := Eq.trans e156 E102
          show ov_R u d ov_m226 61 [(0, ov_r 90), (1, ov_i dep), (2, ov_i v66)] [] z159 h160 (P_Mo_all_90 F z h n dep)
          have f175 : (h160 90 2) = (h88 90 2) ∧ (h160 90 7) = (h88 90 7) ∧ (h160 90 8) = (h88 90 8) ∧ (h160 90 20) = (h88 90 20) ∧ (h160 90 22) = (h88 90 22) ∧ (h160 90 25) = (h88 90 25) ∧ (h160 90 26) = (h88 90 26) ∧ (h160 90 28) = (h88 90 28) ∧ (h160 90 29) = (h88 90 29) ∧ (h160 90 30) = (h88 90 30) ∧ (h160 90 34) = (h88 90 34) ∧ (h160 90 13) = (h88 90 13) + 1 := f143
          clear f143
          have y157_ : (h160 97) = ov_rs (h88 97) (1100 + (h88 90 13)) (9 : Int) := y157
          have y158_ : (h160 98) = ov_rs (h88 98) (1100 + (h88 90 13)) (0 : Int) := y158
          have K176 : ∀ j : Int, j < 1100 + (h 90 13) → h160 97 j = h 97 j ∧ h160 98 j = h 98 j := ov_kpe (ov_kp xa y85_ (by omega)) y157_ y158_ (by omega)
          have K177 : h160 90 8 = 0 → ov_sg (h160 97) (h160 98) (h 90 13) (h160 90 13) := fun e => by have q1 := xb (by omega); have q2 := y86_ (by omega); rw [show (h41 90 13) = (h41 90 13) by omega] at q2; have q3 := ov_sg_bin q1 (fun j hj => y85_ j (by omega)) q2 y157_ y158_ (by omega); rw [show h160 90 13 = (h88 90 13) + 1 by omega]; exact q3
          refine ov_goto (tgt := 5) d_226_61 (by decide) ?_
          refine ov_sub (ls2 := [(0, ov_r 90), (1, ov_i dep)]) (List.Sublist.subset (by repeat (first | exact List.Sublist.refl _ | apply List.Sublist.cons_cons | apply List.Sublist.cons))) ?_
          exact ih37  _ _ I161 E162 E163 E164 E165 E166 E167 E168 E169 E170 E171 E172 E173 E174 K176 K177 (by show (h 90 7) ≤ (h160 90 7) ∧ (h160 90 7) ≤ n ∧ (h 90 8) ≤ (h160 90 8) ∧ (h 90 13) ≤ (h160 90 13) ∧ (h160 90 13) - (h 90 13) ≤ (h160 90 7) - (h 90 7) ∧ (h160 90 2) = (h18 90 2) ∧ (h160 90 20) = (h18 90 20) ∧ (h160 90 22) = (h18 90 22) ∧ (h160 90 25) = (h18 90 25) ∧ (h160 90 26) = (h18 90 26) ∧ (h160 90 28) = (h18 90 28) ∧ (h160 90 29) = (h18 90 29) ∧ (h160 90 30) = (h18 90 30) ∧ (h160 90 34) = (h18 90 34); omega) (by omega)
      · skip
        have f60_ : v59 = 0 := by omega
        have f178 : ¬ ((h41 90 8) = 0 ∧ (h 92 ((h41 90 7))) = 1 ∧ (h 94 ((h41 90 7))) = (h 95 ((18 : Int)))) := f60.2.2.2 (by omega)
        clear f60
        refine ov_blk (ls2 := [(0, ov_r 90), (1, ov_i dep)]) (st2 := [ov_i 19, ov_r 90]) (pc2 := 17) b_226_14_2 rfl rfl ?_
        have cf179 : h41 92 (n) = h 92 (n) := congrFun E44 (n)
        refine ov_cV (as := [ov_i 19]) (st := []) (d2 := d - 1) d_226_17 lk_Mo_189 rfl (Nat.le_of_ble_eq_true rfl) (c := 1) (zb_90 I42) (zs_90 I42) ⟨by decide, rfl⟩ (by omega) (c_Mo_isWord_90 n (d - 1) (by omega) U I42 19 (by omega) (by show 0 ≤ n ∧ n ≤ 1000 ∧ (h41 92 (n)) = 0 ∧ (h41 90 7) ≤ n; omega) (by omega)) ?_
        rintro _ _ _ ⟨v181, rfl, rfl, rfl, f180⟩
        show ov_R u d ov_m226 20 [(0, ov_r 90), (1, ov_i dep)] [ov_i v181] z40 h41 (P_Mo_all_90 F z h n dep)
        rw [show h41 92 = h 92 from E44] at f180
        rw [show h41 94 = h 94 from E46] at f180
        rw [show h41 95 = h 95 from E47] at f180
        have f182 : (v181 = 0 ∨ v181 = 1) ∧ (v181 = 1 → (h41 90 7) < n) ∧ (v181 = 1 → (h41 90 8) = 0 ∧ (h 92 ((h41 90 7))) = 1 ∧ (h 94 ((h41 90 7))) = (h 95 ((19 : Int)))) ∧ (v181 = 0 → ¬ ((h41 90 8) = 0 ∧ (h 92 ((h41 90 7))) = 1 ∧ (h 94 ((h41 90 7))) = (h 95 ((19 : Int))))) := f180
        clear f180
        refine ov_ifeq (tgt := 64) d_226_20 (by decide) (by omega) (fun c183 => ?_) (fun c183 => ?_)
        · skip
          have f182_ : v181 = 0 := by omega
          have f184 : ¬ ((h41 90 8) = 0 ∧ (h 92 ((h41 90 7))) = 1 ∧ (h 94 ((h41 90 7))) = (h 95 ((19 : Int)))) := f182.2.2.2 (by omega)
          clear f182
          exact ov_retv (st := []) d_226_64 rfl ⟨rfl, I42, (by show (h41 90 2) = (h 90 2) ∧ (h41 90 20) = (h 90 20) ∧ (h41 90 22) = (h 90 22) ∧ (h41 90 25) = (h 90 25) ∧ (h41 90 26) = (h 90 26) ∧ (h41 90 28) = (h 90 28) ∧ (h41 90 29) = (h 90 29) ∧ (h41 90 30) = (h 90 30) ∧ (h41 90 34) = (h 90 34) ∧ (h 90 7) ≤ (h41 90 7) ∧ (h41 90 7) ≤ n ∧ (h 90 8) ≤ (h41 90 8) ∧ (h 90 13) ≤ (h41 90 13) ∧ (h41 90 13) - (h 90 13) ≤ (h41 90 7) - (h 90 7); omega), E43, E44, E45, E46, E47, E48, E49, E50, E51, E52, E53, E54, E55, xa, (fun e => by have e0 : (h41 90 8) = 0 := e; show ov_sg (h41 97) (h41 98) _ (h41 90 13); rw [show (h41 90 13) = (h41 90 13) by omega]; exact xb (by omega))⟩
        · skip
          have f182_ : v181 = 1 := by omega
          have f185 : (h41 90 7) < n := f182.2.1 (by omega)
          have f186 : (h41 90 8) = 0 ∧ (h 92 ((h41 90 7))) = 1 ∧ (h 94 ((h41 90 7))) = (h 95 ((19 : Int))) := f182.2.2.1 (by omega)
          clear f182
          refine ov_blk (ls2 := [(0, ov_r 90), (1, ov_i dep)]) (st2 := [ov_i 18, ov_r 90]) (pc2 := 26) b_226_23_2 rfl rfl ?_
          have cf187 : h41 92 (n) = h 92 (n) := congrFun E44 (n)
          refine ov_cV (as := [ov_i 18]) (st := []) (d2 := d - 1) d_226_26 lk_Mo_189 rfl (Nat.le_of_ble_eq_true rfl) (c := 1) (zb_90 I42) (zs_90 I42) ⟨by decide, rfl⟩ (by omega) (c_Mo_isWord_90 n (d - 1) (by omega) U I42 18 (by omega) (by show 0 ≤ n ∧ n ≤ 1000 ∧ (h41 92 (n)) = 0 ∧ (h41 90 7) ≤ n; omega) (by omega)) ?_
          rintro _ _ _ ⟨v189, rfl, rfl, rfl, f188⟩
          show ov_R u d ov_m226 29 [(0, ov_r 90), (1, ov_i dep)] [ov_i v189] z40 h41 (P_Mo_all_90 F z h n dep)
          rw [show h41 92 = h 92 from E44] at f188
          rw [show h41 94 = h 94 from E46] at f188
          rw [show h41 95 = h 95 from E47] at f188
          have f190 : (v189 = 0 ∨ v189 = 1) ∧ (v189 = 1 → (h41 90 7) < n) ∧ (v189 = 1 → (h41 90 8) = 0 ∧ (h 92 ((h41 90 7))) = 1 ∧ (h 94 ((h41 90 7))) = (h 95 ((18 : Int)))) ∧ (v189 = 0 → ¬ ((h41 90 8) = 0 ∧ (h 92 ((h41 90 7))) = 1 ∧ (h 94 ((h41 90 7))) = (h 95 ((18 : Int))))) := f188
          clear f188
          refine ov_blk (ls2 := [(0, ov_r 90), (1, ov_i dep), (2, ov_i v189)]) (st2 := [ov_r 90, ov_r 90]) (pc2 := 32) b_226_29_3 rfl rfl ?_
          refine ov_getf (v := ov_i (h41 90 7)) d_226_32 fl_Mo_177 (zb_90 I42) (zs_90 I42) rfl ?_
          have g191 := rg_90_7 I42
          refine ov_blk (ls2 := [(0, ov_r 90), (1, ov_i dep), (2, ov_i v189)]) (st2 := [ov_i ((h41 90 7) + 1), ov_r 90]) (pc2 := 37) b_226_35_2 rfl rfl ?_
          refine ov_putf (x := ((h41 90 7) + 1)) d_226_37 fl_Mo_177 (zb_90 I42) (zs_90 I42) rfl nk_0 rfl ?_
          have I192 := up_90_7 (x := ((h41 90 7) + 1)) I42 (by omega)
          refine ov_blk (ls2 := [(0, ov_r 90), (1, ov_i dep), (2, ov_i v189)]) (st2 := [ov_i dep, ov_r 90]) (pc2 := 42) b_226_40_2 rfl rfl ?_
          have cf193 : h41 92 (n) = h 92 (n) := congrFun E44 (n)
          refine ov_cV (as := [ov_i dep]) (st := []) (d2 := d - 1) d_226_42 lk_Mo_257 rfl (Nat.le_of_ble_eq_true rfl) (c := 1) (zb_90 I192) (zs_90 I192) ⟨by decide, rfl⟩ (by omega) (c_Mo_test_90 n k HE HP (d - 1) (by omega) U I192 dep (by omega) (by show 0 ≤ n ∧ n ≤ 1000 ∧ (h41 92 (n)) = 0 ∧ ((h41 90 7) + 1) ≤ n; omega) (by omega) (by show (h41 90 13) ≤ ((h41 90 7) + 1); omega)) ?_
          rintro _ z210 h211 ⟨rfl, I212, f194, e195, e196, e197, e198, e199, e200, e201, e202, e203, e204, e205, e206, e207, y208, y209⟩
          have E213 : h211 91 = h 91 := Eq.trans e195 E43
          have E214 : h211 92 = h 92 := Eq.trans e196 E44
          have E215 : h211 93 = h 93 := Eq.trans e197 E45
          have E216 : h211 94 = h 94 := Eq.trans e198 E46
          have E217 : h211 95 = h 95 := Eq.trans e199 E47
          have E218 : h211 96 = h 96 := Eq.trans e200 E48
          have E219 : h211 99 = h 99 := Eq.trans e201 E49
          have E220 : h211 100 = h 100 := Eq.trans e202 E50
          have E221 : h211 103 = h 103 := Eq.trans e203 E51
          have E222 : h211 105 = h 105 := Eq.trans e204 E52
          have E223 : h211 106 = h 106 := Eq.trans e205 E53
          have E224 : h211 109 = h 109 := Eq.trans e206 E54
          have E225 : h211 114 = h 114 := Eq.trans e207 E55
          show ov_R u d ov_m226 45 [(0, ov_r 90), (1, ov_i dep), (2, ov_i v189)] [] z210 h211 (P_Mo_all_90 F z h n dep)
          have f226 : (h211 90 2) = (h41 90 2) ∧ (h211 90 20) = (h41 90 20) ∧ (h211 90 22) = (h41 90 22) ∧ (h211 90 25) = (h41 90 25) ∧ (h211 90 26) = (h41 90 26) ∧ (h211 90 28) = (h41 90 28) ∧ (h211 90 29) = (h41 90 29) ∧ (h211 90 30) = (h41 90 30) ∧ (h211 90 34) = (h41 90 34) ∧ ((h41 90 7) + 1) ≤ (h211 90 7) ∧ (h211 90 7) ≤ n ∧ (h41 90 8) ≤ (h211 90 8) ∧ (h41 90 13) ≤ (h211 90 13) ∧ (h211 90 13) - (h41 90 13) ≤ (h211 90 7) - ((h41 90 7) + 1) := f194
          clear f194
          have y208_ : ∀ j : Int, j < 1100 + (h41 90 13) → (h211 97) j = (h41 97) j ∧ (h211 98) j = (h41 98) j := y208
          have y209_ : (h211 90 8) = 0 → ov_sg (h211 97) (h211 98) (h41 90 13) (h211 90 13) := y209
          refine ov_blk (ls2 := [(0, ov_r 90), (1, ov_i dep), (2, ov_i v189)]) (st2 := [ov_i v189, ov_r 90]) (pc2 := 47) b_226_45_2 rfl rfl ?_
          refine ov_ifeq (tgt := 55) d_226_47 (by decide) (by omega) (fun c227 => ?_) (fun c227 => ?_)
          · skip
            have f190_ : v189 = 0 := by omega
            have f228 : ¬ ((h41 90 8) = 0 ∧ (h 92 ((h41 90 7))) = 1 ∧ (h 94 ((h41 90 7))) = (h 95 ((18 : Int)))) := f190.2.2.2 (by omega)
            clear f190
            refine ov_blk (ls2 := [(0, ov_r 90), (1, ov_i dep), (2, ov_i v189)]) (st2 := [ov_i 0, ov_i 10, ov_r 90]) (pc2 := 58) b_226_55_2 rfl rfl ?_
            refine ov_cV (as := [ov_i 10, ov_i 0]) (st := []) (d2 := d - 1) d_226_58 lk_Mo_246 rfl (Nat.le_of_ble_eq_true rfl) (c := 1) (zb_90 I212) (zs_90 I212) ⟨by decide, rfl⟩ (by omega) (c_Mo_emit_90 (d - 1) (by omega) U I212 10 0 (by omega) (by omega) (by omega) (by show (h211 90 13) ≤ 999; omega)) ?_
            rintro _ z245 h246 ⟨rfl, I247, f229, e230, e231, e232, e233, e234, e235, e236, e237, e238, e239, e240, e241, e242, y243, y244⟩
            have E248 : h246 91 = h 91 := Eq.trans e230 E213
            have E249 : h246 92 = h 92 := Eq.trans e231 E214
            have E250 : h246 93 = h 93 := Eq.trans e232 E215
            have E251 : h246 94 = h 94 := Eq.trans e233 E216
            have E252 : h246 95 = h 95 := Eq.trans e234 E217
            have E253 : h246 96 = h 96 := Eq.trans e235 E218
            have E254 : h246 99 = h 99 := Eq.trans e236 E219
            have E255 : h246 100 = h 100 := Eq.trans e237 E220
            have E256 : h246 103 = h 103 := Eq.trans e238 E221
            have E257 : h246 105 = h 105 := Eq.trans e239 E222
            have E258 : h246 106 = h 106 := Eq.trans e240 E223
            have E259 : h246 109 = h 109 := Eq.trans e241 E224
            have E260 : h246 114 = h 114 := Eq.trans e242 E225
            show ov_R u d ov_m226 61 [(0, ov_r 90), (1, ov_i dep), (2, ov_i v189)] [] z245 h246 (P_Mo_all_90 F z h n dep)
            have f261 : (h246 90 2) = (h211 90 2) ∧ (h246 90 7) = (h211 90 7) ∧ (h246 90 8) = (h211 90 8) ∧ (h246 90 20) = (h211 90 20) ∧ (h246 90 22) = (h211 90 22) ∧ (h246 90 25) = (h211 90 25) ∧ (h246 90 26) = (h211 90 26) ∧ (h246 90 28) = (h211 90 28) ∧ (h246 90 29) = (h211 90 29) ∧ (h246 90 30) = (h211 90 30) ∧ (h246 90 34) = (h211 90 34) ∧ (h246 90 13) = (h211 90 13) + 1 := f229
            clear f229
            have y243_ : (h246 97) = ov_rs (h211 97) (1100 + (h211 90 13)) (10 : Int) := y243
            have y244_ : (h246 98) = ov_rs (h211 98) (1100 + (h211 90 13)) (0 : Int) := y244
            have K262 : ∀ j : Int, j < 1100 + (h 90 13) → h246 97 j = h 97 j ∧ h246 98 j = h 98 j := ov_kpe (ov_kp xa y208_ (by omega)) y243_ y244_ (by omega)
            have K263 : h246 90 8 = 0 → ov_sg (h246 97) (h246 98) (h 90 13) (h246 90 13) := fun e => by have q1 := xb (by omega); have q2 := y209_ (by omega); rw [show (h41 90 13) = (h41 90 13) by omega] at q2; have q3 := ov_sg_bin q1 (fun j hj => y208_ j (by omega)) q2 y243_ y244_ (by omega); rw [show h246 90 13 = (h211 90 13) + 1 by omega]; exact q3
            refine ov_goto (tgt := 5) d_226_61 (by decide) ?_
            refine ov_sub (ls2 := [(0, ov_r 90), (1, ov_i dep)]) (List.Sublist.subset (by repeat (first | exact List.Sublist.refl _ | apply List.Sublist.cons_cons | apply List.Sublist.cons))) ?_
            exact ih37  _ _ I247 E248 E249 E250 E251 E252 E253 E254 E255 E256 E257 E258 E259 E260 K262 K263 (by show (h 90 7) ≤ (h246 90 7) ∧ (h246 90 7) ≤ n ∧ (h 90 8) ≤ (h246 90 8) ∧ (h 90 13) ≤ (h246 90 13) ∧ (h246 90 13) - (h 90 13) ≤ (h246 90 7) - (h 90 7) ∧ (h246 90 2) = (h18 90 2) ∧ (h246 90 20) = (h18 90 20) ∧ (h246 90 22) = (h18 90 22) ∧ (h246 90 25) = (h18 90 25) ∧ (h246 90 26) = (h18 90 26) ∧ (h246 90 28) = (h18 90 28) ∧ (h246 90 29) = (h18 90 29) ∧ (h246 90 30) = (h18 90 30) ∧ (h246 90 34) = (h18 90 34); omega) (by omega)
          · skip
            have f190_ : v189 = 1 := by omega
            have f264 : (h41 90 7) < n := f190.2.1 (by omega)
            have f265 : (h41 90 8) = 0 ∧ (h 92 ((h41 90 7))) = 1 ∧ (h 94 ((h41 90 7))) = (h 95 ((18 : Int))) := f190.2.2.1 (by omega)
            clear f190
            refine ov_blk (ls2 := [(0, ov_r 90), (1, ov_i dep), (2, ov_i v189)]) (st2 := [ov_i 9, ov_r 90]) (pc2 := 52) b_226_50_1 rfl rfl ?_
            refine ov_goto (tgt := 57) d_226_52 (by decide) ?_
            refine ov_blk (ls2 := [(0, ov_r 90), (1, ov_i dep), (2, ov_i v189)]) (st2 := [ov_i 0, ov_i 9, ov_r 90]) (pc2 := 58) b_226_57_1 rfl rfl ?_
            refine ov_cV (as := [ov_i 9, ov_i 0]) (st := []) (d2 := d - 1) d_226_58 lk_Mo_246 rfl (Nat.le_of_ble_eq_true rfl) (c := 1) (zb_90 I212) (zs_90 I212) ⟨by decide, rfl⟩ (by omega) (c_Mo_emit_90 (d - 1) (by omega) U I212 9 0 (by omega) (by omega) (by omega) (by show (h211 90 13) ≤ 999; omega)) ?_
            rintro _ z282 h283 ⟨rfl, I284, f266, e267, e268, e269, e270, e271, e272, e273, e274, e275, e276, e277, e278, e279, y280, y281⟩
            have E285 : h283 91 = h 91 := Eq.trans e267 E213
            have E286 : h283 92 = h 92 := Eq.trans e268 E214
            have E287 : h283 93 = h 93 := Eq.trans e269 E215
            have E288 : h283 94 = h 94 := Eq.trans e270 E216
            have E289 : h283 95 = h 95 := Eq.trans e271 E217
            have E290 : h283 96 = h 96 := Eq.trans e272 E218
            have E291 : h283 99 = h 99 := Eq.trans e273 E219
            have E292 : h283 100 = h 100 := Eq.trans e274 E220
            have E293 : h283 103 = h 103 := Eq.trans e275 E221
            have E294 : h283 105 = h 105 := Eq.trans e276 E222
            have E295 : h283 106 = h 106 := Eq.trans e277 E223
            have E296 : h283 109 = h 109 := Eq.trans e278 E224
            have E297 : h283 114 = h 114 := Eq.trans e279 E225
            show ov_R u d ov_m226 61 [(0, ov_r 90), (1, ov_i dep), (2, ov_i v189)] [] z282 h283 (P_Mo_all_90 F z h n dep)
            have f298 : (h283 90 2) = (h211 90 2) ∧ (h283 90 7) = (h211 90 7) ∧ (h283 90 8) = (h211 90 8) ∧ (h283 90 20) = (h211 90 20) ∧ (h283 90 22) = (h211 90 22) ∧ (h283 90 25) = (h211 90 25) ∧ (h283 90 26) = (h211 90 26) ∧ (h283 90 28) = (h211 90 28) ∧ (h283 90 29) = (h211 90 29) ∧ (h283 90 30) = (h211 90 30) ∧ (h283 90 34) = (h211 90 34) ∧ (h283 90 13) = (h211 90 13) + 1 := f266
            clear f266
            have y280_ : (h283 97) = ov_rs (h211 97) (1100 + (h211 90 13)) (9 : Int) := y280
            have y281_ : (h283 98) = ov_rs (h211 98) (1100 + (h211 90 13)) (0 : Int) := y281
            have K299 : ∀ j : Int, j < 1100 + (h 90 13) → h283 97 j = h 97 j ∧ h283 98 j = h 98 j := ov_kpe (ov_kp xa y208_ (by omega)) y280_ y281_ (by omega)
            have K300 : h283 90 8 = 0 → ov_sg (h283 97) (h283 98) (h 90 13) (h283 90 13) := fun e => by have q1 := xb (by omega); have q2 := y209_ (by omega); rw [show (h41 90 13) = (h41 90 13) by omega] at q2; have q3 := ov_sg_bin q1 (fun j hj => y208_ j (by omega)) q2 y280_ y281_ (by omega); rw [show h283 90 13 = (h211 90 13) + 1 by omega]; exact q3
            refine ov_goto (tgt := 5) d_226_61 (by decide) ?_
            refine ov_sub (ls2 := [(0, ov_r 90), (1, ov_i dep)]) (List.Sublist.subset (by repeat (first | exact List.Sublist.refl _ | apply List.Sublist.cons_cons | apply List.Sublist.cons))) ?_
            exact ih37  _ _ I284 E285 E286 E287 E288 E289 E290 E291 E292 E293 E294 E295 E296 E297 K299 K300 (by show (h 90 7) ≤ (h283 90 7) ∧ (h283 90 7) ≤ n ∧ (h 90 8) ≤ (h283 90 8) ∧ (h 90 13) ≤ (h283 90 13) ∧ (h283 90 13) - (h 90 13) ≤ (h283 90 7) - (h 90 7) ∧ (h283 90 2) = (h18 90 2) ∧ (h283 90 20) = (h18 90 20) ∧ (h283 90 22) = (h18 90 22) ∧ (h283 90 25) = (h18 90 25) ∧ (h283 90 26) = (h18 90 26) ∧ (h283 90 28) = (h18 90 28) ∧ (h283 90 29) = (h18 90 29) ∧ (h283 90 30) = (h18 90 30) ∧ (h283 90 34) = (h18 90 34); omega) (by omega)
  exact L39 1001  _ _ I19 E20 E21 E22 E23 E24 E25 E26 E27 E28 E29 E30 E31 E32 K34 K35 (by show (h 90 7) ≤ (h18 90 7) ∧ (h18 90 7) ≤ n ∧ (h 90 8) ≤ (h18 90 8) ∧ (h 90 13) ≤ (h18 90 13) ∧ (h18 90 13) - (h 90 13) ≤ (h18 90 7) - (h 90 7) ∧ (h18 90 2) = (h18 90 2) ∧ (h18 90 20) = (h18 90 20) ∧ (h18 90 22) = (h18 90 22) ∧ (h18 90 25) = (h18 90 25) ∧ (h18 90 26) = (h18 90 26) ∧ (h18 90 28) = (h18 90 28) ∧ (h18 90 29) = (h18 90 29) ∧ (h18 90 30) = (h18 90 30) ∧ (h18 90 34) = (h18 90 34); omega) (by omega)
theorem c_Mo_all_90_both {u : ov_U} {F : ov_H × ov_Z} (n : Int) : ∀ k : Nat, (∀ {z : ov_Z} {h : ov_H} (d : Nat) (hd : (10 + 5 * k + 4) ≤ d) (U : ov_cap u) (I : ov_N F z h) (dep : Int) (g_dep : ov_g dep) (p0 : 0 ≤ n ∧ n ≤ 1000 ∧ (h 92 (n)) = 0 ∧ (h 90 7) ≤ n) (p1 : 0 ≤ dep ∧ dep + (k : Int) = 5) (p2 : (h 90 13) ≤ (h 90 7)), ov_T u d ov_m226 [ov_r 90, ov_i dep] z h (P_Mo_all_90 F z h n dep)) ∧ (∀ {z : ov_Z} {h : ov_H} (d : Nat) (hd : (10 + 5 * k + 0) ≤ d) (U : ov_cap u) (I : ov_N F z h) (dep : Int) (g_dep : ov_g dep) (p0 : 0 ≤ n ∧ n ≤ 1000 ∧ (h 92 (n)) = 0 ∧ (h 90 7) ≤ n) (p1 : 0 ≤ dep ∧ dep + (k : Int) = 5) (p2 : (h 90 13) ≤ (h 90 7)), ov_T u d ov_m230 [ov_r 90, ov_i dep] z h (P_Mo_takePart_90 F z h n dep)) := by
  intro k
  induction k with
  | zero => exact ⟨c_Mo_all_90 n 0 (fun k' e => by omega) (fun k' e => by omega), c_Mo_takePart_90 n 0 (fun k' e => by omega) (fun k' e => by omega)⟩
  | succ k ih =>
    obtain ⟨i1, i2⟩ := ih
    have HE : ∀ k' : Nat, k' + 1 = k + 1 → ∀ {z : ov_Z} {h : ov_H} (d : Nat) (hd : (10 + 5 * k' + 4) ≤ d) (U : ov_cap u) (I : ov_N F z h) (dep : Int) (g_dep : ov_g dep) (p0 : 0 ≤ n ∧ n ≤ 1000 ∧ (h 92 (n)) = 0 ∧ (h 90 7) ≤ n) (p1 : 0 ≤ dep ∧ dep + (k' : Int) = 5) (p2 : (h 90 13) ≤ (h 90 7)), ov_T u d ov_m226 [ov_r 90, ov_i dep] z h (P_Mo_all_90 F z h n dep) := fun k' e => by
      have e2 : k' = k := by omega
      rw [e2]
      exact fun {z} {h} => @i1 z h
    have HP : ∀ k' : Nat, k' + 1 = k + 1 → ∀ {z : ov_Z} {h : ov_H} (d : Nat) (hd : (10 + 5 * k' + 0) ≤ d) (U : ov_cap u) (I : ov_N F z h) (dep : Int) (g_dep : ov_g dep) (p0 : 0 ≤ n ∧ n ≤ 1000 ∧ (h 92 (n)) = 0 ∧ (h 90 7) ≤ n) (p1 : 0 ≤ dep ∧ dep + (k' : Int) = 5) (p2 : (h 90 13) ≤ (h 90 7)), ov_T u d ov_m230 [ov_r 90, ov_i dep] z h (P_Mo_takePart_90 F z h n dep) := fun k' e => by
      have e2 : k' = k := by omega
      rw [e2]
      exact fun {z} {h} => @i2 z h
    exact ⟨c_Mo_all_90 n (k + 1) HE HP, c_Mo_takePart_90 n (k + 1) HE HP⟩
theorem c_Mo_all_90_all {u : ov_U} {F : ov_H × ov_Z} (n : Int) (k : Nat) : ∀ {z : ov_Z} {h : ov_H} (d : Nat) (hd : (10 + 5 * k + 4) ≤ d) (U : ov_cap u) (I : ov_N F z h) (dep : Int) (g_dep : ov_g dep) (p0 : 0 ≤ n ∧ n ≤ 1000 ∧ (h 92 (n)) = 0 ∧ (h 90 7) ≤ n) (p1 : 0 ≤ dep ∧ dep + (k : Int) = 5) (p2 : (h 90 13) ≤ (h 90 7)), ov_T u d ov_m226 [ov_r 90, ov_i dep] z h (P_Mo_all_90 F z h n dep) := (c_Mo_all_90_both n k).1

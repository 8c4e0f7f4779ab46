set_option maxHeartbeats 4000000 in
theorem c_Mo_test_90 {u : ov_U} {F : ov_H × ov_Z} (n : Int) (k : Nat) (HE : ∀ k' : Nat, k' + 1 = k → ∀ {z : ov_Z} {h : ov_H} (d : Nat) (hd : (10 + 5 * k' + 4) ≤ d) (U : ov_cap u) (I : ov_N F z h) (dep : Int) (g_dep : ov_g dep) (p0 : 0 ≤ n ∧ n ≤ 1000 ∧ (h 92 (n)) = 0 ∧ (h 90 7) ≤ n) (p1 : 0 ≤ dep ∧ dep + (k' : Int) = 5) (p2 : (h 90 13) ≤ (h 90 7)), ov_T u d ov_m226 [ov_r 90, ov_i dep] z h (P_Mo_all_90 F z h n dep)) (HP : ∀ k' : Nat, k' + 1 = k → ∀ {z : ov_Z} {h : ov_H} (d : Nat) (hd : (10 + 5 * k' + 0) ≤ d) (U : ov_cap u) (I : ov_N F z h) (dep : Int) (g_dep : ov_g dep) (p0 : 0 ≤ n ∧ n ≤ 1000 ∧ (h 92 (n)) = 0 ∧ (h 90 7) ≤ n) (p1 : 0 ≤ dep ∧ dep + (k' : Int) = 5) (p2 : (h 90 13) ≤ (h 90 7)), ov_T u d ov_m230 [ov_r 90, ov_i dep] z h (P_Mo_takePart_90 F z h n dep)) {z : ov_Z} {h : ov_H} (d : Nat) (hd : (10 + 5 * k + 3) ≤ d) (U : ov_cap u) (I : ov_N F z h) (dep : Int) (g_dep : ov_g dep) (p0 : 0 ≤ n ∧ n ≤ 1000 ∧ (h 92 (n)) = 0 ∧ (h 90 7) ≤ n) (p1 : 0 ≤ dep ∧ dep + (k : Int) = 5) (p2 : (h 90 13) ≤ (h 90 7)) : ov_T u d ov_m227 [ov_r 90, ov_i dep] z h (P_Mo_test_90 F z h n dep) := by
  refine ov_en rfl (Nat.le_of_ble_eq_true rfl) ?_
  show ov_R u d ov_m227 0 [(0, ov_r 90), (1, ov_i dep)] [] z h (P_Mo_test_90 F z h n dep)
  have gq7 := rg_90_7 I
  refine ov_blk (ls2 := [(0, ov_r 90), (1, ov_i dep)]) (st2 := [ov_i dep, ov_r 90]) (pc2 := 2) b_227_0_2 rfl rfl ?_
  refine ov_cV (as := [ov_i dep]) (st := []) (d2 := d - 1) d_227_2 lk_Mo_260 rfl (Nat.le_of_ble_eq_true rfl) (c := 1) (zb_90 I) (zs_90 I) ⟨by decide, rfl⟩ (by omega) (c_Mo_sums_90 n k HE HP (d - 1) (by omega) U I dep (by omega) (by show 0 ≤ n ∧ n ≤ 1000 ∧ (h 92 (n)) = 0 ∧ (h 90 7) ≤ n; omega) (by omega) (by show (h 90 13) ≤ (h 90 7); omega)) ?_
  rintro _ z18 h19 ⟨rfl, I20, f1, e2, e3, e4, e5, e6, e7, e8, e9, e10, e11, e12, e13, e14, e15, y16, y17⟩
  have E21 : h19 91 = h 91 := e2
  have E22 : h19 92 = h 92 := e3
  have E23 : h19 93 = h 93 := e4
  have E24 : h19 94 = h 94 := e5
  have E25 : h19 95 = h 95 := e6
  have E26 : h19 96 = h 96 := e7
  have E27 : h19 99 = h 99 := e8
  have E28 : h19 100 = h 100 := e9
  have E29 : h19 103 = h 103 := e10
  have E30 : h19 104 = h 104 := e11
  have E31 : h19 105 = h 105 := e12
  have E32 : h19 106 = h 106 := e13
  have E33 : h19 109 = h 109 := e14
  have E34 : h19 114 = h 114 := e15
  show ov_R u d ov_m227 5 [(0, ov_r 90), (1, ov_i dep)] [] z18 h19 (P_Mo_test_90 F z h n dep)
  have f35 : (h19 90 2) = (h 90 2) ∧ (h19 90 20) = (h 90 20) ∧ (h19 90 22) = (h 90 22) ∧ (h19 90 25) = (h 90 25) ∧ (h19 90 26) = (h 90 26) ∧ (h19 90 28) = (h 90 28) ∧ (h19 90 29) = (h 90 29) ∧ (h19 90 30) = (h 90 30) ∧ (h19 90 34) = (h 90 34) ∧ (h 90 7) ≤ (h19 90 7) ∧ (h19 90 7) ≤ n ∧ (h 90 8) ≤ (h19 90 8) ∧ (h 90 13) ≤ (h19 90 13) ∧ (h19 90 13) - (h 90 13) ≤ (h19 90 7) - (h 90 7) := f1
  clear f1
  have y16_ : ∀ j : Int, j < 1100 + (h 90 13) → (h19 97) j = (h 97) j ∧ (h19 98) j = (h 98) j := y16
  have y17_ : (h19 90 8) = 0 → ov_sg (h19 97) (h19 98) (h 90 13) (h19 90 13) := y17
  have K36 : ∀ j : Int, j < 1100 + (h 90 13) → h19 97 j = h 97 j ∧ h19 98 j = h 98 j := fun j hj => y16_ j (by omega)
  have K37 : h19 90 8 = 0 → ov_sg (h19 97) (h19 98) (h 90 13) (h19 90 13) := fun e => by have q := y17_ e; rw [show (h 90 13) = h 90 13 by omega] at q; exact q
  refine ov_blk (ls2 := [(0, ov_r 90), (1, ov_i dep)]) (st2 := [ov_i 60, ov_r 90]) (pc2 := 8) b_227_5_2 rfl rfl ?_
  have cf38 : h19 92 (n) = h 92 (n) := congrFun E22 (n)
  refine ov_cV (as := [ov_i 60]) (st := []) (d2 := d - 1) d_227_8 lk_Mo_183 rfl (Nat.le_of_ble_eq_true rfl) (c := 1) (zb_90 I20) (zs_90 I20) ⟨by decide, rfl⟩ (by omega) (c_Mo_isSign_90 n (d - 1) (by omega) U I20 60 (by omega) (by show 0 ≤ n ∧ n ≤ 1000 ∧ (h19 92 (n)) = 0 ∧ (h19 90 7) ≤ n; omega)) ?_
  rintro _ _ _ ⟨v40, rfl, rfl, rfl, f39⟩
  show ov_R u d ov_m227 11 [(0, ov_r 90), (1, ov_i dep)] [ov_i v40] z18 h19 (P_Mo_test_90 F z h n dep)
  rw [show h19 92 = h 92 from E22] at f39
  rw [show h19 94 = h 94 from E24] at f39
  have f41 : (v40 = 0 ∨ v40 = 1) ∧ (v40 = 1 → (h19 90 7) < n) ∧ (v40 = 1 → (h19 90 8) = 0 ∧ (h 92 ((h19 90 7))) = 3 ∧ (h 94 ((h19 90 7))) = (60 : Int)) ∧ (v40 = 0 → ¬ ((h19 90 8) = 0 ∧ (h 92 ((h19 90 7))) = 3 ∧ (h 94 ((h19 90 7))) = (60 : Int))) := f39
  clear f39
  refine ov_blk (ls2 := [(0, ov_r 90), (1, ov_i dep), (2, ov_i v40)]) (st2 := [ov_i 60, ov_r 90]) (pc2 := 15) b_227_11_3 rfl rfl ?_
  have cf42 : h19 92 (n) = h 92 (n) := congrFun E22 (n)
  refine ov_cV (as := [ov_i 60]) (st := []) (d2 := d - 1) d_227_15 lk_Mo_263 rfl (Nat.le_of_ble_eq_true rfl) (c := 1) (zb_90 I20) (zs_90 I20) ⟨by decide, rfl⟩ (by omega) (c_Mo_hasSign_90 n (d - 1) (by omega) U I20 60 (by omega) (by show 0 ≤ n ∧ n ≤ 1000 ∧ (h19 92 (n)) = 0 ∧ (h19 90 7) ≤ n; omega)) ?_
  rintro _ z61 h62 ⟨v44, rfl, I63, f43, e45, e46, e47, e48, e49, e50, e51, e52, e53, e54, e55, e56, e57, e58, e59, e60⟩
  have E64 : h62 91 = h 91 := Eq.trans e45 E21
  have E65 : h62 92 = h 92 := Eq.trans e46 E22
  have E66 : h62 93 = h 93 := Eq.trans e47 E23
  have E67 : h62 94 = h 94 := Eq.trans e48 E24
  have E68 : h62 95 = h 95 := Eq.trans e49 E25
  have E69 : h62 96 = h 96 := Eq.trans e50 E26
  have E70 : h62 97 = h19 97 := e51
  have E71 : h62 98 = h19 98 := e52
  have E72 : h62 99 = h 99 := Eq.trans e53 E27
  have E73 : h62 100 = h 100 := Eq.trans e54 E28
  have E74 : h62 103 = h 103 := Eq.trans e55 E29
  have E75 : h62 104 = h 104 := Eq.trans e56 E30
  have E76 : h62 105 = h 105 := Eq.trans e57 E31
  have E77 : h62 106 = h 106 := Eq.trans e58 E32
  have E78 : h62 109 = h 109 := Eq.trans e59 E33
  have E79 : h62 114 = h 114 := Eq.trans e60 E34
  show ov_R u d ov_m227 18 [(0, ov_r 90), (1, ov_i dep), (2, ov_i v40)] [ov_i v44] z61 h62 (P_Mo_test_90 F z h n dep)
  rw [show h19 92 = h 92 from E22] at f43
  rw [show h19 94 = h 94 from E24] at f43
  have f80 : (h62 90 2) = (h19 90 2) ∧ (h62 90 8) = (h19 90 8) ∧ (h62 90 13) = (h19 90 13) ∧ (h62 90 20) = (h19 90 20) ∧ (h62 90 22) = (h19 90 22) ∧ (h62 90 25) = (h19 90 25) ∧ (h62 90 26) = (h19 90 26) ∧ (h62 90 28) = (h19 90 28) ∧ (h62 90 29) = (h19 90 29) ∧ (h62 90 30) = (h19 90 30) ∧ (h62 90 34) = (h19 90 34) ∧ (v44 = 0 ∨ v44 = 1) ∧ (h19 90 7) ≤ (h62 90 7) ∧ (h62 90 7) ≤ n ∧ (v44 = 1 → (h62 90 7) = (h19 90 7) + 1 ∧ (h19 90 8) = 0) ∧ (v44 = 0 → (h62 90 7) = (h19 90 7)) ∧ (v44 = 1 → (h19 90 8) = 0 ∧ (h 92 ((h19 90 7))) = 3 ∧ (h 94 ((h19 90 7))) = (60 : Int)) ∧ (v44 = 0 → ¬ ((h19 90 8) = 0 ∧ (h 92 ((h19 90 7))) = 3 ∧ (h 94 ((h19 90 7))) = (60 : Int))) := f43
  clear f43
  refine ov_ifne (tgt := 30) d_227_18 (by decide) (by omega) (fun c81 => ?_) (fun c81 => ?_)
  · skip
    have f80_ : v44 = 1 := by omega
    have f82 : (h62 90 2) = (h19 90 2) := f80.1
    have f83 : (h62 90 8) = (h19 90 8) := f80.2.1
    have f84 : (h62 90 13) = (h19 90 13) := f80.2.2.1
    have f85 : (h62 90 20) = (h19 90 20) := f80.2.2.2.1
    have f86 : (h62 90 22) = (h19 90 22) := f80.2.2.2.2.1
    have f87 : (h62 90 25) = (h19 90 25) := f80.2.2.2.2.2.1
    have f88 : (h62 90 26) = (h19 90 26) := f80.2.2.2.2.2.2.1
    have f89 : (h62 90 28) = (h19 90 28) := f80.2.2.2.2.2.2.2.1
    have f90 : (h62 90 29) = (h19 90 29) := f80.2.2.2.2.2.2.2.2.1
    have f91 : (h62 90 30) = (h19 90 30) := f80.2.2.2.2.2.2.2.2.2.1
    have f92 : (h62 90 34) = (h19 90 34) := f80.2.2.2.2.2.2.2.2.2.2.1
    have f93 : (h19 90 7) ≤ (h62 90 7) := f80.2.2.2.2.2.2.2.2.2.2.2.2.1
    have f94 : (h62 90 7) ≤ n := f80.2.2.2.2.2.2.2.2.2.2.2.2.2.1
    have f95 : (h62 90 7) = (h19 90 7) + 1 ∧ (h19 90 8) = 0 := f80.2.2.2.2.2.2.2.2.2.2.2.2.2.2.1 (by omega)
    have f96 : (h19 90 8) = 0 ∧ (h 92 ((h19 90 7))) = 3 ∧ (h 94 ((h19 90 7))) = (60 : Int) := f80.2.2.2.2.2.2.2.2.2.2.2.2.2.2.2.2.1 (by omega)
    clear f80
    refine ov_blk (ls2 := [(0, ov_r 90), (1, ov_i dep), (2, ov_i v40)]) (st2 := [ov_i dep, ov_r 90]) (pc2 := 32) b_227_30_2 rfl rfl ?_
    have cf97 : h62 92 (n) = h 92 (n) := congrFun E65 (n)
    refine ov_cV (as := [ov_i dep]) (st := []) (d2 := d - 1) d_227_32 lk_Mo_260 rfl (Nat.le_of_ble_eq_true rfl) (c := 1) (zb_90 I63) (zs_90 I63) ⟨by decide, rfl⟩ (by omega) (c_Mo_sums_90 n k HE HP (d - 1) (by omega) U I63 dep (by omega) (by show 0 ≤ n ∧ n ≤ 1000 ∧ (h62 92 (n)) = 0 ∧ (h62 90 7) ≤ n; omega) (by omega) (by show (h62 90 13) ≤ (h62 90 7); omega)) ?_
    rintro _ z115 h116 ⟨rfl, I117, f98, e99, e100, e101, e102, e103, e104, e105, e106, e107, e108, e109, e110, e111, e112, y113, y114⟩
    have E118 : h116 91 = h 91 := Eq.trans e99 E64
    have E119 : h116 92 = h 92 := Eq.trans e100 E65
    have E120 : h116 93 = h 93 := Eq.trans e101 E66
    have E121 : h116 94 = h 94 := Eq.trans e102 E67
    have E122 : h116 95 = h 95 := Eq.trans e103 E68
    have E123 : h116 96 = h 96 := Eq.trans e104 E69
    have E124 : h116 99 = h 99 := Eq.trans e105 E72
    have E125 : h116 100 = h 100 := Eq.trans e106 E73
    have E126 : h116 103 = h 103 := Eq.trans e107 E74
    have E127 : h116 104 = h 104 := Eq.trans e108 E75
    have E128 : h116 105 = h 105 := Eq.trans e109 E76
    have E129 : h116 106 = h 106 := Eq.trans e110 E77
    have E130 : h116 109 = h 109 := Eq.trans e111 E78
    have E131 : h116 114 = h 114 := Eq.trans e112 E79
    show ov_R u d ov_m227 35 [(0, ov_r 90), (1, ov_i dep), (2, ov_i v40)] [] z115 h116 (P_Mo_test_90 F z h n dep)
    have f132 : (h116 90 2) = (h62 90 2) ∧ (h116 90 20) = (h62 90 20) ∧ (h116 90 22) = (h62 90 22) ∧ (h116 90 25) = (h62 90 25) ∧ (h116 90 26) = (h62 90 26) ∧ (h116 90 28) = (h62 90 28) ∧ (h116 90 29) = (h62 90 29) ∧ (h116 90 30) = (h62 90 30) ∧ (h116 90 34) = (h62 90 34) ∧ (h62 90 7) ≤ (h116 90 7) ∧ (h116 90 7) ≤ n ∧ (h62 90 8) ≤ (h116 90 8) ∧ (h62 90 13) ≤ (h116 90 13) ∧ (h116 90 13) - (h62 90 13) ≤ (h116 90 7) - (h62 90 7) := f98
    clear f98
    rw [show h62 97 = h19 97 from E70] at y113
    rw [show h62 98 = h19 98 from E71] at y113
    have y113_ : ∀ j : Int, j < 1100 + (h62 90 13) → (h116 97) j = (h19 97) j ∧ (h116 98) j = (h19 98) j := y113
    have y114_ : (h116 90 8) = 0 → ov_sg (h116 97) (h116 98) (h62 90 13) (h116 90 13) := y114
    refine ov_blk (ls2 := [(0, ov_r 90), (1, ov_i dep), (2, ov_i v40)]) (st2 := [ov_i v40, ov_r 90]) (pc2 := 37) b_227_35_2 rfl rfl ?_
    refine ov_ifeq (tgt := 45) d_227_37 (by decide) (by omega) (fun c133 => ?_) (fun c133 => ?_)
    · skip
      have f41_ : v40 = 0 := by omega
      have f134 : ¬ ((h19 90 8) = 0 ∧ (h 92 ((h19 90 7))) = 3 ∧ (h 94 ((h19 90 7))) = (60 : Int)) := f41.2.2.2 (by omega)
      clear f41
      refine ov_blk (ls2 := [(0, ov_r 90), (1, ov_i dep), (2, ov_i v40)]) (st2 := [ov_i 0, ov_i 8, ov_r 90]) (pc2 := 48) b_227_45_2 rfl rfl ?_
      refine ov_cV (as := [ov_i 8, ov_i 0]) (st := []) (d2 := d - 1) d_227_48 lk_Mo_246 rfl (Nat.le_of_ble_eq_true rfl) (c := 1) (zb_90 I117) (zs_90 I117) ⟨by decide, rfl⟩ (by omega) (c_Mo_emit_90 (d - 1) (by omega) U I117 8 0 (by omega) (by omega) (by omega) (by show (h116 90 13) ≤ 999; omega)) ?_
      rintro _ z152 h153 ⟨rfl, I154, f135, e136, e137, e138, e139, e140, e141, e142, e143, e144, e145, e146, e147, e148, e149, y150, y151⟩
      have E155 : h153 91 = h 91 := Eq.trans e136 E118
      have E156 : h153 92 = h 92 := Eq.trans e137 E119
      have E157 : h153 93 = h 93 := Eq.trans e138 E120
      have E158 : h153 94 = h 94 := Eq.trans e139 E121
      have E159 : h153 95 = h 95 := Eq.trans e140 E122
      have E160 : h153 96 = h 96 := Eq.trans e141 E123
      have E161 : h153 99 = h 99 := Eq.trans e142 E124
      have E162 : h153 100 = h 100 := Eq.trans e143 E125
      have E163 : h153 103 = h 103 := Eq.trans e144 E126
      have E164 : h153 104 = h 104 := Eq.trans e145 E127
      have E165 : h153 105 = h 105 := Eq.trans e146 E128
      have E166 : h153 106 = h 106 := Eq.trans e147 E129
      have E167 : h153 109 = h 109 := Eq.trans e148 E130
      have E168 : h153 114 = h 114 := Eq.trans e149 E131
      show ov_R u d ov_m227 51 [(0, ov_r 90), (1, ov_i dep), (2, ov_i v40)] [] z152 h153 (P_Mo_test_90 F z h n dep)
      have f169 : (h153 90 2) = (h116 90 2) ∧ (h153 90 7) = (h116 90 7) ∧ (h153 90 8) = (h116 90 8) ∧ (h153 90 20) = (h116 90 20) ∧ (h153 90 22) = (h116 90 22) ∧ (h153 90 25) = (h116 90 25) ∧ (h153 90 26) = (h116 90 26) ∧ (h153 90 28) = (h116 90 28) ∧ (h153 90 29) = (h116 90 29) ∧ (h153 90 30) = (h116 90 30) ∧ (h153 90 34) = (h116 90 34) ∧ (h153 90 13) = (h116 90 13) + 1 := f135
      clear f135
      have y150_ : (h153 97) = ov_rs (h116 97) (1100 + (h116 90 13)) (8 : Int) := y150
      have y151_ : (h153 98) = ov_rs (h116 98) (1100 + (h116 90 13)) (0 : Int) := y151
      have K170 : ∀ j : Int, j < 1100 + (h 90 13) → h153 97 j = h 97 j ∧ h153 98 j = h 98 j := ov_kpe (ov_kp K36 y113_ (by omega)) y150_ y151_ (by omega)
      have K171 : h153 90 8 = 0 → ov_sg (h153 97) (h153 98) (h 90 13) (h153 90 13) := fun e => by have q1 := K37 (by omega); have q2 := y114_ (by omega); rw [show (h62 90 13) = (h19 90 13) by omega] at q2; have q3 := ov_sg_bin q1 (fun j hj => y113_ j (by omega)) q2 y150_ y151_ (by omega); rw [show h153 90 13 = (h116 90 13) + 1 by omega]; exact q3
      exact ov_retv (st := []) d_227_51 rfl ⟨rfl, I154, (by show (h153 90 2) = (h 90 2) ∧ (h153 90 20) = (h 90 20) ∧ (h153 90 22) = (h 90 22) ∧ (h153 90 25) = (h 90 25) ∧ (h153 90 26) = (h 90 26) ∧ (h153 90 28) = (h 90 28) ∧ (h153 90 29) = (h 90 29) ∧ (h153 90 30) = (h 90 30) ∧ (h153 90 34) = (h 90 34) ∧ (h 90 7) ≤ (h153 90 7) ∧ (h153 90 7) ≤ n ∧ (h 90 8) ≤ (h153 90 8) ∧ (h 90 13) ≤ (h153 90 13) ∧ (h153 90 13) - (h 90 13) ≤ (h153 90 7) - (h 90 7); omega), E155, E156, E157, E158, E159, E160, E161, E162, E163, E164, E165, E166, E167, E168, K170, (fun e => by have e0 : (h153 90 8) = 0 := e; show ov_sg (h153 97) (h153 98) _ (h153 90 13); rw [show (h153 90 13) = (h153 90 13) by omega]; exact K171 (by omega))⟩
    · skip
      have f41_ : v40 = 1 := by omega
      have f172 : (h19 90 7) < n := f41.2.1 (by omega)
      have f173 : (h19 90 8) = 0 ∧ (h 92 ((h19 90 7))) = 3 ∧ (h 94 ((h19 90 7))) = (60 : Int) := f41.2.2.1 (by omega)
      clear f41
      refine ov_blk (ls2 := [(0, ov_r 90), (1, ov_i dep), (2, ov_i v40)]) (st2 := [ov_i 7, ov_r 90]) (pc2 := 42) b_227_40_1 rfl rfl ?_
      refine ov_goto (tgt := 47) d_227_42 (by decide) ?_
      refine ov_blk (ls2 := [(0, ov_r 90), (1, ov_i dep), (2, ov_i v40)]) (st2 := [ov_i 0, ov_i 7, ov_r 90]) (pc2 := 48) b_227_47_1 rfl rfl ?_
      refine ov_cV (as := [ov_i 7, ov_i 0]) (st := []) (d2 := d - 1) d_227_48 lk_Mo_246 rfl (Nat.le_of_ble_eq_true rfl) (c := 1) (zb_90 I117) (zs_90 I117) ⟨by decide, rfl⟩ (by omega) (c_Mo_emit_90 (d - 1) (by omega) U I117 7 0 (by omega) (by omega) (by omega) (by show (h116 90 13) ≤ 999; omega)) ?_
      rintro _ z191 h192 ⟨rfl, I193, f174, e175, e176, e177, e178, e179, e180, e181, e182, e183, e184, e185, e186, e187, e188, y189, y190⟩
      have E194 : h192 91 = h 91 := Eq.trans e175 E118
      have E195 : h192 92 = h 92 := Eq.trans e176 E119
      have E196 : h192 93 = h 93 := Eq.trans e177 E120
      have E197 : h192 94 = h 94 := Eq.trans e178 E121
      have E198 : h192 95 = h 95 := Eq.trans e179 E122
      have E199 : h192 96 = h 96 := Eq.trans e180 E123
      have E200 : h192 99 = h 99 := Eq.trans e181 E124
      have E201 : h192 100 = h 100 := Eq.trans e182 E125
      have E202 : h192 103 = h 103 := Eq.trans e183 E126
      have E203 : h192 104 = h 104 := Eq.trans e184 E127
      have E204 : h192 105 = h 105 := Eq.trans e185 E128
      have E205 : h192 106 = h 106 := Eq.trans e186 E129
      have E206 : h192 109 = h 109 := Eq.trans e187 E130
      have E207 : h192 114 = h 114 := Eq.trans e188 E131
      show ov_R u d ov_m227 51 [(0, ov_r 90), (1, ov_i dep), (2, ov_i v40)] [] z191 h192 (P_Mo_test_90 F z h n dep)
      have f208 : (h192 90 2) = (h116 90 2) ∧ (h192 90 7) = (h116 90 7) ∧ (h192 90 8) = (h116 90 8) ∧ (h192 90 20) = (h116 90 20) ∧ (h192 90 22) = (h116 90 22) ∧ (h192 90 25) = (h116 90 25) ∧ (h192 90 26) = (h116 90 26) ∧ (h192 90 28) = (h116 90 28) ∧ (h192 90 29) = (h116 90 29) ∧ (h192 90 30) = (h116 90 30) ∧ (h192 90 34) = (h116 90 34) ∧ (h192 90 13) = (h116 90 13) + 1 := f174
      clear f174
      have y189_ : (h192 97) = ov_rs (h116 97) (1100 + (h116 90 13)) (7 : Int) := y189
      have y190_ : (h192 98) = ov_rs (h116 98) (1100 + (h116 90 13)) (0 : Int) := y190
      have K209 : ∀ j : Int, j < 1100 + (h 90 13) → h192 97 j = h 97 j ∧ h192 98 j = h 98 j := ov_kpe (ov_kp K36 y113_ (by omega)) y189_ y190_ (by omega)
      have K210 : h192 90 8 = 0 → ov_sg (h192 97) (h192 98) (h 90 13) (h192 90 13) := fun e => by have q1 := K37 (by omega); have q2 := y114_ (by omega); rw [show (h62 90 13) = (h19 90 13) by omega] at q2; have q3 := ov_sg_bin q1 (fun j hj => y113_ j (by omega)) q2 y189_ y190_ (by omega); rw [show h192 90 13 = (h116 90 13) + 1 by omega]; exact q3
      exact ov_retv (st := []) d_227_51 rfl ⟨rfl, I193, (by show (h192 90 2) = (h 90 2) ∧ (h192 90 20) = (h 90 20) ∧ (h192 90 22) = (h 90 22) ∧ (h192 90 25) = (h 90 25) ∧ (h192 90 26) = (h 90 26) ∧ (h192 90 28) = (h 90 28) ∧ (h192 90 29) = (h 90 29) ∧ (h192 90 30) = (h 90 30) ∧ (h192 90 34) = (h 90 34) ∧ (h 90 7) ≤ (h192 90 7) ∧ (h192 90 7) ≤ n ∧ (h 90 8) ≤ (h192 90 8) ∧ (h 90 13) ≤ (h192 90 13) ∧ (h192 90 13) - (h 90 13) ≤ (h192 90 7) - (h 90 7); omega), E194, E195, E196, E197, E198, E199, E200, E201, E202, E203, E204, E205, E206, E207, K209, (fun e => by have e0 : (h192 90 8) = 0 := e; show ov_sg (h192 97) (h192 98) _ (h192 90 13); rw [show (h192 90 13) = (h192 90 13) by omega]; exact K210 (by omega))⟩
  · skip
    have f80_ : v44 = 0 := by omega
    have f211 : (h62 90 2) = (h19 90 2) := f80.1
    have f212 : (h62 90 8) = (h19 90 8) := f80.2.1
    have f213 : (h62 90 13) = (h19 90 13) := f80.2.2.1
    have f214 : (h62 90 20) = (h19 90 20) := f80.2.2.2.1
    have f215 : (h62 90 22) = (h19 90 22) := f80.2.2.2.2.1
    have f216 : (h62 90 25) = (h19 90 25) := f80.2.2.2.2.2.1
    have f217 : (h62 90 26) = (h19 90 26) := f80.2.2.2.2.2.2.1
    have f218 : (h62 90 28) = (h19 90 28) := f80.2.2.2.2.2.2.2.1
    have f219 : (h62 90 29) = (h19 90 29) := f80.2.2.2.2.2.2.2.2.1
    have f220 : (h62 90 30) = (h19 90 30) := f80.2.2.2.2.2.2.2.2.2.1
    have f221 : (h62 90 34) = (h19 90 34) := f80.2.2.2.2.2.2.2.2.2.2.1
    have f222 : (h19 90 7) ≤ (h62 90 7) := f80.2.2.2.2.2.2.2.2.2.2.2.2.1
    have f223 : (h62 90 7) ≤ n := f80.2.2.2.2.2.2.2.2.2.2.2.2.2.1
    have f224 : (h62 90 7) = (h19 90 7) := f80.2.2.2.2.2.2.2.2.2.2.2.2.2.2.2.1 (by omega)
    have f225 : ¬ ((h19 90 8) = 0 ∧ (h 92 ((h19 90 7))) = 3 ∧ (h 94 ((h19 90 7))) = (60 : Int)) := f80.2.2.2.2.2.2.2.2.2.2.2.2.2.2.2.2.2 (by omega)
    clear f80
    refine ov_blk (ls2 := [(0, ov_r 90), (1, ov_i dep), (2, ov_i v40)]) (st2 := [ov_i 61, ov_r 90]) (pc2 := 24) b_227_21_2 rfl rfl ?_
    have cf226 : h62 92 (n) = h 92 (n) := congrFun E65 (n)
    refine ov_cV (as := [ov_i 61]) (st := []) (d2 := d - 1) d_227_24 lk_Mo_263 rfl (Nat.le_of_ble_eq_true rfl) (c := 1) (zb_90 I63) (zs_90 I63) ⟨by decide, rfl⟩ (by omega) (c_Mo_hasSign_90 n (d - 1) (by omega) U I63 61 (by omega) (by show 0 ≤ n ∧ n ≤ 1000 ∧ (h62 92 (n)) = 0 ∧ (h62 90 7) ≤ n; omega)) ?_
    rintro _ z245 h246 ⟨v228, rfl, I247, f227, e229, e230, e231, e232, e233, e234, e235, e236, e237, e238, e239, e240, e241, e242, e243, e244⟩
    have E248 : h246 91 = h 91 := Eq.trans e229 E64
    have E249 : h246 92 = h 92 := Eq.trans e230 E65
    have E250 : h246 93 = h 93 := Eq.trans e231 E66
    have E251 : h246 94 = h 94 := Eq.trans e232 E67
    have E252 : h246 95 = h 95 := Eq.trans e233 E68
    have E253 : h246 96 = h 96 := Eq.trans e234 E69
    have E254 : h246 97 = h19 97 := Eq.trans e235 E70
    have E255 : h246 98 = h19 98 := Eq.trans e236 E71
    have E256 : h246 99 = h 99 := Eq.trans e237 E72
    have E257 : h246 100 = h 100 := Eq.trans e238 E73
    have E258 : h246 103 = h 103 := Eq.trans e239 E74
    have E259 : h246 104 = h 104 := Eq.trans e240 E75
    have E260 : h246 105 = h 105 := Eq.trans e241 E76
    have E261 : h246 106 = h 106 := Eq.trans e242 E77
    have E262 : h246 109 = h 109 := Eq.trans e243 E78
    have E263 : h246 114 = h 114 := Eq.trans e244 E79
    show ov_R u d ov_m227 27 [(0, ov_r 90), (1, ov_i dep), (2, ov_i v40)] [ov_i v228] z245 h246 (P_Mo_test_90 F z h n dep)
    rw [show h62 92 = h 92 from E65] at f227
    rw [show h62 94 = h 94 from E67] at f227
    have f264 : (h246 90 2) = (h62 90 2) ∧ (h246 90 8) = (h62 90 8) ∧ (h246 90 13) = (h62 90 13) ∧ (h246 90 20) = (h62 90 20) ∧ (h246 90 22) = (h62 90 22) ∧ (h246 90 25) = (h62 90 25) ∧ (h246 90 26) = (h62 90 26) ∧ (h246 90 28) = (h62 90 28) ∧ (h246 90 29) = (h62 90 29) ∧ (h246 90 30) = (h62 90 30) ∧ (h246 90 34) = (h62 90 34) ∧ (v228 = 0 ∨ v228 = 1) ∧ (h62 90 7) ≤ (h246 90 7) ∧ (h246 90 7) ≤ n ∧ (v228 = 1 → (h246 90 7) = (h62 90 7) + 1 ∧ (h62 90 8) = 0) ∧ (v228 = 0 → (h246 90 7) = (h62 90 7)) ∧ (v228 = 1 → (h62 90 8) = 0 ∧ (h 92 ((h62 90 7))) = 3 ∧ (h 94 ((h62 90 7))) = (61 : Int)) ∧ (v228 = 0 → ¬ ((h62 90 8) = 0 ∧ (h 92 ((h62 90 7))) = 3 ∧ (h 94 ((h62 90 7))) = (61 : Int))) := f227
    clear f227
    refine ov_ifeq (tgt := 51) d_227_27 (by decide) (by omega) (fun c265 => ?_) (fun c265 => ?_)
    · skip
      have f264_ : v228 = 0 := by omega
      have f266 : (h246 90 2) = (h62 90 2) := f264.1
      have f267 : (h246 90 8) = (h62 90 8) := f264.2.1
      have f268 : (h246 90 13) = (h62 90 13) := f264.2.2.1
      have f269 : (h246 90 20) = (h62 90 20) := f264.2.2.2.1
      have f270 : (h246 90 22) = (h62 90 22) := f264.2.2.2.2.1
      have f271 : (h246 90 25) = (h62 90 25) := f264.2.2.2.2.2.1
      have f272 : (h246 90 26) = (h62 90 26) := f264.2.2.2.2.2.2.1
      have f273 : (h246 90 28) = (h62 90 28) := f264.2.2.2.2.2.2.2.1
      have f274 : (h246 90 29) = (h62 90 29) := f264.2.2.2.2.2.2.2.2.1
      have f275 : (h246 90 30) = (h62 90 30) := f264.2.2.2.2.2.2.2.2.2.1
      have f276 : (h246 90 34) = (h62 90 34) := f264.2.2.2.2.2.2.2.2.2.2.1
      have f277 : (h62 90 7) ≤ (h246 90 7) := f264.2.2.2.2.2.2.2.2.2.2.2.2.1
      have f278 : (h246 90 7) ≤ n := f264.2.2.2.2.2.2.2.2.2.2.2.2.2.1
      have f279 : (h246 90 7) = (h62 90 7) := f264.2.2.2.2.2.2.2.2.2.2.2.2.2.2.2.1 (by omega)
      have f280 : ¬ ((h62 90 8) = 0 ∧ (h 92 ((h62 90 7))) = 3 ∧ (h 94 ((h62 90 7))) = (61 : Int)) := f264.2.2.2.2.2.2.2.2.2.2.2.2.2.2.2.2.2 (by omega)
      clear f264
      exact ov_retv (st := []) d_227_51 rfl ⟨rfl, I247, (by show (h246 90 2) = (h 90 2) ∧ (h246 90 20) = (h 90 20) ∧ (h246 90 22) = (h 90 22) ∧ (h246 90 25) = (h 90 25) ∧ (h246 90 26) = (h 90 26) ∧ (h246 90 28) = (h 90 28) ∧ (h246 90 29) = (h 90 29) ∧ (h246 90 30) = (h 90 30) ∧ (h246 90 34) = (h 90 34) ∧ (h 90 7) ≤ (h246 90 7) ∧ (h246 90 7) ≤ n ∧ (h 90 8) ≤ (h246 90 8) ∧ (h 90 13) ≤ (h246 90 13) ∧ (h246 90 13) - (h 90 13) ≤ (h246 90 7) - (h 90 7); omega), E248, E249, E250, E251, E252, E253, E256, E257, E258, E259, E260, E261, E262, E263, (by rw [show h246 97 = h19 97 from E254, show h246 98 = h19 98 from E255]; exact K36), (fun e => by have e0 : (h246 90 8) = 0 := e; show ov_sg (h246 97) (h246 98) _ (h246 90 13); rw [show h246 97 = h19 97 from E254, show h246 98 = h19 98 from E255, show (h246 90 13) = (h19 90 13) by omega]; exact K37 (by omega))⟩
    · skip
      have f264_ : v228 = 1 := by omega
      have f281 : (h246 90 2) = (h62 90 2) := f264.1
      have f282 : (h246 90 8) = (h62 90 8) := f264.2.1
      have f283 : (h246 90 13) = (h62 90 13) := f264.2.2.1
      have f284 : (h246 90 20) = (h62 90 20) := f264.2.2.2.1
      have f285 : (h246 90 22) = (h62 90 22) := f264.2.2.2.2.1
      have f286 : (h246 90 25) = (h62 90 25) := f264.2.2.2.2.2.1
      have f287 : (h246 90 26) = (h62 90 26) := f264.2.2.2.2.2.2.1
      have f288 : (h246 90 28) = (h62 90 28) := f264.2.2.2.2.2.2.2.1
      have f289 : (h246 90 29) = (h62 90 29) := f264.2.2.2.2.2.2.2.2.1
      have f290 : (h246 90 30) = (h62 90 30) := f264.2.2.2.2.2.2.2.2.2.1
      have f291 : (h246 90 34) = (h62 90 34) := f264.2.2.2.2.2.2.2.2.2.2.1
      have f292 : (h62 90 7) ≤ (h246 90 7) := f264.2.2.2.2.2.2.2.2.2.2.2.2.1
      have f293 : (h246 90 7) ≤ n := f264.2.2.2.2.2.2.2.2.2.2.2.2.2.1
      have f294 : (h246 90 7) = (h62 90 7) + 1 ∧ (h62 90 8) = 0 := f264.2.2.2.2.2.2.2.2.2.2.2.2.2.2.1 (by omega)
      have f295 : (h62 90 8) = 0 ∧ (h 92 ((h62 90 7))) = 3 ∧ (h 94 ((h62 90 7))) = (61 : Int) := f264.2.2.2.2.2.2.2.2.2.2.2.2.2.2.2.2.1 (by omega)
      clear f264
      refine ov_blk (ls2 := [(0, ov_r 90), (1, ov_i dep), (2, ov_i v40)]) (st2 := [ov_i dep, ov_r 90]) (pc2 := 32) b_227_30_2 rfl rfl ?_
      have cf296 : h246 92 (n) = h 92 (n) := congrFun E249 (n)
      refine ov_cV (as := [ov_i dep]) (st := []) (d2 := d - 1) d_227_32 lk_Mo_260 rfl (Nat.le_of_ble_eq_true rfl) (c := 1) (zb_90 I247) (zs_90 I247) ⟨by decide, rfl⟩ (by omega) (c_Mo_sums_90 n k HE HP (d - 1) (by omega) U I247 dep (by omega) (by show 0 ≤ n ∧ n ≤ 1000 ∧ (h246 92 (n)) = 0 ∧ (h246 90 7) ≤ n; omega) (by omega) (by show (h246 90 13) ≤ (h246 90 7); omega)) ?_
      rintro _ z314 h315 ⟨rfl, I316, f297, e298, e299, e300, e301, e302, e303, e304, e305, e306, e307, e308, e309, e310, e311, y312, y313⟩
      have E317 : h315 91 = h 91 := Eq.trans e298 E248
      have E318 : h315 92 = h 92 := Eq.trans e299 E249
      have E319 : h315 93 = h 93 := Eq.trans e300 E250
      have E320 : h315 94 = h 94 := Eq.trans e301 E251
      have E321 : h315 95 = h 95 := Eq.trans e302 E252
      have E322 : h315 96 = h 96 := Eq.trans e303 E253
      have E323 : h315 99 = h 99 := Eq.trans e304 E256
      have E324 : h315 100 = h 100 := Eq.trans e305 E257
      have E325 : h315 103 = h 103 := Eq.trans e306 E258
      have E326 : h315 104 = h 104 := Eq.trans e307 E259
      have E327 : h315 105 = h 105 := Eq.trans e308 E260
      have E328 : h315 106 = h 106 := Eq.trans e309 E261
      have E329 : h315 109 = h 109 := Eq.trans e310 E262
      have E330 : h315 114 = h 114 := Eq.trans e311 E263
      show ov_R u d ov_m227 35 [(0, ov_r 90), (1, ov_i dep), (2, ov_i v40)] [] z314 h315 (P_Mo_test_90 F z h n dep)
      have f331 : (h315 90 2) = (h246 90 2) ∧ (h315 90 20) = (h246 90 20) ∧ (h315 90 22) = (h246 90 22) ∧ (h315 90 25) = (h246 90 25) ∧ (h315 90 26) = (h246 90 26) ∧ (h315 90 28) = (h246 90 28) ∧ (h315 90 29) = (h246 90 29) ∧ (h315 90 30) = (h246 90 30) ∧ (h315 90 34) = (h246 90 34) ∧ (h246 90 7) ≤ (h315 90 7) ∧ (h315 90 7) ≤ n ∧ (h246 90 8) ≤ (h315 90 8) ∧ (h246 90 13) ≤ (h315 90 13) ∧ (h315 90 13) - (h246 90 13) ≤ (h315 90 7) - (h246 90 7) := f297
      clear f297
      rw [show h246 97 = h19 97 from E254] at y312
      rw [show h246 98 = h19 98 from E255] at y312
      have y312_ : ∀ j : Int, j < 1100 + (h246 90 13) → (h315 97) j = (h19 97) j ∧ (h315 98) j = (h19 98) j := y312
      have y313_ : (h315 90 8) = 0 → ov_sg (h315 97) (h315 98) (h246 90 13) (h315 90 13) := y313
      refine ov_blk (ls2 := [(0, ov_r 90), (1, ov_i dep), (2, ov_i v40)]) (st2 := [ov_i v40, ov_r 90]) (pc2 := 37) b_227_35_2 rfl rfl ?_
      refine ov_ifeq (tgt := 45) d_227_37 (by decide) (by omega) (fun c332 => ?_) (fun c332 => ?_)
      · skip
        have f41_ : v40 = 0 := by omega
        have f333 : ¬ ((h19 90 8) = 0 ∧ (h 92 ((h19 90 7))) = 3 ∧ (h 94 ((h19 90 7))) = (60 : Int)) := f41.2.2.2 (by omega)
        clear f41
        refine ov_blk (ls2 := [(0, ov_r 90), (1, ov_i dep), (2, ov_i v40)]) (st2 := [ov_i 0, ov_i 8, ov_r 90]) (pc2 := 48) b_227_45_2 rfl rfl ?_
        refine ov_cV (as := [ov_i 8, ov_i 0]) (st := []) (d2 := d - 1) d_227_48 lk_Mo_246 rfl (Nat.le_of_ble_eq_true rfl) (c := 1) (zb_90 I316) (zs_90 I316) ⟨by decide, rfl⟩ (by omega) (c_Mo_emit_90 (d - 1) (by omega) U I316 8 0 (by omega) (by omega) (by omega) (by show (h315 90 13) ≤ 999; omega)) ?_
        rintro _ z351 h352 ⟨rfl, I353, f334, e335, e336, e337, e338, e339, e340, e341, e342, e343, e344, e345, e346, e347, e348, y349, y350⟩
        have E354 : h352 91 = h 91 := Eq.trans e335 E317
        have E355 : h352 92 = h 92 := Eq.trans e336 E318
        have E356 : h352 93 = h 93 := Eq.trans e337 E319
        have E357 : h352 94 = h 94 := Eq.trans e338 E320
        have E358 : h352 95 = h 95 := Eq.trans e339 E321
        have E359 : h352 96 = h 96 := Eq.trans e340 E322
        have E360 : h352 99 = h 99 := Eq.trans e341 E323
        have E361 : h352 100 = h 100 := Eq.trans e342 E324
        have E362 : h352 103 = h 103 := Eq.trans e343 E325
        have E363 : h352 104 = h 104 := Eq.trans e344 E326
        have E364 : h352 105 = h 105 := Eq.trans e345 E327
        have E365 : h352 106 = h 106 := Eq.trans e346 E328
        have E366 : h352 109 = h 109 := Eq.trans e347 E329
        have E367 : h352 114 = h 114 := Eq.trans e348 E330
        show ov_R u d ov_m227 51 [(0, ov_r 90), (1, ov_i dep), (2, ov_i v40)] [] z351 h352 (P_Mo_test_90 F z h n dep)
        have f368 : (h352 90 2) = (h315 90 2) ∧ (h352 90 7) = (h315 90 7) ∧ (h352 90 8) = (h315 90 8) ∧ (h352 90 20) = (h315 90 20) ∧ (h352 90 22) = (h315 90 22) ∧ (h352 90 25) = (h315 90 25) ∧ (h352 90 26) = (h315 90 26) ∧ (h352 90 28) = (h315 90 28) ∧ (h352 90 29) = (h315 90 29) ∧ (h352 90 30) = (h315 90 30) ∧ (h352 90 34) = (h315 90 34) ∧ (h352 90 13) = (h315 90 13) + 1 := f334
        clear f334
        have y349_ : (h352 97) = ov_rs (h315 97) (1100 + (h315 90 13)) (8 : Int) := y349
        have y350_ : (h352 98) = ov_rs (h315 98) (1100 + (h315 90 13)) (0 : Int) := y350
        have K369 : ∀ j : Int, j < 1100 + (h 90 13) → h352 97 j = h 97 j ∧ h352 98 j = h 98 j := ov_kpe (ov_kp K36 y312_ (by omega)) y349_ y350_ (by omega)
        have K370 : h352 90 8 = 0 → ov_sg (h352 97) (h352 98) (h 90 13) (h352 90 13) := fun e => by have q1 := K37 (by omega); have q2 := y313_ (by omega); rw [show (h246 90 13) = (h19 90 13) by omega] at q2; have q3 := ov_sg_bin q1 (fun j hj => y312_ j (by omega)) q2 y349_ y350_ (by omega); rw [show h352 90 13 = (h315 90 13) + 1 by omega]; exact q3
        exact ov_retv (st := []) d_227_51 rfl ⟨rfl, I353, (by show (h352 90 2) = (h 90 2) ∧ (h352 90 20) = (h 90 20) ∧ (h352 90 22) = (h 90 22) ∧ (h352 90 25) = (h 90 25) ∧ (h352 90 26) = (h 90 26) ∧ (h352 90 28) = (h 90 28) ∧ (h352 90 29) = (h 90 29) ∧ (h352 90 30) = (h 90 30) ∧ (h352 90 34) = (h 90 34) ∧ (h 90 7) ≤ (h352 90 7) ∧ (h352 90 7) ≤ n ∧ (h 90 8) ≤ (h352 90 8) ∧ (h 90 13) ≤ (h352 90 13) ∧ (h352 90 13) - (h 90 13) ≤ (h352 90 7) - (h 90 7); omega), E354, E355, E356, E357, E358, E359, E360, E361, E362, E363, E364, E365, E366, E367, K369, (fun e => by have e0 : (h352 90 8) = 0 := e; show ov_sg (h352 97) (h352 98) _ (h352 90 13); rw [show (h352 90 13) = (h352 90 13) by omega]; exact K370 (by omega))⟩
      · skip
        have f41_ : v40 = 1 := by omega
        have f371 : (h19 90 7) < n := f41.2.1 (by omega)
        have f372 : (h19 90 8) = 0 ∧ (h 92 ((h19 90 7))) = 3 ∧ (h 94 ((h19 90 7))) = (60 : Int) := f41.2.2.1 (by omega)
        clear f41
        refine ov_blk (ls2 := [(0, ov_r 90), (1, ov_i dep), (2, ov_i v40)]) (st2 := [ov_i 7, ov_r 90]) (pc2 := 42) b_227_40_1 rfl rfl ?_
        refine ov_goto (tgt := 47) d_227_42 (by decide) ?_
        refine ov_blk (ls2 := [(0, ov_r 90), (1, ov_i dep), (2, ov_i v40)]) (st2 := [ov_i 0, ov_i 7, ov_r 90]) (pc2 := 48) b_227_47_1 rfl rfl ?_
        refine ov_cV (as := [ov_i 7, ov_i 0]) (st := []) (d2 := d - 1) d_227_48 lk_Mo_246 rfl (Nat.le_of_ble_eq_true rfl) (c := 1) (zb_90 I316) (zs_90 I316) ⟨by decide, rfl⟩ (by omega) (c_Mo_emit_90 (d - 1) (by omega) U I316 7 0 (by omega) (by omega) (by omega) (by show (h315 90 13) ≤ 999; omega)) ?_
        rintro _ z390 h391 ⟨rfl, I392, f373, e374, e375, e376, e377, e378, e379, e380, e381, e382, e383, e384, e385, e386, e387, y388, y389⟩
        have E393 : h391 91 = h 91 := Eq.trans e374 E317
        have E394 : h391 92 = h 92 := Eq.trans e375 E318
        have E395 : h391 93 = h 93 := Eq.trans e376 E319
        have E396 : h391 94 = h 94 := Eq.trans e377 E320
        have E397 : h391 95 = h 95 := Eq.trans e378 E321
        have E398 : h391 96 = h 96 := Eq.trans e379 E322
        have E399 : h391 99 = h 99 := Eq.trans e380 E323
        have E400 : h391 100 = h 100 := Eq.trans e381 E324
        have E401 : h391 103 = h 103 := Eq.trans e382 E325
        have E402 : h391 104 = h 104 := Eq.trans e383 E326
        have E403 : h391 105 = h 105 := Eq.trans e384 E327
        have E404 : h391 106 = h 106 := Eq.trans e385 E328
        have E405 : h391 109 = h 109 := Eq.trans e386 E329
        have E406 : h391 114 = h 114 := Eq.trans e387 E330
        show ov_R u d ov_m227 51 [(0, ov_r 90), (1, ov_i dep), (2, ov_i v40)] [] z390 h391 (P_Mo_test_90 F z h n dep)
        have f407 : (h391 90 2) = (h315 90 2) ∧ (h391 90 7) = (h315 90 7) ∧ (h391 90 8) = (h315 90 8) ∧ (h391 90 20) = (h315 90 20) ∧ (h391 90 22) = (h315 90 22) ∧ (h391 90 25) = (h315 90 25) ∧ (h391 90 26) = (h315 90 26) ∧ (h391 90 28) = (h315 90 28) ∧ (h391 90 29) = (h315 90 29) ∧ (h391 90 30) = (h315 90 30) ∧ (h391 90 34) = (h315 90 34) ∧ (h391 90 13) = (h315 90 13) + 1 := f373
        clear f373
        have y388_ : (h391 97) = ov_rs (h315 97) (1100 + (h315 90 13)) (7 : Int) := y388
        have y389_ : (h391 98) = ov_rs (h315 98) (1100 + (h315 90 13)) (0 : Int) := y389
        have K408 : ∀ j : Int, j < 1100 + (h 90 13) → h391 97 j = h 97 j ∧ h391 98 j = h 98 j := ov_kpe (ov_kp K36 y312_ (by omega)) y388_ y389_ (by omega)
        have K409 : h391 90 8 = 0 → ov_sg (h391 97) (h391 98) (h 90 13) (h391 90 13) := fun e => by have q1 := K37 (by omega); have q2 := y313_ (by omega); rw [show (h246 90 13) = (h19 90 13) by omega] at q2; have q3 := ov_sg_bin q1 (fun j hj => y312_ j (by omega)) q2 y388_ y389_ (by omega); rw [show h391 90 13 = (h315 90 13) + 1 by omega]; exact q3
        exact ov_retv (st := []) d_227_51 rfl ⟨rfl, I392, (by show (h391 90 2) = (h 90 2) ∧ (h391 90 20) = (h 90 20) ∧ (h391 90 22) = (h 90 22) ∧ (h391 90 25) = (h 90 25) ∧ (h391 90 26) = (h 90 26) ∧ (h391 90 28) = (h 90 28) ∧ (h391 90 29) = (h 90 29) ∧ (h391 90 30) = (h 90 30) ∧ (h391 90 34) = (h 90 34) ∧ (h 90 7) ≤ (h391 90 7) ∧ (h391 90 7) ≤ n ∧ (h 90 8) ≤ (h391 90 8) ∧ (h 90 13) ≤ (h391 90 13) ∧ (h391 90 13) - (h 90 13) ≤ (h391 90 7) - (h 90 7); omega), E393, E394, E395, E396, E397, E398, E399, E400, E401, E402, E403, E404, E405, E406, K408, (fun e => by have e0 : (h391 90 8) = 0 := e; show ov_sg (h391 97) (h391 98) _ (h391 90 13); rw [show (h391 90 13) = (h391 90 13) by omega]; exact K409 (by omega))⟩
set_option maxHeartbeats 4000000 in
theorem c_Mo_all_90 {u : ov_U} {F : ov_H × ov_Z} (n : Int) (k : Nat) (HE : ∀ k' : Nat, k' + 1 = k → ∀ {z : ov_Z} {h : ov_H} (d : Nat) (hd : (10 + 5 * k' + 4) ≤ d) (U : ov_cap u) (I : ov_N F z h) (dep : Int) (g_dep : ov_g dep) (p0 : 0 ≤ n ∧ n ≤ 1000 ∧ (h 92 (n)) = 0 ∧ (h 90 7) ≤ n) (p1 : 0 ≤ dep ∧ dep + (k' : Int) = 5) (p2 : (h 90 13) ≤ (h 90 7)), ov_T u d ov_m226 [ov_r 90, ov_i dep] z h (P_Mo_all_90 F z h n dep)) (HP : ∀ k' : Nat, k' + 1 = k → ∀ {z : ov_Z} {h : ov_H} (d : Nat) (hd : (10 + 5 * k' + 0) ≤ d) (U : ov_cap u) (I : ov_N F z h) (dep : Int) (g_dep : ov_g dep) (p0 : 0 ≤ n ∧ n ≤ 1000 ∧ (h 92 (n)) = 0 ∧ (h 90 7) ≤ n) (p1 : 0 ≤ dep ∧ dep + (k' : Int) = 5) (p2 : (h 90 13) ≤ (h 90 7)), ov_T u d ov_m230 [ov_r 90, ov_i dep] z h (P_Mo_takePart_90 F z h n dep)) {z : ov_Z} {h : ov_H} (d : Nat) (hd : (10 + 5 * k + 4) ≤ d) (U : ov_cap u) (I : ov_N F z h) (dep : Int) (g_dep : ov_g dep) (p0 : 0 ≤ n ∧ n ≤ 1000 ∧ (h 92 (n)) = 0 ∧ (h 90 7) ≤ n) (p1 : 0 ≤ dep ∧ dep + (k : Int) = 5) (p2 : (h 90 13) ≤ (h 90 7)) : ov_T u d ov_m226 [ov_r 90, ov_i dep] z h (P_Mo_all_90 F z h n dep) := by
  refine ov_en rfl (Nat.le_of_ble_eq_true rfl) ?_
  show ov_R u d ov_m226 0 [(0, ov_r 90), (1, ov_i dep)] [] z h (P_Mo_all_90 F z h n dep)
  have gq7 := rg_90_7 I
  refine ov_blk (ls2 := [(0, ov_r 90), (1, ov_i dep)]) (st2 := [ov_i dep, ov_r 90]) (pc2 := 2) b_226_0_2 rfl rfl ?_
  refine ov_cV (as := [ov_i dep]) (st := []) (d2 := d - 1) d_226_2 lk_Mo_257 rfl (Nat.le_of_ble_eq_true rfl) (c := 1) (zb_90 I) (zs_90 I) ⟨by decide, rfl⟩ (by omega) (c_Mo_test_90 n k HE HP (d - 1) (by omega) U I dep (by omega) (by show 0 ≤ n ∧ n ≤ 1000 ∧ (h 92 (n)) = 0 ∧ (h 90 7) ≤ n; omega) (by omega) (by show (h 90 13) ≤ (h 90 7); omega)) ?_
  rintro _ z18 h19 ⟨rfl, I20, f1, e2, e3, e4, e5, e6, e7, e8, e9, e10, e11, e12, e13, e14, e15, y16, y17⟩
  have E21 : h19 91 = h 91 := e2
  have E22 : h19 92 = h 92 := e3
  have E23 : h19 93 = h 93 := e4
  have E24 : h19 94 = h 94 := e5
  have E25 : h19 95 = h 95 := e6
  have E26 : h19 96 = h 96 := e7
  have E27 : h19 99 = h 99 := e8
  have E28 : h19 100 = h 100 := e9
  have E29 : h19 103 = h 103 := e10
  have E30 : h19 104 = h 104 := e11
  have E31 : h19 105 = h 105 := e12
  have E32 : h19 106 = h 106 := e13
  have E33 : h19 109 = h 109 := e14
  have E34 : h19 114 = h 114 := e15
  show ov_R u d ov_m226 5 [(0, ov_r 90), (1, ov_i dep)] [] z18 h19 (P_Mo_all_90 F z h n dep)
  have f35 : (h19 90 2) = (h 90 2) ∧ (h19 90 20) = (h 90 20) ∧ (h19 90 22) = (h 90 22) ∧ (h19 90 25) = (h 90 25) ∧ (h19 90 26) = (h 90 26) ∧ (h19 90 28) = (h 90 28) ∧ (h19 90 29) = (h 90 29) ∧ (h19 90 30) = (h 90 30) ∧ (h19 90 34) = (h 90 34) ∧ (h 90 7) ≤ (h19 90 7) ∧ (h19 90 7) ≤ n ∧ (h 90 8) ≤ (h19 90 8) ∧ (h 90 13) ≤ (h19 90 13) ∧ (h19 90 13) - (h 90 13) ≤ (h19 90 7) - (h 90 7) := f1
  clear f1
  have y16_ : ∀ j : Int, j < 1100 + (h 90 13) → (h19 97) j = (h 97) j ∧ (h19 98) j = (h 98) j := y16
  have y17_ : (h19 90 8) = 0 → ov_sg (h19 97) (h19 98) (h 90 13) (h19 90 13) := y17
  have K36 : ∀ j : Int, j < 1100 + (h 90 13) → h19 97 j = h 97 j ∧ h19 98 j = h 98 j := fun j hj => y16_ j (by omega)
  have K37 : h19 90 8 = 0 → ov_sg (h19 97) (h19 98) (h 90 13) (h19 90 13) := fun e => by have q := y17_ e; rw [show (h 90 13) = h 90 13 by omega] at q; exact q
  have L41 : ∀ (n38 : Nat) (z42 : ov_Z) (h43 : ov_H) (I44 : ov_N F z42 h43) (E45 : h43 91 = h 91) (E46 : h43 92 = h 92) (E47 : h43 93 = h 93) (E48 : h43 94 = h 94) (E49 : h43 95 = h 95) (E50 : h43 96 = h 96) (E51 : h43 99 = h 99) (E52 : h43 100 = h 100) (E53 : h43 103 = h 103) (E54 : h43 104 = h 104) (E55 : h43 105 = h 105) (E56 : h43 106 = h 106) (E57 : h43 109 = h 109) (E58 : h43 114 = h 114) (xa : ∀ j : Int, j < 1100 + (h 90 13) → (h43 97) j = (h 97) j ∧ (h43 98) j = (h 98) j) (xb : (h43 90 8) = 0 → ov_sg (h43 97) (h43 98) (h 90 13) (h43 90 13)) (q40 : (h 90 7) ≤ (h43 90 7) ∧ (h43 90 7) ≤ n ∧ (h 90 8) ≤ (h43 90 8) ∧ (h 90 13) ≤ (h43 90 13) ∧ (h43 90 13) - (h 90 13) ≤ (h43 90 7) - (h 90 7) ∧ (h43 90 2) = (h19 90 2) ∧ (h43 90 20) = (h19 90 20) ∧ (h43 90 22) = (h19 90 22) ∧ (h43 90 25) = (h19 90 25) ∧ (h43 90 26) = (h19 90 26) ∧ (h43 90 28) = (h19 90 28) ∧ (h43 90 29) = (h19 90 29) ∧ (h43 90 30) = (h19 90 30) ∧ (h43 90 34) = (h19 90 34)), 1000 - (h43 90 7) < (n38 : Int) → ov_R u d ov_m226 5 [(0, ov_r 90), (1, ov_i dep)] [] z42 h43 (P_Mo_all_90 F z h n dep) := by
    intro n38
    induction n38 with
    | zero =>
      intro  z42 h43 I44 E45 E46 E47 E48 E49 E50 E51 E52 E53 E54 E55 E56 E57 E58 xa xb q40 hn59
      exact absurd hn59 (by omega)
    | succ n38 ih39 =>
      intro  z42 h43 I44 E45 E46 E47 E48 E49 E50 E51 E52 E53 E54 E55 E56 E57 E58 xa xb q40 hn59
      refine ov_blk (ls2 := [(0, ov_r 90), (1, ov_i dep)]) (st2 := [ov_r 90]) (pc2 := 6) b_226_5_1 rfl rfl ?_
      refine ov_blk (ls2 := [(0, ov_r 90), (1, ov_i dep)]) (st2 := [ov_i 18, ov_r 90]) (pc2 := 8) b_226_6_1 rfl rfl ?_
      have cf60 : h43 92 (n) = h 92 (n) := congrFun E46 (n)
      refine ov_cV (as := [ov_i 18]) (st := []) (d2 := d - 1) d_226_8 lk_Mo_189 rfl (Nat.le_of_ble_eq_true rfl) (c := 1) (zb_90 I44) (zs_90 I44) ⟨by decide, rfl⟩ (by omega) (c_Mo_isWord_90 n (d - 1) (by omega) U I44 18 (by omega) (by show 0 ≤ n ∧ n ≤ 1000 ∧ (h43 92 (n)) = 0 ∧ (h43 90 7) ≤ n; omega) (by omega)) ?_
      rintro _ _ _ ⟨v62, rfl, rfl, rfl, f61⟩
      show ov_R u d ov_m226 11 [(0, ov_r 90), (1, ov_i dep)] [ov_i v62] z42 h43 (P_Mo_all_90 F z h n dep)
      rw [show h43 92 = h 92 from E46] at f61
      rw [show h43 94 = h 94 from E48] at f61
      rw [show h43 95 = h 95 from E49] at f61
      have f63 : (v62 = 0 ∨ v62 = 1) ∧ (v62 = 1 → (h43 90 7) < n) ∧ (v62 = 1 → (h43 90 8) = 0 ∧ (h 92 ((h43 90 7))) = 1 ∧ (h 94 ((h43 90 7))) = (h 95 ((18 : Int)))) ∧ (v62 = 0 → ¬ ((h43 90 8) = 0 ∧ (h 92 ((h43 90 7))) = 1 ∧ (h 94 ((h43 90 7))) = (h 95 ((18 : Int))))) := f61
      clear f61
      refine ov_ifne (tgt := 23) d_226_11 (by decide) (by omega) (fun c64 => ?_) (fun c64 => ?_)
      · skip
        have f63_ : v62 = 1 := by omega
        have f65 : (h43 90 7) < n := f63.2.1 (by omega)
        have f66 : (h43 90 8) = 0 ∧ (h 92 ((h43 90 7))) = 1 ∧ (h 94 ((h43 90 7))) = (h 95 ((18 : Int))) := f63.2.2.1 (by omega)
        clear f63
        refine ov_blk (ls2 := [(0, ov_r 90), (1, ov_i dep)]) (st2 := [ov_i 18, ov_r 90]) (pc2 := 26) b_226_23_2 rfl rfl ?_
        have cf67 : h43 92 (n) = h 92 (n) := congrFun E46 (n)
        refine ov_cV (as := [ov_i 18]) (st := []) (d2 := d - 1) d_226_26 lk_Mo_189 rfl (Nat.le_of_ble_eq_true rfl) (c := 1) (zb_90 I44) (zs_90 I44) ⟨by decide, rfl⟩ (by omega) (c_Mo_isWord_90 n (d - 1) (by omega) U I44 18 (by omega) (by show 0 ≤ n ∧ n ≤ 1000 ∧ (h43 92 (n)) = 0 ∧ (h43 90 7) ≤ n; omega) (by omega)) ?_
        rintro _ _ _ ⟨v69, rfl, rfl, rfl, f68⟩
        show ov_R u d ov_m226 29 [(0, ov_r 90), (1, ov_i dep)] [ov_i v69] z42 h43 (P_Mo_all_90 F z h n dep)
        rw [show h43 92 = h 92 from E46] at f68
        rw [show h43 94 = h 94 from E48] at f68
        rw [show h43 95 = h 95 from E49] at f68
        have f70 : (v69 = 0 ∨ v69 = 1) ∧ (v69 = 1 → (h43 90 7) < n) ∧ (v69 = 1 → (h43 90 8) = 0 ∧ (h 92 ((h43 90 7))) = 1 ∧ (h 94 ((h43 90 7))) = (h 95 ((18 : Int)))) ∧ (v69 = 0 → ¬ ((h43 90 8) = 0 ∧ (h 92 ((h43 90 7))) = 1 ∧ (h 94 ((h43 90 7))) = (h 95 ((18 : Int))))) := f68
        clear f68
        refine ov_blk (ls2 := [(0, ov_r 90), (1, ov_i dep), (2, ov_i v69)]) (st2 := [ov_r 90, ov_r 90]) (pc2 := 32) b_226_29_3 rfl rfl ?_
        refine ov_getf (v := ov_i (h43 90 7)) d_226_32 fl_Mo_177 (zb_90 I44) (zs_90 I44) rfl ?_
        have g71 := rg_90_7 I44
        refine ov_blk (ls2 := [(0, ov_r 90), (1, ov_i dep), (2, ov_i v69)]) (st2 := [ov_i ((h43 90 7) + 1), ov_r 90]) (pc2 := 37) b_226_35_2 rfl rfl ?_
        refine ov_putf (x := ((h43 90 7) + 1)) d_226_37 fl_Mo_177 (zb_90 I44) (zs_90 I44) rfl nk_0 rfl ?_
        have I72 := up_90_7 (x := ((h43 90 7) + 1)) I44 (by omega)
        refine ov_blk (ls2 := [(0, ov_r 90), (1, ov_i dep), (2, ov_i v69)]) (st2 := [ov_i dep, ov_r 90]) (pc2 := 42) b_226_40_2 rfl rfl ?_
        have cf73 : h43 92 (n) = h 92 (n) := congrFun E46 (n)
        refine ov_cV (as := [ov_i dep]) (st := []) (d2 := d - 1) d_226_42 lk_Mo_257 rfl (Nat.le_of_ble_eq_true rfl) (c := 1) (zb_90 I72) (zs_90 I72) ⟨by decide, rfl⟩ (by omega) (c_Mo_test_90 n k HE HP (d - 1) (by omega) U I72 dep (by omega) (by show 0 ≤ n ∧ n ≤ 1000 ∧ (h43 92 (n)) = 0 ∧ ((h43 90 7) + 1) ≤ n; omega) (by omega) (by show (h43 90 13) ≤ ((h43 90 7) + 1); omega)) ?_
        rintro _ z91 h92 ⟨rfl, I93, f74, e75, e76, e77, e78, e79, e80, e81, e82, e83, e84, e85, e86, e87, e88, y89, y90⟩
        have E94 : h92 91 = h 91 := Eq.trans e75 E45
        have E95 : h92 92 = h 92 := Eq.trans e76 E46
        have E96 : h92 93 = h 93 := Eq.trans e77 E47
        have E97 : h92 94 = h 94 := Eq.trans e78 E48
        have E98 : h92 95 = h 95 := Eq.trans e79 E49
        have E99 : h92 96 = h 96 := Eq.trans e80 E50
        have E100 : h92 99 = h 99 := Eq.trans e81 E51
        have E101 : h92 100 = h 100 := Eq.trans e82 E52
        have E102 : h92 103 = h 103 := Eq.trans e83 E53
        have E103 : h92 104 = h 104 := Eq.trans e84 E54
        have E104 : h92 105 = h 105 := Eq.trans e85 E55
        have E105 : h92 106 = h 106 := Eq.trans e86 E56
        have E106 : h92 109 = h 109 := Eq.trans e87 E57
        have E107 : h92 114 = h 114 := Eq.trans e88 E58
        show ov_R u d ov_m226 45 [(0, ov_r 90), (1, ov_i dep), (2, ov_i v69)] [] z91 h92 (P_Mo_all_90 F z h n dep)
        have f108 : (h92 90 2) = (h43 90 2) ∧ (h92 90 20) = (h43 90 20) ∧ (h92 90 22) = (h43 90 22) ∧ (h92 90 25) = (h43 90 25) ∧ (h92 90 26) = (h43 90 26) ∧ (h92 90 28) = (h43 90 28) ∧ (h92 90 29) = (h43 90 29) ∧ (h92 90 30) = (h43 90 30) ∧ (h92 90 34) = (h43 90 34) ∧ ((h43 90 7) + 1) ≤ (h92 90 7) ∧ (h92 90 7) ≤ n ∧ (h43 90 8) ≤ (h92 90 8) ∧ (h43 90 13) ≤ (h92 90 13) ∧ (h92 90 13) - (h43 90 13) ≤ (h92 90 7) - ((h43 90 7) + 1) := f74
        clear f74
        have y89_ : ∀ j : Int, j < 1100 + (h43 90 13) → (h92 97) j = (h43 97) j ∧ (h92 98) j = (h43 98) j := y89
        have y90_ : (h92 90 8) = 0 → ov_sg (h92 97) (h92 98) (h43 90 13) (h92 90 13) := y90
        refine ov_blk (ls2 := [(0, ov_r 90), (1, ov_i dep), (2, ov_i v69)]) (st2 := [ov_i v69, ov_r 90]) (pc2 := 47) b_226_45_2 rfl rfl ?_
        refine ov_ifeq (tgt := 55) d_226_47 (by decide) (by omega) (fun c109 => ?_) (fun c109 => ?_)
        · skip
          have f70_ : v69 = 0 := by omega
          have f110 : ¬ ((h43 90 8) = 0 ∧ (h 92 ((h43 90 7))) = 1 ∧ (h 94 ((h43 90 7))) = (h 95 ((18 : Int)))) := f70.2.2.2 (by omega)
          clear f70
          refine ov_blk (ls2 := [(0, ov_r 90), (1, ov_i dep), (2, ov_i v69)]) (st2 := [ov_i 0, ov_i 10, ov_r 90]) (pc2 := 58) b_226_55_2 rfl rfl ?_
          refine ov_cV (as := [ov_i 10, ov_i 0]) (st := []) (d2 := d - 1) d_226_58 lk_Mo_246 rfl (Nat.le_of_ble_eq_true rfl) (c := 1) (zb_90 I93) (zs_90 I93) ⟨by decide, rfl⟩ (by omega) (c_Mo_emit_90 (d - 1) (by omega) U I93 10 0 (by omega) (by omega) (by omega) (by show (h92 90 13) ≤ 999; omega)) ?_
          rintro _ z128 h129 ⟨rfl, I130, f111, e112, e113, e114, e115, e116, e117, e118, e119, e120, e121, e122, e123, e124, e125, y126, y127⟩
          have E131 : h129 91 = h 91 := Eq.trans e112 E94
          have E132 : h129 92 = h 92 := Eq.trans e113 E95
          have E133 : h129 93 = h 93 := Eq.trans e114 E96
          have E134 : h129 94 = h 94 := Eq.trans e115 E97
          have E135 : h129 95 = h 95 := Eq.trans e116 E98
          have E136 : h129 96 = h 96 := Eq.trans e117 E99
          have E137 : h129 99 = h 99 := Eq.trans e118 E100
          have E138 : h129 100 = h 100 := Eq.trans e119 E101
          have E139 : h129 103 = h 103 := Eq.trans e120 E102
          have E140 : h129 104 = h 104 := Eq.trans e121 E103
          have E141 : h129 105 = h 105 := Eq.trans e122 E104
          have E142 : h129 106 = h 106 := Eq.trans e123 E105
          have E143 : h129 109 = h 109 := Eq.trans e124 E106
          have E144 : h129 114 = h 114 := Eq.trans e125 E107
          show ov_R u d ov_m226 61 [(0, ov_r 90), (1, ov_i dep), (2, ov_i v69)] [] z128 h129 (P_Mo_all_90 F z h n dep)
          have f145 : (h129 90 2) = (h92 90 2) ∧ (h129 90 7) = (h92 90 7) ∧ (h129 90 8) = (h92 90 8) ∧ (h129 90 20) = (h92 90 20) ∧ (h129 90 22) = (h92 90 22) ∧ (h129 90 25) = (h92 90 25) ∧ (h129 90 26) = (h92 90 26) ∧ (h129 90 28) = (h92 90 28) ∧ (h129 90 29) = (h92 90 29) ∧ (h129 90 30) = (h92 90 30) ∧ (h129 90 34) = (h92 90 34) ∧ (h129 90 13) = (h92 90 13) + 1 := f111
          clear f111
          have y126_ : (h129 97) = ov_rs (h92 97) (1100 + (h92 90 13)) (10 : Int) := y126
          have y127_ : (h129 98) = ov_rs (h92 98) (1100 + (h92 90 13)) (0 : Int) := y127
          have K146 : ∀ j : Int, j < 1100 + (h 90 13) → h129 97 j = h 97 j ∧ h129 98 j = h 98 j := ov_kpe (ov_kp xa y89_ (by omega)) y126_ y127_ (by omega)
          have K147 : h129 90 8 = 0 → ov_sg (h129 97) (h129 98) (h 90 13) (h129 90 13) := fun e => by have q1 := xb (by omega); have q2 := y90_ (by omega); rw [show (h43 90 13) = (h43 90 13) by omega] at q2; have q3 := ov_sg_bin q1 (fun j hj => y89_ j (by omega)) q2 y126_ y127_ (by omega); rw [show h129 90 13 = (h92 90 13) + 1 by omega]; exact q3
          refine ov_goto (tgt := 5) d_226_61 (by decide) ?_
          refine ov_sub (ls2 := [(0, ov_r 90), (1, ov_i dep)]) (List.Sublist.subset (by repeat (first | exact List.Sublist.refl _ | apply List.Sublist.cons_cons | apply List.Sublist.cons))) ?_
          exact ih39  _ _ I130 E131 E132 E133 E134 E135 E136 E137 E138 E139 E140 E141 E142 E143 E144 K146 K147 (by show (h 90 7) ≤ (h129 90 7) ∧ (h129 90 7) ≤ n ∧ (h 90 8) ≤ (h129 90 8) ∧ (h 90 13) ≤ (h129 90 13) ∧ (h129 90 13) - (h 90 13) ≤ (h129 90 7) - (h 90 7) ∧ (h129 90 2) = (h19 90 2) ∧ (h129 90 20) = (h19 90 20) ∧ (h129 90 22) = (h19 90 22) ∧ (h129 90 25) = (h19 90 25) ∧ (h129 90 26) = (h19 90 26) ∧ (h129 90 28) = (h19 90 28) ∧ (h129 90 29) = (h19 90 29) ∧ (h129 90 30) = (h19 90 30) ∧ (h129 90 34) = (h19 90 34); omega) (by omega)
        · skip
          have f70_ : v69 = 1 := by omega
          have f148 : (h43 90 7) < n := f70.2.1 (by omega)
          have f149 : (h43 90 8) = 0 ∧ (h 92 ((h43 90 7))) = 1 ∧ (h 94 ((h43 90 7))) = (h 95 ((18 : Int))) := f70.2.2.1 (by omega)
          clear f70
          refine ov_blk (ls2 := [(0, ov_r 90), (1, ov_i dep), (2, ov_i v69)]) (st2 := [ov_i 9, ov_r 90]) (pc2 := 52) b_226_50_1 rfl rfl ?_
          refine ov_goto (tgt := 57) d_226_52 (by decide) ?_
          refine ov_blk (ls2 := [(0, ov_r 90), (1, ov_i dep), (2, ov_i v69)]) (st2 := [ov_i 0, ov_i 9, ov_r 90]) (pc2 := 58) b_226_57_1 rfl rfl ?_
          refine ov_cV (as := [ov_i 9, ov_i 0]) (st := []) (d2 := d - 1) d_226_58 lk_Mo_246 rfl (Nat.le_of_ble_eq_true rfl) (c := 1) (zb_90 I93) (zs_90 I93) ⟨by decide, rfl⟩ (by omega) (c_Mo_emit_90 (d - 1) (by omega) U I93 9 0 (by omega) (by omega) (by omega) (by show (h92 90 13) ≤ 999; omega)) ?_
          rintro _ z167 h168 ⟨rfl, I169, f150, e151, e152, e153, e154, e155, e156, e157, e158, e159, e160, e161, e162, e163, e164, y165, y166⟩
          have E170 : h168 91 = h 91 := Eq.trans e151 E94
          have E171 : h168 92 = h 92 := Eq.trans e152 E95
          have E172 : h168 93 = h 93 := Eq.trans e153 E96
          have E173 : h168 94 = h 94 := Eq.trans e154 E97
          have E174 : h168 95 = h 95 := Eq.trans e155 E98
          have E175 : h168 96 = h 96 := Eq.trans e156 E99
          have E176 : h168 99 = h 99 := Eq.trans e157 E100
          have E177 : h168 100 = h 100 := Eq.trans e158 E101
          have E178 : h168 103 = h 103 := Eq.trans e159 E102
          have E179 : h168 104 = h 104 := Eq.trans e160 E103
          have E180 : h168 105 = h 105 := Eq.trans e161 E104
          have E181 : h168 106 = h 106 := Eq.trans e162 E105
          have E182 : h168 109 = h 109 := Eq.trans e163 E106
          have E183 : h168 114 = h 114 := Eq.trans e164 E107
          show ov_R u d ov_m226 61 [(0, ov_r 90), (1, ov_i dep), (2, ov_i v69)] [] z167 h168 (P_Mo_all_90 F z h n dep)
          have f184 : (h168 90 2) = (h92 90 2) ∧ (h168 90 7) = (h92 90 7) ∧ (h168 90 8) = (h92 90 8) ∧ (h168 90 20) = (h92 90 20) ∧ (h168 90 22) = (h92 90 22) ∧ (h168 90 25) = (h92 90 25) ∧ (h168 90 26) = (h92 90 26) ∧ (h168 90 28) = (h92 90 28) ∧ (h168 90 29) = (h92 90 29) ∧ (h168 90 30) = (h92 90 30) ∧ (h168 90 34) = (h92 90 34) ∧ (h168 90 13) = (h92 90 13) + 1 := f150
          clear f150
          have y165_ : (h168 97) = ov_rs (h92 97) (1100 + (h92 90 13)) (9 : Int) := y165
          have y166_ : (h168 98) = ov_rs (h92 98) (1100 + (h92 90 13)) (0 : Int) := y166
          have K185 : ∀ j : Int, j < 1100 + (h 90 13) → h168 97 j = h 97 j ∧ h168 98 j = h 98 j := ov_kpe (ov_kp xa y89_ (by omega)) y165_ y166_ (by omega)
          have K186 : h168 90 8 = 0 → ov_sg (h168 97) (h168 98) (h 90 13) (h168 90 13) := fun e => by have q1 := xb (by omega); have q2 := y90_ (by omega); rw [show (h43 90 13) = (h43 90 13) by omega] at q2; have q3 := ov_sg_bin q1 (fun j hj => y89_ j (by omega)) q2 y165_ y166_ (by omega); rw [show h168 90 13 = (h92 90 13) + 1 by omega]; exact q3
          refine ov_goto (tgt := 5) d_226_61 (by decide) ?_
          refine ov_sub (ls2 := [(0, ov_r 90), (1, ov_i dep)]) (List.Sublist.subset (by repeat (first | exact List.Sublist.refl _ | apply List.Sublist.cons_cons | apply List.Sublist.cons))) ?_
          exact ih39  _ _ I169 E170 E171 E172 E173 E174 E175 E176 E177 E178 E179 E180 E181 E182 E183 K185 K186 (by show (h 90 7) ≤ (h168 90 7) ∧ (h168 90 7) ≤ n ∧ (h 90 8) ≤ (h168 90 8) ∧ (h 90 13) ≤ (h168 90 13) ∧ (h168 90 13) - (h 90 13) ≤ (h168 90 7) - (h 90 7) ∧ (h168 90 2) = (h19 90 2) ∧ (h168 90 20) = (h19 90 20) ∧ (h168 90 22) = (h19 90 22) ∧ (h168 90 25) = (h19 90 25) ∧ (h168 90 26) = (h19 90 26) ∧ (h168 90 28) = (h19 90 28) ∧ (h168 90 29) = (h19 90 29) ∧ (h168 90 30) = (h19 90 30) ∧ (h168 90 34) = (h19 90 34); omega) (by omega)
      · skip
        have f63_ : v62 = 0 := by omega
        have f187 : ¬ ((h43 90 8) = 0 ∧ (h 92 ((h43 90 7))) = 1 ∧ (h 94 ((h43 90 7))) = (h 95 ((18 : Int)))) := f63.2.2.2 (by omega)
        clear f63
        refine ov_blk (ls2 := [(0, ov_r 90), (1, ov_i dep)]) (st2 := [ov_i 19, ov_r 90]) (pc2 := 17) b_226_14_2 rfl rfl ?_
        have cf188 : h43 92 (n) = h 92 (n) := congrFun E46 (n)
        refine ov_cV (as := [ov_i 19]) (st := []) (d2 := d - 1) d_226_17 lk_Mo_189 rfl (Nat.le_of_ble_eq_true rfl) (c := 1) (zb_90 I44) (zs_90 I44) ⟨by decide, rfl⟩ (by omega) (c_Mo_isWord_90 n (d - 1) (by omega) U I44 19 (by omega) (by show 0 ≤ n ∧ n ≤ 1000 ∧ (h43 92 (n)) = 0 ∧ (h43 90 7) ≤ n; omega) (by omega)) ?_
        rintro _ _ _ ⟨v190, rfl, rfl, rfl, f189⟩
        show ov_R u d ov_m226 20 [(0, ov_r 90), (1, ov_i dep)] [ov_i v190] z42 h43 (P_Mo_all_90 F z h n dep)
        rw [show h43 92 = h 92 from E46] at f189
        rw [show h43 94 = h 94 from E48] at f189
        rw [show h43 95 = h 95 from E49] at f189
        have f191 : (v190 = 0 ∨ v190 = 1) ∧ (v190 = 1 → (h43 90 7) < n) ∧ (v190 = 1 → (h43 90 8) = 0 ∧ (h 92 ((h43 90 7))) = 1 ∧ (h 94 ((h43 90 7))) = (h 95 ((19 : Int)))) ∧ (v190 = 0 → ¬ ((h43 90 8) = 0 ∧ (h 92 ((h43 90 7))) = 1 ∧ (h 94 ((h43 90 7))) = (h 95 ((19 : Int))))) := f189
        clear f189
        refine ov_ifeq (tgt := 64) d_226_20 (by decide) (by omega) (fun c192 => ?_) (fun c192 => ?_)
        · skip
          have f191_ : v190 = 0 := by omega
          have f193 : ¬ ((h43 90 8) = 0 ∧ (h 92 ((h43 90 7))) = 1 ∧ (h 94 ((h43 90 7))) = (h 95 ((19 : Int)))) := f191.2.2.2 (by omega)
          clear f191
          exact ov_retv (st := []) d_226_64 rfl ⟨rfl, I44, (by show (h43 90 2) = (h 90 2) ∧ (h43 90 20) = (h 90 20) ∧ (h43 90 22) = (h 90 22) ∧ (h43 90 25) = (h 90 25) ∧ (h43 90 26) = (h 90 26) ∧ (h43 90 28) = (h 90 28) ∧ (h43 90 29) = (h 90 29) ∧ (h43 90 30) = (h 90 30) ∧ (h43 90 34) = (h 90 34) ∧ (h 90 7) ≤ (h43 90 7) ∧ (h43 90 7) ≤ n ∧ (h 90 8) ≤ (h43 90 8) ∧ (h 90 13) ≤ (h43 90 13) ∧ (h43 90 13) - (h 90 13) ≤ (h43 90 7) - (h 90 7); omega), E45, E46, E47, E48, E49, E50, E51, E52, E53, E54, E55, E56, E57, E58, xa, (fun e => by have e0 : (h43 90 8) = 0 := e; show ov_sg (h43 97) (h43 98) _ (h43 90 13); rw [show (h43 90 13) = (h43 90 13) by omega]; exact xb (by omega))⟩
        · skip
          have f191_ : v190 = 1 := by omega
          have f194 : (h43 90 7) < n := f191.2.1 (by omega)
          have f195 : (h43 90 8) = 0 ∧ (h 92 ((h43 90 7))) = 1 ∧ (h 94 ((h43 90 7))) = (h 95 ((19 : Int))) := f191.2.2.1 (by omega)
          clear f191
          refine ov_blk (ls2 := [(0, ov_r 90), (1, ov_i dep)]) (st2 := [ov_i 18, ov_r 90]) (pc2 := 26) b_226_23_2 rfl rfl ?_
          have cf196 : h43 92 (n) = h 92 (n) := congrFun E46 (n)
          refine ov_cV (as := [ov_i 18]) (st := []) (d2 := d - 1) d_226_26 lk_Mo_189 rfl (Nat.le_of_ble_eq_true rfl) (c := 1) (zb_90 I44) (zs_90 I44) ⟨by decide, rfl⟩ (by omega) (c_Mo_isWord_90 n (d - 1) (by omega) U I44 18 (by omega) (by show 0 ≤ n ∧ n ≤ 1000 ∧ (h43 92 (n)) = 0 ∧ (h43 90 7) ≤ n; omega) (by omega)) ?_
          rintro _ _ _ ⟨v198, rfl, rfl, rfl, f197⟩
          show ov_R u d ov_m226 29 [(0, ov_r 90), (1, ov_i dep)] [ov_i v198] z42 h43 (P_Mo_all_90 F z h n dep)
          rw [show h43 92 = h 92 from E46] at f197
          rw [show h43 94 = h 94 from E48] at f197
          rw [show h43 95 = h 95 from E49] at f197
          have f199 : (v198 = 0 ∨ v198 = 1) ∧ (v198 = 1 → (h43 90 7) < n) ∧ (v198 = 1 → (h43 90 8) = 0 ∧ (h 92 ((h43 90 7))) = 1 ∧ (h 94 ((h43 90 7))) = (h 95 ((18 : Int)))) ∧ (v198 = 0 → ¬ ((h43 90 8) = 0 ∧ (h 92 ((h43 90 7))) = 1 ∧ (h 94 ((h43 90 7))) = (h 95 ((18 : Int))))) := f197
          clear f197
          refine ov_blk (ls2 := [(0, ov_r 90), (1, ov_i dep), (2, ov_i v198)]) (st2 := [ov_r 90, ov_r 90]) (pc2 := 32) b_226_29_3 rfl rfl ?_
          refine ov_getf (v := ov_i (h43 90 7)) d_226_32 fl_Mo_177 (zb_90 I44) (zs_90 I44) rfl ?_
          have g200 := rg_90_7 I44
          refine ov_blk (ls2 := [(0, ov_r 90), (1, ov_i dep), (2, ov_i v198)]) (st2 := [ov_i ((h43 90 7) + 1), ov_r 90]) (pc2 := 37) b_226_35_2 rfl rfl ?_
          refine ov_putf (x := ((h43 90 7) + 1)) d_226_37 fl_Mo_177 (zb_90 I44) (zs_90 I44) rfl nk_0 rfl ?_
          have I201 := up_90_7 (x := ((h43 90 7) + 1)) I44 (by omega)
          refine ov_blk (ls2 := [(0, ov_r 90), (1, ov_i dep), (2, ov_i v198)]) (st2 := [ov_i dep, ov_r 90]) (pc2 := 42) b_226_40_2 rfl rfl ?_
          have cf202 : h43 92 (n) = h 92 (n) := congrFun E46 (n)
          refine ov_cV (as := [ov_i dep]) (st := []) (d2 := d - 1) d_226_42 lk_Mo_257 rfl (Nat.le_of_ble_eq_true rfl) (c := 1) (zb_90 I201) (zs_90 I201) ⟨by decide, rfl⟩ (by omega) (c_Mo_test_90 n k HE HP (d - 1) (by omega) U I201 dep (by omega) (by show 0 ≤ n ∧ n ≤ 1000 ∧ (h43 92 (n)) = 0 ∧ ((h43 90 7) + 1) ≤ n; omega) (by omega) (by show (h43 90 13) ≤ ((h43 90 7) + 1); omega)) ?_
          rintro _ z220 h221 ⟨rfl, I222, f203, e204, e205, e206, e207, e208, e209, e210, e211, e212, e213, e214, e215, e216, e217, y218, y219⟩
          have E223 : h221 91 = h 91 := Eq.trans e204 E45
          have E224 : h221 92 = h 92 := Eq.trans e205 E46
          have E225 : h221 93 = h 93 := Eq.trans e206 E47
          have E226 : h221 94 = h 94 := Eq.trans e207 E48
          have E227 : h221 95 = h 95 := Eq.trans e208 E49
          have E228 : h221 96 = h 96 := Eq.trans e209 E50
          have E229 : h221 99 = h 99 := Eq.trans e210 E51
          have E230 : h221 100 = h 100 := Eq.trans e211 E52
          have E231 : h221 103 = h 103 := Eq.trans e212 E53
          have E232 : h221 104 = h 104 := Eq.trans e213 E54
          have E233 : h221 105 = h 105 := Eq.trans e214 E55
          have E234 : h221 106 = h 106 := Eq.trans e215 E56
          have E235 : h221 109 = h 109 := Eq.trans e216 E57
          have E236 : h221 114 = h 114 := Eq.trans e217 E58
          show ov_R u d ov_m226 45 [(0, ov_r 90), (1, ov_i dep), (2, ov_i v198)] [] z220 h221 (P_Mo_all_90 F z h n dep)
          have f237 : (h221 90 2) = (h43 90 2) ∧ (h221 90 20) = (h43 90 20) ∧ (h221 90 22) = (h43 90 22) ∧ (h221 90 25) = (h43 90 25) ∧ (h221 90 26) = (h43 90 26) ∧ (h221 90 28) = (h43 90 28) ∧ (h221 90 29) = (h43 90 29) ∧ (h221 90 30) = (h43 90 30) ∧ (h221 90 34) = (h43 90 34) ∧ ((h43 90 7) + 1) ≤ (h221 90 7) ∧ (h221 90 7) ≤ n ∧ (h43 90 8) ≤ (h221 90 8) ∧ (h43 90 13) ≤ (h221 90 13) ∧ (h221 90 13) - (h43 90 13) ≤ (h221 90 7) - ((h43 90 7) + 1) := f203
          clear f203
          have y218_ : ∀ j : Int, j < 1100 + (h43 90 13) → (h221 97) j = (h43 97) j ∧ (h221 98) j = (h43 98) j := y218
          have y219_ : (h221 90 8) = 0 → ov_sg (h221 97) (h221 98) (h43 90 13) (h221 90 13) := y219
          refine ov_blk (ls2 := [(0, ov_r 90), (1, ov_i dep), (2, ov_i v198)]) (st2 := [ov_i v198, ov_r 90]) (pc2 := 47) b_226_45_2 rfl rfl ?_
          refine ov_ifeq (tgt := 55) d_226_47 (by decide) (by omega) (fun c238 => ?_) (fun c238 => ?_)
          · skip
            have f199_ : v198 = 0 := by omega
            have f239 : ¬ ((h43 90 8) = 0 ∧ (h 92 ((h43 90 7))) = 1 ∧ (h 94 ((h43 90 7))) = (h 95 ((18 : Int)))) := f199.2.2.2 (by omega)
            clear f199
            refine ov_blk (ls2 := [(0, ov_r 90), (1, ov_i dep), (2, ov_i v198)]) (st2 := [ov_i 0, ov_i 10, ov_r 90]) (pc2 := 58) b_226_55_2 rfl rfl ?_
            refine ov_cV (as := [ov_i 10, ov_i 0]) (st := []) (d2 := d - 1) d_226_58 lk_Mo_246 rfl (Nat.le_of_ble_eq_true rfl) (c := 1) (zb_90 I222) (zs_90 I222) ⟨by decide, rfl⟩ (by omega) (c_Mo_emit_90 (d - 1) (by omega) U I222 10 0 (by omega) (by omega) (by omega) (by show (h221 90 13) ≤ 999; omega)) ?_
            rintro _ z257 h258 ⟨rfl, I259, f240, e241, e242, e243, e244, e245, e246, e247, e248, e249, e250, e251, e252, e253, e254, y255, y256⟩
            have E260 : h258 91 = h 91 := Eq.trans e241 E223
            have E261 : h258 92 = h 92 := Eq.trans e242 E224
            have E262 : h258 93 = h 93 := Eq.trans e243 E225
            have E263 : h258 94 = h 94 := Eq.trans e244 E226
            have E264 : h258 95 = h 95 := Eq.trans e245 E227
            have E265 : h258 96 = h 96 := Eq.trans e246 E228
            have E266 : h258 99 = h 99 := Eq.trans e247 E229
            have E267 : h258 100 = h 100 := Eq.trans e248 E230
            have E268 : h258 103 = h 103 := Eq.trans e249 E231
            have E269 : h258 104 = h 104 := Eq.trans e250 E232
            have E270 : h258 105 = h 105 := Eq.trans e251 E233
            have E271 : h258 106 = h 106 := Eq.trans e252 E234
            have E272 : h258 109 = h 109 := Eq.trans e253 E235
            have E273 : h258 114 = h 114 := Eq.trans e254 E236
            show ov_R u d ov_m226 61 [(0, ov_r 90), (1, ov_i dep), (2, ov_i v198)] [] z257 h258 (P_Mo_all_90 F z h n dep)
            have f274 : (h258 90 2) = (h221 90 2) ∧ (h258 90 7) = (h221 90 7) ∧ (h258 90 8) = (h221 90 8) ∧ (h258 90 20) = (h221 90 20) ∧ (h258 90 22) = (h221 90 22) ∧ (h258 90 25) = (h221 90 25) ∧ (h258 90 26) = (h221 90 26) ∧ (h258 90 28) = (h221 90 28) ∧ (h258 90 29) = (h221 90 29) ∧ (h258 90 30) = (h221 90 30) ∧ (h258 90 34) = (h221 90 34) ∧ (h258 90 13) = (h221 90 13) + 1 := f240
            clear f240
            have y255_ : (h258 97) = ov_rs (h221 97) (1100 + (h221 90 13)) (10 : Int) := y255
            have y256_ : (h258 98) = ov_rs (h221 98) (1100 + (h221 90 13)) (0 : Int) := y256
            have K275 : ∀ j : Int, j < 1100 + (h 90 13) → h258 97 j = h 97 j ∧ h258 98 j = h 98 j := ov_kpe (ov_kp xa y218_ (by omega)) y255_ y256_ (by omega)
            have K276 : h258 90 8 = 0 → ov_sg (h258 97) (h258 98) (h 90 13) (h258 90 13) := fun e => by have q1 := xb (by omega); have q2 := y219_ (by omega); rw [show (h43 90 13) = (h43 90 13) by omega] at q2; have q3 := ov_sg_bin q1 (fun j hj => y218_ j (by omega)) q2 y255_ y256_ (by omega); rw [show h258 90 13 = (h221 90 13) + 1 by omega]; exact q3
            refine ov_goto (tgt := 5) d_226_61 (by decide) ?_
            refine ov_sub (ls2 := [(0, ov_r 90), (1, ov_i dep)]) (List.Sublist.subset (by repeat (first | exact List.Sublist.refl _ | apply List.Sublist.cons_cons | apply List.Sublist.cons))) ?_
            exact ih39  _ _ I259 E260 E261 E262 E263 E264 E265 E266 E267 E268 E269 E270 E271 E272 E273 K275 K276 (by show (h 90 7) ≤ (h258 90 7) ∧ (h258 90 7) ≤ n ∧ (h 90 8) ≤ (h258 90 8) ∧ (h 90 13) ≤ (h258 90 13) ∧ (h258 90 13) - (h 90 13) ≤ (h258 90 7) - (h 90 7) ∧ (h258 90 2) = (h19 90 2) ∧ (h258 90 20) = (h19 90 20) ∧ (h258 90 22) = (h19 90 22) ∧ (h258 90 25) = (h19 90 25) ∧ (h258 90 26) = (h19 90 26) ∧ (h258 90 28) = (h19 90 28) ∧ (h258 90 29) = (h19 90 29) ∧ (h258 90 30) = (h19 90 30) ∧ (h258 90 34) = (h19 90 34); omega) (by omega)
          · skip
            have f199_ : v198 = 1 := by omega
            have f277 : (h43 90 7) < n := f199.2.1 (by omega)
            have f278 : (h43 90 8) = 0 ∧ (h 92 ((h43 90 7))) = 1 ∧ (h 94 ((h43 90 7))) = (h 95 ((18 : Int))) := f199.2.2.1 (by omega)
            clear f199
            refine ov_blk (ls2 := [(0, ov_r 90), (1, ov_i dep), (2, ov_i v198)]) (st2 := [ov_i 9, ov_r 90]) (pc2 := 52) b_226_50_1 rfl rfl ?_
            refine ov_goto (tgt := 57) d_226_52 (by decide) ?_
            refine ov_blk (ls2 := [(0, ov_r 90), (1, ov_i dep), (2, ov_i v198)]) (st2 := [ov_i 0, ov_i 9, ov_r 90]) (pc2 := 58) b_226_57_1 rfl rfl ?_
            refine ov_cV (as := [ov_i 9, ov_i 0]) (st := []) (d2 := d - 1) d_226_58 lk_Mo_246 rfl (Nat.le_of_ble_eq_true rfl) (c := 1) (zb_90 I222) (zs_90 I222) ⟨by decide, rfl⟩ (by omega) (c_Mo_emit_90 (d - 1) (by omega) U I222 9 0 (by omega) (by omega) (by omega) (by show (h221 90 13) ≤ 999; omega)) ?_
            rintro _ z296 h297 ⟨rfl, I298, f279, e280, e281, e282, e283, e284, e285, e286, e287, e288, e289, e290, e291, e292, e293, y294, y295⟩
            have E299 : h297 91 = h 91 := Eq.trans e280 E223
            have E300 : h297 92 = h 92 := Eq.trans e281 E224
            have E301 : h297 93 = h 93 := Eq.trans e282 E225
            have E302 : h297 94 = h 94 := Eq.trans e283 E226
            have E303 : h297 95 = h 95 := Eq.trans e284 E227
            have E304 : h297 96 = h 96 := Eq.trans e285 E228
            have E305 : h297 99 = h 99 := Eq.trans e286 E229
            have E306 : h297 100 = h 100 := Eq.trans e287 E230
            have E307 : h297 103 = h 103 := Eq.trans e288 E231
            have E308 : h297 104 = h 104 := Eq.trans e289 E232
            have E309 : h297 105 = h 105 := Eq.trans e290 E233
            have E310 : h297 106 = h 106 := Eq.trans e291 E234
            have E311 : h297 109 = h 109 := Eq.trans e292 E235
            have E312 : h297 114 = h 114 := Eq.trans e293 E236
            show ov_R u d ov_m226 61 [(0, ov_r 90), (1, ov_i dep), (2, ov_i v198)] [] z296 h297 (P_Mo_all_90 F z h n dep)
            have f313 : (h297 90 2) = (h221 90 2) ∧ (h297 90 7) = (h221 90 7) ∧ (h297 90 8) = (h221 90 8) ∧ (h297 90 20) = (h221 90 20) ∧ (h297 90 22) = (h221 90 22) ∧ (h297 90 25) = (h221 90 25) ∧ (h297 90 26) = (h221 90 26) ∧ (h297 90 28) = (h221 90 28) ∧ (h297 90 29) = (h221 90 29) ∧ (h297 90 30) = (h221 90 30) ∧ (h297 90 34) = (h221 90 34) ∧ (h297 90 13) = (h221 90 13) + 1 := f279
            clear f279
            have y294_ : (h297 97) = ov_rs (h221 97) (1100 + (h221 90 13)) (9 : Int) := y294
            have y295_ : (h297 98) = ov_rs (h221 98) (1100 + (h221 90 13)) (0 : Int) := y295
            have K314 : ∀ j : Int, j < 1100 + (h 90 13) → h297 97 j = h 97 j ∧ h297 98 j = h 98 j := ov_kpe (ov_kp xa y218_ (by omega)) y294_ y295_ (by omega)
            have K315 : h297 90 8 = 0 → ov_sg (h297 97) (h297 98) (h 90 13) (h297 90 13) := fun e => by have q1 := xb (by omega); have q2 := y219_ (by omega); rw [show (h43 90 13) = (h43 90 13) by omega] at q2; have q3 := ov_sg_bin q1 (fun j hj => y218_ j (by omega)) q2 y294_ y295_ (by omega); rw [show h297 90 13 = (h221 90 13) + 1 by omega]; exact q3
            refine ov_goto (tgt := 5) d_226_61 (by decide) ?_
            refine ov_sub (ls2 := [(0, ov_r 90), (1, ov_i dep)]) (List.Sublist.subset (by repeat (first | exact List.Sublist.refl _ | apply List.Sublist.cons_cons | apply List.Sublist.cons))) ?_
            exact ih39  _ _ I298 E299 E300 E301 E302 E303 E304 E305 E306 E307 E308 E309 E310 E311 E312 K314 K315 (by show (h 90 7) ≤ (h297 90 7) ∧ (h297 90 7) ≤ n ∧ (h 90 8) ≤ (h297 90 8) ∧ (h 90 13) ≤ (h297 90 13) ∧ (h297 90 13) - (h 90 13) ≤ (h297 90 7) - (h 90 7) ∧ (h297 90 2) = (h19 90 2) ∧ (h297 90 20) = (h19 90 20) ∧ (h297 90 22) = (h19 90 22) ∧ (h297 90 25) = (h19 90 25) ∧ (h297 90 26) = (h19 90 26) ∧ (h297 90 28) = (h19 90 28) ∧ (h297 90 29) = (h19 90 29) ∧ (h297 90 30) = (h19 90 30) ∧ (h297 90 34) = (h19 90 34); omega) (by omega)
  exact L41 1001  _ _ I20 E21 E22 E23 E24 E25 E26 E27 E28 E29 E30 E31 E32 E33 E34 K36 K37 (by show (h 90 7) ≤ (h19 90 7) ∧ (h19 90 7) ≤ n ∧ (h 90 8) ≤ (h19 90 8) ∧ (h 90 13) ≤ (h19 90 13) ∧ (h19 90 13) - (h 90 13) ≤ (h19 90 7) - (h 90 7) ∧ (h19 90 2) = (h19 90 2) ∧ (h19 90 20) = (h19 90 20) ∧ (h19 90 22) = (h19 90 22) ∧ (h19 90 25) = (h19 90 25) ∧ (h19 90 26) = (h19 90 26) ∧ (h19 90 28) = (h19 90 28) ∧ (h19 90 29) = (h19 90 29) ∧ (h19 90 30) = (h19 90 30) ∧ (h19 90 34) = (h19 90 34); omega) (by omega)
theorem c_Mo_all_90_both {u : ov_U} {F : ov_H × ov_Z} (n : Int) : ∀ k : Nat, (∀ {z : ov_Z} {h : ov_H} (d : Nat) (hd : (10 + 5 * k + 4) ≤ d) (U : ov_cap u) (I : ov_N F z h) (dep : Int) (g_dep : ov_g dep) (p0 : 0 ≤ n ∧ n ≤ 1000 ∧ (h 92 (n)) = 0 ∧ (h 90 7) ≤ n) (p1 : 0 ≤ dep ∧ dep + (k : Int) = 5) (p2 : (h 90 13) ≤ (h 90 7)), ov_T u d ov_m226 [ov_r 90, ov_i dep] z h (P_Mo_all_90 F z h n dep)) ∧ (∀ {z : ov_Z} {h : ov_H} (d : Nat) (hd : (10 + 5 * k + 0) ≤ d) (U : ov_cap u) (I : ov_N F z h) (dep : Int) (g_dep : ov_g dep) (p0 : 0 ≤ n ∧ n ≤ 1000 ∧ (h 92 (n)) = 0 ∧ (h 90 7) ≤ n) (p1 : 0 ≤ dep ∧ dep + (k : Int) = 5) (p2 : (h 90 13) ≤ (h 90 7)), ov_T u d ov_m230 [ov_r 90, ov_i dep] z h (P_Mo_takePart_90 F z h n dep)) := by
  intro k
  induction k with
  | zero => exact ⟨c_Mo_all_90 n 0 (fun k' e => by omega) (fun k' e => by omega), c_Mo_takePart_90 n 0 (fun k' e => by omega) (fun k' e => by omega)⟩
  | succ k ih =>
    obtain ⟨i1, i2⟩ := ih
    have HE : ∀ k' : Nat, k' + 1 = k + 1 → ∀ {z : ov_Z} {h : ov_H} (d : Nat) (hd : (10 + 5 * k' + 4) ≤ d) (U : ov_cap u) (I : ov_N F z h) (dep : Int) (g_dep : ov_g dep) (p0 : 0 ≤ n ∧ n ≤ 1000 ∧ (h 92 (n)) = 0 ∧ (h 90 7) ≤ n) (p1 : 0 ≤ dep ∧ dep + (k' : Int) = 5) (p2 : (h 90 13) ≤ (h 90 7)), ov_T u d ov_m226 [ov_r 90, ov_i dep] z h (P_Mo_all_90 F z h n dep) := fun k' e => by
      have e2 : k' = k := by omega
      rw [e2]
      exact fun {z} {h} => @i1 z h
    have HP : ∀ k' : Nat, k' + 1 = k + 1 → ∀ {z : ov_Z} {h : ov_H} (d : Nat) (hd : (10 + 5 * k' + 0) ≤ d) (U : ov_cap u) (I : ov_N F z h) (dep : Int) (g_dep : ov_g dep) (p0 : 0 ≤ n ∧ n ≤ 1000 ∧ (h 92 (n)) = 0 ∧ (h 90 7) ≤ n) (p1 : 0 ≤ dep ∧ dep + (k' : Int) = 5) (p2 : (h 90 13) ≤ (h 90 7)), ov_T u d ov_m230 [ov_r 90, ov_i dep] z h (P_Mo_takePart_90 F z h n dep) := fun k' e => by
      have e2 : k' = k := by omega
      rw [e2]
      exact fun {z} {h} => @i2 z h
    exact ⟨c_Mo_all_90 n (k + 1) HE HP, c_Mo_takePart_90 n (k + 1) HE HP⟩
theorem c_Mo_all_90_all {u : ov_U} {F : ov_H × ov_Z} (n : Int) (k : Nat) : ∀ {z : ov_Z} {h : ov_H} (d : Nat) (hd : (10 + 5 * k + 4) ≤ d) (U : ov_cap u) (I : ov_N F z h) (dep : Int) (g_dep : ov_g dep) (p0 : 0 ≤ n ∧ n ≤ 1000 ∧ (h 92 (n)) = 0 ∧ (h 90 7) ≤ n) (p1 : 0 ≤ dep ∧ dep + (k : Int) = 5) (p2 : (h 90 13) ≤ (h 90 7)), ov_T u d ov_m226 [ov_r 90, ov_i dep] z h (P_Mo_all_90 F z h n dep) := (c_Mo_all_90_both n k).1

set_option maxHeartbeats 4000000 in
theorem c_Mo_test_90 {u : ov_U} {F : ov_H × ov_Z} (n : Int) (k : Nat) (HE : ∀ k' : Nat, k' + 1 = k → ∀ {z : ov_Z} {h : ov_H} (d : Nat) (hd : (10 + 5 * k' + 4) ≤ d) (U : ov_cap u) (I : ov_N F z h) (dep : Int) (g_dep : ov_g dep) (p0 : 0 ≤ n ∧ n ≤ 1000 ∧ (h 92 (n)) = 0 ∧ (h 90 7) ≤ n) (p1 : 0 ≤ dep ∧ dep + (k' : Int) = 5) (p2 : (h 90 13) ≤ (h 90 7)), ov_T u d ov_m226 [ov_r 90, ov_i dep] z h (P_Mo_all_90 F z h n dep)) (HP : ∀ k' : Nat, k' + 1 = k → ∀ {z : ov_Z} {h : ov_H} (d : Nat) (hd : (10 + 5 * k' + 0) ≤ d) (U : ov_cap u) (I : ov_N F z h) (dep : Int) (g_dep : ov_g dep) (p0 : 0 ≤ n ∧ n ≤ 1000 ∧ (h 92 (n)) = 0 ∧ (h 90 7) ≤ n) (p1 : 0 ≤ dep ∧ dep + (k' : Int) = 5) (p2 : (h 90 13) ≤ (h 90 7)), ov_T u d ov_m230 [ov_r 90, ov_i dep] z h (P_Mo_takePart_90 F z h n dep)) {z : ov_Z} {h : ov_H} (d : Nat) (hd : (10 + 5 * k + 3) ≤ d) (U : ov_cap u) (I : ov_N F z h) (dep : Int) (g_dep : ov_g dep) (p0 : 0 ≤ n ∧ n ≤ 1000 ∧ (h 92 (n)) = 0 ∧ (h 90 7) ≤ n) (p1 : 0 ≤ dep ∧ dep + (k : Int) = 5) (p2 : (h 90 13) ≤ (h 90 7)) : ov_T u d ov_m227 [ov_r 90, ov_i dep] z h (P_Mo_test_90 F z h n dep) := by
  refine ov_en rfl (Nat.le_of_ble_eq_true rfl) ?_
  show ov_R u d ov_m227 0 [(0, ov_r 90), (1, ov_i dep)] [] z h (P_Mo_test_90 F z h n dep)
  refine ov_blk (ls2 := [(0, ov_r 90), (1, ov_i dep)]) (st2 := [ov_i dep, ov_r 90]) (pc2 := 2) b_227_0_2 rfl rfl ?_
  refine ov_cV (as := [ov_i dep]) (st := []) (d2 := d - 1) d_227_2 lk_Mo_260 rfl (Nat.le_of_ble_eq_true rfl) (c := 1) (zb_90 I) (zs_90 I) ⟨by decide, rfl⟩ (by omega) (c_Mo_sums_90 n k HE HP (d - 1) (by omega) U I dep (by omega) (by show 0 ≤ n ∧ n ≤ 1000 ∧ (h 92 (n)) = 0 ∧ (h 90 7) ≤ n; omega) (by omega) (by show (h 90 13) ≤ (h 90 7); omega)) ?_
  rintro _ z16 h17 ⟨rfl, I18, f1, e2, e3, e4, e5, e6, e7, e8, e9, e10, e11, e12, e13, y14, y15⟩
  have E19 : h17 92 = h 92 := e2
  have E20 : h17 93 = h 93 := e3
  have E21 : h17 94 = h 94 := e4
  have E22 : h17 95 = h 95 := e5
  have E23 : h17 96 = h 96 := e6
  have E24 : h17 99 = h 99 := e7
  have E25 : h17 100 = h 100 := e8
  have E26 : h17 103 = h 103 := e9
  have E27 : h17 105 = h 105 := e10
  have E28 : h17 106 = h 106 := e11
  have E29 : h17 109 = h 109 := e12
  have E30 : h17 114 = h 114 := e13
  show ov_R u d ov_m227 5 [(0, ov_r 90), (1, ov_i dep)] [] z16 h17 (P_Mo_test_90 F z h n dep)
  have f31 : (h17 90 2) = (h 90 2) ∧ (h17 90 3) = (h 90 3) ∧ (h17 90 20) = (h 90 20) ∧ (h17 90 22) = (h 90 22) ∧ (h17 90 25) = (h 90 25) ∧ (h17 90 26) = (h 90 26) ∧ (h17 90 27) = (h 90 27) ∧ (h17 90 28) = (h 90 28) ∧ (h17 90 29) = (h 90 29) ∧ (h17 90 30) = (h 90 30) ∧ (h17 90 34) = (h 90 34) ∧ (h17 90 35) = (h 90 35) ∧ (h17 90 37) = (h 90 37) ∧ (h 90 7) ≤ (h17 90 7) ∧ (h17 90 7) ≤ n ∧ (0 < (h 90 8) → (h17 90 8) = (h 90 8)) ∧ (h 90 13) ≤ (h17 90 13) ∧ (h17 90 13) - (h 90 13) ≤ (h17 90 7) - (h 90 7) := f1
  clear f1
  have y14_ : ∀ j : Int, j < 1100 + (h 90 13) → (h17 97) j = (h 97) j ∧ (h17 98) j = (h 98) j := y14
  have y15_ : (h17 90 8) = 0 → ov_sg (h17 97) (h17 98) (h 90 13) (h17 90 13) := y15
  have K32 : ∀ j : Int, j < 1100 + (h 90 13) → h17 97 j = h 97 j ∧ h17 98 j = h 98 j := fun j hj => y14_ j (by omega)
  have K33 : h17 90 8 = 0 → ov_sg (h17 97) (h17 98) (h 90 13) (h17 90 13) := fun e => by have q := y15_ e; rw [show (h 90 13) = h 90 13 by omega] at q; exact q
  refine ov_blk (ls2 := [(0, ov_r 90), (1, ov_i dep)]) (st2 := [ov_i 60, ov_r 90]) (pc2 := 8) b_227_5_2 rfl rfl ?_
  have cf34 : h17 92 (n) = h 92 (n) := congrFun E19 (n)
  refine ov_cV (as := [ov_i 60]) (st := []) (d2 := d - 1) d_227_8 lk_Mo_183 rfl (Nat.le_of_ble_eq_true rfl) (c := 1) (zb_90 I18) (zs_90 I18) ⟨by decide, rfl⟩ (by omega) (c_Mo_isSign_90 n (d - 1) (by omega) U I18 60 (by omega) (by show 0 ≤ n ∧ n ≤ 1000 ∧ (h17 92 (n)) = 0 ∧ (h17 90 7) ≤ n; omega)) ?_
  rintro _ _ _ ⟨v36, rfl, rfl, rfl, f35⟩
  show ov_R u d ov_m227 11 [(0, ov_r 90), (1, ov_i dep)] [ov_i v36] z16 h17 (P_Mo_test_90 F z h n dep)
  rw [show h17 92 = h 92 from E19] at f35
  rw [show h17 94 = h 94 from E21] at f35
  have f37 : (v36 = 0 ∨ v36 = 1) ∧ (v36 = 1 → (h17 90 7) < n) ∧ (v36 = 1 → (h17 90 8) = 0 ∧ (h 92 ((h17 90 7))) = 3 ∧ (h 94 ((h17 90 7))) = (60 : Int)) ∧ (v36 = 0 → ¬ ((h17 90 8) = 0 ∧ (h 92 ((h17 90 7))) = 3 ∧ (h 94 ((h17 90 7))) = (60 : Int))) := f35
  clear f35
  refine ov_blk (ls2 := [(0, ov_r 90), (1, ov_i dep), (2, ov_i v36)]) (st2 := [ov_i 60, ov_r 90]) (pc2 := 15) b_227_11_3 rfl rfl ?_
  have cf38 : h17 92 (n) = h 92 (n) := congrFun E19 (n)
  refine ov_cV (as := [ov_i 60]) (st := []) (d2 := d - 1) d_227_15 lk_Mo_263 rfl (Nat.le_of_ble_eq_true rfl) (c := 1) (zb_90 I18) (zs_90 I18) ⟨by decide, rfl⟩ (by omega) (c_Mo_hasSign_90 n (d - 1) (by omega) U I18 60 (by omega) (by show 0 ≤ n ∧ n ≤ 1000 ∧ (h17 92 (n)) = 0 ∧ (h17 90 7) ≤ n; omega)) ?_
  rintro _ z55 h56 ⟨v40, rfl, I57, f39, e41, e42, e43, e44, e45, e46, e47, e48, e49, e50, e51, e52, e53, e54⟩
  have E58 : h56 92 = h 92 := Eq.trans e41 E19
  have E59 : h56 93 = h 93 := Eq.trans e42 E20
  have E60 : h56 94 = h 94 := Eq.trans e43 E21
  have E61 : h56 95 = h 95 := Eq.trans e44 E22
  have E62 : h56 96 = h 96 := Eq.trans e45 E23
  have E63 : h56 97 = h17 97 := e46
  have E64 : h56 98 = h17 98 := e47
  have E65 : h56 99 = h 99 := Eq.trans e48 E24
  have E66 : h56 100 = h 100 := Eq.trans e49 E25
  have E67 : h56 103 = h 103 := Eq.trans e50 E26
  have E68 : h56 105 = h 105 := Eq.trans e51 E27
  have E69 : h56 106 = h 106 := Eq.trans e52 E28
  have E70 : h56 109 = h 109 := Eq.trans e53 E29
  have E71 : h56 114 = h 114 := Eq.trans e54 E30
  show ov_R u d ov_m227 18 [(0, ov_r 90), (1, ov_i dep), (2, ov_i v36)] [ov_i v40] z55 h56 (P_Mo_test_90 F z h n dep)
  rw [show h17 92 = h 92 from E19] at f39
  rw [show h17 94 = h 94 from E21] at f39
  have f72 : (h56 90 2) = (h17 90 2) ∧ (h56 90 3) = (h17 90 3) ∧ (h56 90 8) = (h17 90 8) ∧ (h56 90 13) = (h17 90 13) ∧ (h56 90 20) = (h17 90 20) ∧ (h56 90 22) = (h17 90 22) ∧ (h56 90 25) = (h17 90 25) ∧ (h56 90 26) = (h17 90 26) ∧ (h56 90 27) = (h17 90 27) ∧ (h56 90 28) = (h17 90 28) ∧ (h56 90 29) = (h17 90 29) ∧ (h56 90 30) = (h17 90 30) ∧ (h56 90 34) = (h17 90 34) ∧ (h56 90 35) = (h17 90 35) ∧ (h56 90 37) = (h17 90 37) ∧ (v40 = 0 ∨ v40 = 1) ∧ (h17 90 7) ≤ (h56 90 7) ∧ (h56 90 7) ≤ n ∧ (v40 = 1 → (h56 90 7) = (h17 90 7) + 1 ∧ (h17 90 8) = 0) ∧ (v40 = 0 → (h56 90 7) = (h17 90 7)) ∧ (v40 = 1 → (h17 90 8) = 0 ∧ (h 92 ((h17 90 7))) = 3 ∧ (h 94 ((h17 90 7))) = (60 : Int)) ∧ (v40 = 0 → ¬ ((h17 90 8) = 0 ∧ (h 92 ((h17 90 7))) = 3 ∧ (h 94 ((h17 90 7))) = (60 : Int))) := f39
  clear f39
  refine ov_ifne (tgt := 30) d_227_18 (by decide) (by omega) (fun c73 => ?_) (fun c73 => ?_)
  · skip
    have f72_ : v40 = 1 := by omega
    have f74 : (h56 90 2) = (h17 90 2) := f72.1
    have f75 : (h56 90 3) = (h17 90 3) := f72.2.1
    have f76 : (h56 90 8) = (h17 90 8) := f72.2.2.1
    have f77 : (h56 90 13) = (h17 90 13) := f72.2.2.2.1
    have f78 : (h56 90 20) = (h17 90 20) := f72.2.2.2.2.1
    have f79 : (h56 90 22) = (h17 90 22) := f72.2.2.2.2.2.1
    have f80 : (h56 90 25) = (h17 90 25) := f72.2.2.2.2.2.2.1
    have f81 : (h56 90 26) = (h17 90 26) := f72.2.2.2.2.2.2.2.1
    have f82 : (h56 90 27) = (h17 90 27) := f72.2.2.2.2.2.2.2.2.1
    have f83 : (h56 90 28) = (h17 90 28) := f72.2.2.2.2.2.2.2.2.2.1
    have f84 : (h56 90 29) = (h17 90 29) := f72.2.2.2.2.2.2.2.2.2.2.1
    have f85 : (h56 90 30) = (h17 90 30) := f72.2.2.2.2.2.2.2.2.2.2.2.1
    have f86 : (h56 90 34) = (h17 90 34) := f72.2.2.2.2.2.2.2.2.2.2.2.2.1
    have f87 : (h56 90 35) = (h17 90 35) := f72.2.2.2.2.2.2.2.2.2.2.2.2.2.1
    have f88 : (h56 90 37) = (h17 90 37) := f72.2.2.2.2.2.2.2.2.2.2.2.2.2.2.1
    have f89 : (h17 90 7) ≤ (h56 90 7) := f72.2.2.2.2.2.2.2.2.2.2.2.2.2.2.2.2.1
    have f90 : (h56 90 7) ≤ n := f72.2.2.2.2.2.2.2.2.2.2.2.2.2.2.2.2.2.1
    have f91 : (h56 90 7) = (h17 90 7) + 1 ∧ (h17 90 8) = 0 := f72.2.2.2.2.2.2.2.2.2.2.2.2.2.2.2.2.2.2.1 (by omega)
    have f92 : (h17 90 8) = 0 ∧ (h 92 ((h17 90 7))) = 3 ∧ (h 94 ((h17 90 7))) = (60 : Int) := f72.2.2.2.2.2.2.2.2.2.2.2.2.2.2.2.2.2.2.2.2.1 (by omega)
    clear f72
    refine ov_blk (ls2 := [(0, ov_r 90), (1, ov_i dep), (2, ov_i v36)]) (st2 := [ov_i dep, ov_r 90]) (pc2 := 32) b_227_30_2 rfl rfl ?_
    have cf93 : h56 92 (n) = h 92 (n) := congrFun E58 (n)
    refine ov_cV (as := [ov_i dep]) (st := []) (d2 := d - 1) d_227_32 lk_Mo_260 rfl (Nat.le_of_ble_eq_true rfl) (c := 1) (zb_90 I57) (zs_90 I57) ⟨by decide, rfl⟩ (by omega) (c_Mo_sums_90 n k HE HP (d - 1) (by omega) U I57 dep (by omega) (by show 0 ≤ n ∧ n ≤ 1000 ∧ (h56 92 (n)) = 0 ∧ (h56 90 7) ≤ n; omega) (by omega) (by show (h56 90 13) ≤ (h56 90 7); omega)) ?_
    rintro _ z109 h110 ⟨rfl, I111, f94, e95, e96, e97, e98, e99, e100, e101, e102, e103, e104, e105, e106, y107, y108⟩
    have E112 : h110 92 = h 92 := Eq.trans e95 E58
    have E113 : h110 93 = h 93 := Eq.trans e96 E59
    have E114 : h110 94 = h 94 := Eq.trans e97 E60
    have E115 : h110 95 = h 95 := Eq.trans e98 E61
    have E116 : h110 96 = h 96 := Eq.trans e99 E62
    have E117 : h110 99 = h 99 := Eq.trans e100 E65
    have E118 : h110 100 = h 100 := Eq.trans e101 E66
    have E119 : h110 103 = h 103 := Eq.trans e102 E67
    have E120 : h110 105 = h 105 := Eq.trans e103 E68
    have E121 : h110 106 = h 106 := Eq.trans e104 E69
    have E122 : h110 109 = h 109 := Eq.trans e105 E70
    have E123 : h110 114 = h 114 := Eq.trans e106 E71
    show ov_R u d ov_m227 35 [(0, ov_r 90), (1, ov_i dep), (2, ov_i v36)] [] z109 h110 (P_Mo_test_90 F z h n dep)
    have f124 : (h110 90 2) = (h56 90 2) ∧ (h110 90 3) = (h56 90 3) ∧ (h110 90 20) = (h56 90 20) ∧ (h110 90 22) = (h56 90 22) ∧ (h110 90 25) = (h56 90 25) ∧ (h110 90 26) = (h56 90 26) ∧ (h110 90 27) = (h56 90 27) ∧ (h110 90 28) = (h56 90 28) ∧ (h110 90 29) = (h56 90 29) ∧ (h110 90 30) = (h56 90 30) ∧ (h110 90 34) = (h56 90 34) ∧ (h110 90 35) = (h56 90 35) ∧ (h110 90 37) = (h56 90 37) ∧ (h56 90 7) ≤ (h110 90 7) ∧ (h110 90 7) ≤ n ∧ (0 < (h56 90 8) → (h110 90 8) = (h56 90 8)) ∧ (h56 90 13) ≤ (h110 90 13) ∧ (h110 90 13) - (h56 90 13) ≤ (h110 90 7) - (h56 90 7) := f94
    clear f94
    rw [show h56 97 = h17 97 from E63] at y107
    rw [show h56 98 = h17 98 from E64] at y107
    have y107_ : ∀ j : Int, j < 1100 + (h56 90 13) → (h110 97) j = (h17 97) j ∧ (h110 98) j = (h17 98) j := y107
    have y108_ : (h110 90 8) = 0 → ov_sg (h110 97) (h110 98) (h56 90 13) (h110 90 13) := y108
    refine ov_blk (ls2 := [(0, ov_r 90), (1, ov_i dep), (2, ov_i v36)]) (st2 := [ov_i v36, ov_r 90]) (pc2 := 37) b_227_35_2 rfl rfl ?_
    refine ov_ifeq (tgt := 45) d_227_37 (by decide) (by omega) (fun c125 => ?_) (fun c125 => ?_)
    · skip
      have f37_ : v36 = 0 := by omega
      have f126 : ¬ ((h17 90 8) = 0 ∧ (h 92 ((h17 90 7))) = 3 ∧ (h 94 ((h17 90 7))) = (60 : Int)) := f37.2.2.2 (by omega)
      clear f37
      refine ov_blk (ls2 := [(0, ov_r 90), (1, ov_i dep), (2, ov_i v36)]) (st2 := [ov_i 0, ov_i 8, ov_r 90]) (pc2 := 48) b_227_45_2 rfl rfl ?_
      refine ov_cV (as := [ov_i 8, ov_i 0]) (st := []) (d2 := d - 1) d_227_48 lk_Mo_246 rfl (Nat.le_of_ble_eq_true rfl) (c := 1) (zb_90 I111) (zs_90 I111) ⟨by decide, rfl⟩ (by omega) (c_Mo_emit_90 (d - 1) (by omega) U I111 8 0 (by omega) (by omega) (by omega) (by show (h110 90 13) ≤ 999; omega)) ?_
      rintro _ z142 h143 ⟨rfl, I144, f127, e128, e129, e130, e131, e132, e133, e134, e135, e136, e137, e138, e139, y140, y141⟩
      have E145 : h143 92 = h 92 := Eq.trans e128 E112
      have E146 : h143 93 = h 93 := Eq.trans e129 E113
      have E147 : h143 94 = h 94 := Eq.trans e130 E114
      have E148 : h143 95 = h 95 := Eq.trans e131 E115
      have E149 : h143 96 = h 96 := Eq.trans e132 E116
      have E150 : h143 99 = h 99 := Eq.trans e133 E117
      have E151 : h143 100 = h 100 := Eq.trans e134 E118
      have E152 : h143 103 = h 103 := Eq.trans e135 E119
      have E153 : h143 105 = h 105 := Eq.trans e136 E120
      have E154 : h143 106 = h 106 := Eq.trans e137 E121
      have E155 : h143 109 = h 109 := Eq.trans e138 E122
      have E156 : h143 114 = h 114 := Eq.trans e139 E123
      show ov_R u d ov_m227 51 [(0, ov_r 90), (1, ov_i dep), (2, ov_i v36)] [] z142 h143 (P_Mo_test_90 F z h n dep)
      have f157 : (h143 90 2) = (h110 90 2) ∧ (h143 90 3) = (h110 90 3) ∧ (h143 90 7) = (h110 90 7) ∧ (h143 90 8) = (h110 90 8) ∧ (h143 90 20) = (h110 90 20) ∧ (h143 90 22) = (h110 90 22) ∧ (h143 90 25) = (h110 90 25) ∧ (h143 90 26) = (h110 90 26) ∧ (h143 90 27) = (h110 90 27) ∧ (h143 90 28) = (h110 90 28) ∧ (h143 90 29) = (h110 90 29) ∧ (h143 90 30) = (h110 90 30) ∧ (h143 90 34) = (h110 90 34) ∧ (h143 90 35) = (h110 90 35) ∧ (h143 90 37) = (h110 90 37) ∧ (h143 90 13) = (h110 90 13) + 1 := f127
      clear f127
      have y140_ : (h143 97) = ov_rs (h110 97) (1100 + (h110 90 13)) (8 : Int) := y140
      have y141_ : (h143 98) = ov_rs (h110 98) (1100 + (h110 90 13)) (0 : Int) := y141
      have K158 : ∀ j : Int, j < 1100 + (h 90 13) → h143 97 j = h 97 j ∧ h143 98 j = h 98 j := ov_kpe (ov_kp K32 y107_ (by omega)) y140_ y141_ (by omega)
      have K159 : h143 90 8 = 0 → ov_sg (h143 97) (h143 98) (h 90 13) (h143 90 13) := fun e => by have q1 := K33 (by omega); have q2 := y108_ (by omega); rw [show (h56 90 13) = (h17 90 13) by omega] at q2; have q3 := ov_sg_bin q1 (fun j hj => y107_ j (by omega)) q2 y140_ y141_ (by omega); rw [show h143 90 13 = (h110 90 13) + 1 by omega]; exact q3
      exact ov_retv (st := []) d_227_51 rfl ⟨rfl, I144, (by show (h143 90 2) = (h 90 2) ∧ (h143 90 3) = (h 90 3) ∧ (h143 90 20) = (h 90 20) ∧ (h143 90 22) = (h 90 22) ∧ (h143 90 25) = (h 90 25) ∧ (h143 90 26) = (h 90 26) ∧ (h143 90 27) = (h 90 27) ∧ (h143 90 28) = (h 90 28) ∧ (h143 90 29) = (h 90 29) ∧ (h143 90 30) = (h 90 30) ∧ (h143 90 34) = (h 90 34) ∧ (h143 90 35) = (h 90 35) ∧ (h143 90 37) = (h 90 37) ∧ (h 90 7) ≤ (h143 90 7) ∧ (h143 90 7) ≤ n ∧ (0 < (h 90 8) → (h143 90 8) = (h 90 8)) ∧ (h 90 13) ≤ (h143 90 13) ∧ (h143 90 13) - (h 90 13) ≤ (h143 90 7) - (h 90 7); omega), E145, E146, E147, E148, E149, E150, E151, E152, E153, E154, E155, E156, K158, (fun e => by have e0 : (h143 90 8) = 0 := e; show ov_sg (h143 97) (h143 98) _ (h143 90 13); rw [show (h143 90 13) = (h143 90 13) by omega]; exact K159 (by omega))⟩
    · skip
      have f37_ : v36 = 1 := by omega
      have f160 : (h17 90 7) < n := f37.2.1 (by omega)
      have f161 : (h17 90 8) = 0 ∧ (h 92 ((h17 90 7))) = 3 ∧ (h 94 ((h17 90 7))) = (60 : Int) := f37.2.2.1 (by omega)
      clear f37
      refine ov_blk (ls2 := [(0, ov_r 90), (1, ov_i dep), (2, ov_i v36)]) (st2 := [ov_i 7, ov_r 90]) (pc2 := 42) b_227_40_1 rfl rfl ?_
      refine ov_goto (tgt := 47) d_227_42 (by decide) ?_
      refine ov_blk (ls2 := [(0, ov_r 90), (1, ov_i dep), (2, ov_i v36)]) (st2 := [ov_i 0, ov_i 7, ov_r 90]) (pc2 := 48) b_227_47_1 rfl rfl ?_
      refine ov_cV (as := [ov_i 7, ov_i 0]) (st := []) (d2 := d - 1) d_227_48 lk_Mo_246 rfl (Nat.le_of_ble_eq_true rfl) (c := 1) (zb_90 I111) (zs_90 I111) ⟨by decide, rfl⟩ (by omega) (c_Mo_emit_90 (d - 1) (by omega) U I111 7 0 (by omega) (by omega) (by omega) (by show (h110 90 13) ≤ 999; omega)) ?_
      rintro _ z177 h178 ⟨rfl, I179, f162, e163, e164, e165, e166, e167, e168, e169, e170, e171, e172, e173, e174, y175, y176⟩
      have E180 : h178 92 = h 92 := Eq.trans e163 E112
      have E181 : h178 93 = h 93 := Eq.trans e164 E113
      have E182 : h178 94 = h 94 := Eq.trans e165 E114
      have E183 : h178 95 = h 95 := Eq.trans e166 E115
      have E184 : h178 96 = h 96 := Eq.trans e167 E116
      have E185 : h178 99 = h 99 := Eq.trans e168 E117
      have E186 : h178 100 = h 100 := Eq.trans e169 E118
      have E187 : h178 103 = h 103 := Eq.trans e170 E119
      have E188 : h178 105 = h 105 := Eq.trans e171 E120
      have E189 : h178 106 = h 106 := Eq.trans e172 E121
      have E190 : h178 109 = h 109 := Eq.trans e173 E122
      have E191 : h178 114 = h 114 := Eq.trans e174 E123
      show ov_R u d ov_m227 51 [(0, ov_r 90), (1, ov_i dep), (2, ov_i v36)] [] z177 h178 (P_Mo_test_90 F z h n dep)
      have f192 : (h178 90 2) = (h110 90 2) ∧ (h178 90 3) = (h110 90 3) ∧ (h178 90 7) = (h110 90 7) ∧ (h178 90 8) = (h110 90 8) ∧ (h178 90 20) = (h110 90 20) ∧ (h178 90 22) = (h110 90 22) ∧ (h178 90 25) = (h110 90 25) ∧ (h178 90 26) = (h110 90 26) ∧ (h178 90 27) = (h110 90 27) ∧ (h178 90 28) = (h110 90 28) ∧ (h178 90 29) = (h110 90 29) ∧ (h178 90 30) = (h110 90 30) ∧ (h178 90 34) = (h110 90 34) ∧ (h178 90 35) = (h110 90 35) ∧ (h178 90 37) = (h110 90 37) ∧ (h178 90 13) = (h110 90 13) + 1 := f162
      clear f162
      have y175_ : (h178 97) = ov_rs (h110 97) (1100 + (h110 90 13)) (7 : Int) := y175
      have y176_ : (h178 98) = ov_rs (h110 98) (1100 + (h110 90 13)) (0 : Int) := y176
      have K193 : ∀ j : Int, j < 1100 + (h 90 13) → h178 97 j = h 97 j ∧ h178 98 j = h 98 j := ov_kpe (ov_kp K32 y107_ (by omega)) y175_ y176_ (by omega)
      have K194 : h178 90 8 = 0 → ov_sg (h178 97) (h178 98) (h 90 13) (h178 90 13) := fun e => by have q1 := K33 (by omega); have q2 := y108_ (by omega); rw [show (h56 90 13) = (h17 90 13) by omega] at q2; have q3 := ov_sg_bin q1 (fun j hj => y107_ j (by omega)) q2 y175_ y176_ (by omega); rw [show h178 90 13 = (h110 90 13) + 1 by omega]; exact q3
      exact ov_retv (st := []) d_227_51 rfl ⟨rfl, I179, (by show (h178 90 2) = (h 90 2) ∧ (h178 90 3) = (h 90 3) ∧ (h178 90 20) = (h 90 20) ∧ (h178 90 22) = (h 90 22) ∧ (h178 90 25) = (h 90 25) ∧ (h178 90 26) = (h 90 26) ∧ (h178 90 27) = (h 90 27) ∧ (h178 90 28) = (h 90 28) ∧ (h178 90 29) = (h 90 29) ∧ (h178 90 30) = (h 90 30) ∧ (h178 90 34) = (h 90 34) ∧ (h178 90 35) = (h 90 35) ∧ (h178 90 37) = (h 90 37) ∧ (h 90 7) ≤ (h178 90 7) ∧ (h178 90 7) ≤ n ∧ (0 < (h 90 8) → (h178 90 8) = (h 90 8)) ∧ (h 90 13) ≤ (h178 90 13) ∧ (h178 90 13) - (h 90 13) ≤ (h178 90 7) - (h 90 7); omega), E180, E181, E182, E183, E184, E185, E186, E187, E188, E189, E190, E191, K193, (fun e => by have e0 : (h178 90 8) = 0 := e; show ov_sg (h178 97) (h178 98) _ (h178 90 13); rw [show (h178 90 13) = (h178 90 13) by omega]; exact K194 (by omega))⟩
  · skip
    have f72_ : v40 = 0 := by omega
    have f195 : (h56 90 2) = (h17 90 2) := f72.1
    have f196 : (h56 90 3) = (h17 90 3) := f72.2.1
    have f197 : (h56 90 8) = (h17 90 8) := f72.2.2.1
    have f198 : (h56 90 13) = (h17 90 13) := f72.2.2.2.1
    have f199 : (h56 90 20) = (h17 90 20) := f72.2.2.2.2.1
    have f200 : (h56 90 22) = (h17 90 22) := f72.2.2.2.2.2.1
    have f201 : (h56 90 25) = (h17 90 25) := f72.2.2.2.2.2.2.1
    have f202 : (h56 90 26) = (h17 90 26) := f72.2.2.2.2.2.2.2.1
    have f203 : (h56 90 27) = (h17 90 27) := f72.2.2.2.2.2.2.2.2.1
    have f204 : (h56 90 28) = (h17 90 28) := f72.2.2.2.2.2.2.2.2.2.1
    have f205 : (h56 90 29) = (h17 90 29) := f72.2.2.2.2.2.2.2.2.2.2.1
    have f206 : (h56 90 30) = (h17 90 30) := f72.2.2.2.2.2.2.2.2.2.2.2.1
    have f207 : (h56 90 34) = (h17 90 34) := f72.2.2.2.2.2.2.2.2.2.2.2.2.1
    have f208 : (h56 90 35) = (h17 90 35) := f72.2.2.2.2.2.2.2.2.2.2.2.2.2.1
    have f209 : (h56 90 37) = (h17 90 37) := f72.2.2.2.2.2.2.2.2.2.2.2.2.2.2.1
    have f210 : (h17 90 7) ≤ (h56 90 7) := f72.2.2.2.2.2.2.2.2.2.2.2.2.2.2.2.2.1
    have f211 : (h56 90 7) ≤ n := f72.2.2.2.2.2.2.2.2.2.2.2.2.2.2.2.2.2.1
    have f212 : (h56 90 7) = (h17 90 7) := f72.2.2.2.2.2.2.2.2.2.2.2.2.2.2.2.2.2.2.2.1 (by omega)
    have f213 : ¬ ((h17 90 8) = 0 ∧ (h 92 ((h17 90 7))) = 3 ∧ (h 94 ((h17 90 7))) = (60 : Int)) := f72.2.2.2.2.2.2.2.2.2.2.2.2.2.2.2.2.2.2.2.2.2 (by omega)
    clear f72
    refine ov_blk (ls2 := [(0, ov_r 90), (1, ov_i dep), (2, ov_i v36)]) (st2 := [ov_i 61, ov_r 90]) (pc2 := 24) b_227_21_2 rfl rfl ?_
    have cf214 : h56 92 (n) = h 92 (n) := congrFun E58 (n)
    refine ov_cV (as := [ov_i 61]) (st := []) (d2 := d - 1) d_227_24 lk_Mo_263 rfl (Nat.le_of_ble_eq_true rfl) (c := 1) (zb_90 I57) (zs_90 I57) ⟨by decide, rfl⟩ (by omega) (c_Mo_hasSign_90 n (d - 1) (by omega) U I57 61 (by omega) (by show 0 ≤ n ∧ n ≤ 1000 ∧ (h56 92 (n)) = 0 ∧ (h56 90 7) ≤ n; omega)) ?_
    rintro _ z231 h232 ⟨v216, rfl, I233, f215, e217, e218, e219, e220, e221, e222, e223, e224, e225, e226, e227, e228, e229, e230⟩
    have E234 : h232 92 = h 92 := Eq.trans e217 E58
    have E235 : h232 93 = h 93 := Eq.trans e218 E59
    have E236 : h232 94 = h 94 := Eq.trans e219 E60
    have E237 : h232 95 = h 95 := Eq.trans e220 E61
    have E238 : h232 96 = h 96 := Eq.trans e221 E62
    have E239 : h232 97 = h17 97 := Eq.trans e222 E63
    have E240 : h232 98 = h17 98 := Eq.trans e223 E64
    have E241 : h232 99 = h 99 := Eq.trans e224 E65
    have E242 : h232 100 = h 100 := Eq.trans e225 E66
    have E243 : h232 103 = h 103 := Eq.trans e226 E67
    have E244 : h232 105 = h 105 := Eq.trans e227 E68
    have E245 : h232 106 = h 106 := Eq.trans e228 E69
    have E246 : h232 109 = h 109 := Eq.trans e229 E70
    have E247 : h232 114 = h 114 := Eq.trans e230 E71
    show ov_R u d ov_m227 27 [(0, ov_r 90), (1, ov_i dep), (2, ov_i v36)] [ov_i v216] z231 h232 (P_Mo_test_90 F z h n dep)
    rw [show h56 92 = h 92 from E58] at f215
    rw [show h56 94 = h 94 from E60] at f215
    have f248 : (h232 90 2) = (h56 90 2) ∧ (h232 90 3) = (h56 90 3) ∧ (h232 90 8) = (h56 90 8) ∧ (h232 90 13) = (h56 90 13) ∧ (h232 90 20) = (h56 90 20) ∧ (h232 90 22) = (h56 90 22) ∧ (h232 90 25) = (h56 90 25) ∧ (h232 90 26) = (h56 90 26) ∧ (h232 90 27) = (h56 90 27) ∧ (h232 90 28) = (h56 90 28) ∧ (h232 90 29) = (h56 90 29) ∧ (h232 90 30) = (h56 90 30) ∧ (h232 90 34) = (h56 90 34) ∧ (h232 90 35) = (h56 90 35) ∧ (h232 90 37) = (h56 90 37) ∧ (v216 = 0 ∨ v216 = 1) ∧ (h56 90 7) ≤ (h232 90 7) ∧ (h232 90 7) ≤ n ∧ (v216 = 1 → (h232 90 7) = (h56 90 7) + 1 ∧ (h56 90 8) = 0) ∧ (v216 = 0 → (h232 90 7) = (h56 90 7)) ∧ (v216 = 1 → (h56 90 8) = 0 ∧ (h 92 ((h56 90 7))) = 3 ∧ (h 94 ((h56 90 7))) = (61 : Int)) ∧ (v216 = 0 → ¬ ((h56 90 8) = 0 ∧ (h 92 ((h56 90 7))) = 3 ∧ (h 94 ((h56 90 7))) = (61 : Int))) := f215
    clear f215
    refine ov_ifeq (tgt := 51) d_227_27 (by decide) (by omega) (fun c249 => ?_) (fun c249 => ?_)
    · skip
      have f248_ : v216 = 0 := by omega
      have f250 : (h232 90 2) = (h56 90 2) := f248.1
      have f251 : (h232 90 3) = (h56 90 3) := f248.2.1
      have f252 : (h232 90 8) = (h56 90 8) := f248.2.2.1
      have f253 : (h232 90 13) = (h56 90 13) := f248.2.2.2.1
      have f254 : (h232 90 20) = (h56 90 20) := f248.2.2.2.2.1
      have f255 : (h232 90 22) = (h56 90 22) := f248.2.2.2.2.2.1
      have f256 : (h232 90 25) = (h56 90 25) := f248.2.2.2.2.2.2.1
      have f257 : (h232 90 26) = (h56 90 26) := f248.2.2.2.2.2.2.2.1
      have f258 : (h232 90 27) = (h56 90 27) := f248.2.2.2.2.2.2.2.2.1
      have f259 : (h232 90 28) = (h56 90 28) := f248.2.2.2.2.2.2.2.2.2.1
      have f260 : (h232 90 29) = (h56 90 29) := f248.2.2.2.2.2.2.2.2.2.2.1
      have f261 : (h232 90 30) = (h56 90 30) := f248.2.2.2.2.2.2.2.2.2.2.2.1
      have f262 : (h232 90 34) = (h56 90 34) := f248.2.2.2.2.2.2.2.2.2.2.2.2.1
      have f263 : (h232 90 35) = (h56 90 35) := f248.2.2.2.2.2.2.2.2.2.2.2.2.2.1
      have f264 : (h232 90 37) = (h56 90 37) := f248.2.2.2.2.2.2.2.2.2.2.2.2.2.2.1
      have f265 : (h56 90 7) ≤ (h232 90 7) := f248.2.2.2.2.2.2.2.2.2.2.2.2.2.2.2.2.1
      have f266 : (h232 90 7) ≤ n := f248.2.2.2.2.2.2.2.2.2.2.2.2.2.2.2.2.2.1
      have f267 : (h232 90 7) = (h56 90 7) := f248.2.2.2.2.2.2.2.2.2.2.2.2.2.2.2.2.2.2.2.1 (by omega)
      have f268 : ¬ ((h56 90 8) = 0 ∧ (h 92 ((h56 90 7))) = 3 ∧ (h 94 ((h56 90 7))) = (61 : Int)) := f248.2.2.2.2.2.2.2.2.2.2.2.2.2.2.2.2.2.2.2.2.2 (by omega)
      clear f248
      exact ov_retv (st := []) d_227_51 rfl ⟨rfl, I233, (by show (h232 90 2) = (h 90 2) ∧ (h232 90 3) = (h 90 3) ∧ (h232 90 20) = (h 90 20) ∧ (h232 90 22) = (h 90 22) ∧ (h232 90 25) = (h 90 25) ∧ (h232 90 26) = (h 90 26) ∧ (h232 90 27) = (h 90 27) ∧ (h232 90 28) = (h 90 28) ∧ (h232 90 29) = (h 90 29) ∧ (h232 90 30) = (h 90 30) ∧ (h232 90 34) = (h 90 34) ∧ (h232 90 35) = (h 90 35) ∧ (h232 90 37) = (h 90 37) ∧ (h 90 7) ≤ (h232 90 7) ∧ (h232 90 7) ≤ n ∧ (0 < (h 90 8) → (h232 90 8) = (h 90 8)) ∧ (h 90 13) ≤ (h232 90 13) ∧ (h232 90 13) - (h 90 13) ≤ (h232 90 7) - (h 90 7); omega), E234, E235, E236, E237, E238, E241, E242, E243, E244, E245, E246, E247, (by rw [show h232 97 = h17 97 from E239, show h232 98 = h17 98 from E240]; exact K32), (fun e => by have e0 : (h232 90 8) = 0 := e; show ov_sg (h232 97) (h232 98) _ (h232 90 13); rw [show h232 97 = h17 97 from E239, show h232 98 = h17 98 from E240, show (h232 90 13) = (h17 90 13) by omega]; exact K33 (by omega))⟩
    · skip
      have f248_ : v216 = 1 := by omega
      have f269 : (h232 90 2) = (h56 90 2) := f248.1
      have f270 : (h232 90 3) = (h56 90 3) := f248.2.1
      have f271 : (h232 90 8) = (h56 90 8) := f248.2.2.1
      have f272 : (h232 90 13) = (h56 90 13) := f248.2.2.2.1
      have f273 : (h232 90 20) = (h56 90 20) := f248.2.2.2.2.1
      have f274 : (h232 90 22) = (h56 90 22) := f248.2.2.2.2.2.1
      have f275 : (h232 90 25) = (h56 90 25) := f248.2.2.2.2.2.2.1
      have f276 : (h232 90 26) = (h56 90 26) := f248.2.2.2.2.2.2.2.1
      have f277 : (h232 90 27) = (h56 90 27) := f248.2.2.2.2.2.2.2.2.1
      have f278 : (h232 90 28) = (h56 90 28) := f248.2.2.2.2.2.2.2.2.2.1
      have f279 : (h232 90 29) = (h56 90 29) := f248.2.2.2.2.2.2.2.2.2.2.1
      have f280 : (h232 90 30) = (h56 90 30) := f248.2.2.2.2.2.2.2.2.2.2.2.1
      have f281 : (h232 90 34) = (h56 90 34) := f248.2.2.2.2.2.2.2.2.2.2.2.2.1
      have f282 : (h232 90 35) = (h56 90 35) := f248.2.2.2.2.2.2.2.2.2.2.2.2.2.1
      have f283 : (h232 90 37) = (h56 90 37) := f248.2.2.2.2.2.2.2.2.2.2.2.2.2.2.1
      have f284 : (h56 90 7) ≤ (h232 90 7) := f248.2.2.2.2.2.2.2.2.2.2.2.2.2.2.2.2.1
      have f285 : (h232 90 7) ≤ n := f248.2.2.2.2.2.2.2.2.2.2.2.2.2.2.2.2.2.1
      have f286 : (h232 90 7) = (h56 90 7) + 1 ∧ (h56 90 8) = 0 := f248.2.2.2.2.2.2.2.2.2.2.2.2.2.2.2.2.2.2.1 (by omega)
      have f287 : (h56 90 8) = 0 ∧ (h 92 ((h56 90 7))) = 3 ∧ (h 94 ((h56 90 7))) = (61 : Int) := f248.2.2.2.2.2.2.2.2.2.2.2.2.2.2.2.2.2.2.2.2.1 (by omega)
      clear f248
      refine ov_blk (ls2 := [(0, ov_r 90), (1, ov_i dep), (2, ov_i v36)]) (st2 := [ov_i dep, ov_r 90]) (pc2 := 32) b_227_30_2 rfl rfl ?_
      have cf288 : h232 92 (n) = h 92 (n) := congrFun E234 (n)
      refine ov_cV (as := [ov_i dep]) (st := []) (d2 := d - 1) d_227_32 lk_Mo_260 rfl (Nat.le_of_ble_eq_true rfl) (c := 1) (zb_90 I233) (zs_90 I233) ⟨by decide, rfl⟩ (by omega) (c_Mo_sums_90 n k HE HP (d - 1) (by omega) U I233 dep (by omega) (by show 0 ≤ n ∧ n ≤ 1000 ∧ (h232 92 (n)) = 0 ∧ (h232 90 7) ≤ n; omega) (by omega) (by show (h232 90 13) ≤ (h232 90 7); omega)) ?_
      rintro _ z304 h305 ⟨rfl, I306, f289, e290, e291, e292, e293, e294, e295, e296, e297, e298, e299, e300, e301, y302, y303⟩
      have E307 : h305 92 = h 92 := Eq.trans e290 E234
      have E308 : h305 93 = h 93 := Eq.trans e291 E235
      have E309 : h305 94 = h 94 := Eq.trans e292 E236
      have E310 : h305 95 = h 95 := Eq.trans e293 E237
      have E311 : h305 96 = h 96 := Eq.trans e294 E238
      have E312 : h305 99 = h 99 := Eq.trans e295 E241
      have E313 : h305 100 = h 100 := Eq.trans e296 E242
      have E314 : h305 103 = h 103 := Eq.trans e297 E243
      have E315 : h305 105 = h 105 := Eq.trans e298 E244
      have E316 : h305 106 = h 106 := Eq.trans e299 E245
      have E317 : h305 109 = h 109 := Eq.trans e300 E246
      have E318 : h305 114 = h 114 := Eq.trans e301 E247
      show ov_R u d ov_m227 35 [(0, ov_r 90), (1, ov_i dep), (2, ov_i v36)] [] z304 h305 (P_Mo_test_90 F z h n dep)
      have f319 : (h305 90 2) = (h232 90 2) ∧ (h305 90 3) = (h232 90 3) ∧ (h305 90 20) = (h232 90 20) ∧ (h305 90 22) = (h232 90 22) ∧ (h305 90 25) = (h232 90 25) ∧ (h305 90 26) = (h232 90 26) ∧ (h305 90 27) = (h232 90 27) ∧ (h305 90 28) = (h232 90 28) ∧ (h305 90 29) = (h232 90 29) ∧ (h305 90 30) = (h232 90 30) ∧ (h305 90 34) = (h232 90 34) ∧ (h305 90 35) = (h232 90 35) ∧ (h305 90 37) = (h232 90 37) ∧ (h232 90 7) ≤ (h305 90 7) ∧ (h305 90 7) ≤ n ∧ (0 < (h232 90 8) → (h305 90 8) = (h232 90 8)) ∧ (h232 90 13) ≤ (h305 90 13) ∧ (h305 90 13) - (h232 90 13) ≤ (h305 90 7) - (h232 90 7) := f289
      clear f289
      rw [show h232 97 = h17 97 from E239] at y302
      rw [show h232 98 = h17 98 from E240] at y302
      have y302_ : ∀ j : Int, j < 1100 + (h232 90 13) → (h305 97) j = (h17 97) j ∧ (h305 98) j = (h17 98) j := y302
      have y303_ : (h305 90 8) = 0 → ov_sg (h305 97) (h305 98) (h232 90 13) (h305 90 13) := y303
      refine ov_blk (ls2 := [(0, ov_r 90), (1, ov_i dep), (2, ov_i v36)]) (st2 := [ov_i v36, ov_r 90]) (pc2 := 37) b_227_35_2 rfl rfl ?_
      refine ov_ifeq (tgt := 45) d_227_37 (by decide) (by omega) (fun c320 => ?_) (fun c320 => ?_)
      · skip
        have f37_ : v36 = 0 := by omega
        have f321 : ¬ ((h17 90 8) = 0 ∧ (h 92 ((h17 90 7))) = 3 ∧ (h 94 ((h17 90 7))) = (60 : Int)) := f37.2.2.2 (by omega)
        clear f37
        refine ov_blk (ls2 := [(0, ov_r 90), (1, ov_i dep), (2, ov_i v36)]) (st2 := [ov_i 0, ov_i 8, ov_r 90]) (pc2 := 48) b_227_45_2 rfl rfl ?_
        refine ov_cV (as := [ov_i 8, ov_i 0]) (st := []) (d2 := d - 1) d_227_48 lk_Mo_246 rfl (Nat.le_of_ble_eq_true rfl) (c := 1) (zb_90 I306) (zs_90 I306) ⟨by decide, rfl⟩ (by omega) (c_Mo_emit_90 (d - 1) (by omega) U I306 8 0 (by omega) (by omega) (by omega) (by show (h305 90 13) ≤ 999; omega)) ?_
        rintro _ z337 h338 ⟨rfl, I339, f322, e323, e324, e325, e326, e327, e328, e329, e330, e331, e332, e333, e334, y335, y336⟩
        have E340 : h338 92 = h 92 := Eq.trans e323 E307
        have E341 : h338 93 = h 93 := Eq.trans e324 E308
        have E342 : h338 94 = h 94 := Eq.trans e325 E309
        have E343 : h338 95 = h 95 := Eq.trans e326 E310
        have E344 : h338 96 = h 96 := Eq.trans e327 E311
        have E345 : h338 99 = h 99 := Eq.trans e328 E312
        have E346 : h338 100 = h 100 := Eq.trans e329 E313
        have E347 : h338 103 = h 103 := Eq.trans e330 E314
        have E348 : h338 105 = h 105 := Eq.trans e331 E315
        have E349 : h338 106 = h 106 := Eq.trans e332 E316
        have E350 : h338 109 = h 109 := Eq.trans e333 E317
        have E351 : h338 114 = h 114 := Eq.trans e334 E318
        show ov_R u d ov_m227 51 [(0, ov_r 90), (1, ov_i dep), (2, ov_i v36)] [] z337 h338 (P_Mo_test_90 F z h n dep)
        have f352 : (h338 90 2) = (h305 90 2) ∧ (h338 90 3) = (h305 90 3) ∧ (h338 90 7) = (h305 90 7) ∧ (h338 90 8) = (h305 90 8) ∧ (h338 90 20) = (h305 90 20) ∧ (h338 90 22) = (h305 90 22) ∧ (h338 90 25) = (h305 90 25) ∧ (h338 90 26) = (h305 90 26) ∧ (h338 90 27) = (h305 90 27) ∧ (h338 90 28) = (h305 90 28) ∧ (h338 90 29) = (h305 90 29) ∧ (h338 90 30) = (h305 90 30) ∧ (h338 90 34) = (h305 90 34) ∧ (h338 90 35) = (h305 90 35) ∧ (h338 90 37) = (h305 90 37) ∧ (h338 90 13) = (h305 90 13) + 1 := f322
        clear f322
        have y335_ : (h338 97) = ov_rs (h305 97) (1100 + (h305 90 13)) (8 : Int) := y335
        have y336_ : (h338 98) = ov_rs (h305 98) (1100 + (h305 90 13)) (0 : Int) := y336
        have K353 : ∀ j : Int, j < 1100 + (h 90 13) → h338 97 j = h 97 j ∧ h338 98 j = h 98 j := ov_kpe (ov_kp K32 y302_ (by omega)) y335_ y336_ (by omega)
        have K354 : h338 90 8 = 0 → ov_sg (h338 97) (h338 98) (h 90 13) (h338 90 13) := fun e => by have q1 := K33 (by omega); have q2 := y303_ (by omega); rw [show (h232 90 13) = (h17 90 13) by omega] at q2; have q3 := ov_sg_bin q1 (fun j hj => y302_ j (by omega)) q2 y335_ y336_ (by omega); rw [show h338 90 13 = (h305 90 13) + 1 by omega]; exact q3
        exact ov_retv (st := []) d_227_51 rfl ⟨rfl, I339, (by show (h338 90 2) = (h 90 2) ∧ (h338 90 3) = (h 90 3) ∧ (h338 90 20) = (h 90 20) ∧ (h338 90 22) = (h 90 22) ∧ (h338 90 25) = (h 90 25) ∧ (h338 90 26) = (h 90 26) ∧ (h338 90 27) = (h 90 27) ∧ (h338 90 28) = (h 90 28) ∧ (h338 90 29) = (h 90 29) ∧ (h338 90 30) = (h 90 30) ∧ (h338 90 34) = (h 90 34) ∧ (h338 90 35) = (h 90 35) ∧ (h338 90 37) = (h 90 37) ∧ (h 90 7) ≤ (h338 90 7) ∧ (h338 90 7) ≤ n ∧ (0 < (h 90 8) → (h338 90 8) = (h 90 8)) ∧ (h 90 13) ≤ (h338 90 13) ∧ (h338 90 13) - (h 90 13) ≤ (h338 90 7) - (h 90 7); omega), E340, E341, E342, E343, E344, E345, E346, E347, E348, E349, E350, E351, K353, (fun e => by have e0 : (h338 90 8) = 0 := e; show ov_sg (h338 97) (h338 98) _ (h338 90 13); rw [show (h338 90 13) = (h338 90 13) by omega]; exact K354 (by omega))⟩
      · skip
        have f37_ : v36 = 1 := by omega
        have f355 : (h17 90 7) < n := f37.2.1 (by omega)
        have f356 : (h17 90 8) = 0 ∧ (h 92 ((h17 90 7))) = 3 ∧ (h 94 ((h17 90 7))) = (60 : Int) := f37.2.2.1 (by omega)
        clear f37
        refine ov_blk (ls2 := [(0, ov_r 90), (1, ov_i dep), (2, ov_i v36)]) (st2 := [ov_i 7, ov_r 90]) (pc2 := 42) b_227_40_1 rfl rfl ?_
        refine ov_goto (tgt := 47) d_227_42 (by decide) ?_
        refine ov_blk (ls2 := [(0, ov_r 90), (1, ov_i dep), (2, ov_i v36)]) (st2 := [ov_i 0, ov_i 7, ov_r 90]) (pc2 := 48) b_227_47_1 rfl rfl ?_
        refine ov_cV (as := [ov_i 7, ov_i 0]) (st := []) (d2 := d - 1) d_227_48 lk_Mo_246 rfl (Nat.le_of_ble_eq_true rfl) (c := 1) (zb_90 I306) (zs_90 I306) ⟨by decide, rfl⟩ (by omega) (c_Mo_emit_90 (d - 1) (by omega) U I306 7 0 (by omega) (by omega) (by omega) (by show (h305 90 13) ≤ 999; omega)) ?_
        rintro _ z372 h373 ⟨rfl, I374, f357, e358, e359, e360, e361, e362, e363, e364, e365, e366, e367, e368, e369, y370, y371⟩
        have E375 : h373 92 = h 92 := Eq.trans e358 E307
        have E376 : h373 93 = h 93 := Eq.trans e359 E308
        have E377 : h373 94 = h 94 := Eq.trans e360 E309
        have E378 : h373 95 = h 95 := Eq.trans e361 E310
        have E379 : h373 96 = h 96 := Eq.trans e362 E311
        have E380 : h373 99 = h 99 := Eq.trans e363 E312
        have E381 : h373 100 = h 100 := Eq.trans e364 E313
        have E382 : h373 103 = h 103 := Eq.trans e365 E314
        have E383 : h373 105 = h 105 := Eq.trans e366 E315
        have E384 : h373 106 = h 106 := Eq.trans e367 E316
        have E385 : h373 109 = h 109 := Eq.trans e368 E317
        have E386 : h373 114 = h 114 := Eq.trans e369 E318
        show ov_R u d ov_m227 51 [(0, ov_r 90), (1, ov_i dep), (2, ov_i v36)] [] z372 h373 (P_Mo_test_90 F z h n dep)
        have f387 : (h373 90 2) = (h305 90 2) ∧ (h373 90 3) = (h305 90 3) ∧ (h373 90 7) = (h305 90 7) ∧ (h373 90 8) = (h305 90 8) ∧ (h373 90 20) = (h305 90 20) ∧ (h373 90 22) = (h305 90 22) ∧ (h373 90 25) = (h305 90 25) ∧ (h373 90 26) = (h305 90 26) ∧ (h373 90 27) = (h305 90 27) ∧ (h373 90 28) = (h305 90 28) ∧ (h373 90 29) = (h305 90 29) ∧ (h373 90 30) = (h305 90 30) ∧ (h373 90 34) = (h305 90 34) ∧ (h373 90 35) = (h305 90 35) ∧ (h373 90 37) = (h305 90 37) ∧ (h373 90 13) = (h305 90 13) + 1 := f357
        clear f357
        have y370_ : (h373 97) = ov_rs (h305 97) (1100 + (h305 90 13)) (7 : Int) := y370
        have y371_ : (h373 98) = ov_rs (h305 98) (1100 + (h305 90 13)) (0 : Int) := y371
        have K388 : ∀ j : Int, j < 1100 + (h 90 13) → h373 97 j = h 97 j ∧ h373 98 j = h 98 j := ov_kpe (ov_kp K32 y302_ (by omega)) y370_ y371_ (by omega)
        have K389 : h373 90 8 = 0 → ov_sg (h373 97) (h373 98) (h 90 13) (h373 90 13) := fun e => by have q1 := K33 (by omega); have q2 := y303_ (by omega); rw [show (h232 90 13) = (h17 90 13) by omega] at q2; have q3 := ov_sg_bin q1 (fun j hj => y302_ j (by omega)) q2 y370_ y371_ (by omega); rw [show h373 90 13 = (h305 90 13) + 1 by omega]; exact q3
        exact ov_retv (st := []) d_227_51 rfl ⟨rfl, I374, (by show (h373 90 2) = (h 90 2) ∧ (h373 90 3) = (h 90 3) ∧ (h373 90 20) = (h 90 20) ∧ (h373 90 22) = (h 90 22) ∧ (h373 90 25) = (h 90 25) ∧ (h373 90 26) = (h 90 26) ∧ (h373 90 27) = (h 90 27) ∧ (h373 90 28) = (h 90 28) ∧ (h373 90 29) = (h 90 29) ∧ (h373 90 30) = (h 90 30) ∧ (h373 90 34) = (h 90 34) ∧ (h373 90 35) = (h 90 35) ∧ (h373 90 37) = (h 90 37) ∧ (h 90 7) ≤ (h373 90 7) ∧ (h373 90 7) ≤ n ∧ (0 < (h 90 8) → (h373 90 8) = (h 90 8)) ∧ (h 90 13) ≤ (h373 90 13) ∧ (h373 90 13) - (h 90 13) ≤ (h373 90 7) - (h 90 7); omega), E375, E376, E377, E378, E379, E380, E381, E382, E383, E384, E385, E386, K388, (fun e => by have e0 : (h373 90 8) = 0 := e; show ov_sg (h373 97) (h373 98) _ (h373 90 13); rw [show (h373 90 13) = (h373 90 13) by omega]; exact K389 (by omega))⟩
set_option maxHeartbeats 4000000 in
theorem c_Mo_all_90 {u : ov_U} {F : ov_H × ov_Z} (n : Int) (k : Nat) (HE : ∀ k' : Nat, k' + 1 = k → ∀ {z : ov_Z} {h : ov_H} (d : Nat) (hd : (10 + 5 * k' + 4) ≤ d) (U : ov_cap u) (I : ov_N F z h) (dep : Int) (g_dep : ov_g dep) (p0 : 0 ≤ n ∧ n ≤ 1000 ∧ (h 92 (n)) = 0 ∧ (h 90 7) ≤ n) (p1 : 0 ≤ dep ∧ dep + (k' : Int) = 5) (p2 : (h 90 13) ≤ (h 90 7)), ov_T u d ov_m226 [ov_r 90, ov_i dep] z h (P_Mo_all_90 F z h n dep)) (HP : ∀ k' : Nat, k' + 1 = k → ∀ {z : ov_Z} {h : ov_H} (d : Nat) (hd : (10 + 5 * k' + 0) ≤ d) (U : ov_cap u) (I : ov_N F z h) (dep : Int) (g_dep : ov_g dep) (p0 : 0 ≤ n ∧ n ≤ 1000 ∧ (h 92 (n)) = 0 ∧ (h 90 7) ≤ n) (p1 : 0 ≤ dep ∧ dep + (k' : Int) = 5) (p2 : (h 90 13) ≤ (h 90 7)), ov_T u d ov_m230 [ov_r 90, ov_i dep] z h (P_Mo_takePart_90 F z h n dep)) {z : ov_Z} {h : ov_H} (d : Nat) (hd : (10 + 5 * k + 4) ≤ d) (U : ov_cap u) (I : ov_N F z h) (dep : Int) (g_dep : ov_g dep) (p0 : 0 ≤ n ∧ n ≤ 1000 ∧ (h 92 (n)) = 0 ∧ (h 90 7) ≤ n) (p1 : 0 ≤ dep ∧ dep + (k : Int) = 5) (p2 : (h 90 13) ≤ (h 90 7)) : ov_T u d ov_m226 [ov_r 90, ov_i dep] z h (P_Mo_all_90 F z h n dep) := by
  refine ov_en rfl (Nat.le_of_ble_eq_true rfl) ?_
  show ov_R u d ov_m226 0 [(0, ov_r 90), (1, ov_i dep)] [] z h (P_Mo_all_90 F z h n dep)
  refine ov_blk (ls2 := [(0, ov_r 90), (1, ov_i dep)]) (st2 := [ov_i dep, ov_r 90]) (pc2 := 2) b_226_0_2 rfl rfl ?_
  refine ov_cV (as := [ov_i dep]) (st := []) (d2 := d - 1) d_226_2 lk_Mo_257 rfl (Nat.le_of_ble_eq_true rfl) (c := 1) (zb_90 I) (zs_90 I) ⟨by decide, rfl⟩ (by omega) (c_Mo_test_90 n k HE HP (d - 1) (by omega) U I dep (by omega) (by show 0 ≤ n ∧ n ≤ 1000 ∧ (h 92 (n)) = 0 ∧ (h 90 7) ≤ n; omega) (by omega) (by show (h 90 13) ≤ (h 90 7); omega)) ?_
  rintro _ z16 h17 ⟨rfl, I18, f1, e2, e3, e4, e5, e6, e7, e8, e9, e10, e11, e12, e13, y14, y15⟩
  have E19 : h17 92 = h 92 := e2
  have E20 : h17 93 = h 93 := e3
  have E21 : h17 94 = h 94 := e4
  have E22 : h17 95 = h 95 := e5
  have E23 : h17 96 = h 96 := e6
  have E24 : h17 99 = h 99 := e7
  have E25 : h17 100 = h 100 := e8
  have E26 : h17 103 = h 103 := e9
  have E27 : h17 105 = h 105 := e10
  have E28 : h17 106 = h 106 := e11
  have E29 : h17 109 = h 109 := e12
  have E30 : h17 114 = h 114 := e13
  show ov_R u d ov_m226 5 [(0, ov_r 90), (1, ov_i dep)] [] z16 h17 (P_Mo_all_90 F z h n dep)
  have f31 : (h17 90 2) = (h 90 2) ∧ (h17 90 3) = (h 90 3) ∧ (h17 90 20) = (h 90 20) ∧ (h17 90 22) = (h 90 22) ∧ (h17 90 25) = (h 90 25) ∧ (h17 90 26) = (h 90 26) ∧ (h17 90 27) = (h 90 27) ∧ (h17 90 28) = (h 90 28) ∧ (h17 90 29) = (h 90 29) ∧ (h17 90 30) = (h 90 30) ∧ (h17 90 34) = (h 90 34) ∧ (h17 90 35) = (h 90 35) ∧ (h17 90 37) = (h 90 37) ∧ (h 90 7) ≤ (h17 90 7) ∧ (h17 90 7) ≤ n ∧ (0 < (h 90 8) → (h17 90 8) = (h 90 8)) ∧ (h 90 13) ≤ (h17 90 13) ∧ (h17 90 13) - (h 90 13) ≤ (h17 90 7) - (h 90 7) := f1
  clear f1
  have y14_ : ∀ j : Int, j < 1100 + (h 90 13) → (h17 97) j = (h 97) j ∧ (h17 98) j = (h 98) j := y14
  have y15_ : (h17 90 8) = 0 → ov_sg (h17 97) (h17 98) (h 90 13) (h17 90 13) := y15
  have K32 : ∀ j : Int, j < 1100 + (h 90 13) → h17 97 j = h 97 j ∧ h17 98 j = h 98 j := fun j hj => y14_ j (by omega)
  have K33 : h17 90 8 = 0 → ov_sg (h17 97) (h17 98) (h 90 13) (h17 90 13) := fun e => by have q := y15_ e; rw [show (h 90 13) = h 90 13 by omega] at q; exact q
  have L37 : ∀ (n34 : Nat) (z38 : ov_Z) (h39 : ov_H) (I40 : ov_N F z38 h39) (E41 : h39 92 = h 92) (E42 : h39 93 = h 93) (E43 : h39 94 = h 94) (E44 : h39 95 = h 95) (E45 : h39 96 = h 96) (E46 : h39 99 = h 99) (E47 : h39 100 = h 100) (E48 : h39 103 = h 103) (E49 : h39 105 = h 105) (E50 : h39 106 = h 106) (E51 : h39 109 = h 109) (E52 : h39 114 = h 114) (xa : ∀ j : Int, j < 1100 + (h 90 13) → (h39 97) j = (h 97) j ∧ (h39 98) j = (h 98) j) (xb : (h39 90 8) = 0 → ov_sg (h39 97) (h39 98) (h 90 13) (h39 90 13)) (q36 : (h 90 7) ≤ (h39 90 7) ∧ (h39 90 7) ≤ n ∧ (0 < (h 90 8) → (h39 90 8) = (h 90 8)) ∧ (h 90 13) ≤ (h39 90 13) ∧ (h39 90 13) - (h 90 13) ≤ (h39 90 7) - (h 90 7) ∧ (h39 90 2) = (h17 90 2) ∧ (h39 90 3) = (h17 90 3) ∧ (h39 90 20) = (h17 90 20) ∧ (h39 90 22) = (h17 90 22) ∧ (h39 90 25) = (h17 90 25) ∧ (h39 90 26) = (h17 90 26) ∧ (h39 90 27) = (h17 90 27) ∧ (h39 90 28) = (h17 90 28) ∧ (h39 90 29) = (h17 90 29) ∧ (h39 90 30) = (h17 90 30) ∧ (h39 90 34) = (h17 90 34) ∧ (h39 90 35) = (h17 90 35) ∧ (h39 90 37) = (h17 90 37)), 1000 - (h39 90 7) < (n34 : Int) → ov_R u d ov_m226 5 [(0, ov_r 90), (1, ov_i dep)] [] z38 h39 (P_Mo_all_90 F z h n dep) := by
    intro n34
    induction n34 with
    | zero =>
      intro  z38 h39 I40 E41 E42 E43 E44 E45 E46 E47 E48 E49 E50 E51 E52 xa xb q36 hn53
      exact absurd hn53 (by omega)
    | succ n34 ih35 =>
      intro  z38 h39 I40 E41 E42 E43 E44 E45 E46 E47 E48 E49 E50 E51 E52 xa xb q36 hn53
      refine ov_blk (ls2 := [(0, ov_r 90), (1, ov_i dep)]) (st2 := [ov_r 90]) (pc2 := 6) b_226_5_1 rfl rfl ?_
      refine ov_blk (ls2 := [(0, ov_r 90), (1, ov_i dep)]) (st2 := [ov_i 18, ov_r 90]) (pc2 := 8) b_226_6_1 rfl rfl ?_
      have cf54 : h39 92 (n) = h 92 (n) := congrFun E41 (n)
      refine ov_cV (as := [ov_i 18]) (st := []) (d2 := d - 1) d_226_8 lk_Mo_189 rfl (Nat.le_of_ble_eq_true rfl) (c := 1) (zb_90 I40) (zs_90 I40) ⟨by decide, rfl⟩ (by omega) (c_Mo_isWord_90 n (d - 1) (by omega) U I40 18 (by omega) (by show 0 ≤ n ∧ n ≤ 1000 ∧ (h39 92 (n)) = 0 ∧ (h39 90 7) ≤ n; omega) (by omega)) ?_
      rintro _ _ _ ⟨v56, rfl, rfl, rfl, f55⟩
      show ov_R u d ov_m226 11 [(0, ov_r 90), (1, ov_i dep)] [ov_i v56] z38 h39 (P_Mo_all_90 F z h n dep)
      rw [show h39 92 = h 92 from E41] at f55
      rw [show h39 94 = h 94 from E43] at f55
      rw [show h39 95 = h 95 from E44] at f55
      have f57 : (v56 = 0 ∨ v56 = 1) ∧ (v56 = 1 → (h39 90 7) < n) ∧ (v56 = 1 → (h39 90 8) = 0 ∧ (h 92 ((h39 90 7))) = 1 ∧ (h 94 ((h39 90 7))) = (h 95 ((18 : Int)))) ∧ (v56 = 0 → ¬ ((h39 90 8) = 0 ∧ (h 92 ((h39 90 7))) = 1 ∧ (h 94 ((h39 90 7))) = (h 95 ((18 : Int))))) := f55
      clear f55
      refine ov_ifne (tgt := 23) d_226_11 (by decide) (by omega) (fun c58 => ?_) (fun c58 => ?_)
      · skip
        have f57_ : v56 = 1 := by omega
        have f59 : (h39 90 7) < n := f57.2.1 (by omega)
        have f60 : (h39 90 8) = 0 ∧ (h 92 ((h39 90 7))) = 1 ∧ (h 94 ((h39 90 7))) = (h 95 ((18 : Int))) := f57.2.2.1 (by omega)
        clear f57
        refine ov_blk (ls2 := [(0, ov_r 90), (1, ov_i dep)]) (st2 := [ov_i 18, ov_r 90]) (pc2 := 26) b_226_23_2 rfl rfl ?_
        have cf61 : h39 92 (n) = h 92 (n) := congrFun E41 (n)
        refine ov_cV (as := [ov_i 18]) (st := []) (d2 := d - 1) d_226_26 lk_Mo_189 rfl (Nat.le_of_ble_eq_true rfl) (c := 1) (zb_90 I40) (zs_90 I40) ⟨by decide, rfl⟩ (by omega) (c_Mo_isWord_90 n (d - 1) (by omega) U I40 18 (by omega) (by show 0 ≤ n ∧ n ≤ 1000 ∧ (h39 92 (n)) = 0 ∧ (h39 90 7) ≤ n; omega) (by omega)) ?_
        rintro _ _ _ ⟨v63, rfl, rfl, rfl, f62⟩
        show ov_R u d ov_m226 29 [(0, ov_r 90), (1, ov_i dep)] [ov_i v63] z38 h39 (P_Mo_all_90 F z h n dep)
        rw [show h39 92 = h 92 from E41] at f62
        rw [show h39 94 = h 94 from E43] at f62
        rw [show h39 95 = h 95 from E44] at f62
        have f64 : (v63 = 0 ∨ v63 = 1) ∧ (v63 = 1 → (h39 90 7) < n) ∧ (v63 = 1 → (h39 90 8) = 0 ∧ (h 92 ((h39 90 7))) = 1 ∧ (h 94 ((h39 90 7))) = (h 95 ((18 : Int)))) ∧ (v63 = 0 → ¬ ((h39 90 8) = 0 ∧ (h 92 ((h39 90 7))) = 1 ∧ (h 94 ((h39 90 7))) = (h 95 ((18 : Int))))) := f62
        clear f62
        refine ov_blk (ls2 := [(0, ov_r 90), (1, ov_i dep), (2, ov_i v63)]) (st2 := [ov_r 90, ov_r 90]) (pc2 := 32) b_226_29_3 rfl rfl ?_
        refine ov_getf (v := ov_i (h39 90 7)) d_226_32 fl_Mo_177 (zb_90 I40) (zs_90 I40) rfl ?_
        have g65 := rg_90_7 I40
        refine ov_blk (ls2 := [(0, ov_r 90), (1, ov_i dep), (2, ov_i v63)]) (st2 := [ov_i ((h39 90 7) + 1), ov_r 90]) (pc2 := 37) b_226_35_2 rfl rfl ?_
        refine ov_putf (x := ((h39 90 7) + 1)) d_226_37 fl_Mo_177 (zb_90 I40) (zs_90 I40) rfl nk_0 rfl ?_
        have I66 := up_90_7 (x := ((h39 90 7) + 1)) I40 (by omega)
        refine ov_blk (ls2 := [(0, ov_r 90), (1, ov_i dep), (2, ov_i v63)]) (st2 := [ov_i dep, ov_r 90]) (pc2 := 42) b_226_40_2 rfl rfl ?_
        have cf67 : h39 92 (n) = h 92 (n) := congrFun E41 (n)
        refine ov_cV (as := [ov_i dep]) (st := []) (d2 := d - 1) d_226_42 lk_Mo_257 rfl (Nat.le_of_ble_eq_true rfl) (c := 1) (zb_90 I66) (zs_90 I66) ⟨by decide, rfl⟩ (by omega) (c_Mo_test_90 n k HE HP (d - 1) (by omega) U I66 dep (by omega) (by show 0 ≤ n ∧ n ≤ 1000 ∧ (h39 92 (n)) = 0 ∧ ((h39 90 7) + 1) ≤ n; omega) (by omega) (by show (h39 90 13) ≤ ((h39 90 7) + 1); omega)) ?_
        rintro _ z83 h84 ⟨rfl, I85, f68, e69, e70, e71, e72, e73, e74, e75, e76, e77, e78, e79, e80, y81, y82⟩
        have E86 : h84 92 = h 92 := Eq.trans e69 E41
        have E87 : h84 93 = h 93 := Eq.trans e70 E42
        have E88 : h84 94 = h 94 := Eq.trans e71 E43
        have E89 : h84 95 = h 95 := Eq.trans e72 E44
        have E90 : h84 96 = h 96 := Eq.trans e73 E45
        have E91 : h84 99 = h 99 := Eq.trans e74 E46
        have E92 : h84 100 = h 100 := Eq.trans e75 E47
        have E93 : h84 103 = h 103 := Eq.trans e76 E48
        have E94 : h84 105 = h 105 := Eq.trans e77 E49
        have E95 : h84 106 = h 106 := Eq.trans e78 E50
        have E96 : h84 109 = h 109 := Eq.trans e79 E51
        have E97 : h84 114 = h 114 := Eq.trans e80 E52
        show ov_R u d ov_m226 45 [(0, ov_r 90), (1, ov_i dep), (2, ov_i v63)] [] z83 h84 (P_Mo_all_90 F z h n dep)
        have f98 : (h84 90 2) = (h39 90 2) ∧ (h84 90 3) = (h39 90 3) ∧ (h84 90 20) = (h39 90 20) ∧ (h84 90 22) = (h39 90 22) ∧ (h84 90 25) = (h39 90 25) ∧ (h84 90 26) = (h39 90 26) ∧ (h84 90 27) = (h39 90 27) ∧ (h84 90 28) = (h39 90 28) ∧ (h84 90 29) = (h39 90 29) ∧ (h84 90 30) = (h39 90 30) ∧ (h84 90 34) = (h39 90 34) ∧ (h84 90 35) = (h39 90 35) ∧ (h84 90 37) = (h39 90 37) ∧ ((h39 90 7) + 1) ≤ (h84 90 7) ∧ (h84 90 7) ≤ n ∧ (0 < (h39 90 8) → (h84 90 8) = (h39 90 8)) ∧ (h39 90 13) ≤ (h84 90 13) ∧ (h84 90 13) - (h39 90 13) ≤ (h84 90 7) - ((h39 90 7) + 1) := f68
        clear f68
        have y81_ : ∀ j : Int, j < 1100 + (h39 90 13) → (h84 97) j = (h39 97) j ∧ (h84 98) j = (h39 98) j := y81
        have y82_ : (h84 90 8) = 0 → ov_sg (h84 97) (h84 98) (h39 90 13) (h84 90 13) := y82
        refine ov_blk (ls2 := [(0, ov_r 90), (1, ov_i dep), (2, ov_i v63)]) (st2 := [ov_i v63, ov_r 90]) (pc2 := 47) b_226_45_2 rfl rfl ?_
        refine ov_ifeq (tgt := 55) d_226_47 (by decide) (by omega) (fun c99 => ?_) (fun c99 => ?_)
        · skip
          have f64_ : v63 = 0 := by omega
          have f100 : ¬ ((h39 90 8) = 0 ∧ (h 92 ((h39 90 7))) = 1 ∧ (h 94 ((h39 90 7))) = (h 95 ((18 : Int)))) := f64.2.2.2 (by omega)
          clear f64
          refine ov_blk (ls2 := [(0, ov_r 90), (1, ov_i dep), (2, ov_i v63)]) (st2 := [ov_i 0, ov_i 10, ov_r 90]) (pc2 := 58) b_226_55_2 rfl rfl ?_
          refine ov_cV (as := [ov_i 10, ov_i 0]) (st := []) (d2 := d - 1) d_226_58 lk_Mo_246 rfl (Nat.le_of_ble_eq_true rfl) (c := 1) (zb_90 I85) (zs_90 I85) ⟨by decide, rfl⟩ (by omega) (c_Mo_emit_90 (d - 1) (by omega) U I85 10 0 (by omega) (by omega) (by omega) (by show (h84 90 13) ≤ 999; omega)) ?_
          rintro _ z116 h117 ⟨rfl, I118, f101, e102, e103, e104, e105, e106, e107, e108, e109, e110, e111, e112, e113, y114, y115⟩
          have E119 : h117 92 = h 92 := Eq.trans e102 E86
          have E120 : h117 93 = h 93 := Eq.trans e103 E87
          have E121 : h117 94 = h 94 := Eq.trans e104 E88
          have E122 : h117 95 = h 95 := Eq.trans e105 E89
          have E123 : h117 96 = h 96 := Eq.trans e106 E90
          have E124 : h117 99 = h 99 := Eq.trans e107 E91
          have E125 : h117 100 = h 100 := Eq.trans e108 E92
          have E126 : h117 103 = h 103 := Eq.trans e109 E93
          have E127 : h117 105 = h 105 := Eq.trans e110 E94
          have E128 : h117 106 = h 106 := Eq.trans e111 E95
          have E129 : h117 109 = h 109 := Eq.trans e112 E96
          have E130 : h117 114 = h 114 := Eq.trans e113 E97
          show ov_R u d ov_m226 61 [(0, ov_r 90), (1, ov_i dep), (2, ov_i v63)] [] z116 h117 (P_Mo_all_90 F z h n dep)
          have f131 : (h117 90 2) = (h84 90 2) ∧ (h117 90 3) = (h84 90 3) ∧ (h117 90 7) = (h84 90 7) ∧ (h117 90 8) = (h84 90 8) ∧ (h117 90 20) = (h84 90 20) ∧ (h117 90 22) = (h84 90 22) ∧ (h117 90 25) = (h84 90 25) ∧ (h117 90 26) = (h84 90 26) ∧ (h117 90 27) = (h84 90 27) ∧ (h117 90 28) = (h84 90 28) ∧ (h117 90 29) = (h84 90 29) ∧ (h117 90 30) = (h84 90 30) ∧ (h117 90 34) = (h84 90 34) ∧ (h117 90 35) = (h84 90 35) ∧ (h117 90 37) = (h84 90 37) ∧ (h117 90 13) = (h84 90 13) + 1 := f101
          clear f101
          have y114_ : (h117 97) = ov_rs (h84 97) (1100 + (h84 90 13)) (10 : Int) := y114
          have y115_ : (h117 98) = ov_rs (h84 98) (1100 + (h84 90 13)) (0 : Int) := y115
          have K132 : ∀ j : Int, j < 1100 + (h 90 13) → h117 97 j = h 97 j ∧ h117 98 j = h 98 j := ov_kpe (ov_kp xa y81_ (by omega)) y114_ y115_ (by omega)
          have K133 : h117 90 8 = 0 → ov_sg (h117 97) (h117 98) (h 90 13) (h117 90 13) := fun e => by have q1 := xb (by omega); have q2 := y82_ (by omega); rw [show (h39 90 13) = (h39 90 13) by omega] at q2; have q3 := ov_sg_bin q1 (fun j hj => y81_ j (by omega)) q2 y114_ y115_ (by omega); rw [show h117 90 13 = (h84 90 13) + 1 by omega]; exact q3
          refine ov_goto (tgt := 5) d_226_61 (by decide) ?_
          refine ov_sub (ls2 := [(0, ov_r 90), (1, ov_i dep)]) (List.Sublist.subset (by repeat (first | exact List.Sublist.refl _ | apply List.Sublist.cons_cons | apply List.Sublist.cons))) ?_
          exact ih35  _ _ I118 E119 E120 E121 E122 E123 E124 E125 E126 E127 E128 E129 E130 K132 K133 (by show (h 90 7) ≤ (h117 90 7) ∧ (h117 90 7) ≤ n ∧ (0 < (h 90 8) → (h117 90 8) = (h 90 8)) ∧ (h 90 13) ≤ (h117 90 13) ∧ (h117 90 13) - (h 90 13) ≤ (h117 90 7) - (h 90 7) ∧ (h117 90 2) = (h17 90 2) ∧ (h117 90 3) = (h17 90 3) ∧ (h117 90 20) = (h17 90 20) ∧ (h117 90 22) = (h17 90 22) ∧ (h117 90 25) = (h17 90 25) ∧ (h117 90 26) = (h17 90 26) ∧ (h117 90 27) = (h17 90 27) ∧ (h117 90 28) = (h17 90 28) ∧ (h117 90 29) = (h17 90 29) ∧ (h117 90 30) = (h17 90 30) ∧ (h117 90 34) = (h17 90 34) ∧ (h117 90 35) = (h17 90 35) ∧ (h117 90 37) = (h17 90 37); omega) (by omega)
        · skip
          have f64_ : v63 = 1 := by omega
          have f134 : (h39 90 7) < n := f64.2.1 (by omega)
          have f135 : (h39 90 8) = 0 ∧ (h 92 ((h39 90 7))) = 1 ∧ (h 94 ((h39 90 7))) = (h 95 ((18 : Int))) := f64.2.2.1 (by omega)
          clear f64
          refine ov_blk (ls2 := [(0, ov_r 90), (1, ov_i dep), (2, ov_i v63)]) (st2 := [ov_i 9, ov_r 90]) (pc2 := 52) b_226_50_1 rfl rfl ?_
          refine ov_goto (tgt := 57) d_226_52 (by decide) ?_
          refine ov_blk (ls2 := [(0, ov_r 90), (1, ov_i dep), (2, ov_i v63)]) (st2 := [ov_i 0, ov_i 9, ov_r 90]) (pc2 := 58) b_226_57_1 rfl rfl ?_
          refine ov_cV (as := [ov_i 9, ov_i 0]) (st := []) (d2 := d - 1) d_226_58 lk_Mo_246 rfl (Nat.le_of_ble_eq_true rfl) (c := 1) (zb_90 I85) (zs_90 I85) ⟨by decide, rfl⟩ (by omega) (c_Mo_emit_90 (d - 1) (by omega) U I85 9 0 (by omega) (by omega) (by omega) (by show (h84 90 13) ≤ 999; omega)) ?_
          rintro _ z151 h152 ⟨rfl, I153, f136, e137, e138, e139, e140, e141, e142, e143, e144, e145, e146, e147, e148, y149, y150⟩
          have E154 : h152 92 = h 92 := Eq.trans e137 E86
          have E155 : h152 93 = h 93 := Eq.trans e138 E87
          have E156 : h152 94 = h 94 := Eq.trans e139 E88
          have E157 : h152 95 = h 95 := Eq.trans e140 E89
          have E158 : h152 96 = h 96 := Eq.trans e141 E90
          have E159 : h152 99 = h 99 := Eq.trans e142 E91
          have E160 : h152 100 = h 100 := Eq.trans e143 E92
          have E161 : h152 103 = h 103 := Eq.trans e144 E93
          have E162 : h152 105 = h 105 := Eq.trans e145 E94
          have E163 : h152 106 = h 106 := Eq.trans e146 E95
          have E164 : h152 109 = h 109 := Eq.trans e147 E96
          have E165 : h152 114 = h 114 := Eq.trans e148 E97
          show ov_R u d ov_m226 61 [(0, ov_r 90), (1, ov_i dep), (2, ov_i v63)] [] z151 h152 (P_Mo_all_90 F z h n dep)
          have f166 : (h152 90 2) = (h84 90 2) ∧ (h152 90 3) = (h84 90 3) ∧ (h152 90 7) = (h84 90 7) ∧ (h152 90 8) = (h84 90 8) ∧ (h152 90 20) = (h84 90 20) ∧ (h152 90 22) = (h84 90 22) ∧ (h152 90 25) = (h84 90 25) ∧ (h152 90 26) = (h84 90 26) ∧ (h152 90 27) = (h84 90 27) ∧ (h152 90 28) = (h84 90 28) ∧ (h152 90 29) = (h84 90 29) ∧ (h152 90 30) = (h84 90 30) ∧ (h152 90 34) = (h84 90 34) ∧ (h152 90 35) = (h84 90 35) ∧ (h152 90 37) = (h84 90 37) ∧ (h152 90 13) = (h84 90 13) + 1 := f136
          clear f136
          have y149_ : (h152 97) = ov_rs (h84 97) (1100 + (h84 90 13)) (9 : Int) := y149
          have y150_ : (h152 98) = ov_rs (h84 98) (1100 + (h84 90 13)) (0 : Int) := y150
          have K167 : ∀ j : Int, j < 1100 + (h 90 13) → h152 97 j = h 97 j ∧ h152 98 j = h 98 j := ov_kpe (ov_kp xa y81_ (by omega)) y149_ y150_ (by omega)
          have K168 : h152 90 8 = 0 → ov_sg (h152 97) (h152 98) (h 90 13) (h152 90 13) := fun e => by have q1 := xb (by omega); have q2 := y82_ (by omega); rw [show (h39 90 13) = (h39 90 13) by omega] at q2; have q3 := ov_sg_bin q1 (fun j hj => y81_ j (by omega)) q2 y149_ y150_ (by omega); rw [show h152 90 13 = (h84 90 13) + 1 by omega]; exact q3
          refine ov_goto (tgt := 5) d_226_61 (by decide) ?_
          refine ov_sub (ls2 := [(0, ov_r 90), (1, ov_i dep)]) (List.Sublist.subset (by repeat (first | exact List.Sublist.refl _ | apply List.Sublist.cons_cons | apply List.Sublist.cons))) ?_
          exact ih35  _ _ I153 E154 E155 E156 E157 E158 E159 E160 E161 E162 E163 E164 E165 K167 K168 (by show (h 90 7) ≤ (h152 90 7) ∧ (h152 90 7) ≤ n ∧ (0 < (h 90 8) → (h152 90 8) = (h 90 8)) ∧ (h 90 13) ≤ (h152 90 13) ∧ (h152 90 13) - (h 90 13) ≤ (h152 90 7) - (h 90 7) ∧ (h152 90 2) = (h17 90 2) ∧ (h152 90 3) = (h17 90 3) ∧ (h152 90 20) = (h17 90 20) ∧ (h152 90 22) = (h17 90 22) ∧ (h152 90 25) = (h17 90 25) ∧ (h152 90 26) = (h17 90 26) ∧ (h152 90 27) = (h17 90 27) ∧ (h152 90 28) = (h17 90 28) ∧ (h152 90 29) = (h17 90 29) ∧ (h152 90 30) = (h17 90 30) ∧ (h152 90 34) = (h17 90 34) ∧ (h152 90 35) = (h17 90 35) ∧ (h152 90 37) = (h17 90 37); omega) (by omega)
      · skip
        have f57_ : v56 = 0 := by omega
        have f169 : ¬ ((h39 90 8) = 0 ∧ (h 92 ((h39 90 7))) = 1 ∧ (h 94 ((h39 90 7))) = (h 95 ((18 : Int)))) := f57.2.2.2 (by omega)
        clear f57
        refine ov_blk (ls2 := [(0, ov_r 90), (1, ov_i dep)]) (st2 := [ov_i 19, ov_r 90]) (pc2 := 17) b_226_14_2 rfl rfl ?_
        have cf170 : h39 92 (n) = h 92 (n) := congrFun E41 (n)
        refine ov_cV (as := [ov_i 19]) (st := []) (d2 := d - 1) d_226_17 lk_Mo_189 rfl (Nat.le_of_ble_eq_true rfl) (c := 1) (zb_90 I40) (zs_90 I40) ⟨by decide, rfl⟩ (by omega) (c_Mo_isWord_90 n (d - 1) (by omega) U I40 19 (by omega) (by show 0 ≤ n ∧ n ≤ 1000 ∧ (h39 92 (n)) = 0 ∧ (h39 90 7) ≤ n; omega) (by omega)) ?_
        rintro _ _ _ ⟨v172, rfl, rfl, rfl, f171⟩
        show ov_R u d ov_m226 20 [(0, ov_r 90), (1, ov_i dep)] [ov_i v172] z38 h39 (P_Mo_all_90 F z h n dep)
        rw [show h39 92 = h 92 from E41] at f171
        rw [show h39 94 = h 94 from E43] at f171
        rw [show h39 95 = h 95 from E44] at f171
        have f173 : (v172 = 0 ∨ v172 = 1) ∧ (v172 = 1 → (h39 90 7) < n) ∧ (v172 = 1 → (h39 90 8) = 0 ∧ (h 92 ((h39 90 7))) = 1 ∧ (h 94 ((h39 90 7))) = (h 95 ((19 : Int)))) ∧ (v172 = 0 → ¬ ((h39 90 8) = 0 ∧ (h 92 ((h39 90 7))) = 1 ∧ (h 94 ((h39 90 7))) = (h 95 ((19 : Int))))) := f171
        clear f171
        refine ov_ifeq (tgt := 64) d_226_20 (by decide) (by omega) (fun c174 => ?_) (fun c174 => ?_)
        · skip
          have f173_ : v172 = 0 := by omega
          have f175 : ¬ ((h39 90 8) = 0 ∧ (h 92 ((h39 90 7))) = 1 ∧ (h 94 ((h39 90 7))) = (h 95 ((19 : Int)))) := f173.2.2.2 (by omega)
          clear f173
          exact ov_retv (st := []) d_226_64 rfl ⟨rfl, I40, (by show (h39 90 2) = (h 90 2) ∧ (h39 90 3) = (h 90 3) ∧ (h39 90 20) = (h 90 20) ∧ (h39 90 22) = (h 90 22) ∧ (h39 90 25) = (h 90 25) ∧ (h39 90 26) = (h 90 26) ∧ (h39 90 27) = (h 90 27) ∧ (h39 90 28) = (h 90 28) ∧ (h39 90 29) = (h 90 29) ∧ (h39 90 30) = (h 90 30) ∧ (h39 90 34) = (h 90 34) ∧ (h39 90 35) = (h 90 35) ∧ (h39 90 37) = (h 90 37) ∧ (h 90 7) ≤ (h39 90 7) ∧ (h39 90 7) ≤ n ∧ (0 < (h 90 8) → (h39 90 8) = (h 90 8)) ∧ (h 90 13) ≤ (h39 90 13) ∧ (h39 90 13) - (h 90 13) ≤ (h39 90 7) - (h 90 7); omega), E41, E42, E43, E44, E45, E46, E47, E48, E49, E50, E51, E52, xa, (fun e => by have e0 : (h39 90 8) = 0 := e; show ov_sg (h39 97) (h39 98) _ (h39 90 13); rw [show (h39 90 13) = (h39 90 13) by omega]; exact xb (by omega))⟩
        · skip
          have f173_ : v172 = 1 := by omega
          have f176 : (h39 90 7) < n := f173.2.1 (by omega)
          have f177 : (h39 90 8) = 0 ∧ (h 92 ((h39 90 7))) = 1 ∧ (h 94 ((h39 90 7))) = (h 95 ((19 : Int))) := f173.2.2.1 (by omega)
          clear f173
          refine ov_blk (ls2 := [(0, ov_r 90), (1, ov_i dep)]) (st2 := [ov_i 18, ov_r 90]) (pc2 := 26) b_226_23_2 rfl rfl ?_
          have cf178 : h39 92 (n) = h 92 (n) := congrFun E41 (n)
          refine ov_cV (as := [ov_i 18]) (st := []) (d2 := d - 1) d_226_26 lk_Mo_189 rfl (Nat.le_of_ble_eq_true rfl) (c := 1) (zb_90 I40) (zs_90 I40) ⟨by decide, rfl⟩ (by omega) (c_Mo_isWord_90 n (d - 1) (by omega) U I40 18 (by omega) (by show 0 ≤ n ∧ n ≤ 1000 ∧ (h39 92 (n)) = 0 ∧ (h39 90 7) ≤ n; omega) (by omega)) ?_
          rintro _ _ _ ⟨v180, rfl, rfl, rfl, f179⟩
          show ov_R u d ov_m226 29 [(0, ov_r 90), (1, ov_i dep)] [ov_i v180] z38 h39 (P_Mo_all_90 F z h n dep)
          rw [show h39 92 = h 92 from E41] at f179
          rw [show h39 94 = h 94 from E43] at f179
          rw [show h39 95 = h 95 from E44] at f179
          have f181 : (v180 = 0 ∨ v180 = 1) ∧ (v180 = 1 → (h39 90 7) < n) ∧ (v180 = 1 → (h39 90 8) = 0 ∧ (h 92 ((h39 90 7))) = 1 ∧ (h 94 ((h39 90 7))) = (h 95 ((18 : Int)))) ∧ (v180 = 0 → ¬ ((h39 90 8) = 0 ∧ (h 92 ((h39 90 7))) = 1 ∧ (h 94 ((h39 90 7))) = (h 95 ((18 : Int))))) := f179
          clear f179
          refine ov_blk (ls2 := [(0, ov_r 90), (1, ov_i dep), (2, ov_i v180)]) (st2 := [ov_r 90, ov_r 90]) (pc2 := 32) b_226_29_3 rfl rfl ?_
          refine ov_getf (v := ov_i (h39 90 7)) d_226_32 fl_Mo_177 (zb_90 I40) (zs_90 I40) rfl ?_
          have g182 := rg_90_7 I40
          refine ov_blk (ls2 := [(0, ov_r 90), (1, ov_i dep), (2, ov_i v180)]) (st2 := [ov_i ((h39 90 7) + 1), ov_r 90]) (pc2 := 37) b_226_35_2 rfl rfl ?_
          refine ov_putf (x := ((h39 90 7) + 1)) d_226_37 fl_Mo_177 (zb_90 I40) (zs_90 I40) rfl nk_0 rfl ?_
          have I183 := up_90_7 (x := ((h39 90 7) + 1)) I40 (by omega)
          refine ov_blk (ls2 := [(0, ov_r 90), (1, ov_i dep), (2, ov_i v180)]) (st2 := [ov_i dep, ov_r 90]) (pc2 := 42) b_226_40_2 rfl rfl ?_
          have cf184 : h39 92 (n) = h 92 (n) := congrFun E41 (n)
          refine ov_cV (as := [ov_i dep]) (st := []) (d2 := d - 1) d_226_42 lk_Mo_257 rfl (Nat.le_of_ble_eq_true rfl) (c := 1) (zb_90 I183) (zs_90 I183) ⟨by decide, rfl⟩ (by omega) (c_Mo_test_90 n k HE HP (d - 1) (by omega) U I183 dep (by omega) (by show 0 ≤ n ∧ n ≤ 1000 ∧ (h39 92 (n)) = 0 ∧ ((h39 90 7) + 1) ≤ n; omega) (by omega) (by show (h39 90 13) ≤ ((h39 90 7) + 1); omega)) ?_
          rintro _ z200 h201 ⟨rfl, I202, f185, e186, e187, e188, e189, e190, e191, e192, e193, e194, e195, e196, e197, y198, y199⟩
          have E203 : h201 92 = h 92 := Eq.trans e186 E41
          have E204 : h201 93 = h 93 := Eq.trans e187 E42
          have E205 : h201 94 = h 94 := Eq.trans e188 E43
          have E206 : h201 95 = h 95 := Eq.trans e189 E44
          have E207 : h201 96 = h 96 := Eq.trans e190 E45
          have E208 : h201 99 = h 99 := Eq.trans e191 E46
          have E209 : h201 100 = h 100 := Eq.trans e192 E47
          have E210 : h201 103 = h 103 := Eq.trans e193 E48
          have E211 : h201 105 = h 105 := Eq.trans e194 E49
          have E212 : h201 106 = h 106 := Eq.trans e195 E50
          have E213 : h201 109 = h 109 := Eq.trans e196 E51
          have E214 : h201 114 = h 114 := Eq.trans e197 E52
          show ov_R u d ov_m226 45 [(0, ov_r 90), (1, ov_i dep), (2, ov_i v180)] [] z200 h201 (P_Mo_all_90 F z h n dep)
          have f215 : (h201 90 2) = (h39 90 2) ∧ (h201 90 3) = (h39 90 3) ∧ (h201 90 20) = (h39 90 20) ∧ (h201 90 22) = (h39 90 22) ∧ (h201 90 25) = (h39 90 25) ∧ (h201 90 26) = (h39 90 26) ∧ (h201 90 27) = (h39 90 27) ∧ (h201 90 28) = (h39 90 28) ∧ (h201 90 29) = (h39 90 29) ∧ (h201 90 30) = (h39 90 30) ∧ (h201 90 34) = (h39 90 34) ∧ (h201 90 35) = (h39 90 35) ∧ (h201 90 37) = (h39 90 37) ∧ ((h39 90 7) + 1) ≤ (h201 90 7) ∧ (h201 90 7) ≤ n ∧ (0 < (h39 90 8) → (h201 90 8) = (h39 90 8)) ∧ (h39 90 13) ≤ (h201 90 13) ∧ (h201 90 13) - (h39 90 13) ≤ (h201 90 7) - ((h39 90 7) + 1) := f185
          clear f185
          have y198_ : ∀ j : Int, j < 1100 + (h39 90 13) → (h201 97) j = (h39 97) j ∧ (h201 98) j = (h39 98) j := y198
          have y199_ : (h201 90 8) = 0 → ov_sg (h201 97) (h201 98) (h39 90 13) (h201 90 13) := y199
          refine ov_blk (ls2 := [(0, ov_r 90), (1, ov_i dep), (2, ov_i v180)]) (st2 := [ov_i v180, ov_r 90]) (pc2 := 47) b_226_45_2 rfl rfl ?_
          refine ov_ifeq (tgt := 55) d_226_47 (by decide) (by omega) (fun c216 => ?_) (fun c216 => ?_)
          · skip
            have f181_ : v180 = 0 := by omega
            have f217 : ¬ ((h39 90 8) = 0 ∧ (h 92 ((h39 90 7))) = 1 ∧ (h 94 ((h39 90 7))) = (h 95 ((18 : Int)))) := f181.2.2.2 (by omega)
            clear f181
            refine ov_blk (ls2 := [(0, ov_r 90), (1, ov_i dep), (2, ov_i v180)]) (st2 := [ov_i 0, ov_i 10, ov_r 90]) (pc2 := 58) b_226_55_2 rfl rfl ?_
            refine ov_cV (as := [ov_i 10, ov_i 0]) (st := []) (d2 := d - 1) d_226_58 lk_Mo_246 rfl (Nat.le_of_ble_eq_true rfl) (c := 1) (zb_90 I202) (zs_90 I202) ⟨by decide, rfl⟩ (by omega) (c_Mo_emit_90 (d - 1) (by omega) U I202 10 0 (by omega) (by omega) (by omega) (by show (h201 90 13) ≤ 999; omega)) ?_
            rintro _ z233 h234 ⟨rfl, I235, f218, e219, e220, e221, e222, e223, e224, e225, e226, e227, e228, e229, e230, y231, y232⟩
            have E236 : h234 92 = h 92 := Eq.trans e219 E203
            have E237 : h234 93 = h 93 := Eq.trans e220 E204
            have E238 : h234 94 = h 94 := Eq.trans e221 E205
            have E239 : h234 95 = h 95 := Eq.trans e222 E206
            have E240 : h234 96 = h 96 := Eq.trans e223 E207
            have E241 : h234 99 = h 99 := Eq.trans e224 E208
            have E242 : h234 100 = h 100 := Eq.trans e225 E209
            have E243 : h234 103 = h 103 := Eq.trans e226 E210
            have E244 : h234 105 = h 105 := Eq.trans e227 E211
            have E245 : h234 106 = h 106 := Eq.trans e228 E212
            have E246 : h234 109 = h 109 := Eq.trans e229 E213
            have E247 : h234 114 = h 114 := Eq.trans e230 E214
            show ov_R u d ov_m226 61 [(0, ov_r 90), (1, ov_i dep), (2, ov_i v180)] [] z233 h234 (P_Mo_all_90 F z h n dep)
            have f248 : (h234 90 2) = (h201 90 2) ∧ (h234 90 3) = (h201 90 3) ∧ (h234 90 7) = (h201 90 7) ∧ (h234 90 8) = (h201 90 8) ∧ (h234 90 20) = (h201 90 20) ∧ (h234 90 22) = (h201 90 22) ∧ (h234 90 25) = (h201 90 25) ∧ (h234 90 26) = (h201 90 26) ∧ (h234 90 27) = (h201 90 27) ∧ (h234 90 28) = (h201 90 28) ∧ (h234 90 29) = (h201 90 29) ∧ (h234 90 30) = (h201 90 30) ∧ (h234 90 34) = (h201 90 34) ∧ (h234 90 35) = (h201 90 35) ∧ (h234 90 37) = (h201 90 37) ∧ (h234 90 13) = (h201 90 13) + 1 := f218
            clear f218
            have y231_ : (h234 97) = ov_rs (h201 97) (1100 + (h201 90 13)) (10 : Int) := y231
            have y232_ : (h234 98) = ov_rs (h201 98) (1100 + (h201 90 13)) (0 : Int) := y232
            have K249 : ∀ j : Int, j < 1100 + (h 90 13) → h234 97 j = h 97 j ∧ h234 98 j = h 98 j := ov_kpe (ov_kp xa y198_ (by omega)) y231_ y232_ (by omega)
            have K250 : h234 90 8 = 0 → ov_sg (h234 97) (h234 98) (h 90 13) (h234 90 13) := fun e => by have q1 := xb (by omega); have q2 := y199_ (by omega); rw [show (h39 90 13) = (h39 90 13) by omega] at q2; have q3 := ov_sg_bin q1 (fun j hj => y198_ j (by omega)) q2 y231_ y232_ (by omega); rw [show h234 90 13 = (h201 90 13) + 1 by omega]; exact q3
            refine ov_goto (tgt := 5) d_226_61 (by decide) ?_
            refine ov_sub (ls2 := [(0, ov_r 90), (1, ov_i dep)]) (List.Sublist.subset (by repeat (first | exact List.Sublist.refl _ | apply List.Sublist.cons_cons | apply List.Sublist.cons))) ?_
            exact ih35  _ _ I235 E236 E237 E238 E239 E240 E241 E242 E243 E244 E245 E246 E247 K249 K250 (by show (h 90 7) ≤ (h234 90 7) ∧ (h234 90 7) ≤ n ∧ (0 < (h 90 8) → (h234 90 8) = (h 90 8)) ∧ (h 90 13) ≤ (h234 90 13) ∧ (h234 90 13) - (h 90 13) ≤ (h234 90 7) - (h 90 7) ∧ (h234 90 2) = (h17 90 2) ∧ (h234 90 3) = (h17 90 3) ∧ (h234 90 20) = (h17 90 20) ∧ (h234 90 22) = (h17 90 22) ∧ (h234 90 25) = (h17 90 25) ∧ (h234 90 26) = (h17 90 26) ∧ (h234 90 27) = (h17 90 27) ∧ (h234 90 28) = (h17 90 28) ∧ (h234 90 29) = (h17 90 29) ∧ (h234 90 30) = (h17 90 30) ∧ (h234 90 34) = (h17 90 34) ∧ (h234 90 35) = (h17 90 35) ∧ (h234 90 37) = (h17 90 37); omega) (by omega)
          · skip
            have f181_ : v180 = 1 := by omega
            have f251 : (h39 90 7) < n := f181.2.1 (by omega)
            have f252 : (h39 90 8) = 0 ∧ (h 92 ((h39 90 7))) = 1 ∧ (h 94 ((h39 90 7))) = (h 95 ((18 : Int))) := f181.2.2.1 (by omega)
            clear f181
            refine ov_blk (ls2 := [(0, ov_r 90), (1, ov_i dep), (2, ov_i v180)]) (st2 := [ov_i 9, ov_r 90]) (pc2 := 52) b_226_50_1 rfl rfl ?_
            refine ov_goto (tgt := 57) d_226_52 (by decide) ?_
            refine ov_blk (ls2 := [(0, ov_r 90), (1, ov_i dep), (2, ov_i v180)]) (st2 := [ov_i 0, ov_i 9, ov_r 90]) (pc2 := 58) b_226_57_1 rfl rfl ?_
            refine ov_cV (as := [ov_i 9, ov_i 0]) (st := []) (d2 := d - 1) d_226_58 lk_Mo_246 rfl (Nat.le_of_ble_eq_true rfl) (c := 1) (zb_90 I202) (zs_90 I202) ⟨by decide, rfl⟩ (by omega) (c_Mo_emit_90 (d - 1) (by omega) U I202 9 0 (by omega) (by omega) (by omega) (by show (h201 90 13) ≤ 999; omega)) ?_
            rintro _ z268 h269 ⟨rfl, I270, f253, e254, e255, e256, e257, e258, e259, e260, e261, e262, e263, e264, e265, y266, y267⟩
            have E271 : h269 92 = h 92 := Eq.trans e254 E203
            have E272 : h269 93 = h 93 := Eq.trans e255 E204
            have E273 : h269 94 = h 94 := Eq.trans e256 E205
            have E274 : h269 95 = h 95 := Eq.trans e257 E206
            have E275 : h269 96 = h 96 := Eq.trans e258 E207
            have E276 : h269 99 = h 99 := Eq.trans e259 E208
            have E277 : h269 100 = h 100 := Eq.trans e260 E209
            have E278 : h269 103 = h 103 := Eq.trans e261 E210
            have E279 : h269 105 = h 105 := Eq.trans e262 E211
            have E280 : h269 106 = h 106 := Eq.trans e263 E212
            have E281 : h269 109 = h 109 := Eq.trans e264 E213
            have E282 : h269 114 = h 114 := Eq.trans e265 E214
            show ov_R u d ov_m226 61 [(0, ov_r 90), (1, ov_i dep), (2, ov_i v180)] [] z268 h269 (P_Mo_all_90 F z h n dep)
            have f283 : (h269 90 2) = (h201 90 2) ∧ (h269 90 3) = (h201 90 3) ∧ (h269 90 7) = (h201 90 7) ∧ (h269 90 8) = (h201 90 8) ∧ (h269 90 20) = (h201 90 20) ∧ (h269 90 22) = (h201 90 22) ∧ (h269 90 25) = (h201 90 25) ∧ (h269 90 26) = (h201 90 26) ∧ (h269 90 27) = (h201 90 27) ∧ (h269 90 28) = (h201 90 28) ∧ (h269 90 29) = (h201 90 29) ∧ (h269 90 30) = (h201 90 30) ∧ (h269 90 34) = (h201 90 34) ∧ (h269 90 35) = (h201 90 35) ∧ (h269 90 37) = (h201 90 37) ∧ (h269 90 13) = (h201 90 13) + 1 := f253
            clear f253
            have y266_ : (h269 97) = ov_rs (h201 97) (1100 + (h201 90 13)) (9 : Int) := y266
            have y267_ : (h269 98) = ov_rs (h201 98) (1100 + (h201 90 13)) (0 : Int) := y267
            have K284 : ∀ j : Int, j < 1100 + (h 90 13) → h269 97 j = h 97 j ∧ h269 98 j = h 98 j := ov_kpe (ov_kp xa y198_ (by omega)) y266_ y267_ (by omega)
            have K285 : h269 90 8 = 0 → ov_sg (h269 97) (h269 98) (h 90 13) (h269 90 13) := fun e => by have q1 := xb (by omega); have q2 := y199_ (by omega); rw [show (h39 90 13) = (h39 90 13) by omega] at q2; have q3 := ov_sg_bin q1 (fun j hj => y198_ j (by omega)) q2 y266_ y267_ (by omega); rw [show h269 90 13 = (h201 90 13) + 1 by omega]; exact q3
            refine ov_goto (tgt := 5) d_226_61 (by decide) ?_
            refine ov_sub (ls2 := [(0, ov_r 90), (1, ov_i dep)]) (List.Sublist.subset (by repeat (first | exact List.Sublist.refl _ | apply List.Sublist.cons_cons | apply List.Sublist.cons))) ?_
            exact ih35  _ _ I270 E271 E272 E273 E274 E275 E276 E277 E278 E279 E280 E281 E282 K284 K285 (by show (h 90 7) ≤ (h269 90 7) ∧ (h269 90 7) ≤ n ∧ (0 < (h 90 8) → (h269 90 8) = (h 90 8)) ∧ (h 90 13) ≤ (h269 90 13) ∧ (h269 90 13) - (h 90 13) ≤ (h269 90 7) - (h 90 7) ∧ (h269 90 2) = (h17 90 2) ∧ (h269 90 3) = (h17 90 3) ∧ (h269 90 20) = (h17 90 20) ∧ (h269 90 22) = (h17 90 22) ∧ (h269 90 25) = (h17 90 25) ∧ (h269 90 26) = (h17 90 26) ∧ (h269 90 27) = (h17 90 27) ∧ (h269 90 28) = (h17 90 28) ∧ (h269 90 29) = (h17 90 29) ∧ (h269 90 30) = (h17 90 30) ∧ (h269 90 34) = (h17 90 34) ∧ (h269 90 35) = (h17 90 35) ∧ (h269 90 37) = (h17 90 37); omega) (by omega)
  exact L37 1001  _ _ I18 E19 E20 E21 E22 E23 E24 E25 E26 E27 E28 E29 E30 K32 K33 (by show (h 90 7) ≤ (h17 90 7) ∧ (h17 90 7) ≤ n ∧ (0 < (h 90 8) → (h17 90 8) = (h 90 8)) ∧ (h 90 13) ≤ (h17 90 13) ∧ (h17 90 13) - (h 90 13) ≤ (h17 90 7) - (h 90 7) ∧ (h17 90 2) = (h17 90 2) ∧ (h17 90 3) = (h17 90 3) ∧ (h17 90 20) = (h17 90 20) ∧ (h17 90 22) = (h17 90 22) ∧ (h17 90 25) = (h17 90 25) ∧ (h17 90 26) = (h17 90 26) ∧ (h17 90 27) = (h17 90 27) ∧ (h17 90 28) = (h17 90 28) ∧ (h17 90 29) = (h17 90 29) ∧ (h17 90 30) = (h17 90 30) ∧ (h17 90 34) = (h17 90 34) ∧ (h17 90 35) = (h17 90 35) ∧ (h17 90 37) = (h17 90 37); omega) (by omega)
theorem c_Mo_all_90_both {u : ov_U} {F : ov_H × ov_Z} (n : Int) : ∀ k : Nat, (∀ {z : ov_Z} {h : ov_H} (d : Nat) (hd : (10 + 5 * k + 4) ≤ d) (U : ov_cap u) (I : ov_N F z h) (dep : Int) (g_dep : ov_g dep) (p0 : 0 ≤ n ∧ n ≤ 1000 ∧ (h 92 (n)) = 0 ∧ (h 90 7) ≤ n) (p1 : 0 ≤ dep ∧ dep + (k : Int) = 5) (p2 : (h 90 13) ≤ (h 90 7)), ov_T u d ov_m226 [ov_r 90, ov_i dep] z h (P_Mo_all_90 F z h n dep)) ∧ (∀ {z : ov_Z} {h : ov_H} (d : Nat) (hd : (10 + 5 * k + 0) ≤ d) (U : ov_cap u) (I : ov_N F z h) (dep : Int) (g_dep : ov_g dep) (p0 : 0 ≤ n ∧ n ≤ 1000 ∧ (h 92 (n)) = 0 ∧ (h 90 7) ≤ n) (p1 : 0 ≤ dep ∧ dep + (k : Int) = 5) (p2 : (h 90 13) ≤ (h 90 7)), ov_T u d ov_m230 [ov_r 90, ov_i dep] z h (P_Mo_takePart_90 F z h n dep)) := by
  intro k
  induction k with
  | zero => exact ⟨c_Mo_all_90 n 0 (fun k' e => by omega) (fun k' e => by omega), c_Mo_takePart_90 n 0 (fun k' e => by omega) (fun k' e => by omega)⟩
  | succ k ih =>
    have HE : ∀ k' : Nat, k' + 1 = k + 1 → ∀ {z : ov_Z} {h : ov_H} (d : Nat) (hd : (10 + 5 * k' + 4) ≤ d) (U : ov_cap u) (I : ov_N F z h) (dep : Int) (g_dep : ov_g dep) (p0 : 0 ≤ n ∧ n ≤ 1000 ∧ (h 92 (n)) = 0 ∧ (h 90 7) ≤ n) (p1 : 0 ≤ dep ∧ dep + (k' : Int) = 5) (p2 : (h 90 13) ≤ (h 90 7)), ov_T u d ov_m226 [ov_r 90, ov_i dep] z h (P_Mo_all_90 F z h n dep) := fun k' e => by
      have e2 : k' = k := by omega
      rw [e2]
      exact fun {z} {h} => @(ih.1) z h
    have HP : ∀ k' : Nat, k' + 1 = k + 1 → ∀ {z : ov_Z} {h : ov_H} (d : Nat) (hd : (10 + 5 * k' + 0) ≤ d) (U : ov_cap u) (I : ov_N F z h) (dep : Int) (g_dep : ov_g dep) (p0 : 0 ≤ n ∧ n ≤ 1000 ∧ (h 92 (n)) = 0 ∧ (h 90 7) ≤ n) (p1 : 0 ≤ dep ∧ dep + (k' : Int) = 5) (p2 : (h 90 13) ≤ (h 90 7)), ov_T u d ov_m230 [ov_r 90, ov_i dep] z h (P_Mo_takePart_90 F z h n dep) := fun k' e => by
      have e2 : k' = k := by omega
      rw [e2]
      exact fun {z} {h} => @(ih.2) z h
    exact ⟨c_Mo_all_90 n (k + 1) HE HP, c_Mo_takePart_90 n (k + 1) HE HP⟩
theorem c_Mo_all_90_all {u : ov_U} {F : ov_H × ov_Z} (n : Int) (k : Nat) : ∀ {z : ov_Z} {h : ov_H} (d : Nat) (hd : (10 + 5 * k + 4) ≤ d) (U : ov_cap u) (I : ov_N F z h) (dep : Int) (g_dep : ov_g dep) (p0 : 0 ≤ n ∧ n ≤ 1000 ∧ (h 92 (n)) = 0 ∧ (h 90 7) ≤ n) (p1 : 0 ≤ dep ∧ dep + (k : Int) = 5) (p2 : (h 90 13) ≤ (h 90 7)), ov_T u d ov_m226 [ov_r 90, ov_i dep] z h (P_Mo_all_90 F z h n dep) := (c_Mo_all_90_both n k).1

set_option maxHeartbeats 4000000 in
theorem c_Mo_test_90 {u : ov_U} {F : ov_H × ov_Z} (n : Int) (k : Nat) (HE : ∀ k' : Nat, k' + 1 = k → ∀ {z : ov_Z} {h : ov_H} (d : Nat) (hd : (10 + 5 * k' + 4) ≤ d) (U : ov_cap u) (I : ov_N F z h) (dep : Int) (g_dep : ov_g dep) (p0 : 0 ≤ n ∧ n ≤ 1000 ∧ (h 92 (n)) = 0 ∧ (h 90 7) ≤ n) (p1 : 0 ≤ dep ∧ dep + (k' : Int) = 5) (p2 : (h 90 13) ≤ (h 90 7)), ov_T u d ov_m226 [ov_r 90, ov_i dep] z h (P_Mo_all_90 F z h n dep)) (HP : ∀ k' : Nat, k' + 1 = k → ∀ {z : ov_Z} {h : ov_H} (d : Nat) (hd : (10 + 5 * k' + 0) ≤ d) (U : ov_cap u) (I : ov_N F z h) (dep : Int) (g_dep : ov_g dep) (p0 : 0 ≤ n ∧ n ≤ 1000 ∧ (h 92 (n)) = 0 ∧ (h 90 7) ≤ n) (p1 : 0 ≤ dep ∧ dep + (k' : Int) = 5) (p2 : (h 90 13) ≤ (h 90 7)), ov_T u d ov_m230 [ov_r 90, ov_i dep] z h (P_Mo_takePart_90 F z h n dep)) {z : ov_Z} {h : ov_H} (d : Nat) (hd : (10 + 5 * k + 3) ≤ d) (U : ov_cap u) (I : ov_N F z h) (dep : Int) (g_dep : ov_g dep) (p0 : 0 ≤ n ∧ n ≤ 1000 ∧ (h 92 (n)) = 0 ∧ (h 90 7) ≤ n) (p1 : 0 ≤ dep ∧ dep + (k : Int) = 5) (p2 : (h 90 13) ≤ (h 90 7)) : ov_T u d ov_m227 [ov_r 90, ov_i dep] z h (P_Mo_test_90 F z h n dep) := by
  refine ov_en rfl (Nat.le_of_ble_eq_true rfl) ?_
  show ov_R u d ov_m227 0 [(0, ov_r 90), (1, ov_i dep)] [] z h (P_Mo_test_90 F z h n dep)
  have gq7 := rg_90_7 I
  refine ov_blk (ls2 := [(0, ov_r 90), (1, ov_i dep)]) (st2 := [ov_i dep, ov_r 90]) (pc2 := 2) b_227_0_2 rfl rfl ?_
  refine ov_cV (as := [ov_i dep]) (st := []) (d2 := d - 1) d_227_2 lk_Mo_260 rfl (Nat.le_of_ble_eq_true rfl) (c := 1) (zb_90 I) (zs_90 I) ⟨by decide, rfl⟩ (by omega) (c_Mo_sums_90 n k HE HP (d - 1) (by omega) U I dep (by omega) (by show 0 ≤ n ∧ n ≤ 1000 ∧ (h 92 (n)) = 0 ∧ (h 90 7) ≤ n; omega) (by omega) (by show (h 90 13) ≤ (h 90 7); omega)) ?_
  rintro _ z16 h17 ⟨rfl, I18, f1, e2, e3, e4, e5, e6, e7, e8, e9, e10, e11, e12, e13, y14, y15⟩
  have E19 : h17 92 = h 92 := e2
  have E20 : h17 93 = h 93 := e3
  have E21 : h17 94 = h 94 := e4
  have E22 : h17 95 = h 95 := e5
  have E23 : h17 96 = h 96 := e6
  have E24 : h17 99 = h 99 := e7
  have E25 : h17 100 = h 100 := e8
  have E26 : h17 103 = h 103 := e9
  have E27 : h17 105 = h 105 := e10
  have E28 : h17 106 = h 106 := e11
  have E29 : h17 109 = h 109 := e12
  have E30 : h17 114 = h 114 := e13
  show ov_R u d ov_m227 5 [(0, ov_r 90), (1, ov_i dep)] [] z16 h17 (P_Mo_test_90 F z h n dep)
  have f31 : (h17 90 2) = (h 90 2) ∧ (h17 90 20) = (h 90 20) ∧ (h17 90 22) = (h 90 22) ∧ (h17 90 25) = (h 90 25) ∧ (h17 90 26) = (h 90 26) ∧ (h17 90 28) = (h 90 28) ∧ (h17 90 29) = (h 90 29) ∧ (h17 90 30) = (h 90 30) ∧ (h17 90 34) = (h 90 34) ∧ (h 90 7) ≤ (h17 90 7) ∧ (h17 90 7) ≤ n ∧ (h 90 8) ≤ (h17 90 8) ∧ (h 90 13) ≤ (h17 90 13) ∧ (h17 90 13) - (h 90 13) ≤ (h17 90 7) - (h 90 7) := f1
  clear f1
  have y14_ : ∀ j : Int, j < 1100 + (h 90 13) → (h17 97) j = (h 97) j ∧ (h17 98) j = (h 98) j := y14
  have y15_ : (h17 90 8) = 0 → ov_sg (h17 97) (h17 98) (h 90 13) (h17 90 13) := y15
  have K32 : ∀ j : Int, j < 1100 + (h 90 13) → h17 97 j = h 97 j ∧ h17 98 j = h 98 j := fun j hj => y14_ j (by omega)
  have K33 : h17 90 8 = 0 → ov_sg (h17 97) (h17 98) (h 90 13) (h17 90 13) := fun e => by have q := y15_ e; rw [show (h 90 13) = h 90 13 by omega] at q; exact q
  refine ov_blk (ls2 := [(0, ov_r 90), (1, ov_i dep)]) (st2 := [ov_i 60, ov_r 90]) (pc2 := 8) b_227_5_2 rfl rfl ?_
  have cf34 : h17 92 (n) = h 92 (n) := congrFun E19 (n)
  refine ov_cV (as := [ov_i 60]) (st := []) (d2 := d - 1) d_227_8 lk_Mo_183 rfl (Nat.le_of_ble_eq_true rfl) (c := 1) (zb_90 I18) (zs_90 I18) ⟨by decide, rfl⟩ (by omega) (c_Mo_isSign_90 n (d - 1) (by omega) U I18 60 (by omega) (by show 0 ≤ n ∧ n ≤ 1000 ∧ (h17 92 (n)) = 0 ∧ (h17 90 7) ≤ n; omega)) ?_
  rintro _ _ _ ⟨v36, rfl, rfl, rfl, f35⟩
  show ov_R u d ov_m227 11 [(0, ov_r 90), (1, ov_i dep)] [ov_i v36] z16 h17 (P_Mo_test_90 F z h n dep)
  rw [show h17 92 = h 92 from E19] at f35
  rw [show h17 94 = h 94 from E21] at f35
  have f37 : (v36 = 0 ∨ v36 = 1) ∧ (v36 = 1 → (h17 90 7) < n) ∧ (v36 = 1 → (h17 90 8) = 0 ∧ (h 92 ((h17 90 7))) = 3 ∧ (h 94 ((h17 90 7))) = (60 : Int)) ∧ (v36 = 0 → ¬ ((h17 90 8) = 0 ∧ (h 92 ((h17 90 7))) = 3 ∧ (h 94 ((h17 90 7))) = (60 : Int))) := f35
  clear f35
  refine ov_blk (ls2 := [(0, ov_r 90), (1, ov_i dep), (2, ov_i v36)]) (st2 := [ov_i 60, ov_r 90]) (pc2 := 15) b_227_11_3 rfl rfl ?_
  have cf38 : h17 92 (n) = h 92 (n) := congrFun E19 (n)
  refine ov_cV (as := [ov_i 60]) (st := []) (d2 := d - 1) d_227_15 lk_Mo_263 rfl (Nat.le_of_ble_eq_true rfl) (c := 1) (zb_90 I18) (zs_90 I18) ⟨by decide, rfl⟩ (by omega) (c_Mo_hasSign_90 n (d - 1) (by omega) U I18 60 (by omega) (by show 0 ≤ n ∧ n ≤ 1000 ∧ (h17 92 (n)) = 0 ∧ (h17 90 7) ≤ n; omega)) ?_
  rintro _ z55 h56 ⟨v40, rfl, I57, f39, e41, e42, e43, e44, e45, e46, e47, e48, e49, e50, e51, e52, e53, e54⟩
  have E58 : h56 92 = h 92 := Eq.trans e41 E19
  have E59 : h56 93 = h 93 := Eq.trans e42 E20
  have E60 : h56 94 = h 94 := Eq.trans e43 E21
  have E61 : h56 95 = h 95 := Eq.trans e44 E22
  have E62 : h56 96 = h 96 := Eq.trans e45 E23
  have E63 : h56 97 = h17 97 := e46
  have E64 : h56 98 = h17 98 := e47
  have E65 : h56 99 = h 99 := Eq.trans e48 E24
  have E66 : h56 100 = h 100 := Eq.trans e49 E25
  have E67 : h56 103 = h 103 := Eq.trans e50 E26
  have E68 : h56 105 = h 105 := Eq.trans e51 E27
  have E69 : h56 106 = h 106 := Eq.trans e52 E28
  have E70 : h56 109 = h 109 := Eq.trans e53 E29
  have E71 : h56 114 = h 114 := Eq.trans e54 E30
  show ov_R u d ov_m227 18 [(0, ov_r 90), (1, ov_i dep), (2, ov_i v36)] [ov_i v40] z55 h56 (P_Mo_test_90 F z h n dep)
  rw [show h17 92 = h 92 from E19] at f39
  rw [show h17 94 = h 94 from E21] at f39
  have f72 : (h56 90 2) = (h17 90 2) ∧ (h56 90 8) = (h17 90 8) ∧ (h56 90 13) = (h17 90 13) ∧ (h56 90 20) = (h17 90 20) ∧ (h56 90 22) = (h17 90 22) ∧ (h56 90 25) = (h17 90 25) ∧ (h56 90 26) = (h17 90 26) ∧ (h56 90 28) = (h17 90 28) ∧ (h56 90 29) = (h17 90 29) ∧ (h56 90 30) = (h17 90 30) ∧ (h56 90 34) = (h17 90 34) ∧ (v40 = 0 ∨ v40 = 1) ∧ (h17 90 7) ≤ (h56 90 7) ∧ (h56 90 7) ≤ n ∧ (v40 = 1 → (h56 90 7) = (h17 90 7) + 1 ∧ (h17 90 8) = 0) ∧ (v40 = 0 → (h56 90 7) = (h17 90 7)) ∧ (v40 = 1 → (h17 90 8) = 0 ∧ (h 92 ((h17 90 7))) = 3 ∧ (h 94 ((h17 90 7))) = (60 : Int)) ∧ (v40 = 0 → ¬ ((h17 90 8) = 0 ∧ (h 92 ((h17 90 7))) = 3 ∧ (h 94 ((h17 90 7))) = (60 : Int))) := f39
  clear f39
  refine ov_ifne (tgt := 30) d_227_18 (by decide) (by omega) (fun c73 => ?_) (fun c73 => ?_)
  · skip
    have f72_ : v40 = 1 := by omega
    have f74 : (h56 90 2) = (h17 90 2) := f72.1
    have f75 : (h56 90 8) = (h17 90 8) := f72.2.1
    have f76 : (h56 90 13) = (h17 90 13) := f72.2.2.1
    have f77 : (h56 90 20) = (h17 90 20) := f72.2.2.2.1
    have f78 : (h56 90 22) = (h17 90 22) := f72.2.2.2.2.1
    have f79 : (h56 90 25) = (h17 90 25) := f72.2.2.2.2.2.1
    have f80 : (h56 90 26) = (h17 90 26) := f72.2.2.2.2.2.2.1
    have f81 : (h56 90 28) = (h17 90 28) := f72.2.2.2.2.2.2.2.1
    have f82 : (h56 90 29) = (h17 90 29) := f72.2.2.2.2.2.2.2.2.1
    have f83 : (h56 90 30) = (h17 90 30) := f72.2.2.2.2.2.2.2.2.2.1
    have f84 : (h56 90 34) = (h17 90 34) := f72.2.2.2.2.2.2.2.2.2.2.1
    have f85 : (h17 90 7) ≤ (h56 90 7) := f72.2.2.2.2.2.2.2.2.2.2.2.2.1
    have f86 : (h56 90 7) ≤ n := f72.2.2.2.2.2.2.2.2.2.2.2.2.2.1
    have f87 : (h56 90 7) = (h17 90 7) + 1 ∧ (h17 90 8) = 0 := f72.2.2.2.2.2.2.2.2.2.2.2.2.2.2.1 (by omega)
    have f88 : (h17 90 8) = 0 ∧ (h 92 ((h17 90 7))) = 3 ∧ (h 94 ((h17 90 7))) = (60 : Int) := f72.2.2.2.2.2.2.2.2.2.2.2.2.2.2.2.2.1 (by omega)
    clear f72
    refine ov_blk (ls2 := [(0, ov_r 90), (1, ov_i dep), (2, ov_i v36)]) (st2 := [ov_i dep, ov_r 90]) (pc2 := 32) b_227_30_2 rfl rfl ?_
    have cf89 : h56 92 (n) = h 92 (n) := congrFun E58 (n)
    refine ov_cV (as := [ov_i dep]) (st := []) (d2 := d - 1) d_227_32 lk_Mo_260 rfl (Nat.le_of_ble_eq_true rfl) (c := 1) (zb_90 I57) (zs_90 I57) ⟨by decide, rfl⟩ (by omega) (c_Mo_sums_90 n k HE HP (d - 1) (by omega) U I57 dep (by omega) (by show 0 ≤ n ∧ n ≤ 1000 ∧ (h56 92 (n)) = 0 ∧ (h56 90 7) ≤ n; omega) (by omega) (by show (h56 90 13) ≤ (h56 90 7); omega)) ?_
    rintro _ z105 h106 ⟨rfl, I107, f90, e91, e92, e93, e94, e95, e96, e97, e98, e99, e100, e101, e102, y103, y104⟩
    have E108 : h106 92 = h 92 := Eq.trans e91 E58
    have E109 : h106 93 = h 93 := Eq.trans e92 E59
    have E110 : h106 94 = h 94 := Eq.trans e93 E60
    have E111 : h106 95 = h 95 := Eq.trans e94 E61
    have E112 : h106 96 = h 96 := Eq.trans e95 E62
    have E113 : h106 99 = h 99 := Eq.trans e96 E65
    have E114 : h106 100 = h 100 := Eq.trans e97 E66
    have E115 : h106 103 = h 103 := Eq.trans e98 E67
    have E116 : h106 105 = h 105 := Eq.trans e99 E68
    have E117 : h106 106 = h 106 := Eq.trans e100 E69
    have E118 : h106 109 = h 109 := Eq.trans e101 E70
    have E119 : h106 114 = h 114 := Eq.trans e102 E71
    show ov_R u d ov_m227 35 [(0, ov_r 90), (1, ov_i dep), (2, ov_i v36)] [] z105 h106 (P_Mo_test_90 F z h n dep)
    have f120 : (h106 90 2) = (h56 90 2) ∧ (h106 90 20) = (h56 90 20) ∧ (h106 90 22) = (h56 90 22) ∧ (h106 90 25) = (h56 90 25) ∧ (h106 90 26) = (h56 90 26) ∧ (h106 90 28) = (h56 90 28) ∧ (h106 90 29) = (h56 90 29) ∧ (h106 90 30) = (h56 90 30) ∧ (h106 90 34) = (h56 90 34) ∧ (h56 90 7) ≤ (h106 90 7) ∧ (h106 90 7) ≤ n ∧ (h56 90 8) ≤ (h106 90 8) ∧ (h56 90 13) ≤ (h106 90 13) ∧ (h106 90 13) - (h56 90 13) ≤ (h106 90 7) - (h56 90 7) := f90
    clear f90
    rw [show h56 97 = h17 97 from E63] at y103
    rw [show h56 98 = h17 98 from E64] at y103
    have y103_ : ∀ j : Int, j < 1100 + (h56 90 13) → (h106 97) j = (h17 97) j ∧ (h106 98) j = (h17 98) j := y103
    have y104_ : (h106 90 8) = 0 → ov_sg (h106 97) (h106 98) (h56 90 13) (h106 90 13) := y104
    refine ov_blk (ls2 := [(0, ov_r 90), (1, ov_i dep), (2, ov_i v36)]) (st2 := [ov_i v36, ov_r 90]) (pc2 := 37) b_227_35_2 rfl rfl ?_
    refine ov_ifeq (tgt := 45) d_227_37 (by decide) (by omega) (fun c121 => ?_) (fun c121 => ?_)
    · skip
      have f37_ : v36 = 0 := by omega
      have f122 : ¬ ((h17 90 8) = 0 ∧ (h 92 ((h17 90 7))) = 3 ∧ (h 94 ((h17 90 7))) = (60 : Int)) := f37.2.2.2 (by omega)
      clear f37
      refine ov_blk (ls2 := [(0, ov_r 90), (1, ov_i dep), (2, ov_i v36)]) (st2 := [ov_i 0, ov_i 8, ov_r 90]) (pc2 := 48) b_227_45_2 rfl rfl ?_
      refine ov_cV (as := [ov_i 8, ov_i 0]) (st := []) (d2 := d - 1) d_227_48 lk_Mo_246 rfl (Nat.le_of_ble_eq_true rfl) (c := 1) (zb_90 I107) (zs_90 I107) ⟨by decide, rfl⟩ (by omega) (c_Mo_emit_90 (d - 1) (by omega) U I107 8 0 (by omega) (by omega) (by omega) (by show (h106 90 13) ≤ 999; omega)) ?_
      rintro _ z138 h139 ⟨rfl, I140, f123, e124, e125, e126, e127, e128, e129, e130, e131, e132, e133, e134, e135, y136, y137⟩
      have E141 : h139 92 = h 92 := Eq.trans e124 E108
      have E142 : h139 93 = h 93 := Eq.trans e125 E109
      have E143 : h139 94 = h 94 := Eq.trans e126 E110
      have E144 : h139 95 = h 95 := Eq.trans e127 E111
      have E145 : h139 96 = h 96 := Eq.trans e128 E112
      have E146 : h139 99 = h 99 := Eq.trans e129 E113
      have E147 : h139 100 = h 100 := Eq.trans e130 E114
      have E148 : h139 103 = h 103 := Eq.trans e131 E115
      have E149 : h139 105 = h 105 := Eq.trans e132 E116
      have E150 : h139 106 = h 106 := Eq.trans e133 E117
      have E151 : h139 109 = h 109 := Eq.trans e134 E118
      have E152 : h139 114 = h 114 := Eq.trans e135 E119
      show ov_R u d ov_m227 51 [(0, ov_r 90), (1, ov_i dep), (2, ov_i v36)] [] z138 h139 (P_Mo_test_90 F z h n dep)
      have f153 : (h139 90 2) = (h106 90 2) ∧ (h139 90 7) = (h106 90 7) ∧ (h139 90 8) = (h106 90 8) ∧ (h139 90 20) = (h106 90 20) ∧ (h139 90 22) = (h106 90 22) ∧ (h139 90 25) = (h106 90 25) ∧ (h139 90 26) = (h106 90 26) ∧ (h139 90 28) = (h106 90 28) ∧ (h139 90 29) = (h106 90 29) ∧ (h139 90 30) = (h106 90 30) ∧ (h139 90 34) = (h106 90 34) ∧ (h139 90 13) = (h106 90 13) + 1 := f123
      clear f123
      have y136_ : (h139 97) = ov_rs (h106 97) (1100 + (h106 90 13)) (8 : Int) := y136
      have y137_ : (h139 98) = ov_rs (h106 98) (1100 + (h106 90 13)) (0 : Int) := y137
      have K154 : ∀ j : Int, j < 1100 + (h 90 13) → h139 97 j = h 97 j ∧ h139 98 j = h 98 j := ov_kpe (ov_kp K32 y103_ (by omega)) y136_ y137_ (by omega)
      have K155 : h139 90 8 = 0 → ov_sg (h139 97) (h139 98) (h 90 13) (h139 90 13) := fun e => by have q1 := K33 (by omega); have q2 := y104_ (by omega); rw [show (h56 90 13) = (h17 90 13) by omega] at q2; have q3 := ov_sg_bin q1 (fun j hj => y103_ j (by omega)) q2 y136_ y137_ (by omega); rw [show h139 90 13 = (h106 90 13) + 1 by omega]; exact q3
      exact ov_retv (st := []) d_227_51 rfl ⟨rfl, I140, (by show (h139 90 2) = (h 90 2) ∧ (h139 90 20) = (h 90 20) ∧ (h139 90 22) = (h 90 22) ∧ (h139 90 25) = (h 90 25) ∧ (h139 90 26) = (h 90 26) ∧ (h139 90 28) = (h 90 28) ∧ (h139 90 29) = (h 90 29) ∧ (h139 90 30) = (h 90 30) ∧ (h139 90 34) = (h 90 34) ∧ (h 90 7) ≤ (h139 90 7) ∧ (h139 90 7) ≤ n ∧ (h 90 8) ≤ (h139 90 8) ∧ (h 90 13) ≤ (h139 90 13) ∧ (h139 90 13) - (h 90 13) ≤ (h139 90 7) - (h 90 7); omega), E141, E142, E143, E144, E145, E146, E147, E148, E149, E150, E151, E152, K154, (fun e => by have e0 : (h139 90 8) = 0 := e; show ov_sg (h139 97) (h139 98) _ (h139 90 13); rw [show (h139 90 13) = (h139 90 13) by omega]; exact K155 (by omega))⟩
    · skip
      have f37_ : v36 = 1 := by omega
      have f156 : (h17 90 7) < n := f37.2.1 (by omega)
      have f157 : (h17 90 8) = 0 ∧ (h 92 ((h17 90 7))) = 3 ∧ (h 94 ((h17 90 7))) = (60 : Int) := f37.2.2.1 (by omega)
      clear f37
      refine ov_blk (ls2 := [(0, ov_r 90), (1, ov_i dep), (2, ov_i v36)]) (st2 := [ov_i 7, ov_r 90]) (pc2 := 42) b_227_40_1 rfl rfl ?_
      refine ov_goto (tgt := 47) d_227_42 (by decide) ?_
      refine ov_blk (ls2 := [(0, ov_r 90), (1, ov_i dep), (2, ov_i v36)]) (st2 := [ov_i 0, ov_i 7, ov_r 90]) (pc2 := 48) b_227_47_1 rfl rfl ?_
      refine ov_cV (as := [ov_i 7, ov_i 0]) (st := []) (d2 := d - 1) d_227_48 lk_Mo_246 rfl (Nat.le_of_ble_eq_true rfl) (c := 1) (zb_90 I107) (zs_90 I107) ⟨by decide, rfl⟩ (by omega) (c_Mo_emit_90 (d - 1) (by omega) U I107 7 0 (by omega) (by omega) (by omega) (by show (h106 90 13) ≤ 999; omega)) ?_
      rintro _ z173 h174 ⟨rfl, I175, f158, e159, e160, e161, e162, e163, e164, e165, e166, e167, e168, e169, e170, y171, y172⟩
      have E176 : h174 92 = h 92 := Eq.trans e159 E108
      have E177 : h174 93 = h 93 := Eq.trans e160 E109
      have E178 : h174 94 = h 94 := Eq.trans e161 E110
      have E179 : h174 95 = h 95 := Eq.trans e162 E111
      have E180 : h174 96 = h 96 := Eq.trans e163 E112
      have E181 : h174 99 = h 99 := Eq.trans e164 E113
      have E182 : h174 100 = h 100 := Eq.trans e165 E114
      have E183 : h174 103 = h 103 := Eq.trans e166 E115
      have E184 : h174 105 = h 105 := Eq.trans e167 E116
      have E185 : h174 106 = h 106 := Eq.trans e168 E117
      have E186 : h174 109 = h 109 := Eq.trans e169 E118
      have E187 : h174 114 = h 114 := Eq.trans e170 E119
      show ov_R u d ov_m227 51 [(0, ov_r 90), (1, ov_i dep), (2, ov_i v36)] [] z173 h174 (P_Mo_test_90 F z h n dep)
      have f188 : (h174 90 2) = (h106 90 2) ∧ (h174 90 7) = (h106 90 7) ∧ (h174 90 8) = (h106 90 8) ∧ (h174 90 20) = (h106 90 20) ∧ (h174 90 22) = (h106 90 22) ∧ (h174 90 25) = (h106 90 25) ∧ (h174 90 26) = (h106 90 26) ∧ (h174 90 28) = (h106 90 28) ∧ (h174 90 29) = (h106 90 29) ∧ (h174 90 30) = (h106 90 30) ∧ (h174 90 34) = (h106 90 34) ∧ (h174 90 13) = (h106 90 13) + 1 := f158
      clear f158
      have y171_ : (h174 97) = ov_rs (h106 97) (1100 + (h106 90 13)) (7 : Int) := y171
      have y172_ : (h174 98) = ov_rs (h106 98) (1100 + (h106 90 13)) (0 : Int) := y172
      have K189 : ∀ j : Int, j < 1100 + (h 90 13) → h174 97 j = h 97 j ∧ h174 98 j = h 98 j := ov_kpe (ov_kp K32 y103_ (by omega)) y171_ y172_ (by omega)
      have K190 : h174 90 8 = 0 → ov_sg (h174 97) (h174 98) (h 90 13) (h174 90 13) := fun e => by have q1 := K33 (by omega); have q2 := y104_ (by omega); rw [show (h56 90 13) = (h17 90 13) by omega] at q2; have q3 := ov_sg_bin q1 (fun j hj => y103_ j (by omega)) q2 y171_ y172_ (by omega); rw [show h174 90 13 = (h106 90 13) + 1 by omega]; exact q3
      exact ov_retv (st := []) d_227_51 rfl ⟨rfl, I175, (by show (h174 90 2) = (h 90 2) ∧ (h174 90 20) = (h 90 20) ∧ (h174 90 22) = (h 90 22) ∧ (h174 90 25) = (h 90 25) ∧ (h174 90 26) = (h 90 26) ∧ (h174 90 28) = (h 90 28) ∧ (h174 90 29) = (h 90 29) ∧ (h174 90 30) = (h 90 30) ∧ (h174 90 34) = (h 90 34) ∧ (h 90 7) ≤ (h174 90 7) ∧ (h174 90 7) ≤ n ∧ (h 90 8) ≤ (h174 90 8) ∧ (h 90 13) ≤ (h174 90 13) ∧ (h174 90 13) - (h 90 13) ≤ (h174 90 7) - (h 90 7); omega), E176, E177, E178, E179, E180, E181, E182, E183, E184, E185, E186, E187, K189, (fun e => by have e0 : (h174 90 8) = 0 := e; show ov_sg (h174 97) (h174 98) _ (h174 90 13); rw [show (h174 90 13) = (h174 90 13) by omega]; exact K190 (by omega))⟩
  · skip
    have f72_ : v40 = 0 := by omega
    have f191 : (h56 90 2) = (h17 90 2) := f72.1
    have f192 : (h56 90 8) = (h17 90 8) := f72.2.1
    have f193 : (h56 90 13) = (h17 90 13) := f72.2.2.1
    have f194 : (h56 90 20) = (h17 90 20) := f72.2.2.2.1
    have f195 : (h56 90 22) = (h17 90 22) := f72.2.2.2.2.1
    have f196 : (h56 90 25) = (h17 90 25) := f72.2.2.2.2.2.1
    have f197 : (h56 90 26) = (h17 90 26) := f72.2.2.2.2.2.2.1
    have f198 : (h56 90 28) = (h17 90 28) := f72.2.2.2.2.2.2.2.1
    have f199 : (h56 90 29) = (h17 90 29) := f72.2.2.2.2.2.2.2.2.1
    have f200 : (h56 90 30) = (h17 90 30) := f72.2.2.2.2.2.2.2.2.2.1
    have f201 : (h56 90 34) = (h17 90 34) := f72.2.2.2.2.2.2.2.2.2.2.1
    have f202 : (h17 90 7) ≤ (h56 90 7) := f72.2.2.2.2.2.2.2.2.2.2.2.2.1
    have f203 : (h56 90 7) ≤ n := f72.2.2.2.2.2.2.2.2.2.2.2.2.2.1
    have f204 : (h56 90 7) = (h17 90 7) := f72.2.2.2.2.2.2.2.2.2.2.2.2.2.2.2.1 (by omega)
    have f205 : ¬ ((h17 90 8) = 0 ∧ (h 92 ((h17 90 7))) = 3 ∧ (h 94 ((h17 90 7))) = (60 : Int)) := f72.2.2.2.2.2.2.2.2.2.2.2.2.2.2.2.2.2 (by omega)
    clear f72
    refine ov_blk (ls2 := [(0, ov_r 90), (1, ov_i dep), (2, ov_i v36)]) (st2 := [ov_i 61, ov_r 90]) (pc2 := 24) b_227_21_2 rfl rfl ?_
    have cf206 : h56 92 (n) = h 92 (n) := congrFun E58 (n)
    refine ov_cV (as := [ov_i 61]) (st := []) (d2 := d - 1) d_227_24 lk_Mo_263 rfl (Nat.le_of_ble_eq_true rfl) (c := 1) (zb_90 I57) (zs_90 I57) ⟨by decide, rfl⟩ (by omega) (c_Mo_hasSign_90 n (d - 1) (by omega) U I57 61 (by omega) (by show 0 ≤ n ∧ n ≤ 1000 ∧ (h56 92 (n)) = 0 ∧ (h56 90 7) ≤ n; omega)) ?_
    rintro _ z223 h224 ⟨v208, rfl, I225, f207, e209, e210, e211, e212, e213, e214, e215, e216, e217, e218, e219, e220, e221, e222⟩
    have E226 : h224 92 = h 92 := Eq.trans e209 E58
    have E227 : h224 93 = h 93 := Eq.trans e210 E59
    have E228 : h224 94 = h 94 := Eq.trans e211 E60
    have E229 : h224 95 = h 95 := Eq.trans e212 E61
    have E230 : h224 96 = h 96 := Eq.trans e213 E62
    have E231 : h224 97 = h17 97 := Eq.trans e214 E63
    have E232 : h224 98 = h17 98 := Eq.trans e215 E64
    have E233 : h224 99 = h 99 := Eq.trans e216 E65
    have E234 : h224 100 = h 100 := Eq.trans e217 E66
    have E235 : h224 103 = h 103 := Eq.trans e218 E67
    have E236 : h224 105 = h 105 := Eq.trans e219 E68
    have E237 : h224 106 = h 106 := Eq.trans e220 E69
    have E238 : h224 109 = h 109 := Eq.trans e221 E70
    have E239 : h224 114 = h 114 := Eq.trans e222 E71
    show ov_R u d ov_m227 27 [(0, ov_r 90), (1, ov_i dep), (2, ov_i v36)] [ov_i v208] z223 h224 (P_Mo_test_90 F z h n dep)
    rw [show h56 92 = h 92 from E58] at f207
    rw [show h56 94 = h 94 from E60] at f207
    have f240 : (h224 90 2) = (h56 90 2) ∧ (h224 90 8) = (h56 90 8) ∧ (h224 90 13) = (h56 90 13) ∧ (h224 90 20) = (h56 90 20) ∧ (h224 90 22) = (h56 90 22) ∧ (h224 90 25) = (h56 90 25) ∧ (h224 90 26) = (h56 90 26) ∧ (h224 90 28) = (h56 90 28) ∧ (h224 90 29) = (h56 90 29) ∧ (h224 90 30) = (h56 90 30) ∧ (h224 90 34) = (h56 90 34) ∧ (v208 = 0 ∨ v208 = 1) ∧ (h56 90 7) ≤ (h224 90 7) ∧ (h224 90 7) ≤ n ∧ (v208 = 1 → (h224 90 7) = (h56 90 7) + 1 ∧ (h56 90 8) = 0) ∧ (v208 = 0 → (h224 90 7) = (h56 90 7)) ∧ (v208 = 1 → (h56 90 8) = 0 ∧ (h 92 ((h56 90 7))) = 3 ∧ (h 94 ((h56 90 7))) = (61 : Int)) ∧ (v208 = 0 → ¬ ((h56 90 8) = 0 ∧ (h 92 ((h56 90 7))) = 3 ∧ (h 94 ((h56 90 7))) = (61 : Int))) := f207
    clear f207
    refine ov_ifeq (tgt := 51) d_227_27 (by decide) (by omega) (fun c241 => ?_) (fun c241 => ?_)
    · skip
      have f240_ : v208 = 0 := by omega
      have f242 : (h224 90 2) = (h56 90 2) := f240.1
      have f243 : (h224 90 8) = (h56 90 8) := f240.2.1
      have f244 : (h224 90 13) = (h56 90 13) := f240.2.2.1
      have f245 : (h224 90 20) = (h56 90 20) := f240.2.2.2.1
      have f246 : (h224 90 22) = (h56 90 22) := f240.2.2.2.2.1
      have f247 : (h224 90 25) = (h56 90 25) := f240.2.2.2.2.2.1
      have f248 : (h224 90 26) = (h56 90 26) := f240.2.2.2.2.2.2.1
      have f249 : (h224 90 28) = (h56 90 28) := f240.2.2.2.2.2.2.2.1
      have f250 : (h224 90 29) = (h56 90 29) := f240.2.2.2.2.2.2.2.2.1
      have f251 : (h224 90 30) = (h56 90 30) := f240.2.2.2.2.2.2.2.2.2.1
      have f252 : (h224 90 34) = (h56 90 34) := f240.2.2.2.2.2.2.2.2.2.2.1
      have f253 : (h56 90 7) ≤ (h224 90 7) := f240.2.2.2.2.2.2.2.2.2.2.2.2.1
      have f254 : (h224 90 7) ≤ n := f240.2.2.2.2.2.2.2.2.2.2.2.2.2.1
      have f255 : (h224 90 7) = (h56 90 7) := f240.2.2.2.2.2.2.2.2.2.2.2.2.2.2.2.1 (by omega)
      have f256 : ¬ ((h56 90 8) = 0 ∧ (h 92 ((h56 90 7))) = 3 ∧ (h 94 ((h56 90 7))) = (61 : Int)) := f240.2.2.2.2.2.2.2.2.2.2.2.2.2.2.2.2.2 (by omega)
      clear f240
      exact ov_retv (st := []) d_227_51 rfl ⟨rfl, I225, (by show (h224 90 2) = (h 90 2) ∧ (h224 90 20) = (h 90 20) ∧ (h224 90 22) = (h 90 22) ∧ (h224 90 25) = (h 90 25) ∧ (h224 90 26) = (h 90 26) ∧ (h224 90 28) = (h 90 28) ∧ (h224 90 29) = (h 90 29) ∧ (h224 90 30) = (h 90 30) ∧ (h224 90 34) = (h 90 34) ∧ (h 90 7) ≤ (h224 90 7) ∧ (h224 90 7) ≤ n ∧ (h 90 8) ≤ (h224 90 8) ∧ (h 90 13) ≤ (h224 90 13) ∧ (h224 90 13) - (h 90 13) ≤ (h224 90 7) - (h 90 7); omega), E226, E227, E228, E229, E230, E233, E234, E235, E236, E237, E238, E239, (by rw [show h224 97 = h17 97 from E231, show h224 98 = h17 98 from E232]; exact K32), (fun e => by have e0 : (h224 90 8) = 0 := e; show ov_sg (h224 97) (h224 98) _ (h224 90 13); rw [show h224 97 = h17 97 from E231, show h224 98 = h17 98 from E232, show (h224 90 13) = (h17 90 13) by omega]; exact K33 (by omega))⟩
    · skip
      have f240_ : v208 = 1 := by omega
      have f257 : (h224 90 2) = (h56 90 2) := f240.1
      have f258 : (h224 90 8) = (h56 90 8) := f240.2.1
      have f259 : (h224 90 13) = (h56 90 13) := f240.2.2.1
      have f260 : (h224 90 20) = (h56 90 20) := f240.2.2.2.1
      have f261 : (h224 90 22) = (h56 90 22) := f240.2.2.2.2.1
      have f262 : (h224 90 25) = (h56 90 25) := f240.2.2.2.2.2.1
      have f263 : (h224 90 26) = (h56 90 26) := f240.2.2.2.2.2.2.1
      have f264 : (h224 90 28) = (h56 90 28) := f240.2.2.2.2.2.2.2.1
      have f265 : (h224 90 29) = (h56 90 29) := f240.2.2.2.2.2.2.2.2.1
      have f266 : (h224 90 30) = (h56 90 30) := f240.2.2.2.2.2.2.2.2.2.1
      have f267 : (h224 90 34) = (h56 90 34) := f240.2.2.2.2.2.2.2.2.2.2.1
      have f268 : (h56 90 7) ≤ (h224 90 7) := f240.2.2.2.2.2.2.2.2.2.2.2.2.1
      have f269 : (h224 90 7) ≤ n := f240.2.2.2.2.2.2.2.2.2.2.2.2.2.1
      have f270 : (h224 90 7) = (h56 90 7) + 1 ∧ (h56 90 8) = 0 := f240.2.2.2.2.2.2.2.2.2.2.2.2.2.2.1 (by omega)
      have f271 : (h56 90 8) = 0 ∧ (h 92 ((h56 90 7))) = 3 ∧ (h 94 ((h56 90 7))) = (61 : Int) := f240.2.2.2.2.2.2.2.2.2.2.2.2.2.2.2.2.1 (by omega)
      clear f240
      refine ov_blk (ls2 := [(0, ov_r 90), (1, ov_i dep), (2, ov_i v36)]) (st2 := [ov_i dep, ov_r 90]) (pc2 := 32) b_227_30_2 rfl rfl ?_
      have cf272 : h224 92 (n) = h 92 (n) := congrFun E226 (n)
      refine ov_cV (as := [ov_i dep]) (st := []) (d2 := d - 1) d_227_32 lk_Mo_260 rfl (Nat.le_of_ble_eq_true rfl) (c := 1) (zb_90 I225) (zs_90 I225) ⟨by decide, rfl⟩ (by omega) (c_Mo_sums_90 n k HE HP (d - 1) (by omega) U I225 dep (by omega) (by show 0 ≤ n ∧ n ≤ 1000 ∧ (h224 92 (n)) = 0 ∧ (h224 90 7) ≤ n; omega) (by omega) (by show (h224 90 13) ≤ (h224 90 7); omega)) ?_
      rintro _ z288 h289 ⟨rfl, I290, f273, e274, e275, e276, e277, e278, e279, e280, e281, e282, e283, e284, e285, y286, y287⟩
      have E291 : h289 92 = h 92 := Eq.trans e274 E226
      have E292 : h289 93 = h 93 := Eq.trans e275 E227
      have E293 : h289 94 = h 94 := Eq.trans e276 E228
      have E294 : h289 95 = h 95 := Eq.trans e277 E229
      have E295 : h289 96 = h 96 := Eq.trans e278 E230
      have E296 : h289 99 = h 99 := Eq.trans e279 E233
      have E297 : h289 100 = h 100 := Eq.trans e280 E234
      have E298 : h289 103 = h 103 := Eq.trans e281 E235
      have E299 : h289 105 = h 105 := Eq.trans e282 E236
      have E300 : h289 106 = h 106 := Eq.trans e283 E237
      have E301 : h289 109 = h 109 := Eq.trans e284 E238
      have E302 : h289 114 = h 114 := Eq.trans e285 E239
      show ov_R u d ov_m227 35 [(0, ov_r 90), (1, ov_i dep), (2, ov_i v36)] [] z288 h289 (P_Mo_test_90 F z h n dep)
      have f303 : (h289 90 2) = (h224 90 2) ∧ (h289 90 20) = (h224 90 20) ∧ (h289 90 22) = (h224 90 22) ∧ (h289 90 25) = (h224 90 25) ∧ (h289 90 26) = (h224 90 26) ∧ (h289 90 28) = (h224 90 28) ∧ (h289 90 29) = (h224 90 29) ∧ (h289 90 30) = (h224 90 30) ∧ (h289 90 34) = (h224 90 34) ∧ (h224 90 7) ≤ (h289 90 7) ∧ (h289 90 7) ≤ n ∧ (h224 90 8) ≤ (h289 90 8) ∧ (h224 90 13) ≤ (h289 90 13) ∧ (h289 90 13) - (h224 90 13) ≤ (h289 90 7) - (h224 90 7) := f273
      clear f273
      rw [show h224 97 = h17 97 from E231] at y286
      rw [show h224 98 = h17 98 from E232] at y286
      have y286_ : ∀ j : Int, j < 1100 + (h224 90 13) → (h289 97) j = (h17 97) j ∧ (h289 98) j = (h17 98) j := y286
      have y287_ : (h289 90 8) = 0 → ov_sg (h289 97) (h289 98) (h224 90 13) (h289 90 13) := y287
      refine ov_blk (ls2 := [(0, ov_r 90), (1, ov_i dep), (2, ov_i v36)]) (st2 := [ov_i v36, ov_r 90]) (pc2 := 37) b_227_35_2 rfl rfl ?_
      refine ov_ifeq (tgt := 45) d_227_37 (by decide) (by omega) (fun c304 => ?_) (fun c304 => ?_)
      · skip
        have f37_ : v36 = 0 := by omega
        have f305 : ¬ ((h17 90 8) = 0 ∧ (h 92 ((h17 90 7))) = 3 ∧ (h 94 ((h17 90 7))) = (60 : Int)) := f37.2.2.2 (by omega)
        clear f37
        refine ov_blk (ls2 := [(0, ov_r 90), (1, ov_i dep), (2, ov_i v36)]) (st2 := [ov_i 0, ov_i 8, ov_r 90]) (pc2 := 48) b_227_45_2 rfl rfl ?_
        refine ov_cV (as := [ov_i 8, ov_i 0]) (st := []) (d2 := d - 1) d_227_48 lk_Mo_246 rfl (Nat.le_of_ble_eq_true rfl) (c := 1) (zb_90 I290) (zs_90 I290) ⟨by decide, rfl⟩ (by omega) (c_Mo_emit_90 (d - 1) (by omega) U I290 8 0 (by omega) (by omega) (by omega) (by show (h289 90 13) ≤ 999; omega)) ?_
        rintro _ z321 h322 ⟨rfl, I323, f306, e307, e308, e309, e310, e311, e312, e313, e314, e315, e316, e317, e318, y319, y320⟩
        have E324 : h322 92 = h 92 := Eq.trans e307 E291
        have E325 : h322 93 = h 93 := Eq.trans e308 E292
        have E326 : h322 94 = h 94 := Eq.trans e309 E293
        have E327 : h322 95 = h 95 := Eq.trans e310 E294
        have E328 : h322 96 = h 96 := Eq.trans e311 E295
        have E329 : h322 99 = h 99 := Eq.trans e312 E296
        have E330 : h322 100 = h 100 := Eq.trans e313 E297
        have E331 : h322 103 = h 103 := Eq.trans e314 E298
        have E332 : h322 105 = h 105 := Eq.trans e315 E299
        have E333 : h322 106 = h 106 := Eq.trans e316 E300
        have E334 : h322 109 = h 109 := Eq.trans e317 E301
        have E335 : h322 114 = h 114 := Eq.trans e318 E302
        show ov_R u d ov_m227 51 [(0, ov_r 90), (1, ov_i dep), (2, ov_i v36)] [] z321 h322 (P_Mo_test_90 F z h n dep)
        have f336 : (h322 90 2) = (h289 90 2) ∧ (h322 90 7) = (h289 90 7) ∧ (h322 90 8) = (h289 90 8) ∧ (h322 90 20) = (h289 90 20) ∧ (h322 90 22) = (h289 90 22) ∧ (h322 90 25) = (h289 90 25) ∧ (h322 90 26) = (h289 90 26) ∧ (h322 90 28) = (h289 90 28) ∧ (h322 90 29) = (h289 90 29) ∧ (h322 90 30) = (h289 90 30) ∧ (h322 90 34) = (h289 90 34) ∧ (h322 90 13) = (h289 90 13) + 1 := f306
        clear f306
        have y319_ : (h322 97) = ov_rs (h289 97) (1100 + (h289 90 13)) (8 : Int) := y319
        have y320_ : (h322 98) = ov_rs (h289 98) (1100 + (h289 90 13)) (0 : Int) := y320
        have K337 : ∀ j : Int, j < 1100 + (h 90 13) → h322 97 j = h 97 j ∧ h322 98 j = h 98 j := ov_kpe (ov_kp K32 y286_ (by omega)) y319_ y320_ (by omega)
        have K338 : h322 90 8 = 0 → ov_sg (h322 97) (h322 98) (h 90 13) (h322 90 13) := fun e => by have q1 := K33 (by omega); have q2 := y287_ (by omega); rw [show (h224 90 13) = (h17 90 13) by omega] at q2; have q3 := ov_sg_bin q1 (fun j hj => y286_ j (by omega)) q2 y319_ y320_ (by omega); rw [show h322 90 13 = (h289 90 13) + 1 by omega]; exact q3
        exact ov_retv (st := []) d_227_51 rfl ⟨rfl, I323, (by show (h322 90 2) = (h 90 2) ∧ (h322 90 20) = (h 90 20) ∧ (h322 90 22) = (h 90 22) ∧ (h322 90 25) = (h 90 25) ∧ (h322 90 26) = (h 90 26) ∧ (h322 90 28) = (h 90 28) ∧ (h322 90 29) = (h 90 29) ∧ (h322 90 30) = (h 90 30) ∧ (h322 90 34) = (h 90 34) ∧ (h 90 7) ≤ (h322 90 7) ∧ (h322 90 7) ≤ n ∧ (h 90 8) ≤ (h322 90 8) ∧ (h 90 13) ≤ (h322 90 13) ∧ (h322 90 13) - (h 90 13) ≤ (h322 90 7) - (h 90 7); omega), E324, E325, E326, E327, E328, E329, E330, E331, E332, E333, E334, E335, K337, (fun e => by have e0 : (h322 90 8) = 0 := e; show ov_sg (h322 97) (h322 98) _ (h322 90 13); rw [show (h322 90 13) = (h322 90 13) by omega]; exact K338 (by omega))⟩
      · skip
        have f37_ : v36 = 1 := by omega
        have f339 : (h17 90 7) < n := f37.2.1 (by omega)
        have f340 : (h17 90 8) = 0 ∧ (h 92 ((h17 90 7))) = 3 ∧ (h 94 ((h17 90 7))) = (60 : Int) := f37.2.2.1 (by omega)
        clear f37
        refine ov_blk (ls2 := [(0, ov_r 90), (1, ov_i dep), (2, ov_i v36)]) (st2 := [ov_i 7, ov_r 90]) (pc2 := 42) b_227_40_1 rfl rfl ?_
        refine ov_goto (tgt := 47) d_227_42 (by decide) ?_
        refine ov_blk (ls2 := [(0, ov_r 90), (1, ov_i dep), (2, ov_i v36)]) (st2 := [ov_i 0, ov_i 7, ov_r 90]) (pc2 := 48) b_227_47_1 rfl rfl ?_
        refine ov_cV (as := [ov_i 7, ov_i 0]) (st := []) (d2 := d - 1) d_227_48 lk_Mo_246 rfl (Nat.le_of_ble_eq_true rfl) (c := 1) (zb_90 I290) (zs_90 I290) ⟨by decide, rfl⟩ (by omega) (c_Mo_emit_90 (d - 1) (by omega) U I290 7 0 (by omega) (by omega) (by omega) (by show (h289 90 13) ≤ 999; omega)) ?_
        rintro _ z356 h357 ⟨rfl, I358, f341, e342, e343, e344, e345, e346, e347, e348, e349, e350, e351, e352, e353, y354, y355⟩
        have E359 : h357 92 = h 92 := Eq.trans e342 E291
        have E360 : h357 93 = h 93 := Eq.trans e343 E292
        have E361 : h357 94 = h 94 := Eq.trans e344 E293
        have E362 : h357 95 = h 95 := Eq.trans e345 E294
        have E363 : h357 96 = h 96 := Eq.trans e346 E295
        have E364 : h357 99 = h 99 := Eq.trans e347 E296
        have E365 : h357 100 = h 100 := Eq.trans e348 E297
        have E366 : h357 103 = h 103 := Eq.trans e349 E298
        have E367 : h357 105 = h 105 := Eq.trans e350 E299
        have E368 : h357 106 = h 106 := Eq.trans e351 E300
        have E369 : h357 109 = h 109 := Eq.trans e352 E301
        have E370 : h357 114 = h 114 := Eq.trans e353 E302
        show ov_R u d ov_m227 51 [(0, ov_r 90), (1, ov_i dep), (2, ov_i v36)] [] z356 h357 (P_Mo_test_90 F z h n dep)
        have f371 : (h357 90 2) = (h289 90 2) ∧ (h357 90 7) = (h289 90 7) ∧ (h357 90 8) = (h289 90 8) ∧ (h357 90 20) = (h289 90 20) ∧ (h357 90 22) = (h289 90 22) ∧ (h357 90 25) = (h289 90 25) ∧ (h357 90 26) = (h289 90 26) ∧ (h357 90 28) = (h289 90 28) ∧ (h357 90 29) = (h289 90 29) ∧ (h357 90 30) = (h289 90 30) ∧ (h357 90 34) = (h289 90 34) ∧ (h357 90 13) = (h289 90 13) + 1 := f341
        clear f341
        have y354_ : (h357 97) = ov_rs (h289 97) (1100 + (h289 90 13)) (7 : Int) := y354
        have y355_ : (h357 98) = ov_rs (h289 98) (1100 + (h289 90 13)) (0 : Int) := y355
        have K372 : ∀ j : Int, j < 1100 + (h 90 13) → h357 97 j = h 97 j ∧ h357 98 j = h 98 j := ov_kpe (ov_kp K32 y286_ (by omega)) y354_ y355_ (by omega)
        have K373 : h357 90 8 = 0 → ov_sg (h357 97) (h357 98) (h 90 13) (h357 90 13) := fun e => by have q1 := K33 (by omega); have q2 := y287_ (by omega); rw [show (h224 90 13) = (h17 90 13) by omega] at q2; have q3 := ov_sg_bin q1 (fun j hj => y286_ j (by omega)) q2 y354_ y355_ (by omega); rw [show h357 90 13 = (h289 90 13) + 1 by omega]; exact q3
        exact ov_retv (st := []) d_227_51 rfl ⟨rfl, I358, (by show (h357 90 2) = (h 90 2) ∧ (h357 90 20) = (h 90 20) ∧ (h357 90 22) = (h 90 22) ∧ (h357 90 25) = (h 90 25) ∧ (h357 90 26) = (h 90 26) ∧ (h357 90 28) = (h 90 28) ∧ (h357 90 29) = (h 90 29) ∧ (h357 90 30) = (h 90 30) ∧ (h357 90 34) = (h 90 34) ∧ (h 90 7) ≤ (h357 90 7) ∧ (h357 90 7) ≤ n ∧ (h 90 8) ≤ (h357 90 8) ∧ (h 90 13) ≤ (h357 90 13) ∧ (h357 90 13) - (h 90 13) ≤ (h357 90 7) - (h 90 7); omega), E359, E360, E361, E362, E363, E364, E365, E366, E367, E368, E369, E370, K372, (fun e => by have e0 : (h357 90 8) = 0 := e; show ov_sg (h357 97) (h357 98) _ (h357 90 13); rw [show (h357 90 13) = (h357 90 13) by omega]; exact K373 (by omega))⟩
set_option maxHeartbeats 4000000 in
theorem c_Mo_all_90 {u : ov_U} {F : ov_H × ov_Z} (n : Int) (k : Nat) (HE : ∀ k' : Nat, k' + 1 = k → ∀ {z : ov_Z} {h : ov_H} (d : Nat) (hd : (10 + 5 * k' + 4) ≤ d) (U : ov_cap u) (I : ov_N F z h) (dep : Int) (g_dep : ov_g dep) (p0 : 0 ≤ n ∧ n ≤ 1000 ∧ (h 92 (n)) = 0 ∧ (h 90 7) ≤ n) (p1 : 0 ≤ dep ∧ dep + (k' : Int) = 5) (p2 : (h 90 13) ≤ (h 90 7)), ov_T u d ov_m226 [ov_r 90, ov_i dep] z h (P_Mo_all_90 F z h n dep)) (HP : ∀ k' : Nat, k' + 1 = k → ∀ {z : ov_Z} {h : ov_H} (d : Nat) (hd : (10 + 5 * k' + 0) ≤ d) (U : ov_cap u) (I : ov_N F z h) (dep : Int) (g_dep : ov_g dep) (p0 : 0 ≤ n ∧ n ≤ 1000 ∧ (h 92 (n)) = 0 ∧ (h 90 7) ≤ n) (p1 : 0 ≤ dep ∧ dep + (k' : Int) = 5) (p2 : (h 90 13) ≤ (h 90 7)), ov_T u d ov_m230 [ov_r 90, ov_i dep] z h (P_Mo_takePart_90 F z h n dep)) {z : ov_Z} {h : ov_H} (d : Nat) (hd : (10 + 5 * k + 4) ≤ d) (U : ov_cap u) (I : ov_N F z h) (dep : Int) (g_dep : ov_g dep) (p0 : 0 ≤ n ∧ n ≤ 1000 ∧ (h 92 (n)) = 0 ∧ (h 90 7) ≤ n) (p1 : 0 ≤ dep ∧ dep + (k : Int) = 5) (p2 : (h 90 13) ≤ (h 90 7)) : ov_T u d ov_m226 [ov_r 90, ov_i dep] z h (P_Mo_all_90 F z h n dep) := by
  refine ov_en rfl (Nat.le_of_ble_eq_true rfl) ?_
  show ov_R u d ov_m226 0 [(0, ov_r 90), (1, ov_i dep)] [] z h (P_Mo_all_90 F z h n dep)
  have gq7 := rg_90_7 I
  refine ov_blk (ls2 := [(0, ov_r 90), (1, ov_i dep)]) (st2 := [ov_i dep, ov_r 90]) (pc2 := 2) b_226_0_2 rfl rfl ?_
  refine ov_cV (as := [ov_i dep]) (st := []) (d2 := d - 1) d_226_2 lk_Mo_257 rfl (Nat.le_of_ble_eq_true rfl) (c := 1) (zb_90 I) (zs_90 I) ⟨by decide, rfl⟩ (by omega) (c_Mo_test_90 n k HE HP (d - 1) (by omega) U I dep (by omega) (by show 0 ≤ n ∧ n ≤ 1000 ∧ (h 92 (n)) = 0 ∧ (h 90 7) ≤ n; omega) (by omega) (by show (h 90 13) ≤ (h 90 7); omega)) ?_
  rintro _ z16 h17 ⟨rfl, I18, f1, e2, e3, e4, e5, e6, e7, e8, e9, e10, e11, e12, e13, y14, y15⟩
  have E19 : h17 92 = h 92 := e2
  have E20 : h17 93 = h 93 := e3
  have E21 : h17 94 = h 94 := e4
  have E22 : h17 95 = h 95 := e5
  have E23 : h17 96 = h 96 := e6
  have E24 : h17 99 = h 99 := e7
  have E25 : h17 100 = h 100 := e8
  have E26 : h17 103 = h 103 := e9
  have E27 : h17 105 = h 105 := e10
  have E28 : h17 106 = h 106 := e11
  have E29 : h17 109 = h 109 := e12
  have E30 : h17 114 = h 114 := e13
  show ov_R u d ov_m226 5 [(0, ov_r 90), (1, ov_i dep)] [] z16 h17 (P_Mo_all_90 F z h n dep)
  have f31 : (h17 90 2) = (h 90 2) ∧ (h17 90 20) = (h 90 20) ∧ (h17 90 22) = (h 90 22) ∧ (h17 90 25) = (h 90 25) ∧ (h17 90 26) = (h 90 26) ∧ (h17 90 28) = (h 90 28) ∧ (h17 90 29) = (h 90 29) ∧ (h17 90 30) = (h 90 30) ∧ (h17 90 34) = (h 90 34) ∧ (h 90 7) ≤ (h17 90 7) ∧ (h17 90 7) ≤ n ∧ (h 90 8) ≤ (h17 90 8) ∧ (h 90 13) ≤ (h17 90 13) ∧ (h17 90 13) - (h 90 13) ≤ (h17 90 7) - (h 90 7) := f1
  clear f1
  have y14_ : ∀ j : Int, j < 1100 + (h 90 13) → (h17 97) j = (h 97) j ∧ (h17 98) j = (h 98) j := y14
  have y15_ : (h17 90 8) = 0 → ov_sg (h17 97) (h17 98) (h 90 13) (h17 90 13) := y15
  have K32 : ∀ j : Int, j < 1100 + (h 90 13) → h17 97 j = h 97 j ∧ h17 98 j = h 98 j := fun j hj => y14_ j (by omega)
  have K33 : h17 90 8 = 0 → ov_sg (h17 97) (h17 98) (h 90 13) (h17 90 13) := fun e => by have q := y15_ e; rw [show (h 90 13) = h 90 13 by omega] at q; exact q
  have L37 : ∀ (n34 : Nat) (z38 : ov_Z) (h39 : ov_H) (I40 : ov_N F z38 h39) (E41 : h39 92 = h 92) (E42 : h39 93 = h 93) (E43 : h39 94 = h 94) (E44 : h39 95 = h 95) (E45 : h39 96 = h 96) (E46 : h39 99 = h 99) (E47 : h39 100 = h 100) (E48 : h39 103 = h 103) (E49 : h39 105 = h 105) (E50 : h39 106 = h 106) (E51 : h39 109 = h 109) (E52 : h39 114 = h 114) (xa : ∀ j : Int, j < 1100 + (h 90 13) → (h39 97) j = (h 97) j ∧ (h39 98) j = (h 98) j) (xb : (h39 90 8) = 0 → ov_sg (h39 97) (h39 98) (h 90 13) (h39 90 13)) (q36 : (h 90 7) ≤ (h39 90 7) ∧ (h39 90 7) ≤ n ∧ (h 90 8) ≤ (h39 90 8) ∧ (h 90 13) ≤ (h39 90 13) ∧ (h39 90 13) - (h 90 13) ≤ (h39 90 7) - (h 90 7) ∧ (h39 90 2) = (h17 90 2) ∧ (h39 90 20) = (h17 90 20) ∧ (h39 90 22) = (h17 90 22) ∧ (h39 90 25) = (h17 90 25) ∧ (h39 90 26) = (h17 90 26) ∧ (h39 90 28) = (h17 90 28) ∧ (h39 90 29) = (h17 90 29) ∧ (h39 90 30) = (h17 90 30) ∧ (h39 90 34) = (h17 90 34)), 1000 - (h39 90 7) < (n34 : Int) → ov_R u d ov_m226 5 [(0, ov_r 90), (1, ov_i dep)] [] z38 h39 (P_Mo_all_90 F z h n dep) := by
    intro n34
    induction n34 with
    | zero =>
      intro  z38 h39 I40 E41 E42 E43 E44 E45 E46 E47 E48 E49 E50 E51 E52 xa xb q36 hn53
      exact absurd hn53 (by omega)
    | succ n34 ih35 =>
      intro  z38 h39 I40 E41 E42 E43 E44 E45 E46 E47 E48 E49 E50 E51 E52 xa xb q36 hn53
      refine ov_blk (ls2 := [(0, ov_r 90), (1, ov_i dep)]) (st2 := [ov_r 90]) (pc2 := 6) b_226_5_1 rfl rfl ?_
      refine ov_blk (ls2 := [(0, ov_r 90), (1, ov_i dep)]) (st2 := [ov_i 18, ov_r 90]) (pc2 := 8) b_226_6_1 rfl rfl ?_
      have cf54 : h39 92 (n) = h 92 (n) := congrFun E41 (n)
      refine ov_cV (as := [ov_i 18]) (st := []) (d2 := d - 1) d_226_8 lk_Mo_189 rfl (Nat.le_of_ble_eq_true rfl) (c := 1) (zb_90 I40) (zs_90 I40) ⟨by decide, rfl⟩ (by omega) (c_Mo_isWord_90 n (d - 1) (by omega) U I40 18 (by omega) (by show 0 ≤ n ∧ n ≤ 1000 ∧ (h39 92 (n)) = 0 ∧ (h39 90 7) ≤ n; omega) (by omega)) ?_
      rintro _ _ _ ⟨v56, rfl, rfl, rfl, f55⟩
      show ov_R u d ov_m226 11 [(0, ov_r 90), (1, ov_i dep)] [ov_i v56] z38 h39 (P_Mo_all_90 F z h n dep)
      rw [show h39 92 = h 92 from E41] at f55
      rw [show h39 94 = h 94 from E43] at f55
      rw [show h39 95 = h 95 from E44] at f55
      have f57 : (v56 = 0 ∨ v56 = 1) ∧ (v56 = 1 → (h39 90 7) < n) ∧ (v56 = 1 → (h39 90 8) = 0 ∧ (h 92 ((h39 90 7))) = 1 ∧ (h 94 ((h39 90 7))) = (h 95 ((18 : Int)))) ∧ (v56 = 0 → ¬ ((h39 90 8) = 0 ∧ (h 92 ((h39 90 7))) = 1 ∧ (h 94 ((h39 90 7))) = (h 95 ((18 : Int))))) := f55
      clear f55
      refine ov_ifne (tgt := 23) d_226_11 (by decide) (by omega) (fun c58 => ?_) (fun c58 => ?_)
      · skip
        have f57_ : v56 = 1 := by omega
        have f59 : (h39 90 7) < n := f57.2.1 (by omega)
        have f60 : (h39 90 8) = 0 ∧ (h 92 ((h39 90 7))) = 1 ∧ (h 94 ((h39 90 7))) = (h 95 ((18 : Int))) := f57.2.2.1 (by omega)
        clear f57
        refine ov_blk (ls2 := [(0, ov_r 90), (1, ov_i dep)]) (st2 := [ov_i 18, ov_r 90]) (pc2 := 26) b_226_23_2 rfl rfl ?_
        have cf61 : h39 92 (n) = h 92 (n) := congrFun E41 (n)
        refine ov_cV (as := [ov_i 18]) (st := []) (d2 := d - 1) d_226_26 lk_Mo_189 rfl (Nat.le_of_ble_eq_true rfl) (c := 1) (zb_90 I40) (zs_90 I40) ⟨by decide, rfl⟩ (by omega) (c_Mo_isWord_90 n (d - 1) (by omega) U I40 18 (by omega) (by show 0 ≤ n ∧ n ≤ 1000 ∧ (h39 92 (n)) = 0 ∧ (h39 90 7) ≤ n; omega) (by omega)) ?_
        rintro _ _ _ ⟨v63, rfl, rfl, rfl, f62⟩
        show ov_R u d ov_m226 29 [(0, ov_r 90), (1, ov_i dep)] [ov_i v63] z38 h39 (P_Mo_all_90 F z h n dep)
        rw [show h39 92 = h 92 from E41] at f62
        rw [show h39 94 = h 94 from E43] at f62
        rw [show h39 95 = h 95 from E44] at f62
        have f64 : (v63 = 0 ∨ v63 = 1) ∧ (v63 = 1 → (h39 90 7) < n) ∧ (v63 = 1 → (h39 90 8) = 0 ∧ (h 92 ((h39 90 7))) = 1 ∧ (h 94 ((h39 90 7))) = (h 95 ((18 : Int)))) ∧ (v63 = 0 → ¬ ((h39 90 8) = 0 ∧ (h 92 ((h39 90 7))) = 1 ∧ (h 94 ((h39 90 7))) = (h 95 ((18 : Int))))) := f62
        clear f62
        refine ov_blk (ls2 := [(0, ov_r 90), (1, ov_i dep), (2, ov_i v63)]) (st2 := [ov_r 90, ov_r 90]) (pc2 := 32) b_226_29_3 rfl rfl ?_
        refine ov_getf (v := ov_i (h39 90 7)) d_226_32 fl_Mo_177 (zb_90 I40) (zs_90 I40) rfl ?_
        have g65 := rg_90_7 I40
        refine ov_blk (ls2 := [(0, ov_r 90), (1, ov_i dep), (2, ov_i v63)]) (st2 := [ov_i ((h39 90 7) + 1), ov_r 90]) (pc2 := 37) b_226_35_2 rfl rfl ?_
        refine ov_putf (x := ((h39 90 7) + 1)) d_226_37 fl_Mo_177 (zb_90 I40) (zs_90 I40) rfl nk_0 rfl ?_
        have I66 := up_90_7 (x := ((h39 90 7) + 1)) I40 (by omega)
        refine ov_blk (ls2 := [(0, ov_r 90), (1, ov_i dep), (2, ov_i v63)]) (st2 := [ov_i dep, ov_r 90]) (pc2 := 42) b_226_40_2 rfl rfl ?_
        have cf67 : h39 92 (n) = h 92 (n) := congrFun E41 (n)
        refine ov_cV (as := [ov_i dep]) (st := []) (d2 := d - 1) d_226_42 lk_Mo_257 rfl (Nat.le_of_ble_eq_true rfl) (c := 1) (zb_90 I66) (zs_90 I66) ⟨by decide, rfl⟩ (by omega) (c_Mo_test_90 n k HE HP (d - 1) (by omega) U I66 dep (by omega) (by show 0 ≤ n ∧ n ≤ 1000 ∧ (h39 92 (n)) = 0 ∧ ((h39 90 7) + 1) ≤ n; omega) (by omega) (by show (h39 90 13) ≤ ((h39 90 7) + 1); omega)) ?_
        rintro _ z83 h84 ⟨rfl, I85, f68, e69, e70, e71, e72, e73, e74, e75, e76, e77, e78, e79, e80, y81, y82⟩
        have E86 : h84 92 = h 92 := Eq.trans e69 E41
        have E87 : h84 93 = h 93 := Eq.trans e70 E42
        have E88 : h84 94 = h 94 := Eq.trans e71 E43
        have E89 : h84 95 = h 95 := Eq.trans e72 E44
        have E90 : h84 96 = h 96 := Eq.trans e73 E45
        have E91 : h84 99 = h 99 := Eq.trans e74 E46
        have E92 : h84 100 = h 100 := Eq.trans e75 E47
        have E93 : h84 103 = h 103 := Eq.trans e76 E48
        have E94 : h84 105 = h 105 := Eq.trans e77 E49
        have E95 : h84 106 = h 106 := Eq.trans e78 E50
        have E96 : h84 109 = h 109 := Eq.trans e79 E51
        have E97 : h84 114 = h 114 := Eq.trans e80 E52
        show ov_R u d ov_m226 45 [(0, ov_r 90), (1, ov_i dep), (2, ov_i v63)] [] z83 h84 (P_Mo_all_90 F z h n dep)
        have f98 : (h84 90 2) = (h39 90 2) ∧ (h84 90 20) = (h39 90 20) ∧ (h84 90 22) = (h39 90 22) ∧ (h84 90 25) = (h39 90 25) ∧ (h84 90 26) = (h39 90 26) ∧ (h84 90 28) = (h39 90 28) ∧ (h84 90 29) = (h39 90 29) ∧ (h84 90 30) = (h39 90 30) ∧ (h84 90 34) = (h39 90 34) ∧ ((h39 90 7) + 1) ≤ (h84 90 7) ∧ (h84 90 7) ≤ n ∧ (h39 90 8) ≤ (h84 90 8) ∧ (h39 90 13) ≤ (h84 90 13) ∧ (h84 90 13) - (h39 90 13) ≤ (h84 90 7) - ((h39 90 7) + 1) := f68
        clear f68
        have y81_ : ∀ j : Int, j < 1100 + (h39 90 13) → (h84 97) j = (h39 97) j ∧ (h84 98) j = (h39 98) j := y81
        have y82_ : (h84 90 8) = 0 → ov_sg (h84 97) (h84 98) (h39 90 13) (h84 90 13) := y82
        refine ov_blk (ls2 := [(0, ov_r 90), (1, ov_i dep), (2, ov_i v63)]) (st2 := [ov_i v63, ov_r 90]) (pc2 := 47) b_226_45_2 rfl rfl ?_
        refine ov_ifeq (tgt := 55) d_226_47 (by decide) (by omega) (fun c99 => ?_) (fun c99 => ?_)
        · skip
          have f64_ : v63 = 0 := by omega
          have f100 : ¬ ((h39 90 8) = 0 ∧ (h 92 ((h39 90 7))) = 1 ∧ (h 94 ((h39 90 7))) = (h 95 ((18 : Int)))) := f64.2.2.2 (by omega)
          clear f64
          refine ov_blk (ls2 := [(0, ov_r 90), (1, ov_i dep), (2, ov_i v63)]) (st2 := [ov_i 0, ov_i 10, ov_r 90]) (pc2 := 58) b_226_55_2 rfl rfl ?_
          refine ov_cV (as := [ov_i 10, ov_i 0]) (st := []) (d2 := d - 1) d_226_58 lk_Mo_246 rfl (Nat.le_of_ble_eq_true rfl) (c := 1) (zb_90 I85) (zs_90 I85) ⟨by decide, rfl⟩ (by omega) (c_Mo_emit_90 (d - 1) (by omega) U I85 10 0 (by omega) (by omega) (by omega) (by show (h84 90 13) ≤ 999; omega)) ?_
          rintro _ z116 h117 ⟨rfl, I118, f101, e102, e103, e104, e105, e106, e107, e108, e109, e110, e111, e112, e113, y114, y115⟩
          have E119 : h117 92 = h 92 := Eq.trans e102 E86
          have E120 : h117 93 = h 93 := Eq.trans e103 E87
          have E121 : h117 94 = h 94 := Eq.trans e104 E88
          have E122 : h117 95 = h 95 := Eq.trans e105 E89
          have E123 : h117 96 = h 96 := Eq.trans e106 E90
          have E124 : h117 99 = h 99 := Eq.trans e107 E91
          have E125 : h117 100 = h 100 := Eq.trans e108 E92
          have E126 : h117 103 = h 103 := Eq.trans e109 E93
          have E127 : h117 105 = h 105 := Eq.trans e110 E94
          have E128 : h117 106 = h 106 := Eq.trans e111 E95
          have E129 : h117 109 = h 109 := Eq.trans e112 E96
          have E130 : h117 114 = h 114 := Eq.trans e113 E97
          show ov_R u d ov_m226 61 [(0, ov_r 90), (1, ov_i dep), (2, ov_i v63)] [] z116 h117 (P_Mo_all_90 F z h n dep)
          have f131 : (h117 90 2) = (h84 90 2) ∧ (h117 90 7) = (h84 90 7) ∧ (h117 90 8) = (h84 90 8) ∧ (h117 90 20) = (h84 90 20) ∧ (h117 90 22) = (h84 90 22) ∧ (h117 90 25) = (h84 90 25) ∧ (h117 90 26) = (h84 90 26) ∧ (h117 90 28) = (h84 90 28) ∧ (h117 90 29) = (h84 90 29) ∧ (h117 90 30) = (h84 90 30) ∧ (h117 90 34) = (h84 90 34) ∧ (h117 90 13) = (h84 90 13) + 1 := f101
          clear f101
          have y114_ : (h117 97) = ov_rs (h84 97) (1100 + (h84 90 13)) (10 : Int) := y114
          have y115_ : (h117 98) = ov_rs (h84 98) (1100 + (h84 90 13)) (0 : Int) := y115
          have K132 : ∀ j : Int, j < 1100 + (h 90 13) → h117 97 j = h 97 j ∧ h117 98 j = h 98 j := ov_kpe (ov_kp xa y81_ (by omega)) y114_ y115_ (by omega)
          have K133 : h117 90 8 = 0 → ov_sg (h117 97) (h117 98) (h 90 13) (h117 90 13) := fun e => by have q1 := xb (by omega); have q2 := y82_ (by omega); rw [show (h39 90 13) = (h39 90 13) by omega] at q2; have q3 := ov_sg_bin q1 (fun j hj => y81_ j (by omega)) q2 y114_ y115_ (by omega); rw [show h117 90 13 = (h84 90 13) + 1 by omega]; exact q3
          refine ov_goto (tgt := 5) d_226_61 (by decide) ?_
          refine ov_sub (ls2 := [(0, ov_r 90), (1, ov_i dep)]) (List.Sublist.subset (by repeat (first | exact List.Sublist.refl _ | apply List.Sublist.cons_cons | apply List.Sublist.cons))) ?_
          exact ih35  _ _ I118 E119 E120 E121 E122 E123 E124 E125 E126 E127 E128 E129 E130 K132 K133 (by show (h 90 7) ≤ (h117 90 7) ∧ (h117 90 7) ≤ n ∧ (h 90 8) ≤ (h117 90 8) ∧ (h 90 13) ≤ (h117 90 13) ∧ (h117 90 13) - (h 90 13) ≤ (h117 90 7) - (h 90 7) ∧ (h117 90 2) = (h17 90 2) ∧ (h117 90 20) = (h17 90 20) ∧ (h117 90 22) = (h17 90 22) ∧ (h117 90 25) = (h17 90 25) ∧ (h117 90 26) = (h17 90 26) ∧ (h117 90 28) = (h17 90 28) ∧ (h117 90 29) = (h17 90 29) ∧ (h117 90 30) = (h17 90 30) ∧ (h117 90 34) = (h17 90 34); omega) (by omega)
        · skip
          have f64_ : v63 = 1 := by omega
          have f134 : (h39 90 7) < n := f64.2.1 (by omega)
          have f135 : (h39 90 8) = 0 ∧ (h 92 ((h39 90 7))) = 1 ∧ (h 94 ((h39 90 7))) = (h 95 ((18 : Int))) := f64.2.2.1 (by omega)
          clear f64
          refine ov_blk (ls2 := [(0, ov_r 90), (1, ov_i dep), (2, ov_i v63)]) (st2 := [ov_i 9, ov_r 90]) (pc2 := 52) b_226_50_1 rfl rfl ?_
          refine ov_goto (tgt := 57) d_226_52 (by decide) ?_
          refine ov_blk (ls2 := [(0, ov_r 90), (1, ov_i dep), (2, ov_i v63)]) (st2 := [ov_i 0, ov_i 9, ov_r 90]) (pc2 := 58) b_226_57_1 rfl rfl ?_
          refine ov_cV (as := [ov_i 9, ov_i 0]) (st := []) (d2 := d - 1) d_226_58 lk_Mo_246 rfl (Nat.le_of_ble_eq_true rfl) (c := 1) (zb_90 I85) (zs_90 I85) ⟨by decide, rfl⟩ (by omega) (c_Mo_emit_90 (d - 1) (by omega) U I85 9 0 (by omega) (by omega) (by omega) (by show (h84 90 13) ≤ 999; omega)) ?_
          rintro _ z151 h152 ⟨rfl, I153, f136, e137, e138, e139, e140, e141, e142, e143, e144, e145, e146, e147, e148, y149, y150⟩
          have E154 : h152 92 = h 92 := Eq.trans e137 E86
          have E155 : h152 93 = h 93 := Eq.trans e138 E87
          have E156 : h152 94 = h 94 := Eq.trans e139 E88
          have E157 : h152 95 = h 95 := Eq.trans e140 E89
          have E158 : h152 96 = h 96 := Eq.trans e141 E90
          have E159 : h152 99 = h 99 := Eq.trans e142 E91
          have E160 : h152 100 = h 100 := Eq.trans e143 E92
          have E161 : h152 103 = h 103 := Eq.trans e144 E93
          have E162 : h152 105 = h 105 := Eq.trans e145 E94
          have E163 : h152 106 = h 106 := Eq.trans e146 E95
          have E164 : h152 109 = h 109 := Eq.trans e147 E96
          have E165 : h152 114 = h 114 := Eq.trans e148 E97
          show ov_R u d ov_m226 61 [(0, ov_r 90), (1, ov_i dep), (2, ov_i v63)] [] z151 h152 (P_Mo_all_90 F z h n dep)
          have f166 : (h152 90 2) = (h84 90 2) ∧ (h152 90 7) = (h84 90 7) ∧ (h152 90 8) = (h84 90 8) ∧ (h152 90 20) = (h84 90 20) ∧ (h152 90 22) = (h84 90 22) ∧ (h152 90 25) = (h84 90 25) ∧ (h152 90 26) = (h84 90 26) ∧ (h152 90 28) = (h84 90 28) ∧ (h152 90 29) = (h84 90 29) ∧ (h152 90 30) = (h84 90 30) ∧ (h152 90 34) = (h84 90 34) ∧ (h152 90 13) = (h84 90 13) + 1 := f136
          clear f136
          have y149_ : (h152 97) = ov_rs (h84 97) (1100 + (h84 90 13)) (9 : Int) := y149
          have y150_ : (h152 98) = ov_rs (h84 98) (1100 + (h84 90 13)) (0 : Int) := y150
          have K167 : ∀ j : Int, j < 1100 + (h 90 13) → h152 97 j = h 97 j ∧ h152 98 j = h 98 j := ov_kpe (ov_kp xa y81_ (by omega)) y149_ y150_ (by omega)
          have K168 : h152 90 8 = 0 → ov_sg (h152 97) (h152 98) (h 90 13) (h152 90 13) := fun e => by have q1 := xb (by omega); have q2 := y82_ (by omega); rw [show (h39 90 13) = (h39 90 13) by omega] at q2; have q3 := ov_sg_bin q1 (fun j hj => y81_ j (by omega)) q2 y149_ y150_ (by omega); rw [show h152 90 13 = (h84 90 13) + 1 by omega]; exact q3
          refine ov_goto (tgt := 5) d_226_61 (by decide) ?_
          refine ov_sub (ls2 := [(0, ov_r 90), (1, ov_i dep)]) (List.Sublist.subset (by repeat (first | exact List.Sublist.refl _ | apply List.Sublist.cons_cons | apply List.Sublist.cons))) ?_
          exact ih35  _ _ I153 E154 E155 E156 E157 E158 E159 E160 E161 E162 E163 E164 E165 K167 K168 (by show (h 90 7) ≤ (h152 90 7) ∧ (h152 90 7) ≤ n ∧ (h 90 8) ≤ (h152 90 8) ∧ (h 90 13) ≤ (h152 90 13) ∧ (h152 90 13) - (h 90 13) ≤ (h152 90 7) - (h 90 7) ∧ (h152 90 2) = (h17 90 2) ∧ (h152 90 20) = (h17 90 20) ∧ (h152 90 22) = (h17 90 22) ∧ (h152 90 25) = (h17 90 25) ∧ (h152 90 26) = (h17 90 26) ∧ (h152 90 28) = (h17 90 28) ∧ (h152 90 29) = (h17 90 29) ∧ (h152 90 30) = (h17 90 30) ∧ (h152 90 34) = (h17 90 34); omega) (by omega)
      · skip
        have f57_ : v56 = 0 := by omega
        have f169 : ¬ ((h39 90 8) = 0 ∧ (h 92 ((h39 90 7))) = 1 ∧ (h 94 ((h39 90 7))) = (h 95 ((18 : Int)))) := f57.2.2.2 (by omega)
        clear f57
        refine ov_blk (ls2 := [(0, ov_r 90), (1, ov_i dep)]) (st2 := [ov_i 19, ov_r 90]) (pc2 := 17) b_226_14_2 rfl rfl ?_
        have cf170 : h39 92 (n) = h 92 (n) := congrFun E41 (n)
        refine ov_cV (as := [ov_i 19]) (st := []) (d2 := d - 1) d_226_17 lk_Mo_189 rfl (Nat.le_of_ble_eq_true rfl) (c := 1) (zb_90 I40) (zs_90 I40) ⟨by decide, rfl⟩ (by omega) (c_Mo_isWord_90 n (d - 1) (by omega) U I40 19 (by omega) (by show 0 ≤ n ∧ n ≤ 1000 ∧ (h39 92 (n)) = 0 ∧ (h39 90 7) ≤ n; omega) (by omega)) ?_
        rintro _ _ _ ⟨v172, rfl, rfl, rfl, f171⟩
        show ov_R u d ov_m226 20 [(0, ov_r 90), (1, ov_i dep)] [ov_i v172] z38 h39 (P_Mo_all_90 F z h n dep)
        rw [show h39 92 = h 92 from E41] at f171
        rw [show h39 94 = h 94 from E43] at f171
        rw [show h39 95 = h 95 from E44] at f171
        have f173 : (v172 = 0 ∨ v172 = 1) ∧ (v172 = 1 → (h39 90 7) < n) ∧ (v172 = 1 → (h39 90 8) = 0 ∧ (h 92 ((h39 90 7))) = 1 ∧ (h 94 ((h39 90 7))) = (h 95 ((19 : Int)))) ∧ (v172 = 0 → ¬ ((h39 90 8) = 0 ∧ (h 92 ((h39 90 7))) = 1 ∧ (h 94 ((h39 90 7))) = (h 95 ((19 : Int))))) := f171
        clear f171
        refine ov_ifeq (tgt := 64) d_226_20 (by decide) (by omega) (fun c174 => ?_) (fun c174 => ?_)
        · skip
          have f173_ : v172 = 0 := by omega
          have f175 : ¬ ((h39 90 8) = 0 ∧ (h 92 ((h39 90 7))) = 1 ∧ (h 94 ((h39 90 7))) = (h 95 ((19 : Int)))) := f173.2.2.2 (by omega)
          clear f173
          exact ov_retv (st := []) d_226_64 rfl ⟨rfl, I40, (by show (h39 90 2) = (h 90 2) ∧ (h39 90 20) = (h 90 20) ∧ (h39 90 22) = (h 90 22) ∧ (h39 90 25) = (h 90 25) ∧ (h39 90 26) = (h 90 26) ∧ (h39 90 28) = (h 90 28) ∧ (h39 90 29) = (h 90 29) ∧ (h39 90 30) = (h 90 30) ∧ (h39 90 34) = (h 90 34) ∧ (h 90 7) ≤ (h39 90 7) ∧ (h39 90 7) ≤ n ∧ (h 90 8) ≤ (h39 90 8) ∧ (h 90 13) ≤ (h39 90 13) ∧ (h39 90 13) - (h 90 13) ≤ (h39 90 7) - (h 90 7); omega), E41, E42, E43, E44, E45, E46, E47, E48, E49, E50, E51, E52, xa, (fun e => by have e0 : (h39 90 8) = 0 := e; show ov_sg (h39 97) (h39 98) _ (h39 90 13); rw [show (h39 90 13) = (h39 90 13) by omega]; exact xb (by omega))⟩
        · skip
          have f173_ : v172 = 1 := by omega
          have f176 : (h39 90 7) < n := f173.2.1 (by omega)
          have f177 : (h39 90 8) = 0 ∧ (h 92 ((h39 90 7))) = 1 ∧ (h 94 ((h39 90 7))) = (h 95 ((19 : Int))) := f173.2.2.1 (by omega)
          clear f173
          refine ov_blk (ls2 := [(0, ov_r 90), (1, ov_i dep)]) (st2 := [ov_i 18, ov_r 90]) (pc2 := 26) b_226_23_2 rfl rfl ?_
          have cf178 : h39 92 (n) = h 92 (n) := congrFun E41 (n)
          refine ov_cV (as := [ov_i 18]) (st := []) (d2 := d - 1) d_226_26 lk_Mo_189 rfl (Nat.le_of_ble_eq_true rfl) (c := 1) (zb_90 I40) (zs_90 I40) ⟨by decide, rfl⟩ (by omega) (c_Mo_isWord_90 n (d - 1) (by omega) U I40 18 (by omega) (by show 0 ≤ n ∧ n ≤ 1000 ∧ (h39 92 (n)) = 0 ∧ (h39 90 7) ≤ n; omega) (by omega)) ?_
          rintro _ _ _ ⟨v180, rfl, rfl, rfl, f179⟩
          show ov_R u d ov_m226 29 [(0, ov_r 90), (1, ov_i dep)] [ov_i v180] z38 h39 (P_Mo_all_90 F z h n dep)
          rw [show h39 92 = h 92 from E41] at f179
          rw [show h39 94 = h 94 from E43] at f179
          rw [show h39 95 = h 95 from E44] at f179
          have f181 : (v180 = 0 ∨ v180 = 1) ∧ (v180 = 1 → (h39 90 7) < n) ∧ (v180 = 1 → (h39 90 8) = 0 ∧ (h 92 ((h39 90 7))) = 1 ∧ (h 94 ((h39 90 7))) = (h 95 ((18 : Int)))) ∧ (v180 = 0 → ¬ ((h39 90 8) = 0 ∧ (h 92 ((h39 90 7))) = 1 ∧ (h 94 ((h39 90 7))) = (h 95 ((18 : Int))))) := f179
          clear f179
          refine ov_blk (ls2 := [(0, ov_r 90), (1, ov_i dep), (2, ov_i v180)]) (st2 := [ov_r 90, ov_r 90]) (pc2 := 32) b_226_29_3 rfl rfl ?_
          refine ov_getf (v := ov_i (h39 90 7)) d_226_32 fl_Mo_177 (zb_90 I40) (zs_90 I40) rfl ?_
          have g182 := rg_90_7 I40
          refine ov_blk (ls2 := [(0, ov_r 90), (1, ov_i dep), (2, ov_i v180)]) (st2 := [ov_i ((h39 90 7) + 1), ov_r 90]) (pc2 := 37) b_226_35_2 rfl rfl ?_
          refine ov_putf (x := ((h39 90 7) + 1)) d_226_37 fl_Mo_177 (zb_90 I40) (zs_90 I40) rfl nk_0 rfl ?_
          have I183 := up_90_7 (x := ((h39 90 7) + 1)) I40 (by omega)
          refine ov_blk (ls2 := [(0, ov_r 90), (1, ov_i dep), (2, ov_i v180)]) (st2 := [ov_i dep, ov_r 90]) (pc2 := 42) b_226_40_2 rfl rfl ?_
          have cf184 : h39 92 (n) = h 92 (n) := congrFun E41 (n)
          refine ov_cV (as := [ov_i dep]) (st := []) (d2 := d - 1) d_226_42 lk_Mo_257 rfl (Nat.le_of_ble_eq_true rfl) (c := 1) (zb_90 I183) (zs_90 I183) ⟨by decide, rfl⟩ (by omega) (c_Mo_test_90 n k HE HP (d - 1) (by omega) U I183 dep (by omega) (by show 0 ≤ n ∧ n ≤ 1000 ∧ (h39 92 (n)) = 0 ∧ ((h39 90 7) + 1) ≤ n; omega) (by omega) (by show (h39 90 13) ≤ ((h39 90 7) + 1); omega)) ?_
          rintro _ z200 h201 ⟨rfl, I202, f185, e186, e187, e188, e189, e190, e191, e192, e193, e194, e195, e196, e197, y198, y199⟩
          have E203 : h201 92 = h 92 := Eq.trans e186 E41
          have E204 : h201 93 = h 93 := Eq.trans e187 E42
          have E205 : h201 94 = h 94 := Eq.trans e188 E43
          have E206 : h201 95 = h 95 := Eq.trans e189 E44
          have E207 : h201 96 = h 96 := Eq.trans e190 E45
          have E208 : h201 99 = h 99 := Eq.trans e191 E46
          have E209 : h201 100 = h 100 := Eq.trans e192 E47
          have E210 : h201 103 = h 103 := Eq.trans e193 E48
          have E211 : h201 105 = h 105 := Eq.trans e194 E49
          have E212 : h201 106 = h 106 := Eq.trans e195 E50
          have E213 : h201 109 = h 109 := Eq.trans e196 E51
          have E214 : h201 114 = h 114 := Eq.trans e197 E52
          show ov_R u d ov_m226 45 [(0, ov_r 90), (1, ov_i dep), (2, ov_i v180)] [] z200 h201 (P_Mo_all_90 F z h n dep)
          have f215 : (h201 90 2) = (h39 90 2) ∧ (h201 90 20) = (h39 90 20) ∧ (h201 90 22) = (h39 90 22) ∧ (h201 90 25) = (h39 90 25) ∧ (h201 90 26) = (h39 90 26) ∧ (h201 90 28) = (h39 90 28) ∧ (h201 90 29) = (h39 90 29) ∧ (h201 90 30) = (h39 90 30) ∧ (h201 90 34) = (h39 90 34) ∧ ((h39 90 7) + 1) ≤ (h201 90 7) ∧ (h201 90 7) ≤ n ∧ (h39 90 8) ≤ (h201 90 8) ∧ (h39 90 13) ≤ (h201 90 13) ∧ (h201 90 13) - (h39 90 13) ≤ (h201 90 7) - ((h39 90 7) + 1) := f185
          clear f185
          have y198_ : ∀ j : Int, j < 1100 + (h39 90 13) → (h201 97) j = (h39 97) j ∧ (h201 98) j = (h39 98) j := y198
          have y199_ : (h201 90 8) = 0 → ov_sg (h201 97) (h201 98) (h39 90 13) (h201 90 13) := y199
          refine ov_blk (ls2 := [(0, ov_r 90), (1, ov_i dep), (2, ov_i v180)]) (st2 := [ov_i v180, ov_r 90]) (pc2 := 47) b_226_45_2 rfl rfl ?_
          refine ov_ifeq (tgt := 55) d_226_47 (by decide) (by omega) (fun c216 => ?_) (fun c216 => ?_)
          · skip
            have f181_ : v180 = 0 := by omega
            have f217 : ¬ ((h39 90 8) = 0 ∧ (h 92 ((h39 90 7))) = 1 ∧ (h 94 ((h39 90 7))) = (h 95 ((18 : Int)))) := f181.2.2.2 (by omega)
            clear f181
            refine ov_blk (ls2 := [(0, ov_r 90), (1, ov_i dep), (2, ov_i v180)]) (st2 := [ov_i 0, ov_i 10, ov_r 90]) (pc2 := 58) b_226_55_2 rfl rfl ?_
            refine ov_cV (as := [ov_i 10, ov_i 0]) (st := []) (d2 := d - 1) d_226_58 lk_Mo_246 rfl (Nat.le_of_ble_eq_true rfl) (c := 1) (zb_90 I202) (zs_90 I202) ⟨by decide, rfl⟩ (by omega) (c_Mo_emit_90 (d - 1) (by omega) U I202 10 0 (by omega) (by omega) (by omega) (by show (h201 90 13) ≤ 999; omega)) ?_
            rintro _ z233 h234 ⟨rfl, I235, f218, e219, e220, e221, e222, e223, e224, e225, e226, e227, e228, e229, e230, y231, y232⟩
            have E236 : h234 92 = h 92 := Eq.trans e219 E203
            have E237 : h234 93 = h 93 := Eq.trans e220 E204
            have E238 : h234 94 = h 94 := Eq.trans e221 E205
            have E239 : h234 95 = h 95 := Eq.trans e222 E206
            have E240 : h234 96 = h 96 := Eq.trans e223 E207
            have E241 : h234 99 = h 99 := Eq.trans e224 E208
            have E242 : h234 100 = h 100 := Eq.trans e225 E209
            have E243 : h234 103 = h 103 := Eq.trans e226 E210
            have E244 : h234 105 = h 105 := Eq.trans e227 E211
            have E245 : h234 106 = h 106 := Eq.trans e228 E212
            have E246 : h234 109 = h 109 := Eq.trans e229 E213
            have E247 : h234 114 = h 114 := Eq.trans e230 E214
            show ov_R u d ov_m226 61 [(0, ov_r 90), (1, ov_i dep), (2, ov_i v180)] [] z233 h234 (P_Mo_all_90 F z h n dep)
            have f248 : (h234 90 2) = (h201 90 2) ∧ (h234 90 7) = (h201 90 7) ∧ (h234 90 8) = (h201 90 8) ∧ (h234 90 20) = (h201 90 20) ∧ (h234 90 22) = (h201 90 22) ∧ (h234 90 25) = (h201 90 25) ∧ (h234 90 26) = (h201 90 26) ∧ (h234 90 28) = (h201 90 28) ∧ (h234 90 29) = (h201 90 29) ∧ (h234 90 30) = (h201 90 30) ∧ (h234 90 34) = (h201 90 34) ∧ (h234 90 13) = (h201 90 13) + 1 := f218
            clear f218
            have y231_ : (h234 97) = ov_rs (h201 97) (1100 + (h201 90 13)) (10 : Int) := y231
            have y232_ : (h234 98) = ov_rs (h201 98) (1100 + (h201 90 13)) (0 : Int) := y232
            have K249 : ∀ j : Int, j < 1100 + (h 90 13) → h234 97 j = h 97 j ∧ h234 98 j = h 98 j := ov_kpe (ov_kp xa y198_ (by omega)) y231_ y232_ (by omega)
            have K250 : h234 90 8 = 0 → ov_sg (h234 97) (h234 98) (h 90 13) (h234 90 13) := fun e => by have q1 := xb (by omega); have q2 := y199_ (by omega); rw [show (h39 90 13) = (h39 90 13) by omega] at q2; have q3 := ov_sg_bin q1 (fun j hj => y198_ j (by omega)) q2 y231_ y232_ (by omega); rw [show h234 90 13 = (h201 90 13) + 1 by omega]; exact q3
            refine ov_goto (tgt := 5) d_226_61 (by decide) ?_
            refine ov_sub (ls2 := [(0, ov_r 90), (1, ov_i dep)]) (List.Sublist.subset (by repeat (first | exact List.Sublist.refl _ | apply List.Sublist.cons_cons | apply List.Sublist.cons))) ?_
            exact ih35  _ _ I235 E236 E237 E238 E239 E240 E241 E242 E243 E244 E245 E246 E247 K249 K250 (by show (h 90 7) ≤ (h234 90 7) ∧ (h234 90 7) ≤ n ∧ (h 90 8) ≤ (h234 90 8) ∧ (h 90 13) ≤ (h234 90 13) ∧ (h234 90 13) - (h 90 13) ≤ (h234 90 7) - (h 90 7) ∧ (h234 90 2) = (h17 90 2) ∧ (h234 90 20) = (h17 90 20) ∧ (h234 90 22) = (h17 90 22) ∧ (h234 90 25) = (h17 90 25) ∧ (h234 90 26) = (h17 90 26) ∧ (h234 90 28) = (h17 90 28) ∧ (h234 90 29) = (h17 90 29) ∧ (h234 90 30) = (h17 90 30) ∧ (h234 90 34) = (h17 90 34); omega) (by omega)
          · skip
            have f181_ : v180 = 1 := by omega
            have f251 : (h39 90 7) < n := f181.2.1 (by omega)
            have f252 : (h39 90 8) = 0 ∧ (h 92 ((h39 90 7))) = 1 ∧ (h 94 ((h39 90 7))) = (h 95 ((18 : Int))) := f181.2.2.1 (by omega)
            clear f181
            refine ov_blk (ls2 := [(0, ov_r 90), (1, ov_i dep), (2, ov_i v180)]) (st2 := [ov_i 9, ov_r 90]) (pc2 := 52) b_226_50_1 rfl rfl ?_
            refine ov_goto (tgt := 57) d_226_52 (by decide) ?_
            refine ov_blk (ls2 := [(0, ov_r 90), (1, ov_i dep), (2, ov_i v180)]) (st2 := [ov_i 0, ov_i 9, ov_r 90]) (pc2 := 58) b_226_57_1 rfl rfl ?_
            refine ov_cV (as := [ov_i 9, ov_i 0]) (st := []) (d2 := d - 1) d_226_58 lk_Mo_246 rfl (Nat.le_of_ble_eq_true rfl) (c := 1) (zb_90 I202) (zs_90 I202) ⟨by decide, rfl⟩ (by omega) (c_Mo_emit_90 (d - 1) (by omega) U I202 9 0 (by omega) (by omega) (by omega) (by show (h201 90 13) ≤ 999; omega)) ?_
            rintro _ z268 h269 ⟨rfl, I270, f253, e254, e255, e256, e257, e258, e259, e260, e261, e262, e263, e264, e265, y266, y267⟩
            have E271 : h269 92 = h 92 := Eq.trans e254 E203
            have E272 : h269 93 = h 93 := Eq.trans e255 E204
            have E273 : h269 94 = h 94 := Eq.trans e256 E205
            have E274 : h269 95 = h 95 := Eq.trans e257 E206
            have E275 : h269 96 = h 96 := Eq.trans e258 E207
            have E276 : h269 99 = h 99 := Eq.trans e259 E208
            have E277 : h269 100 = h 100 := Eq.trans e260 E209
            have E278 : h269 103 = h 103 := Eq.trans e261 E210
            have E279 : h269 105 = h 105 := Eq.trans e262 E211
            have E280 : h269 106 = h 106 := Eq.trans e263 E212
            have E281 : h269 109 = h 109 := Eq.trans e264 E213
            have E282 : h269 114 = h 114 := Eq.trans e265 E214
            show ov_R u d ov_m226 61 [(0, ov_r 90), (1, ov_i dep), (2, ov_i v180)] [] z268 h269 (P_Mo_all_90 F z h n dep)
            have f283 : (h269 90 2) = (h201 90 2) ∧ (h269 90 7) = (h201 90 7) ∧ (h269 90 8) = (h201 90 8) ∧ (h269 90 20) = (h201 90 20) ∧ (h269 90 22) = (h201 90 22) ∧ (h269 90 25) = (h201 90 25) ∧ (h269 90 26) = (h201 90 26) ∧ (h269 90 28) = (h201 90 28) ∧ (h269 90 29) = (h201 90 29) ∧ (h269 90 30) = (h201 90 30) ∧ (h269 90 34) = (h201 90 34) ∧ (h269 90 13) = (h201 90 13) + 1 := f253
            clear f253
            have y266_ : (h269 97) = ov_rs (h201 97) (1100 + (h201 90 13)) (9 : Int) := y266
            have y267_ : (h269 98) = ov_rs (h201 98) (1100 + (h201 90 13)) (0 : Int) := y267
            have K284 : ∀ j : Int, j < 1100 + (h 90 13) → h269 97 j = h 97 j ∧ h269 98 j = h 98 j := ov_kpe (ov_kp xa y198_ (by omega)) y266_ y267_ (by omega)
            have K285 : h269 90 8 = 0 → ov_sg (h269 97) (h269 98) (h 90 13) (h269 90 13) := fun e => by have q1 := xb (by omega); have q2 := y199_ (by omega); rw [show (h39 90 13) = (h39 90 13) by omega] at q2; have q3 := ov_sg_bin q1 (fun j hj => y198_ j (by omega)) q2 y266_ y267_ (by omega); rw [show h269 90 13 = (h201 90 13) + 1 by omega]; exact q3
            refine ov_goto (tgt := 5) d_226_61 (by decide) ?_
            refine ov_sub (ls2 := [(0, ov_r 90), (1, ov_i dep)]) (List.Sublist.subset (by repeat (first | exact List.Sublist.refl _ | apply List.Sublist.cons_cons | apply List.Sublist.cons))) ?_
            exact ih35  _ _ I270 E271 E272 E273 E274 E275 E276 E277 E278 E279 E280 E281 E282 K284 K285 (by show (h 90 7) ≤ (h269 90 7) ∧ (h269 90 7) ≤ n ∧ (h 90 8) ≤ (h269 90 8) ∧ (h 90 13) ≤ (h269 90 13) ∧ (h269 90 13) - (h 90 13) ≤ (h269 90 7) - (h 90 7) ∧ (h269 90 2) = (h17 90 2) ∧ (h269 90 20) = (h17 90 20) ∧ (h269 90 22) = (h17 90 22) ∧ (h269 90 25) = (h17 90 25) ∧ (h269 90 26) = (h17 90 26) ∧ (h269 90 28) = (h17 90 28) ∧ (h269 90 29) = (h17 90 29) ∧ (h269 90 30) = (h17 90 30) ∧ (h269 90 34) = (h17 90 34); omega) (by omega)
  exact L37 1001  _ _ I18 E19 E20 E21 E22 E23 E24 E25 E26 E27 E28 E29 E30 K32 K33 (by show (h 90 7) ≤ (h17 90 7) ∧ (h17 90 7) ≤ n ∧ (h 90 8) ≤ (h17 90 8) ∧ (h 90 13) ≤ (h17 90 13) ∧ (h17 90 13) - (h 90 13) ≤ (h17 90 7) - (h 90 7) ∧ (h17 90 2) = (h17 90 2) ∧ (h17 90 20) = (h17 90 20) ∧ (h17 90 22) = (h17 90 22) ∧ (h17 90 25) = (h17 90 25) ∧ (h17 90 26) = (h17 90 26) ∧ (h17 90 28) = (h17 90 28) ∧ (h17 90 29) = (h17 90 29) ∧ (h17 90 30) = (h17 90 30) ∧ (h17 90 34) = (h17 90 34); omega) (by omega)
theorem c_Mo_all_90_both {u : ov_U} {F : ov_H × ov_Z} (n : Int) : ∀ k : Nat, (∀ {z : ov_Z} {h : ov_H} (d : Nat) (hd : (10 + 5 * k + 4) ≤ d) (U : ov_cap u) (I : ov_N F z h) (dep : Int) (g_dep : ov_g dep) (p0 : 0 ≤ n ∧ n ≤ 1000 ∧ (h 92 (n)) = 0 ∧ (h 90 7) ≤ n) (p1 : 0 ≤ dep ∧ dep + (k : Int) = 5) (p2 : (h 90 13) ≤ (h 90 7)), ov_T u d ov_m226 [ov_r 90, ov_i dep] z h (P_Mo_all_90 F z h n dep)) ∧ (∀ {z : ov_Z} {h : ov_H} (d : Nat) (hd : (10 + 5 * k + 0) ≤ d) (U : ov_cap u) (I : ov_N F z h) (dep : Int) (g_dep : ov_g dep) (p0 : 0 ≤ n ∧ n ≤ 1000 ∧ (h 92 (n)) = 0 ∧ (h 90 7) ≤ n) (p1 : 0 ≤ dep ∧ dep + (k : Int) = 5) (p2 : (h 90 13) ≤ (h 90 7)), ov_T u d ov_m230 [ov_r 90, ov_i dep] z h (P_Mo_takePart_90 F z h n dep)) := by
  intro k
  induction k with
  | zero => exact ⟨c_Mo_all_90 n 0 (fun k' e => by omega) (fun k' e => by omega), c_Mo_takePart_90 n 0 (fun k' e => by omega) (fun k' e => by omega)⟩
  | succ k ih =>
    obtain ⟨i1, i2⟩ := ih
    have HE : ∀ k' : Nat, k' + 1 = k + 1 → ∀ {z : ov_Z} {h : ov_H} (d : Nat) (hd : (10 + 5 * k' + 4) ≤ d) (U : ov_cap u) (I : ov_N F z h) (dep : Int) (g_dep : ov_g dep) (p0 : 0 ≤ n ∧ n ≤ 1000 ∧ (h 92 (n)) = 0 ∧ (h 90 7) ≤ n) (p1 : 0 ≤ dep ∧ dep + (k' : Int) = 5) (p2 : (h 90 13) ≤ (h 90 7)), ov_T u d ov_m226 [ov_r 90, ov_i dep] z h (P_Mo_all_90 F z h n dep) := fun k' e => by
      have e2 : k' = k := by omega
      rw [e2]
      exact fun {z} {h} => @i1 z h
    have HP : ∀ k' : Nat, k' + 1 = k + 1 → ∀ {z : ov_Z} {h : ov_H} (d : Nat) (hd : (10 + 5 * k' + 0) ≤ d) (U : ov_cap u) (I : ov_N F z h) (dep : Int) (g_dep : ov_g dep) (p0 : 0 ≤ n ∧ n ≤ 1000 ∧ (h 92 (n)) = 0 ∧ (h 90 7) ≤ n) (p1 : 0 ≤ dep ∧ dep + (k' : Int) = 5) (p2 : (h 90 13) ≤ (h 90 7)), ov_T u d ov_m230 [ov_r 90, ov_i dep] z h (P_Mo_takePart_90 F z h n dep) := fun k' e => by
      have e2 : k' = k := by omega
      rw [e2]
      exact fun {z} {h} => @i2 z h
    exact ⟨c_Mo_all_90 n (k + 1) HE HP, c_Mo_takePart_90 n (k + 1) HE HP⟩
theorem c_Mo_all_90_all {u : ov_U} {F : ov_H × ov_Z} (n : Int) (k : Nat) : ∀ {z : ov_Z} {h : ov_H} (d : Nat) (hd : (10 + 5 * k + 4) ≤ d) (U : ov_cap u) (I : ov_N F z h) (dep : Int) (g_dep : ov_g dep) (p0 : 0 ≤ n ∧ n ≤ 1000 ∧ (h 92 (n)) = 0 ∧ (h 90 7) ≤ n) (p1 : 0 ≤ dep ∧ dep + (k : Int) = 5) (p2 : (h 90 13) ≤ (h 90 7)), ov_T u d ov_m226 [ov_r 90, ov_i dep] z h (P_Mo_all_90 F z h n dep) := (c_Mo_all_90_both n k).1

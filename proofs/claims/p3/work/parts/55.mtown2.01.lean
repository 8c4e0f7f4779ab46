abbrev P_Mo_town_90 (F : ov_H × ov_Z) (z : ov_Z) (h : ov_H) : Option ov_V → ov_Z → ov_H → Prop := fun r0 z' h' => ∃ r : Int, r0 = some (ov_i r) ∧ ov_N F z' h' ∧ ((h' 90 25) = (h 90 25) ∧ (h' 90 26) = (h 90 26) ∧ (h' 90 28) = (h 90 28) ∧ (h' 90 29) = (h 90 29) ∧ (h' 90 30) = (h 90 30) ∧ (h' 90 34) = (h 90 34) ∧ 0 ≤ r ∧ r ≤ 16005 ∧ (h' 90 2) = 0) ∧ h' 95 = h 95 ∧ h' 105 = h 105 ∧ h' 106 = h 106 ∧ h' 109 = h 109 ∧ h' 114 = h 114 ∧ ((ov_MK (h 96) (h 97) (h 98) (h' 96) (h' 97) (h' 98) ∧ (h' 100) = (h 100) ∧ (h' 103) = (h 103) ∧ (h' 90 22) = (h 90 22)) ∨ (ov_WT (h' 96) ∧ ov_CD (h' 96) (h' 97) (h' 98) ∧ (h' 100 0) = 0 ∧ (h' 90 22) = (h 90 22) + 1))
set_option maxHeartbeats 4000000 in
theorem c_Mo_town_90 {u : ov_U} {F : ov_H × ov_Z} {z : ov_Z} {h : ov_H} (d : Nat) (hd : 60 ≤ d) (U : ov_cap u) (I : ov_N F z h) (p0 : 0 ≤ ov_bd F ∧ ov_bd F ≤ 800000000) (p1 : 0 ≤ (h 90 22) ∧ (h 90 22) ≤ 2000000000) : ov_T u d ov_m205 [ov_r 90] z h (P_Mo_town_90 F z h) := by
  refine ov_en rfl (Nat.le_of_ble_eq_true rfl) ?_
  show ov_R u d ov_m205 0 [(0, ov_r 90)] [] z h (P_Mo_town_90 F z h)
  refine ov_blk (ls2 := [(0, ov_r 90)]) (st2 := [ov_i 0, ov_r 90]) (pc2 := 2) b_205_0_2 rfl rfl ?_
  refine ov_putf (x := 0) d_205_2 fl_Mo_1 (zb_90 I) (zs_90 I) rfl nk_0 rfl ?_
  have I1 := up_90_0 (x := 0) I (by omega)
  refine ov_blk (ls2 := [(0, ov_r 90)]) (st2 := [ov_r 90]) (pc2 := 6) b_205_5_1 rfl rfl ?_
  refine ov_cV (as := []) (st := []) (d2 := d - 1) d_205_6 lk_Mo_205 rfl (Nat.le_of_ble_eq_true rfl) (c := 1) (zb_90 I1) (zs_90 I1) ⟨by decide, rfl⟩ (by omega) (c_Mo_cutAll_90 (d - 1) (by omega) U I1) ?_
  rintro _ z15 h16 ⟨rfl, I17, f2, e3, e4, e5, e6, e7, e8, e9, e10, e11, e12, e13, y14⟩
  have E18 : h16 95 = h 95 := e3
  have E19 : h16 96 = h 96 := e4
  have E20 : h16 97 = h 97 := e5
  have E21 : h16 98 = h 98 := e6
  have E22 : h16 99 = h 99 := e7
  have E23 : h16 100 = h 100 := e8
  have E24 : h16 103 = h 103 := e9
  have E25 : h16 105 = h 105 := e10
  have E26 : h16 106 = h 106 := e11
  have E27 : h16 109 = h 109 := e12
  have E28 : h16 114 = h 114 := e13
  show ov_R u d ov_m205 9 [(0, ov_r 90)] [] z15 h16 (P_Mo_town_90 F z h)
  have f29 : (h16 90 13) = (h 90 13) ∧ (h16 90 20) = (h 90 20) ∧ (h16 90 22) = (h 90 22) ∧ (h16 90 25) = (h 90 25) ∧ (h16 90 26) = (h 90 26) ∧ (h16 90 28) = (h 90 28) ∧ (h16 90 29) = (h 90 29) ∧ (h16 90 30) = (h 90 30) ∧ (h16 90 34) = (h 90 34) ∧ (h16 90 7) = 0 ∧ (h16 90 8) = 0 ∧ (h16 90 2) = 0 := f2
  clear f2
  have y14_ : ∃ n : Int, 0 ≤ n ∧ n ≤ 1000 ∧ (h16 92) n = 0 := y14
  obtain ⟨n, hn0, hn1, hn2⟩ := y14_
  refine ov_blk (ls2 := [(0, ov_r 90)]) (st2 := [ov_i 0, ov_r 90]) (pc2 := 11) b_205_9_2 rfl rfl ?_
  refine ov_putf (x := 0) d_205_11 fl_Mo_208 (zb_90 I17) (zs_90 I17) rfl nk_0 rfl ?_
  have I30 := up_90_13 (x := 0) I17 (by omega)
  refine ov_blk (ls2 := [(0, ov_r 90)]) (st2 := [ov_i 0, ov_r 90]) (pc2 := 16) b_205_14_2 rfl rfl ?_
  refine ov_putf (x := 0) d_205_16 fl_Mo_211 (zb_90 I30) (zs_90 I30) rfl nk_0 rfl ?_
  have I31 := up_90_15 (x := 0) I30 (by omega)
  refine ov_blk (ls2 := [(0, ov_r 90)]) (st2 := [ov_i 340, ov_r 90]) (pc2 := 23) b_205_19_2 rfl rfl ?_
  refine ov_cV (as := [ov_i 340]) (st := []) (d2 := d - 1) d_205_23 lk_Mo_147 rfl (Nat.le_of_ble_eq_true rfl) (c := 1) (zb_90 I31) (zs_90 I31) ⟨by decide, rfl⟩ (by omega) (c_Mo_standsAsAlways_90 (d - 1) (by omega) U I31 340 (by omega) (by omega)) ?_
  rintro _ z48 h49 ⟨rfl, I50, f32, e33, e34, e35, e36, e37, e38, e39, e40, e41, e42, e43, e44, e45, y46, y47⟩
  have E51 : h49 92 = h16 92 := e33
  have E52 : h49 93 = h16 93 := e34
  have E53 : h49 94 = h16 94 := e35
  have E54 : h49 95 = h 95 := Eq.trans e36 E18
  have E55 : h49 97 = h 97 := Eq.trans e37 E20
  have E56 : h49 98 = h 98 := Eq.trans e38 E21
  have E57 : h49 99 = h 99 := Eq.trans e39 E22
  have E58 : h49 100 = h 100 := Eq.trans e40 E23
  have E59 : h49 103 = h 103 := Eq.trans e41 E24
  have E60 : h49 105 = h 105 := Eq.trans e42 E25
  have E61 : h49 106 = h 106 := Eq.trans e43 E26
  have E62 : h49 109 = h 109 := Eq.trans e44 E27
  have E63 : h49 114 = h 114 := Eq.trans e45 E28
  show ov_R u d ov_m205 26 [(0, ov_r 90)] [] z48 h49 (P_Mo_town_90 F z h)
  have f64 : (h49 90 2) = (h16 90 2) ∧ (h49 90 7) = (h16 90 7) ∧ (h49 90 8) = (h16 90 8) ∧ (h49 90 13) = 0 ∧ (h49 90 20) = (h16 90 20) ∧ (h49 90 22) = (h16 90 22) ∧ (h49 90 25) = (h16 90 25) ∧ (h49 90 26) = (h16 90 26) ∧ (h49 90 28) = (h16 90 28) ∧ (h49 90 29) = (h16 90 29) ∧ (h49 90 30) = (h16 90 30) ∧ (h49 90 34) = (h16 90 34) ∧ (h49 96 348) = 0 ∧ (h49 96 342) = 10 ∧ (h49 96 349) = 1 := f32
  clear f32
  rw [show (ov_up (ov_up h16 90 13 0) 90 15 0) 96 = h 96 from E19] at y46
  have y46_ : ∀ j : Int, j < 340 → (h49 96) j = (h 96) j := y46
  have y47_ : ov_WS (h49 96) := y47
  have km65 : ov_MK (h 96) (h 97) (h 98) (h49 96) (h49 97) (h49 98) := ⟨y46_, fun j _ => congrFun E55 j, fun j _ => congrFun E56 j⟩
  refine ov_blk (ls2 := [(0, ov_r 90)]) (st2 := [ov_i 0, ov_r 90]) (pc2 := 28) b_205_26_2 rfl rfl ?_
  have cf66 : h49 92 (n) = h16 92 (n) := congrFun E51 (n)
  refine ov_cV (as := [ov_i 0]) (st := []) (d2 := d - 1) d_205_28 lk_Mo_195 rfl (Nat.le_of_ble_eq_true rfl) (c := 1) (zb_90 I50) (zs_90 I50) ⟨by decide, rfl⟩ (by omega) (c_Mo_takeWord_90 n (d - 1) (by omega) U I50 0 (by omega) (by show 0 ≤ n ∧ n ≤ 1000 ∧ (h49 92 (n)) = 0 ∧ (h49 90 7) ≤ n; omega) (by omega)) ?_
  rintro _ z82 h83 ⟨rfl, I84, f67, e68, e69, e70, e71, e72, e73, e74, e75, e76, e77, e78, e79, e80, e81⟩
  have E85 : h83 92 = h16 92 := Eq.trans e68 E51
  have E86 : h83 93 = h16 93 := Eq.trans e69 E52
  have E87 : h83 94 = h16 94 := Eq.trans e70 E53
  have E88 : h83 95 = h 95 := Eq.trans e71 E54
  have E89 : h83 96 = h49 96 := e72
  have E90 : h83 97 = h 97 := Eq.trans e73 E55
  have E91 : h83 98 = h 98 := Eq.trans e74 E56
  have E92 : h83 99 = h 99 := Eq.trans e75 E57
  have E93 : h83 100 = h 100 := Eq.trans e76 E58
  have E94 : h83 103 = h 103 := Eq.trans e77 E59
  have E95 : h83 105 = h 105 := Eq.trans e78 E60
  have E96 : h83 106 = h 106 := Eq.trans e79 E61
  have E97 : h83 109 = h 109 := Eq.trans e80 E62
  have E98 : h83 114 = h 114 := Eq.trans e81 E63
  show ov_R u d ov_m205 31 [(0, ov_r 90)] [] z82 h83 (P_Mo_town_90 F z h)
  have f99 : (h83 90 2) = (h49 90 2) ∧ (h83 90 13) = (h49 90 13) ∧ (h83 90 20) = (h49 90 20) ∧ (h83 90 22) = (h49 90 22) ∧ (h83 90 25) = (h49 90 25) ∧ (h83 90 26) = (h49 90 26) ∧ (h83 90 28) = (h49 90 28) ∧ (h83 90 29) = (h49 90 29) ∧ (h83 90 30) = (h49 90 30) ∧ (h83 90 34) = (h49 90 34) ∧ (h49 90 7) ≤ (h83 90 7) ∧ (h83 90 7) ≤ n ∧ (h49 90 8) ≤ (h83 90 8) := f67
  clear f67
  have km100 : ov_MK (h 96) (h 97) (h 98) (h83 96) (h83 97) (h83 98) := by rw [e72, e73, e74]; exact km65
  have kw101 : ov_WS (h83 96) := by rw [e72]; exact y47_
  refine ov_blk (ls2 := [(0, ov_r 90)]) (st2 := [ov_r 90]) (pc2 := 32) b_205_31_1 rfl rfl ?_
  refine ov_getf (v := ov_r 96) d_205_32 fl_Mo_81 (zb_90 I84) (zs_90 I84) (congrArg ov_r (rg_90_10 I84)) ?_
  refine ov_blk (ls2 := [(0, ov_r 90)]) (st2 := [ov_i 6, ov_i 1, ov_r 90, ov_i 340, ov_r 96]) (pc2 := 42) b_205_35_4 rfl rfl ?_
  have cf102 : h83 92 (n) = h16 92 (n) := congrFun E85 (n)
  refine ov_cV (as := [ov_i 1, ov_i 6]) (st := [ov_i 340, ov_r 96]) (d2 := d - 1) d_205_42 lk_Mo_198 rfl (Nat.le_of_ble_eq_true rfl) (c := 1) (zb_90 I84) (zs_90 I84) ⟨by decide, rfl⟩ (by omega) (c_Mo_takeNumber_90 n (d - 1) (by omega) U I84 1 6 (by omega) (by omega) (by show 0 ≤ n ∧ n ≤ 1000 ∧ (h83 92 (n)) = 0 ∧ (h83 90 7) ≤ n; omega)) ?_
  rintro _ z119 h120 ⟨v104, rfl, I121, f103, e105, e106, e107, e108, e109, e110, e111, e112, e113, e114, e115, e116, e117, e118⟩
  have E122 : h120 92 = h16 92 := Eq.trans e105 E85
  have E123 : h120 93 = h16 93 := Eq.trans e106 E86
  have E124 : h120 94 = h16 94 := Eq.trans e107 E87
  have E125 : h120 95 = h 95 := Eq.trans e108 E88
  have E126 : h120 96 = h49 96 := Eq.trans e109 E89
  have E127 : h120 97 = h 97 := Eq.trans e110 E90
  have E128 : h120 98 = h 98 := Eq.trans e111 E91
  have E129 : h120 99 = h 99 := Eq.trans e112 E92
  have E130 : h120 100 = h 100 := Eq.trans e113 E93
  have E131 : h120 103 = h 103 := Eq.trans e114 E94
  have E132 : h120 105 = h 105 := Eq.trans e115 E95
  have E133 : h120 106 = h 106 := Eq.trans e116 E96
  have E134 : h120 109 = h 109 := Eq.trans e117 E97
  have E135 : h120 114 = h 114 := Eq.trans e118 E98
  show ov_R u d ov_m205 45 [(0, ov_r 90)] [ov_i v104, ov_i 340, ov_r 96] z119 h120 (P_Mo_town_90 F z h)
  have f136 : (h120 90 2) = (h83 90 2) ∧ (h120 90 13) = (h83 90 13) ∧ (h120 90 20) = (h83 90 20) ∧ (h120 90 22) = (h83 90 22) ∧ (h120 90 25) = (h83 90 25) ∧ (h120 90 26) = (h83 90 26) ∧ (h120 90 28) = (h83 90 28) ∧ (h120 90 29) = (h83 90 29) ∧ (h120 90 30) = (h83 90 30) ∧ (h120 90 34) = (h83 90 34) ∧ (h83 90 7) ≤ (h120 90 7) ∧ (h120 90 7) ≤ n ∧ (h83 90 8) ≤ (h120 90 8) ∧ ((h120 90 8) = 0 → (1 : Int) ≤ v104 ∧ v104 ≤ (6 : Int)) ∧ (0 < (h120 90 8) → v104 = 0) ∧ (h83 90 7) < (h120 90 7) + (h120 90 8) := f103
  clear f103
  have km137 : ov_MK (h 96) (h 97) (h 98) (h120 96) (h120 97) (h120 98) := by rw [e109, e110, e111]; exact km100
  have kw138 : ov_WS (h120 96) := by rw [e109]; exact kw101
  refine ov_iast d_205_45 (zb_96 I121) (zs_96 I121) (by omega) ?_
  have I139 := ua_96 (k := 340) (x := v104) I121 (by refine ⟨?_, ?_, ?_, ?_, ?_, ?_, ?_, ?_, ?_, ?_, ?_, ?_, ?_, ?_, ?_, ?_, ?_, ?_, ?_, ?_, ?_, ?_, ?_, ?_, ?_, ?_, ?_, ?_, ?_⟩ <;> omega)
  have km140 : ov_MK (h 96) (h 97) (h 98) ((ov_up h120 96 340 v104) 96) ((ov_up h120 96 340 v104) 97) ((ov_up h120 96 340 v104) 98) := by rw [ov_up_row]; exact ov_MK_1 km137 (by decide)
  have kw141 : ov_WS ((ov_up h120 96 340 v104) 96) := by rw [ov_up_row]; exact ov_WS_o kw138 (by decide)
  refine ov_blk (ls2 := [(0, ov_r 90)]) (st2 := [ov_r 90]) (pc2 := 47) b_205_46_1 rfl rfl ?_
  refine ov_getf (v := ov_r 96) d_205_47 fl_Mo_81 (zb_90 I139) (zs_90 I139) (congrArg ov_r (rg_90_10 I139)) ?_
  refine ov_blk (ls2 := [(0, ov_r 90)]) (st2 := [ov_i 9, ov_i 1, ov_r 90, ov_i 341, ov_r 96]) (pc2 := 57) b_205_50_4 rfl rfl ?_
  have cf142 : h120 92 (n) = h16 92 (n) := congrFun E122 (n)
  refine ov_cV (as := [ov_i 1, ov_i 9]) (st := [ov_i 341, ov_r 96]) (d2 := d - 1) d_205_57 lk_Mo_198 rfl (Nat.le_of_ble_eq_true rfl) (c := 1) (zb_90 I139) (zs_90 I139) ⟨by decide, rfl⟩ (by omega) (c_Mo_takeNumber_90 n (d - 1) (by omega) U I139 1 9 (by omega) (by omega) (by show 0 ≤ n ∧ n ≤ 1000 ∧ (h120 92 (n)) = 0 ∧ (h120 90 7) ≤ n; omega)) ?_
  rintro _ z159 h160 ⟨v144, rfl, I161, f143, e145, e146, e147, e148, e149, e150, e151, e152, e153, e154, e155, e156, e157, e158⟩
  have E162 : h160 92 = h16 92 := Eq.trans e145 E122
  have E163 : h160 93 = h16 93 := Eq.trans e146 E123
  have E164 : h160 94 = h16 94 := Eq.trans e147 E124
  have E165 : h160 95 = h 95 := Eq.trans e148 E125
  have E166 : h160 97 = h 97 := Eq.trans e150 E127
  have E167 : h160 98 = h 98 := Eq.trans e151 E128
  have E168 : h160 99 = h 99 := Eq.trans e152 E129
  have E169 : h160 100 = h 100 := Eq.trans e153 E130
  have E170 : h160 103 = h 103 := Eq.trans e154 E131
  have E171 : h160 105 = h 105 := Eq.trans e155 E132
  have E172 : h160 106 = h 106 := Eq.trans e156 E133
  have E173 : h160 109 = h 109 := Eq.trans e157 E134
  have E174 : h160 114 = h 114 := Eq.trans e158 E135
  show ov_R u d ov_m205 60 [(0, ov_r 90)] [ov_i v144, ov_i 341, ov_r 96] z159 h160 (P_Mo_town_90 F z h)
  have f175 : (h160 90 2) = (h120 90 2) ∧ (h160 90 13) = (h120 90 13) ∧ (h160 90 20) = (h120 90 20) ∧ (h160 90 22) = (h120 90 22) ∧ (h160 90 25) = (h120 90 25) ∧ (h160 90 26) = (h120 90 26) ∧ (h160 90 28) = (h120 90 28) ∧ (h160 90 29) = (h120 90 29) ∧ (h160 90 30) = (h120 90 30) ∧ (h160 90 34) = (h120 90 34) ∧ (h120 90 7) ≤ (h160 90 7) ∧ (h160 90 7) ≤ n ∧ (h120 90 8) ≤ (h160 90 8) ∧ ((h160 90 8) = 0 → (1 : Int) ≤ v144 ∧ v144 ≤ (9 : Int)) ∧ (0 < (h160 90 8) → v144 = 0) ∧ (h120 90 7) < (h160 90 7) + (h160 90 8) := f143
  clear f143
  have km176 : ov_MK (h 96) (h 97) (h 98) (h160 96) (h160 97) (h160 98) := by rw [e149, e150, e151]; exact km140
  have kw177 : ov_WS (h160 96) := by rw [e149]; exact kw141
  have lt178 : h160 96 340 = v104 := congrFun e149 340
  have lt179 : h120 96 340 = h49 96 340 := congrFun E126 340
  have lt180 : h160 96 341 = (h120 96 341) := congrFun e149 341
  have lt181 : h120 96 341 = h49 96 341 := congrFun E126 341
  have lt182 : h160 96 342 = (h120 96 342) := congrFun e149 342
  have lt183 : h120 96 342 = h49 96 342 := congrFun E126 342
  have lt184 : h160 96 348 = (h120 96 348) := congrFun e149 348
  have lt185 : h120 96 348 = h49 96 348 := congrFun E126 348
  have lt186 : h160 96 349 = (h120 96 349) := congrFun e149 349
  have lt187 : h120 96 349 = h49 96 349 := congrFun E126 349
  refine ov_iast d_205_60 (zb_96 I161) (zs_96 I161) (by omega) ?_
  have I188 := ua_96 (k := 341) (x := v144) I161 (by refine ⟨?_, ?_, ?_, ?_, ?_, ?_, ?_, ?_, ?_, ?_, ?_, ?_, ?_, ?_, ?_, ?_, ?_, ?_, ?_, ?_, ?_, ?_, ?_, ?_, ?_, ?_, ?_, ?_, ?_⟩ <;> omega)
  have km189 : ov_MK (h 96) (h 97) (h 98) ((ov_up h160 96 341 v144) 96) ((ov_up h160 96 341 v144) 97) ((ov_up h160 96 341 v144) 98) := by rw [ov_up_row]; exact ov_MK_1 km176 (by decide)
  have kw190 : ov_WS ((ov_up h160 96 341 v144) 96) := by rw [ov_up_row]; exact ov_WS_o kw177 (by decide)
  refine ov_blk (ls2 := [(0, ov_r 90)]) (st2 := [ov_i 59, ov_r 90]) (pc2 := 64) b_205_61_2 rfl rfl ?_
  have cf191 : h160 92 (n) = h16 92 (n) := congrFun E162 (n)
  refine ov_cV (as := [ov_i 59]) (st := []) (d2 := d - 1) d_205_64 lk_Mo_214 rfl (Nat.le_of_ble_eq_true rfl) (c := 1) (zb_90 I188) (zs_90 I188) ⟨by decide, rfl⟩ (by omega) (c_Mo_takeSign_90 n (d - 1) (by omega) U I188 59 (by omega) (by show 0 ≤ n ∧ n ≤ 1000 ∧ (h160 92 (n)) = 0 ∧ (h160 90 7) ≤ n; omega)) ?_
  rintro _ z207 h208 ⟨rfl, I209, f192, e193, e194, e195, e196, e197, e198, e199, e200, e201, e202, e203, e204, e205, e206⟩
  have E210 : h208 92 = h16 92 := Eq.trans e193 E162
  have E211 : h208 93 = h16 93 := Eq.trans e194 E163
  have E212 : h208 94 = h16 94 := Eq.trans e195 E164
  have E213 : h208 95 = h 95 := Eq.trans e196 E165
  have E214 : h208 97 = h 97 := Eq.trans e198 E166
  have E215 : h208 98 = h 98 := Eq.trans e199 E167
  have E216 : h208 99 = h 99 := Eq.trans e200 E168
  have E217 : h208 100 = h 100 := Eq.trans e201 E169
  have E218 : h208 103 = h 103 := Eq.trans e202 E170
  have E219 : h208 105 = h 105 := Eq.trans e203 E171
  have E220 : h208 106 = h 106 := Eq.trans e204 E172
  have E221 : h208 109 = h 109 := Eq.trans e205 E173
  have E222 : h208 114 = h 114 := Eq.trans e206 E174
  show ov_R u d ov_m205 67 [(0, ov_r 90)] [] z207 h208 (P_Mo_town_90 F z h)
  have f223 : (h208 90 2) = (h160 90 2) ∧ (h208 90 13) = (h160 90 13) ∧ (h208 90 20) = (h160 90 20) ∧ (h208 90 22) = (h160 90 22) ∧ (h208 90 25) = (h160 90 25) ∧ (h208 90 26) = (h160 90 26) ∧ (h208 90 28) = (h160 90 28) ∧ (h208 90 29) = (h160 90 29) ∧ (h208 90 30) = (h160 90 30) ∧ (h208 90 34) = (h160 90 34) ∧ (h160 90 7) ≤ (h208 90 7) ∧ (h208 90 7) ≤ n ∧ (h160 90 8) ≤ (h208 90 8) ∧ (h160 90 7) < (h208 90 7) + (h208 90 8) := f192
  clear f192
  have km224 : ov_MK (h 96) (h 97) (h 98) (h208 96) (h208 97) (h208 98) := by rw [e197, e198, e199]; exact km189
  have kw225 : ov_WS (h208 96) := by rw [e197]; exact kw190
  have lt226 : h208 96 340 = (h160 96 340) := congrFun e197 340
  have lt227 : h208 96 341 = v144 := congrFun e197 341
  have lt228 : h208 96 342 = (h160 96 342) := congrFun e197 342
  have lt229 : h208 96 348 = (h160 96 348) := congrFun e197 348
  have lt230 : h208 96 349 = (h160 96 349) := congrFun e197 349
  have L234 : ∀ (n231 : Nat) (z235 : ov_Z) (h236 : ov_H) (I237 : ov_N F z235 h236) (E238 : h236 92 = h16 92) (E239 : h236 93 = h16 93) (E240 : h236 94 = h16 94) (E241 : h236 95 = h 95) (E242 : h236 100 = h 100) (E243 : h236 103 = h 103) (E244 : h236 105 = h 105) (E245 : h236 106 = h 106) (E246 : h236 109 = h 109) (E247 : h236 114 = h 114) (xm : ov_MK (h 96) (h 97) (h 98) (h236 96) (h236 97) (h236 98)) (xw : ov_WS (h236 96)) (xc : (h236 90 8) = 0 → ov_CS (h236 96) (h236 97) (h236 98) (h236 90 13)) (q233 : 0 ≤ (h236 90 7) ∧ (h236 90 7) ≤ n ∧ (h236 90 13) ≤ (h236 90 7) ∧ ((h236 90 8) = 0 → 1 ≤ (h236 96 340) ∧ 1 ≤ (h236 96 341) ∧ 1 ≤ (h236 96 342)) ∧ 1 ≤ (h236 96 349) ∧ (h236 90 2) = (h208 90 2) ∧ (h236 90 20) = (h208 90 20) ∧ (h236 90 22) = (h208 90 22) ∧ (h236 90 25) = (h208 90 25) ∧ (h236 90 26) = (h208 90 26) ∧ (h236 90 28) = (h208 90 28) ∧ (h236 90 29) = (h208 90 29) ∧ (h236 90 30) = (h208 90 30) ∧ (h236 90 34) = (h208 90 34)), 1001 - (h236 90 7) - min ((h236 90 8)) 1 < (n231 : Int) → ov_R u d ov_m205 67 [(0, ov_r 90)] [] z235 h236 (P_Mo_town_90 F z h) := by
    intro n231
    induction n231 with
    | zero =>
      intro  z235 h236 I237 E238 E239 E240 E241 E242 E243 E244 E245 E246 E247 xm xw xc q233 hn248
      exact absurd hn248 (by omega)
    | succ n231 ih232 =>
      intro  z235 h236 I237 E238 E239 E240 E241 E242 E243 E244 E245 E246 E247 xm xw xc q233 hn248
      refine ov_blk (ls2 := [(0, ov_r 90)]) (st2 := [ov_r 90]) (pc2 := 68) b_205_67_1 rfl rfl ?_
      refine ov_getf (v := ov_i (h236 90 8)) d_205_68 fl_Mo_180 (zb_90 I237) (zs_90 I237) rfl ?_
      have g249 := rg_90_8 I237
      refine ov_ifne (tgt := 99) d_205_71 (by decide) (by omega) (fun c250 => ?_) (fun c250 => ?_)
      · skip
        refine ov_blk (ls2 := [(0, ov_r 90)]) (st2 := [ov_r 90]) (pc2 := 100) b_205_99_1 rfl rfl ?_
        refine ov_getf (v := ov_i (h236 90 8)) d_205_100 fl_Mo_180 (zb_90 I237) (zs_90 I237) rfl ?_
        refine ov_ifle (tgt := 111) d_205_103 (by decide) (by omega) (fun c252 => ?_) (fun c252 => ?_)
        · omega
        · skip
          refine ov_blk (ls2 := [(0, ov_r 90)]) (st2 := [ov_r 90]) (pc2 := 107) b_205_106_1 rfl rfl ?_
          refine ov_getf (v := ov_i (h236 90 8)) d_205_107 fl_Mo_180 (zb_90 I237) (zs_90 I237) rfl ?_
          exact ov_reti (st := []) d_205_110 rfl ⟨_, rfl, I237, (by show (h236 90 25) = (h 90 25) ∧ (h236 90 26) = (h 90 26) ∧ (h236 90 28) = (h 90 28) ∧ (h236 90 29) = (h 90 29) ∧ (h236 90 30) = (h 90 30) ∧ (h236 90 34) = (h 90 34) ∧ 0 ≤ (h236 90 8) ∧ (h236 90 8) ≤ 16005 ∧ (h236 90 2) = 0; omega), E241, E244, E245, E246, E247, (Or.inl ⟨(by show ov_MK (h 96) (h 97) (h 98) (h236 96) (h236 97) (h236 98); exact xm), E242, E243, (by show (h236 90 22) = h 90 22; omega)⟩)⟩
      · skip
        refine ov_blk (ls2 := [(0, ov_r 90)]) (st2 := [ov_r 90]) (pc2 := 75) b_205_74_1 rfl rfl ?_
        refine ov_getf (v := ov_r 92) d_205_75 fl_Mo_24 (zb_90 I237) (zs_90 I237) (congrArg ov_r (rg_90_4 I237)) ?_
        refine ov_blk (ls2 := [(0, ov_r 90)]) (st2 := [ov_r 90, ov_r 92]) (pc2 := 79) b_205_78_1 rfl rfl ?_
        refine ov_getf (v := ov_i (h236 90 7)) d_205_79 fl_Mo_177 (zb_90 I237) (zs_90 I237) rfl ?_
        have g254 := rg_90_7 I237
        refine ov_iald d_205_82 (zb_92 I237) (zs_92 I237) (by omega) ?_
        rw [show h236 92 = h16 92 from E238]
        have g255 := ra_92 I17 (h236 90 7)
        refine ov_ifeq (tgt := 99) d_205_83 (by decide) (by omega) (fun c256 => ?_) (fun c256 => ?_)
        · skip
          refine ov_blk (ls2 := [(0, ov_r 90)]) (st2 := [ov_r 90]) (pc2 := 100) b_205_99_1 rfl rfl ?_
          refine ov_getf (v := ov_i (h236 90 8)) d_205_100 fl_Mo_180 (zb_90 I237) (zs_90 I237) rfl ?_
          refine ov_ifle (tgt := 111) d_205_103 (by decide) (by omega) (fun c258 => ?_) (fun c258 => ?_)
          · skip
            have x348 := t96_348 I237
            refine ov_blk (ls2 := [(0, ov_r 90), (1, ov_i 0)]) (st2 := []) (pc2 := 113) b_205_111_2 rfl rfl ?_
            have L262 : ∀ (n259 : Nat) (x1 : Int) (z263 : ov_Z) (h264 : ov_H) (I265 : ov_N F z263 h264) (E266 : h264 92 = h16 92) (E267 : h264 93 = h16 93) (E268 : h264 94 = h16 94) (E269 : h264 95 = h 95) (E270 : h264 97 = h236 97) (E271 : h264 98 = h236 98) (E272 : h264 99 = h236 99) (E273 : h264 100 = h 100) (E274 : h264 103 = h 103) (E275 : h264 105 = h 105) (E276 : h264 106 = h 106) (E277 : h264 109 = h 109) (E278 : h264 114 = h 114) (xk : ∀ j : Int, 0 ≤ j → j < x1 → (h264 96) j = h236 96 (340 + j)) (xl : ∀ j : Int, 340 ≤ j → (h264 96) j = h236 96 j) (q261 : 0 ≤ x1 ∧ x1 ≤ 340 ∧ (h264 90 2) = (h236 90 2) ∧ (h264 90 7) = (h236 90 7) ∧ (h264 90 8) = (h236 90 8) ∧ (h264 90 13) = (h236 90 13) ∧ (h264 90 20) = (h236 90 20) ∧ (h264 90 22) = (h236 90 22) ∧ (h264 90 25) = (h236 90 25) ∧ (h264 90 26) = (h236 90 26) ∧ (h264 90 28) = (h236 90 28) ∧ (h264 90 29) = (h236 90 29) ∧ (h264 90 30) = (h236 90 30) ∧ (h264 90 34) = (h236 90 34)), 340 - x1 < (n259 : Int) → ov_R u d ov_m205 113 [(0, ov_r 90), (1, ov_i x1)] [] z263 h264 (P_Mo_town_90 F z h) := by
              intro n259
              induction n259 with
              | zero =>
                intro x1 z263 h264 I265 E266 E267 E268 E269 E270 E271 E272 E273 E274 E275 E276 E277 E278 xk xl q261 hn279
                exact absurd hn279 (by omega)
              | succ n259 ih260 =>
                intro x1 z263 h264 I265 E266 E267 E268 E269 E270 E271 E272 E273 E274 E275 E276 E277 E278 xk xl q261 hn279
                refine ov_blk (ls2 := [(0, ov_r 90), (1, ov_i x1)]) (st2 := [ov_i 340, ov_i x1]) (pc2 := 117) b_205_113_2 rfl rfl ?_
                refine ov_icge (tgt := 142) d_205_117 (by decide) (by omega) (by omega) (fun c280 => ?_) (fun c280 => ?_)
                · skip
                  refine ov_blk (ls2 := [(0, ov_r 90), (1, ov_i 0)]) (st2 := []) (pc2 := 144) b_205_142_2 rfl rfl ?_
                  have L284 : ∀ (n281 : Nat) (x1_ : Int) (z285 : ov_Z) (h286 : ov_H) (I287 : ov_N F z285 h286) (E288 : h286 92 = h16 92) (E289 : h286 93 = h16 93) (E290 : h286 94 = h16 94) (E291 : h286 95 = h 95) (E292 : h286 96 = h264 96) (E293 : h286 99 = h236 99) (E294 : h286 100 = h 100) (E295 : h286 103 = h 103) (E296 : h286 105 = h 105) (E297 : h286 106 = h 106) (E298 : h286 109 = h 109) (E299 : h286 114 = h 114) (xg : ∀ j : Int, 0 ≤ j → j < x1_ → (h286 97) j = h236 97 (1100 + j) ∧ (h286 98) j = h236 98 (1100 + j)) (xh : ∀ j : Int, 1100 ≤ j → (h286 97) j = h236 97 j ∧ (h286 98) j = h236 98 j) (q283 : 0 ≤ x1_ ∧ x1_ ≤ 1000 ∧ (h286 90 2) = (h264 90 2) ∧ (h286 90 7) = (h264 90 7) ∧ (h286 90 8) = (h264 90 8) ∧ (h286 90 13) = (h264 90 13) ∧ (h286 90 20) = (h264 90 20) ∧ (h286 90 22) = (h264 90 22) ∧ (h286 90 25) = (h264 90 25) ∧ (h286 90 26) = (h264 90 26) ∧ (h286 90 28) = (h264 90 28) ∧ (h286 90 29) = (h264 90 29) ∧ (h286 90 30) = (h264 90 30) ∧ (h286 90 34) = (h264 90 34)), 1000 - x1_ < (n281 : Int) → ov_R u d ov_m205 144 [(0, ov_r 90), (1, ov_i x1_)] [] z285 h286 (P_Mo_town_90 F z h) := by
                    intro n281
                    induction n281 with
                    | zero =>
                      intro x1_ z285 h286 I287 E288 E289 E290 E291 E292 E293 E294 E295 E296 E297 E298 E299 xg xh q283 hn300
                      exact absurd hn300 (by omega)
                    | succ n281 ih282 =>
                      intro x1_ z285 h286 I287 E288 E289 E290 E291 E292 E293 E294 E295 E296 E297 E298 E299 xg xh q283 hn300
                      refine ov_blk (ls2 := [(0, ov_r 90), (1, ov_i x1_)]) (st2 := [ov_r 90, ov_i x1_]) (pc2 := 146) b_205_144_2 rfl rfl ?_
                      refine ov_getf (v := ov_i (h286 90 13)) d_205_146 fl_Mo_208 (zb_90 I287) (zs_90 I287) rfl ?_
                      have g301 := rg_90_13 I287
                      refine ov_icge (tgt := 190) d_205_149 (by decide) (by omega) (by omega) (fun c302 => ?_) (fun c302 => ?_)
                      · skip
                        refine ov_blk (ls2 := [(0, ov_r 90), (1, ov_i x1_)]) (st2 := [ov_r 90]) (pc2 := 191) b_205_190_1 rfl rfl ?_
                        refine ov_cV (as := []) (st := []) (d2 := d - 1) d_205_191 lk_Mo_151 rfl (Nat.le_of_ble_eq_true rfl) (c := 1) (zb_90 I287) (zs_90 I287) ⟨by decide, rfl⟩ (by omega) (c_Mo_begins_90 (d - 1) (by omega) U I287 (by omega) (by show 0 ≤ (h286 90 22) ∧ (h286 90 22) ≤ 2000000000; omega)) ?_
                        rintro _ z316 h317 ⟨rfl, I318, f303, e304, e305, e306, e307, e308, e309, e310, e311, e312, e313, e314, e315⟩
                        have E319 : h317 92 = h16 92 := Eq.trans e304 E288
                        have E320 : h317 93 = h16 93 := Eq.trans e305 E289
                        have E321 : h317 94 = h16 94 := Eq.trans e306 E290
                        have E322 : h317 95 = h 95 := Eq.trans e307 E291
                        have E323 : h317 96 = h264 96 := Eq.trans e308 E292
                        have E324 : h317 97 = h286 97 := e309
                        have E325 : h317 98 = h286 98 := e310
                        have E326 : h317 99 = h236 99 := Eq.trans e311 E293
                        have E327 : h317 105 = h 105 := Eq.trans e312 E296
                        have E328 : h317 106 = h 106 := Eq.trans e313 E297
                        have E329 : h317 109 = h 109 := Eq.trans e314 E298
                        have E330 : h317 114 = h 114 := Eq.trans e315 E299
                        show ov_R u d ov_m205 194 [(0, ov_r 90), (1, ov_i x1_)] [] z316 h317 (P_Mo_town_90 F z h)
                        have f331 : (h317 90 2) = (h286 90 2) ∧ (h317 90 7) = (h286 90 7) ∧ (h317 90 8) = (h286 90 8) ∧ (h317 90 13) = (h286 90 13) ∧ (h317 90 25) = (h286 90 25) ∧ (h317 90 26) = (h286 90 26) ∧ (h317 90 28) = (h286 90 28) ∧ (h317 90 29) = (h286 90 29) ∧ (h317 90 30) = (h286 90 30) ∧ (h317 90 34) = (h286 90 34) ∧ (h317 90 22) = (h286 90 22) + 1 ∧ (h317 100 0) = 0 := f303
                        clear f303
                        refine ov_blk (ls2 := [(0, ov_r 90), (1, ov_i x1_)]) (st2 := [ov_i 0]) (pc2 := 195) b_205_194_1 rfl rfl ?_
                        exact ov_reti (st := []) d_205_195 rfl ⟨_, rfl, I318, (by show (h317 90 25) = (h 90 25) ∧ (h317 90 26) = (h 90 26) ∧ (h317 90 28) = (h 90 28) ∧ (h317 90 29) = (h 90 29) ∧ (h317 90 30) = (h 90 30) ∧ (h317 90 34) = (h 90 34) ∧ 0 ≤ 0 ∧ 0 ≤ 16005 ∧ (h317 90 2) = 0; omega), E322, E327, E328, E329, E330, (Or.inr ⟨(by show ov_WT (h317 96); rw [show h317 96 = h264 96 from E323]; exact ov_WT_of xw (fun j a b => xk j a (by omega))), (by show ov_CD (h317 96) (h317 97) (h317 98); rw [show h317 96 = h264 96 from E323, show h317 97 = h286 97 from E324, show h317 98 = h286 98 from E325]; exact ov_CD_of (xc (by omega)) (by omega) x348.2 (fun j a b => xk j a (by omega)) (fun j a b => xg j a (by omega))), (by show (h317 100 0) = 0; omega), (by show (h317 90 22) = h 90 22 + 1; omega)⟩)⟩
                      · skip
                        refine ov_blk (ls2 := [(0, ov_r 90), (1, ov_i x1_)]) (st2 := [ov_r 90]) (pc2 := 153) b_205_152_1 rfl rfl ?_
                        refine ov_getf (v := ov_r 97) d_205_153 fl_Mo_84 (zb_90 I287) (zs_90 I287) (congrArg ov_r (rg_90_11 I287)) ?_
                        refine ov_blk (ls2 := [(0, ov_r 90), (1, ov_i x1_)]) (st2 := [ov_r 90, ov_i x1_, ov_r 97]) (pc2 := 158) b_205_156_2 rfl rfl ?_
                        refine ov_getf (v := ov_r 97) d_205_158 fl_Mo_84 (zb_90 I287) (zs_90 I287) (congrArg ov_r (rg_90_11 I287)) ?_
                        refine ov_blk (ls2 := [(0, ov_r 90), (1, ov_i x1_)]) (st2 := [ov_i (1100 + x1_), ov_r 97, ov_i x1_, ov_r 97]) (pc2 := 166) b_205_161_3 rfl rfl ?_
                        refine ov_iald d_205_166 (zb_97 I287) (zs_97 I287) (by omega) ?_
                        have g332 := ra_97 I287 (1100 + x1_)
                        refine ov_iast d_205_167 (zb_97 I287) (zs_97 I287) (by omega) ?_
                        have I333 := ua_97 (k := x1_) (x := (h286 97 (1100 + x1_))) I287 (by omega)
                        refine ov_blk (ls2 := [(0, ov_r 90), (1, ov_i x1_)]) (st2 := [ov_r 90]) (pc2 := 169) b_205_168_1 rfl rfl ?_
                        refine ov_getf (v := ov_r 98) d_205_169 fl_Mo_87 (zb_90 I333) (zs_90 I333) (congrArg ov_r (rg_90_12 I333)) ?_
                        refine ov_blk (ls2 := [(0, ov_r 90), (1, ov_i x1_)]) (st2 := [ov_r 90, ov_i x1_, ov_r 98]) (pc2 := 174) b_205_172_2 rfl rfl ?_
                        refine ov_getf (v := ov_r 98) d_205_174 fl_Mo_87 (zb_90 I333) (zs_90 I333) (congrArg ov_r (rg_90_12 I333)) ?_
                        refine ov_blk (ls2 := [(0, ov_r 90), (1, ov_i x1_)]) (st2 := [ov_i (1100 + x1_), ov_r 98, ov_i x1_, ov_r 98]) (pc2 := 182) b_205_177_3 rfl rfl ?_
                        refine ov_iald d_205_182 (zb_98 I333) (zs_98 I333) (by omega) ?_
                        show ov_R u d ov_m205 183 [(0, ov_r 90), (1, ov_i x1_)] [ov_i (h286 98 (1100 + x1_)), ov_i x1_, ov_r 98] z285 (ov_up h286 97 x1_ (h286 97 (1100 + x1_))) (P_Mo_town_90 F z h)
                        have g334 := ra_98 I287 (1100 + x1_)
                        refine ov_iast d_205_183 (zb_98 I333) (zs_98 I333) (by omega) ?_
                        have I335 := ua_98 (k := x1_) (x := (h286 98 (1100 + x1_))) I333 (by omega)
                        refine ov_blk (ls2 := [(0, ov_r 90), (1, ov_i (x1_ + 1))]) (st2 := []) (pc2 := 187) b_205_184_1 rfl rfl ?_
                        refine ov_goto (tgt := 144) d_205_187 (by decide) ?_
                        exact ih282 (x1_ + 1) _ _ I335 E288 E289 E290 E291 E292 E293 E294 E295 E296 E297 E298 E299 (fun j a b => if e : j = x1_ then (by rw [e]; exact ⟨by show ov_up h286 97 x1_ _ 97 x1_ = _; rw [ov_up_row, ov_rs_eq]; exact (xh _ (by omega)).1, by show ov_up _ 98 x1_ _ 98 x1_ = _; rw [ov_up_row, ov_rs_eq]; exact (xh _ (by omega)).2⟩) else (by exact ⟨by show ov_up h286 97 x1_ _ 97 j = _; rw [ov_up_j e]; exact (xg j a (by omega)).1, by show ov_up _ 98 x1_ _ 98 j = _; rw [ov_up_j e]; exact (xg j a (by omega)).2⟩)) (fun j a => ⟨by show ov_up h286 97 x1_ _ 97 j = _; rw [ov_up_j (by omega)]; exact (xh j a).1, by show ov_up _ 98 x1_ _ 98 j = _; rw [ov_up_j (by omega)]; exact (xh j a).2⟩) (by show 0 ≤ (x1_ + 1) ∧ (x1_ + 1) ≤ 1000 ∧ (h286 90 2) = (h264 90 2) ∧ (h286 90 7) = (h264 90 7) ∧ (h286 90 8) = (h264 90 8) ∧ (h286 90 13) = (h264 90 13) ∧ (h286 90 20) = (h264 90 20) ∧ (h286 90 22) = (h264 90 22) ∧ (h286 90 25) = (h264 90 25) ∧ (h286 90 26) = (h264 90 26) ∧ (h286 90 28) = (h264 90 28) ∧ (h286 90 29) = (h264 90 29) ∧ (h286 90 30) = (h264 90 30) ∧ (h286 90 34) = (h264 90 34); omega) (by omega)
                  exact L284 1001 0 _ _ I265 E266 E267 E268 E269 rfl E272 E273 E274 E275 E276 E277 E278 (fun j a b => by omega) (fun j a => ⟨congrFun E270 j, congrFun E271 j⟩) (by show 0 ≤ 0 ∧ 0 ≤ 1000 ∧ (h264 90 2) = (h264 90 2) ∧ (h264 90 7) = (h264 90 7) ∧ (h264 90 8) = (h264 90 8) ∧ (h264 90 13) = (h264 90 13) ∧ (h264 90 20) = (h264 90 20) ∧ (h264 90 22) = (h264 90 22) ∧ (h264 90 25) = (h264 90 25) ∧ (h264 90 26) = (h264 90 26) ∧ (h264 90 28) = (h264 90 28) ∧ (h264 90 29) = (h264 90 29) ∧ (h264 90 30) = (h264 90 30) ∧ (h264 90 34) = (h264 90 34); omega) (by omega)
                · skip
                  have xe0 : x1 = 0 → h264 96 (340 + x1) = h236 96 340 := fun e => by rw [xl _ (by omega), e]; rfl
                  have xe1 : x1 = 1 → h264 96 (340 + x1) = h236 96 341 := fun e => by rw [xl _ (by omega), e]; rfl
                  have xe2 : x1 = 2 → h264 96 (340 + x1) = h236 96 342 := fun e => by rw [xl _ (by omega), e]; rfl
                  have xe9 : x1 = 9 → h264 96 (340 + x1) = h236 96 349 := fun e => by rw [xl _ (by omega), e]; rfl
                  refine ov_blk (ls2 := [(0, ov_r 90), (1, ov_i x1)]) (st2 := [ov_r 90]) (pc2 := 121) b_205_120_1 rfl rfl ?_
                  refine ov_getf (v := ov_r 96) d_205_121 fl_Mo_81 (zb_90 I265) (zs_90 I265) (congrArg ov_r (rg_90_10 I265)) ?_
                  refine ov_blk (ls2 := [(0, ov_r 90), (1, ov_i x1)]) (st2 := [ov_r 90, ov_i x1, ov_r 96]) (pc2 := 126) b_205_124_2 rfl rfl ?_
                  refine ov_getf (v := ov_r 96) d_205_126 fl_Mo_81 (zb_90 I265) (zs_90 I265) (congrArg ov_r (rg_90_10 I265)) ?_
                  refine ov_blk (ls2 := [(0, ov_r 90), (1, ov_i x1)]) (st2 := [ov_i (340 + x1), ov_r 96, ov_i x1, ov_r 96]) (pc2 := 134) b_205_129_3 rfl rfl ?_
                  refine ov_iald d_205_134 (zb_96 I265) (zs_96 I265) (by omega) ?_
                  have g336 := g96 I265 (340 + x1)
                  refine ov_iast d_205_135 (zb_96 I265) (zs_96 I265) (by omega) ?_
                  have I337 := ov_cp96 (k := x1) I265 (by omega) (by omega)
                  refine ov_blk (ls2 := [(0, ov_r 90), (1, ov_i (x1 + 1))]) (st2 := []) (pc2 := 139) b_205_136_1 rfl rfl ?_
                  refine ov_goto (tgt := 113) d_205_139 (by decide) ?_
                  exact ih260 (x1 + 1) _ _ I337 E266 E267 E268 E269 E270 E271 E272 E273 E274 E275 E276 E277 E278 (fun j a b => if e : j = x1 then (by rw [e, ov_up_row, ov_rs_eq]; exact xl _ (by omega)) else (by rw [ov_up_j e]; exact xk j a (by omega))) (fun j a => by rw [ov_up_j (by omega)]; exact xl j a) (by show 0 ≤ (x1 + 1) ∧ (x1 + 1) ≤ 340 ∧ (h264 90 2) = (h236 90 2) ∧ (h264 90 7) = (h236 90 7) ∧ (h264 90 8) = (h236 90 8) ∧ (h264 90 13) = (h236 90 13) ∧ (h264 90 20) = (h236 90 20) ∧ (h264 90 22) = (h236 90 22) ∧ (h264 90 25) = (h236 90 25) ∧ (h264 90 26) = (h236 90 26) ∧ (h264 90 28) = (h236 90 28) ∧ (h264 90 29) = (h236 90 29) ∧ (h264 90 30) = (h236 90 30) ∧ (h264 90 34) = (h236 90 34); omega) (by omega)
            exact L262 341 0 _ _ I237 E238 E239 E240 E241 rfl rfl rfl E242 E243 E244 E245 E246 E247 (fun j a b => by omega) (fun j a => rfl) (by show 0 ≤ 0 ∧ 0 ≤ 340 ∧ (h236 90 2) = (h236 90 2) ∧ (h236 90 7) = (h236 90 7) ∧ (h236 90 8) = (h236 90 8) ∧ (h236 90 13) = (h236 90 13) ∧ (h236 90 20) = (h236 90 20) ∧ (h236 90 22) = (h236 90 22) ∧ (h236 90 25) = (h236 90 25) ∧ (h236 90 26) = (h236 90 26) ∧ (h236 90 28) = (h236 90 28) ∧ (h236 90 29) = (h236 90 29) ∧ (h236 90 30) = (h236 90 30) ∧ (h236 90 34) = (h236 90 34); omega) (by omega)
          · omega
        · skip
          have qn : (h236 90 7) = n → h16 92 (h236 90 7) = h16 92 n := fun e => by rw [e]
          refine ov_blk (ls2 := [(0, ov_r 90)]) (st2 := [ov_r 90]) (pc2 := 87) b_205_86_1 rfl rfl ?_
          have cf338 : h236 92 (n) = h16 92 (n) := congrFun E238 (n)
          refine ov_cV (as := []) (st := []) (d2 := d - 1) d_205_87 lk_Mo_217 rfl (Nat.le_of_ble_eq_true rfl) (c := 1) (zb_90 I237) (zs_90 I237) ⟨by decide, rfl⟩ (by omega) (c_Mo_readLine_90 n (d - 1) (by omega) U I237 (by show 0 ≤ n ∧ n ≤ 1000 ∧ (h236 92 (n)) = 0 ∧ (h236 90 7) ≤ n; omega) (by show (h236 90 13) ≤ (h236 90 7); omega) (by show (h236 90 8) = 0; omega) (by show (h236 90 7) < n; omega)) ?_
          rintro _ z353 h354 ⟨rfl, I355, f339, e340, e341, e342, e343, e344, e345, e346, e347, e348, e349, y350, y351, y352⟩
          have E356 : h354 92 = h16 92 := Eq.trans e340 E238
          have E357 : h354 93 = h16 93 := Eq.trans e341 E239
          have E358 : h354 94 = h16 94 := Eq.trans e342 E240
          have E359 : h354 95 = h 95 := Eq.trans e343 E241
          have E360 : h354 100 = h 100 := Eq.trans e344 E242
          have E361 : h354 103 = h 103 := Eq.trans e345 E243
          have E362 : h354 105 = h 105 := Eq.trans e346 E244
          have E363 : h354 106 = h 106 := Eq.trans e347 E245
          have E364 : h354 109 = h 109 := Eq.trans e348 E246
          have E365 : h354 114 = h 114 := Eq.trans e349 E247
          show ov_R u d ov_m205 90 [(0, ov_r 90)] [] z353 h354 (P_Mo_town_90 F z h)
          have f366 : (h354 90 2) = (h236 90 2) ∧ (h354 90 20) = (h236 90 20) ∧ (h354 90 22) = (h236 90 22) ∧ (h354 90 25) = (h236 90 25) ∧ (h354 90 26) = (h236 90 26) ∧ (h354 90 28) = (h236 90 28) ∧ (h354 90 29) = (h236 90 29) ∧ (h354 90 30) = (h236 90 30) ∧ (h354 90 34) = (h236 90 34) ∧ (h236 90 7) ≤ (h354 90 7) ∧ (h354 90 7) ≤ n ∧ (h236 90 13) ≤ (h354 90 13) ∧ (h354 90 13) - (h236 90 13) ≤ (h354 90 7) - (h236 90 7) ∧ (h354 96 340) = (h236 96 340) ∧ (h354 96 341) = (h236 96 341) ∧ ((h354 90 8) = 0 → 1 ≤ (h236 96 342) → 1 ≤ (h354 96 342)) ∧ (1 ≤ (h236 96 349) → 1 ≤ (h354 96 349)) := f339
          clear f339
          have y350_ : ov_MK (h236 96) (h236 97) (h236 98) (h354 96) (h354 97) (h354 98) := y350
          have y351_ : ov_WS (h236 96) → ov_WS (h354 96) := y351
          have y352_ : (h354 90 8) = 0 → ov_CS (h236 96) (h236 97) (h236 98) (h236 90 13) → ov_CS (h354 96) (h354 97) (h354 98) (h354 90 13) := y352
          refine ov_blk (ls2 := [(0, ov_r 90)]) (st2 := [ov_i 59, ov_r 90]) (pc2 := 93) b_205_90_2 rfl rfl ?_
          have cf367 : h354 92 (n) = h16 92 (n) := congrFun E356 (n)
          refine ov_cV (as := [ov_i 59]) (st := []) (d2 := d - 1) d_205_93 lk_Mo_214 rfl (Nat.le_of_ble_eq_true rfl) (c := 1) (zb_90 I355) (zs_90 I355) ⟨by decide, rfl⟩ (by omega) (c_Mo_takeSign_90 n (d - 1) (by omega) U I355 59 (by omega) (by show 0 ≤ n ∧ n ≤ 1000 ∧ (h354 92 (n)) = 0 ∧ (h354 90 7) ≤ n; omega)) ?_
          rintro _ z383 h384 ⟨rfl, I385, f368, e369, e370, e371, e372, e373, e374, e375, e376, e377, e378, e379, e380, e381, e382⟩
          have E386 : h384 92 = h16 92 := Eq.trans e369 E356
          have E387 : h384 93 = h16 93 := Eq.trans e370 E357
          have E388 : h384 94 = h16 94 := Eq.trans e371 E358
          have E389 : h384 95 = h 95 := Eq.trans e372 E359
          have E390 : h384 96 = h354 96 := e373
          have E391 : h384 97 = h354 97 := e374
          have E392 : h384 98 = h354 98 := e375
          have E393 : h384 99 = h354 99 := e376
          have E394 : h384 100 = h 100 := Eq.trans e377 E360
          have E395 : h384 103 = h 103 := Eq.trans e378 E361
          have E396 : h384 105 = h 105 := Eq.trans e379 E362
          have E397 : h384 106 = h 106 := Eq.trans e380 E363
          have E398 : h384 109 = h 109 := Eq.trans e381 E364
          have E399 : h384 114 = h 114 := Eq.trans e382 E365
          show ov_R u d ov_m205 96 [(0, ov_r 90)] [] z383 h384 (P_Mo_town_90 F z h)
          have f400 : (h384 90 2) = (h354 90 2) ∧ (h384 90 13) = (h354 90 13) ∧ (h384 90 20) = (h354 90 20) ∧ (h384 90 22) = (h354 90 22) ∧ (h384 90 25) = (h354 90 25) ∧ (h384 90 26) = (h354 90 26) ∧ (h384 90 28) = (h354 90 28) ∧ (h384 90 29) = (h354 90 29) ∧ (h384 90 30) = (h354 90 30) ∧ (h384 90 34) = (h354 90 34) ∧ (h354 90 7) ≤ (h384 90 7) ∧ (h384 90 7) ≤ n ∧ (h354 90 8) ≤ (h384 90 8) ∧ (h354 90 7) < (h384 90 7) + (h384 90 8) := f368
          clear f368
          refine ov_goto (tgt := 67) d_205_96 (by decide) ?_
          have bm : ov_MK (h 96) (h 97) (h 98) (h384 96) (h384 97) (h384 98) := by rw [show h384 96 = h354 96 from E390, show h384 97 = h354 97 from E391, show h384 98 = h354 98 from E392]; exact ov_MK_trans xm y350_
          have bw : ov_WS (h384 96) := by rw [show h384 96 = h354 96 from E390]; exact y351_ xw
          have g8 := rg_90_8 I355
          have bc : (h384 90 8) = 0 → ov_CS (h384 96) (h384 97) (h384 98) (h384 90 13) := fun e => by rw [show h384 96 = h354 96 from E390, show h384 97 = h354 97 from E391, show h384 98 = h354 98 from E392]; rw [show (h384 90 13) = h354 90 13 by omega]; exact y352_ (by omega) (xc (by omega))
          exact ih232  _ _ I385 E386 E387 E388 E389 E394 E395 E396 E397 E398 E399 bm bw bc (by have cf401 : h384 96 340 = h354 96 340 := congrFun E390 340; have cf402 : h384 96 341 = h354 96 341 := congrFun E390 341; have cf403 : h384 96 342 = h354 96 342 := congrFun E390 342; have cf404 : h384 96 349 = h354 96 349 := congrFun E390 349; show 0 ≤ (h384 90 7) ∧ (h384 90 7) ≤ n ∧ (h384 90 13) ≤ (h384 90 7) ∧ ((h384 90 8) = 0 → 1 ≤ (h384 96 340) ∧ 1 ≤ (h384 96 341) ∧ 1 ≤ (h384 96 342)) ∧ 1 ≤ (h384 96 349) ∧ (h384 90 2) = (h208 90 2) ∧ (h384 90 20) = (h208 90 20) ∧ (h384 90 22) = (h208 90 22) ∧ (h384 90 25) = (h208 90 25) ∧ (h384 90 26) = (h208 90 26) ∧ (h384 90 28) = (h208 90 28) ∧ (h384 90 29) = (h208 90 29) ∧ (h384 90 30) = (h208 90 30) ∧ (h384 90 34) = (h208 90 34); omega) (by omega)
  exact L234 1003  _ _ I209 E210 E211 E212 E213 E217 E218 E219 E220 E221 E222 km224 kw225 (fun _ r a b => by exfalso; have q : r < (h208 96 348) := b; omega) (by show 0 ≤ (h208 90 7) ∧ (h208 90 7) ≤ n ∧ (h208 90 13) ≤ (h208 90 7) ∧ ((h208 90 8) = 0 → 1 ≤ (h208 96 340) ∧ 1 ≤ (h208 96 341) ∧ 1 ≤ (h208 96 342)) ∧ 1 ≤ (h208 96 349) ∧ (h208 90 2) = (h208 90 2) ∧ (h208 90 20) = (h208 90 20) ∧ (h208 90 22) = (h208 90 22) ∧ (h208 90 25) = (h208 90 25) ∧ (h208 90 26) = (h208 90 26) ∧ (h208 90 28) = (h208 90 28) ∧ (h208 90 29) = (h208 90 29) ∧ (h208 90 30) = (h208 90 30) ∧ (h208 90 34) = (h208 90 34); omega) (by omega)

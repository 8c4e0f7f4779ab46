abbrev P_Mo_town_90 (F : ov_H × ov_Z) (z : ov_Z) (h : ov_H) : Option ov_V → ov_Z → ov_H → Prop := fun r0 z' h' => ∃ r : Int, r0 = some (ov_i r) ∧ ov_N F z' h' ∧ ((h' 90 25) = (h 90 25) ∧ (h' 90 26) = (h 90 26) ∧ (h' 90 28) = (h 90 28) ∧ (h' 90 29) = (h 90 29) ∧ (h' 90 30) = (h 90 30) ∧ (h' 90 34) = (h 90 34) ∧ 0 ≤ r ∧ r ≤ 16005) ∧ h' 95 = h 95 ∧ h' 105 = h 105 ∧ h' 106 = h 106 ∧ h' 109 = h 109 ∧ h' 114 = h 114 ∧ ((ov_MK (h 96) (h 97) (h 98) (h' 96) (h' 97) (h' 98) ∧ (h' 100) = (h 100) ∧ (h' 103) = (h 103) ∧ (h' 90 22) = (h 90 22)) ∨ (ov_WT (h' 96) ∧ ov_CD (h' 96) (h' 97) (h' 98) ∧ (h' 100 0) = 0 ∧ (h' 90 22) = (h 90 22) + 1))
set_option maxHeartbeats 4000000 in
theorem c_Mo_town_90 {u : ov_U} {F : ov_H × ov_Z} {z : ov_Z} {h : ov_H} (d : Nat) (hd : 60 ≤ d) (U : ov_cap u) (I : ov_N F z h) (p0 : 0 ≤ ov_bd F ∧ ov_bd F ≤ 800000000) (p1 : 0 ≤ (h 90 22) ∧ (h 90 22) ≤ 2000000000) : ov_T u d ov_m205 [ov_r 90] z h (P_Mo_town_90 F z h) := by
  refine ov_en rfl (Nat.le_of_ble_eq_true rfl) ?_
  show ov_R u d ov_m205 0 [(0, ov_r 90)] [] z h (P_Mo_town_90 F z h)
  refine ov_blk (ls2 := [(0, ov_r 90)]) (st2 := [ov_i 0, ov_r 90]) (pc2 := 2) b_205_0_2 rfl rfl ?_
  refine ov_putf (x := 0) d_205_2 fl_Mo_1 (zb_90 I) (zs_90 I) rfl nk_0 rfl ?_
  have I1 := up_90_0 (x := 0) I (by omega)
  refine ov_blk (ls2 := [(0, ov_r 90)]) (st2 := [ov_r 90]) (pc2 := 6) b_205_5_1 rfl rfl ?_
  refine ov_cV (as := []) (st := []) (d2 := d - 1) d_205_6 lk_Mo_205 rfl (Nat.le_of_ble_eq_true rfl) (c := 1) (zb_90 I1) (zs_90 I1) ⟨by decide, rfl⟩ (by omega) (c_Mo_cutAll_90 (d - 1) (by omega) U I1) ?_
  rintro _ z15 h16 ⟨rfl, I17, f2, e3, e4, e5, e6, e7, e8, e9, e10, e11, e12, e13, y14⟩
  have E18 : h16 95 = h 95 := e3
  have E19 : h16 96 = h 96 := e4
  have E20 : h16 97 = h 97 := e5
  have E21 : h16 98 = h 98 := e6
  have E22 : h16 99 = h 99 := e7
  have E23 : h16 100 = h 100 := e8
  have E24 : h16 103 = h 103 := e9
  have E25 : h16 105 = h 105 := e10
  have E26 : h16 106 = h 106 := e11
  have E27 : h16 109 = h 109 := e12
  have E28 : h16 114 = h 114 := e13
  show ov_R u d ov_m205 9 [(0, ov_r 90)] [] z15 h16 (P_Mo_town_90 F z h)
  have f29 : (h16 90 13) = (h 90 13) ∧ (h16 90 20) = (h 90 20) ∧ (h16 90 22) = (h 90 22) ∧ (h16 90 25) = (h 90 25) ∧ (h16 90 26) = (h 90 26) ∧ (h16 90 28) = (h 90 28) ∧ (h16 90 29) = (h 90 29) ∧ (h16 90 30) = (h 90 30) ∧ (h16 90 34) = (h 90 34) ∧ (h16 90 7) = 0 ∧ (h16 90 8) = 0 := f2
  clear f2
  have y14_ : ∃ n : Int, 0 ≤ n ∧ n ≤ 1000 ∧ (h16 92) n = 0 := y14
  obtain ⟨n, hn0, hn1, hn2⟩ := y14_
  refine ov_blk (ls2 := [(0, ov_r 90)]) (st2 := [ov_i 0, ov_r 90]) (pc2 := 11) b_205_9_2 rfl rfl ?_
  refine ov_putf (x := 0) d_205_11 fl_Mo_208 (zb_90 I17) (zs_90 I17) rfl nk_0 rfl ?_
  have I30 := up_90_13 (x := 0) I17 (by omega)
  refine ov_blk (ls2 := [(0, ov_r 90)]) (st2 := [ov_i 0, ov_r 90]) (pc2 := 16) b_205_14_2 rfl rfl ?_
  refine ov_putf (x := 0) d_205_16 fl_Mo_211 (zb_90 I30) (zs_90 I30) rfl nk_0 rfl ?_
  have I31 := up_90_15 (x := 0) I30 (by omega)
  refine ov_blk (ls2 := [(0, ov_r 90)]) (st2 := [ov_i 340, ov_r 90]) (pc2 := 23) b_205_19_2 rfl rfl ?_
  refine ov_cV (as := [ov_i 340]) (st := []) (d2 := d - 1) d_205_23 lk_Mo_147 rfl (Nat.le_of_ble_eq_true rfl) (c := 1) (zb_90 I31) (zs_90 I31) ⟨by decide, rfl⟩ (by omega) (c_Mo_standsAsAlways_90 (d - 1) (by omega) U I31 340 (by omega) (by omega)) ?_
  rintro _ z48 h49 ⟨rfl, I50, f32, e33, e34, e35, e36, e37, e38, e39, e40, e41, e42, e43, e44, e45, y46, y47⟩
  have E51 : h49 92 = h16 92 := e33
  have E52 : h49 93 = h16 93 := e34
  have E53 : h49 94 = h16 94 := e35
  have E54 : h49 95 = h 95 := Eq.trans e36 E18
  have E55 : h49 97 = h 97 := Eq.trans e37 E20
  have E56 : h49 98 = h 98 := Eq.trans e38 E21
  have E57 : h49 99 = h 99 := Eq.trans e39 E22
  have E58 : h49 100 = h 100 := Eq.trans e40 E23
  have E59 : h49 103 = h 103 := Eq.trans e41 E24
  have E60 : h49 105 = h 105 := Eq.trans e42 E25
  have E61 : h49 106 = h 106 := Eq.trans e43 E26
  have E62 : h49 109 = h 109 := Eq.trans e44 E27
  have E63 : h49 114 = h 114 := Eq.trans e45 E28
  show ov_R u d ov_m205 26 [(0, ov_r 90)] [] z48 h49 (P_Mo_town_90 F z h)
  have f64 : (h49 90 2) = (h16 90 2) ∧ (h49 90 7) = (h16 90 7) ∧ (h49 90 8) = (h16 90 8) ∧ (h49 90 13) = 0 ∧ (h49 90 20) = (h16 90 20) ∧ (h49 90 22) = (h16 90 22) ∧ (h49 90 25) = (h16 90 25) ∧ (h49 90 26) = (h16 90 26) ∧ (h49 90 28) = (h16 90 28) ∧ (h49 90 29) = (h16 90 29) ∧ (h49 90 30) = (h16 90 30) ∧ (h49 90 34) = (h16 90 34) ∧ (h49 96 348) = 0 ∧ (h49 96 342) = 10 ∧ (h49 96 349) = 1 := f32
  clear f32
  rw [show (ov_up (ov_up h16 90 13 0) 90 15 0) 96 = h 96 from E19] at y46
  have y46_ : ∀ j : Int, j < 340 → (h49 96) j = (h 96) j := y46
  have y47_ : ov_WS (h49 96) := y47
  have km65 : ov_MK (h 96) (h 97) (h 98) (h49 96) (h49 97) (h49 98) := ⟨y46_, fun j _ => congrFun E55 j, fun j _ => congrFun E56 j⟩
  refine ov_blk (ls2 := [(0, ov_r 90)]) (st2 := [ov_i 0, ov_r 90]) (pc2 := 28) b_205_26_2 rfl rfl ?_
  have cf66 : h49 92 (n) = h16 92 (n) := congrFun E51 (n)
  refine ov_cV (as := [ov_i 0]) (st := []) (d2 := d - 1) d_205_28 lk_Mo_195 rfl (Nat.le_of_ble_eq_true rfl) (c := 1) (zb_90 I50) (zs_90 I50) ⟨by decide, rfl⟩ (by omega) (c_Mo_takeWord_90 n (d - 1) (by omega) U I50 0 (by omega) (by show 0 ≤ n ∧ n ≤ 1000 ∧ (h49 92 (n)) = 0 ∧ (h49 90 7) ≤ n; omega) (by omega)) ?_
  rintro _ z82 h83 ⟨rfl, I84, f67, e68, e69, e70, e71, e72, e73, e74, e75, e76, e77, e78, e79, e80, e81⟩
  have E85 : h83 92 = h16 92 := Eq.trans e68 E51
  have E86 : h83 93 = h16 93 := Eq.trans e69 E52
  have E87 : h83 94 = h16 94 := Eq.trans e70 E53
  have E88 : h83 95 = h 95 := Eq.trans e71 E54
  have E89 : h83 96 = h49 96 := e72
  have E90 : h83 97 = h 97 := Eq.trans e73 E55
  have E91 : h83 98 = h 98 := Eq.trans e74 E56
  have E92 : h83 99 = h 99 := Eq.trans e75 E57
  have E93 : h83 100 = h 100 := Eq.trans e76 E58
  have E94 : h83 103 = h 103 := Eq.trans e77 E59
  have E95 : h83 105 = h 105 := Eq.trans e78 E60
  have E96 : h83 106 = h 106 := Eq.trans e79 E61
  have E97 : h83 109 = h 109 := Eq.trans e80 E62
  have E98 : h83 114 = h 114 := Eq.trans e81 E63
  show ov_R u d ov_m205 31 [(0, ov_r 90)] [] z82 h83 (P_Mo_town_90 F z h)
  have f99 : (h83 90 2) = (h49 90 2) ∧ (h83 90 13) = (h49 90 13) ∧ (h83 90 20) = (h49 90 20) ∧ (h83 90 22) = (h49 90 22) ∧ (h83 90 25) = (h49 90 25) ∧ (h83 90 26) = (h49 90 26) ∧ (h83 90 28) = (h49 90 28) ∧ (h83 90 29) = (h49 90 29) ∧ (h83 90 30) = (h49 90 30) ∧ (h83 90 34) = (h49 90 34) ∧ (h49 90 7) ≤ (h83 90 7) ∧ (h83 90 7) ≤ n ∧ (h49 90 8) ≤ (h83 90 8) := f67
  clear f67
  have km100 : ov_MK (h 96) (h 97) (h 98) (h83 96) (h83 97) (h83 98) := by rw [e72, e73, e74]; exact km65
  have kw101 : ov_WS (h83 96) := by rw [e72]; exact y47_
  refine ov_blk (ls2 := [(0, ov_r 90)]) (st2 := [ov_r 90]) (pc2 := 32) b_205_31_1 rfl rfl ?_
  refine ov_getf (v := ov_r 96) d_205_32 fl_Mo_81 (zb_90 I84) (zs_90 I84) (congrArg ov_r (rg_90_10 I84)) ?_
  refine ov_blk (ls2 := [(0, ov_r 90)]) (st2 := [ov_i 6, ov_i 1, ov_r 90, ov_i 340, ov_r 96]) (pc2 := 42) b_205_35_4 rfl rfl ?_
  have cf102 : h83 92 (n) = h16 92 (n) := congrFun E85 (n)
  refine ov_cV (as := [ov_i 1, ov_i 6]) (st := [ov_i 340, ov_r 96]) (d2 := d - 1) d_205_42 lk_Mo_198 rfl (Nat.le_of_ble_eq_true rfl) (c := 1) (zb_90 I84) (zs_90 I84) ⟨by decide, rfl⟩ (by omega) (c_Mo_takeNumber_90 n (d - 1) (by omega) U I84 1 6 (by omega) (by omega) (by show 0 ≤ n ∧ n ≤ 1000 ∧ (h83 92 (n)) = 0 ∧ (h83 90 7) ≤ n; omega)) ?_
  rintro _ z119 h120 ⟨v104, rfl, I121, f103, e105, e106, e107, e108, e109, e110, e111, e112, e113, e114, e115, e116, e117, e118⟩
  have E122 : h120 92 = h16 92 := Eq.trans e105 E85
  have E123 : h120 93 = h16 93 := Eq.trans e106 E86
  have E124 : h120 94 = h16 94 := Eq.trans e107 E87
  have E125 : h120 95 = h 95 := Eq.trans e108 E88
  have E126 : h120 96 = h49 96 := Eq.trans e109 E89
  have E127 : h120 97 = h 97 := Eq.trans e110 E90
  have E128 : h120 98 = h 98 := Eq.trans e111 E91
  have E129 : h120 99 = h 99 := Eq.trans e112 E92
  have E130 : h120 100 = h 100 := Eq.trans e113 E93
  have E131 : h120 103 = h 103 := Eq.trans e114 E94
  have E132 : h120 105 = h 105 := Eq.trans e115 E95
  have E133 : h120 106 = h 106 := Eq.trans e116 E96
  have E134 : h120 109 = h 109 := Eq.trans e117 E97
  have E135 : h120 114 = h 114 := Eq.trans e118 E98
  show ov_R u d ov_m205 45 [(0, ov_r 90)] [ov_i v104, ov_i 340, ov_r 96] z119 h120 (P_Mo_town_90 F z h)
  have f136 : (h120 90 2) = (h83 90 2) ∧ (h120 90 13) = (h83 90 13) ∧ (h120 90 20) = (h83 90 20) ∧ (h120 90 22) = (h83 90 22) ∧ (h120 90 25) = (h83 90 25) ∧ (h120 90 26) = (h83 90 26) ∧ (h120 90 28) = (h83 90 28) ∧ (h120 90 29) = (h83 90 29) ∧ (h120 90 30) = (h83 90 30) ∧ (h120 90 34) = (h83 90 34) ∧ (h83 90 7) ≤ (h120 90 7) ∧ (h120 90 7) ≤ n ∧ (h83 90 8) ≤ (h120 90 8) ∧ ((h120 90 8) = 0 → (1 : Int) ≤ v104 ∧ v104 ≤ (6 : Int)) ∧ (0 < (h120 90 8) → v104 = 0) ∧ (h83 90 7) < (h120 90 7) + (h120 90 8) := f103
  clear f103
  have km137 : ov_MK (h 96) (h 97) (h 98) (h120 96) (h120 97) (h120 98) := by rw [e109, e110, e111]; exact km100
  have kw138 : ov_WS (h120 96) := by rw [e109]; exact kw101
  refine ov_iast d_205_45 (zb_96 I121) (zs_96 I121) (by omega) ?_
  have I139 := ua_96 (k := 340) (x := v104) I121 (by refine ⟨?_, ?_, ?_, ?_, ?_, ?_, ?_, ?_, ?_, ?_, ?_, ?_, ?_, ?_, ?_, ?_, ?_, ?_, ?_, ?_, ?_, ?_, ?_, ?_, ?_, ?_, ?_, ?_, ?_⟩ <;> omega)
  have km140 : ov_MK (h 96) (h 97) (h 98) ((ov_up h120 96 340 v104) 96) ((ov_up h120 96 340 v104) 97) ((ov_up h120 96 340 v104) 98) := by rw [ov_up_row]; exact ov_MK_1 km137 (by decide)
  have kw141 : ov_WS ((ov_up h120 96 340 v104) 96) := by rw [ov_up_row]; exact ov_WS_o kw138 (by decide)
  refine ov_blk (ls2 := [(0, ov_r 90)]) (st2 := [ov_r 90]) (pc2 := 47) b_205_46_1 rfl rfl ?_
  refine ov_getf (v := ov_r 96) d_205_47 fl_Mo_81 (zb_90 I139) (zs_90 I139) (congrArg ov_r (rg_90_10 I139)) ?_
  refine ov_blk (ls2 := [(0, ov_r 90)]) (st2 := [ov_i 9, ov_i 1, ov_r 90, ov_i 341, ov_r 96]) (pc2 := 57) b_205_50_4 rfl rfl ?_
  have cf142 : h120 92 (n) = h16 92 (n) := congrFun E122 (n)
  refine ov_cV (as := [ov_i 1, ov_i 9]) (st := [ov_i 341, ov_r 96]) (d2 := d - 1) d_205_57 lk_Mo_198 rfl (Nat.le_of_ble_eq_true rfl) (c := 1) (zb_90 I139) (zs_90 I139) ⟨by decide, rfl⟩ (by omega) (c_Mo_takeNumber_90 n (d - 1) (by omega) U I139 1 9 (by omega) (by omega) (by show 0 ≤ n ∧ n ≤ 1000 ∧ (h120 92 (n)) = 0 ∧ (h120 90 7) ≤ n; omega)) ?_
  rintro _ z159 h160 ⟨v144, rfl, I161, f143, e145, e146, e147, e148, e149, e150, e151, e152, e153, e154, e155, e156, e157, e158⟩
  have E162 : h160 92 = h16 92 := Eq.trans e145 E122
  have E163 : h160 93 = h16 93 := Eq.trans e146 E123
  have E164 : h160 94 = h16 94 := Eq.trans e147 E124
  have E165 : h160 95 = h 95 := Eq.trans e148 E125
  have E166 : h160 97 = h 97 := Eq.trans e150 E127
  have E167 : h160 98 = h 98 := Eq.trans e151 E128
  have E168 : h160 99 = h 99 := Eq.trans e152 E129
  have E169 : h160 100 = h 100 := Eq.trans e153 E130
  have E170 : h160 103 = h 103 := Eq.trans e154 E131
  have E171 : h160 105 = h 105 := Eq.trans e155 E132
  have E172 : h160 106 = h 106 := Eq.trans e156 E133
  have E173 : h160 109 = h 109 := Eq.trans e157 E134
  have E174 : h160 114 = h 114 := Eq.trans e158 E135
  show ov_R u d ov_m205 60 [(0, ov_r 90)] [ov_i v144, ov_i 341, ov_r 96] z159 h160 (P_Mo_town_90 F z h)
  have f175 : (h160 90 2) = (h120 90 2) ∧ (h160 90 13) = (h120 90 13) ∧ (h160 90 20) = (h120 90 20) ∧ (h160 90 22) = (h120 90 22) ∧ (h160 90 25) = (h120 90 25) ∧ (h160 90 26) = (h120 90 26) ∧ (h160 90 28) = (h120 90 28) ∧ (h160 90 29) = (h120 90 29) ∧ (h160 90 30) = (h120 90 30) ∧ (h160 90 34) = (h120 90 34) ∧ (h120 90 7) ≤ (h160 90 7) ∧ (h160 90 7) ≤ n ∧ (h120 90 8) ≤ (h160 90 8) ∧ ((h160 90 8) = 0 → (1 : Int) ≤ v144 ∧ v144 ≤ (9 : Int)) ∧ (0 < (h160 90 8) → v144 = 0) ∧ (h120 90 7) < (h160 90 7) + (h160 90 8) := f143
  clear f143
  have km176 : ov_MK (h 96) (h 97) (h 98) (h160 96) (h160 97) (h160 98) := by rw [e149, e150, e151]; exact km140
  have kw177 : ov_WS (h160 96) := by rw [e149]; exact kw141
  have lt178 : h160 96 340 = v104 := congrFun e149 340
  have lt179 : h160 96 341 = (h49 96 341) := congrFun e149 341
  have lt180 : h160 96 342 = (h49 96 342) := congrFun e149 342
  have lt181 : h160 96 348 = (h49 96 348) := congrFun e149 348
  have lt182 : h160 96 349 = (h49 96 349) := congrFun e149 349
  refine ov_iast d_205_60 (zb_96 I161) (zs_96 I161) (by omega) ?_
  have I183 := ua_96 (k := 341) (x := v144) I161 (by refine ⟨?_, ?_, ?_, ?_, ?_, ?_, ?_, ?_, ?_, ?_, ?_, ?_, ?_, ?_, ?_, ?_, ?_, ?_, ?_, ?_, ?_, ?_, ?_, ?_, ?_, ?_, ?_, ?_, ?_⟩ <;> omega)
  have km184 : ov_MK (h 96) (h 97) (h 98) ((ov_up h160 96 341 v144) 96) ((ov_up h160 96 341 v144) 97) ((ov_up h160 96 341 v144) 98) := by rw [ov_up_row]; exact ov_MK_1 km176 (by decide)
  have kw185 : ov_WS ((ov_up h160 96 341 v144) 96) := by rw [ov_up_row]; exact ov_WS_o kw177 (by decide)
  refine ov_blk (ls2 := [(0, ov_r 90)]) (st2 := [ov_i 59, ov_r 90]) (pc2 := 64) b_205_61_2 rfl rfl ?_
  have cf186 : h160 92 (n) = h16 92 (n) := congrFun E162 (n)
  refine ov_cV (as := [ov_i 59]) (st := []) (d2 := d - 1) d_205_64 lk_Mo_214 rfl (Nat.le_of_ble_eq_true rfl) (c := 1) (zb_90 I183) (zs_90 I183) ⟨by decide, rfl⟩ (by omega) (c_Mo_takeSign_90 n (d - 1) (by omega) U I183 59 (by omega) (by show 0 ≤ n ∧ n ≤ 1000 ∧ (h160 92 (n)) = 0 ∧ (h160 90 7) ≤ n; omega)) ?_
  rintro _ z202 h203 ⟨rfl, I204, f187, e188, e189, e190, e191, e192, e193, e194, e195, e196, e197, e198, e199, e200, e201⟩
  have E205 : h203 92 = h16 92 := Eq.trans e188 E162
  have E206 : h203 93 = h16 93 := Eq.trans e189 E163
  have E207 : h203 94 = h16 94 := Eq.trans e190 E164
  have E208 : h203 95 = h 95 := Eq.trans e191 E165
  have E209 : h203 97 = h 97 := Eq.trans e193 E166
  have E210 : h203 98 = h 98 := Eq.trans e194 E167
  have E211 : h203 99 = h 99 := Eq.trans e195 E168
  have E212 : h203 100 = h 100 := Eq.trans e196 E169
  have E213 : h203 103 = h 103 := Eq.trans e197 E170
  have E214 : h203 105 = h 105 := Eq.trans e198 E171
  have E215 : h203 106 = h 106 := Eq.trans e199 E172
  have E216 : h203 109 = h 109 := Eq.trans e200 E173
  have E217 : h203 114 = h 114 := Eq.trans e201 E174
  show ov_R u d ov_m205 67 [(0, ov_r 90)] [] z202 h203 (P_Mo_town_90 F z h)
  have f218 : (h203 90 2) = (h160 90 2) ∧ (h203 90 13) = (h160 90 13) ∧ (h203 90 20) = (h160 90 20) ∧ (h203 90 22) = (h160 90 22) ∧ (h203 90 25) = (h160 90 25) ∧ (h203 90 26) = (h160 90 26) ∧ (h203 90 28) = (h160 90 28) ∧ (h203 90 29) = (h160 90 29) ∧ (h203 90 30) = (h160 90 30) ∧ (h203 90 34) = (h160 90 34) ∧ (h160 90 7) ≤ (h203 90 7) ∧ (h203 90 7) ≤ n ∧ (h160 90 8) ≤ (h203 90 8) ∧ (h160 90 7) < (h203 90 7) + (h203 90 8) := f187
  clear f187
  have km219 : ov_MK (h 96) (h 97) (h 98) (h203 96) (h203 97) (h203 98) := by rw [e192, e193, e194]; exact km184
  have kw220 : ov_WS (h203 96) := by rw [e192]; exact kw185
  have lt221 : h203 96 340 = (h160 96 340) := congrFun e192 340
  have lt222 : h203 96 341 = v144 := congrFun e192 341
  have lt223 : h203 96 342 = (h160 96 342) := congrFun e192 342
  have lt224 : h203 96 348 = (h160 96 348) := congrFun e192 348
  have lt225 : h203 96 349 = (h160 96 349) := congrFun e192 349
  have L229 : ∀ (n226 : Nat) (z230 : ov_Z) (h231 : ov_H) (I232 : ov_N F z230 h231) (E233 : h231 92 = h16 92) (E234 : h231 93 = h16 93) (E235 : h231 94 = h16 94) (E236 : h231 95 = h 95) (E237 : h231 100 = h 100) (E238 : h231 103 = h 103) (E239 : h231 105 = h 105) (E240 : h231 106 = h 106) (E241 : h231 109 = h 109) (E242 : h231 114 = h 114) (xm : ov_MK (h 96) (h 97) (h 98) (h231 96) (h231 97) (h231 98)) (xw : ov_WS (h231 96)) (xc : (h231 90 8) = 0 → ov_CS (h231 96) (h231 97) (h231 98) (h231 90 13)) (q228 : 0 ≤ (h231 90 7) ∧ (h231 90 7) ≤ n ∧ (h231 90 13) ≤ (h231 90 7) ∧ ((h231 90 8) = 0 → 1 ≤ (h231 96 340) ∧ 1 ≤ (h231 96 341) ∧ 1 ≤ (h231 96 342)) ∧ 1 ≤ (h231 96 349) ∧ (h231 90 2) = (h203 90 2) ∧ (h231 90 20) = (h203 90 20) ∧ (h231 90 22) = (h203 90 22) ∧ (h231 90 25) = (h203 90 25) ∧ (h231 90 26) = (h203 90 26) ∧ (h231 90 28) = (h203 90 28) ∧ (h231 90 29) = (h203 90 29) ∧ (h231 90 30) = (h203 90 30) ∧ (h231 90 34) = (h203 90 34)), 1000 - (h231 90 7) - min ((h231 90 8)) 1 < (n226 : Int) → ov_R u d ov_m205 67 [(0, ov_r 90)] [] z230 h231 (P_Mo_town_90 F z h) := by
    intro n226
    induction n226 with
    | zero =>
      intro  z230 h231 I232 E233 E234 E235 E236 E237 E238 E239 E240 E241 E242 xm xw xc q228 hn243
      exact absurd hn243 (by omega)
    | succ n226 ih227 =>
      intro  z230 h231 I232 E233 E234 E235 E236 E237 E238 E239 E240 E241 E242 xm xw xc q228 hn243
      refine ov_blk (ls2 := [(0, ov_r 90)]) (st2 := [ov_r 90]) (pc2 := 68) b_205_67_1 rfl rfl ?_
      refine ov_getf (v := ov_i (h231 90 8)) d_205_68 fl_Mo_180 (zb_90 I232) (zs_90 I232) rfl ?_
      have g244 := rg_90_8 I232
      refine ov_ifne (tgt := 99) d_205_71 (by decide) (by omega) (fun c245 => ?_) (fun c245 => ?_)
      · skip
        refine ov_blk (ls2 := [(0, ov_r 90)]) (st2 := [ov_r 90]) (pc2 := 100) b_205_99_1 rfl rfl ?_
        refine ov_getf (v := ov_i (h231 90 8)) d_205_100 fl_Mo_180 (zb_90 I232) (zs_90 I232) rfl ?_
        refine ov_ifle (tgt := 111) d_205_103 (by decide) (by omega) (fun c247 => ?_) (fun c247 => ?_)
        · omega
        · skip
          refine ov_blk (ls2 := [(0, ov_r 90)]) (st2 := [ov_r 90]) (pc2 := 107) b_205_106_1 rfl rfl ?_
          refine ov_getf (v := ov_i (h231 90 8)) d_205_107 fl_Mo_180 (zb_90 I232) (zs_90 I232) rfl ?_
          exact ov_reti (st := []) d_205_110 rfl ⟨_, rfl, I232, (by show (h231 90 25) = (h 90 25) ∧ (h231 90 26) = (h 90 26) ∧ (h231 90 28) = (h 90 28) ∧ (h231 90 29) = (h 90 29) ∧ (h231 90 30) = (h 90 30) ∧ (h231 90 34) = (h 90 34) ∧ 0 ≤ (h231 90 8) ∧ (h231 90 8) ≤ 16005; omega), E236, E239, E240, E241, E242, (Or.inl ⟨(by show ov_MK (h 96) (h 97) (h 98) (h231 96) (h231 97) (h231 98); exact xm), (by show h231 100 = h 100; rw [show h231 100 = h 100 from E237]; rfl), (by show h231 103 = h 103; rw [show h231 103 = h 103 from E238]; rfl), (by show (h231 90 22) = h 90 22; omega)⟩)⟩
      · skip
        refine ov_blk (ls2 := [(0, ov_r 90)]) (st2 := [ov_r 90]) (pc2 := 75) b_205_74_1 rfl rfl ?_
        refine ov_getf (v := ov_r 92) d_205_75 fl_Mo_24 (zb_90 I232) (zs_90 I232) (congrArg ov_r (rg_90_4 I232)) ?_
        refine ov_blk (ls2 := [(0, ov_r 90)]) (st2 := [ov_r 90, ov_r 92]) (pc2 := 79) b_205_78_1 rfl rfl ?_
        refine ov_getf (v := ov_i (h231 90 7)) d_205_79 fl_Mo_177 (zb_90 I232) (zs_90 I232) rfl ?_
        have g249 := rg_90_7 I232
        refine ov_iald d_205_82 (zb_92 I232) (zs_92 I232) (by omega) ?_
        rw [show h231 92 = h16 92 from E233]
        have g250 := ra_92 I17 (h231 90 7)
        refine ov_ifeq (tgt := 99) d_205_83 (by decide) (by omega) (fun c251 => ?_) (fun c251 => ?_)
        · skip
          refine ov_blk (ls2 := [(0, ov_r 90)]) (st2 := [ov_r 90]) (pc2 := 100) b_205_99_1 rfl rfl ?_
          refine ov_getf (v := ov_i (h231 90 8)) d_205_100 fl_Mo_180 (zb_90 I232) (zs_90 I232) rfl ?_
          refine ov_ifle (tgt := 111) d_205_103 (by decide) (by omega) (fun c253 => ?_) (fun c253 => ?_)
          · skip
            have x348 := t96_348 I232
            refine ov_blk (ls2 := [(0, ov_r 90), (1, ov_i 0)]) (st2 := []) (pc2 := 113) b_205_111_2 rfl rfl ?_
            have L257 : ∀ (n254 : Nat) (x1 : Int) (z258 : ov_Z) (h259 : ov_H) (I260 : ov_N F z258 h259) (E261 : h259 92 = h16 92) (E262 : h259 93 = h16 93) (E263 : h259 94 = h16 94) (E264 : h259 95 = h 95) (E265 : h259 97 = h231 97) (E266 : h259 98 = h231 98) (E267 : h259 99 = h231 99) (E268 : h259 100 = h 100) (E269 : h259 103 = h 103) (E270 : h259 105 = h 105) (E271 : h259 106 = h 106) (E272 : h259 109 = h 109) (E273 : h259 114 = h 114) (xk : ∀ j : Int, 0 ≤ j → j < x1 → (h259 96) j = h231 96 (340 + j)) (xl : ∀ j : Int, 340 ≤ j → (h259 96) j = h231 96 j) (q256 : 0 ≤ x1 ∧ x1 ≤ 340 ∧ (h259 90 2) = (h231 90 2) ∧ (h259 90 7) = (h231 90 7) ∧ (h259 90 8) = (h231 90 8) ∧ (h259 90 13) = (h231 90 13) ∧ (h259 90 20) = (h231 90 20) ∧ (h259 90 22) = (h231 90 22) ∧ (h259 90 25) = (h231 90 25) ∧ (h259 90 26) = (h231 90 26) ∧ (h259 90 28) = (h231 90 28) ∧ (h259 90 29) = (h231 90 29) ∧ (h259 90 30) = (h231 90 30) ∧ (h259 90 34) = (h231 90 34)), 340 - x1 < (n254 : Int) → ov_R u d ov_m205 113 [(0, ov_r 90), (1, ov_i x1)] [] z258 h259 (P_Mo_town_90 F z h) := by
              intro n254
              induction n254 with
              | zero =>
                intro x1 z258 h259 I260 E261 E262 E263 E264 E265 E266 E267 E268 E269 E270 E271 E272 E273 xk xl q256 hn274
                exact absurd hn274 (by omega)
              | succ n254 ih255 =>
                intro x1 z258 h259 I260 E261 E262 E263 E264 E265 E266 E267 E268 E269 E270 E271 E272 E273 xk xl q256 hn274
                refine ov_blk (ls2 := [(0, ov_r 90), (1, ov_i x1)]) (st2 := [ov_i 340, ov_i x1]) (pc2 := 117) b_205_113_2 rfl rfl ?_
                refine ov_icge (tgt := 142) d_205_117 (by decide) (by omega) (by omega) (fun c275 => ?_) (fun c275 => ?_)
                · skip
                  refine ov_blk (ls2 := [(0, ov_r 90), (1, ov_i 0)]) (st2 := []) (pc2 := 144) b_205_142_2 rfl rfl ?_
                  have L279 : ∀ (n276 : Nat) (x1_ : Int) (z280 : ov_Z) (h281 : ov_H) (I282 : ov_N F z280 h281) (E283 : h281 92 = h16 92) (E284 : h281 93 = h16 93) (E285 : h281 94 = h16 94) (E286 : h281 95 = h 95) (E287 : h281 96 = h259 96) (E288 : h281 99 = h231 99) (E289 : h281 100 = h 100) (E290 : h281 103 = h 103) (E291 : h281 105 = h 105) (E292 : h281 106 = h 106) (E293 : h281 109 = h 109) (E294 : h281 114 = h 114) (xg : ∀ j : Int, 0 ≤ j → j < x1_ → (h281 97) j = h231 97 (1100 + j) ∧ (h281 98) j = h231 98 (1100 + j)) (xh : ∀ j : Int, 1100 ≤ j → (h281 97) j = h231 97 j ∧ (h281 98) j = h231 98 j) (q278 : 0 ≤ x1_ ∧ x1_ ≤ 1000 ∧ (h281 90 2) = (h259 90 2) ∧ (h281 90 7) = (h259 90 7) ∧ (h281 90 8) = (h259 90 8) ∧ (h281 90 13) = (h259 90 13) ∧ (h281 90 20) = (h259 90 20) ∧ (h281 90 22) = (h259 90 22) ∧ (h281 90 25) = (h259 90 25) ∧ (h281 90 26) = (h259 90 26) ∧ (h281 90 28) = (h259 90 28) ∧ (h281 90 29) = (h259 90 29) ∧ (h281 90 30) = (h259 90 30) ∧ (h281 90 34) = (h259 90 34)), 1000 - x1_ < (n276 : Int) → ov_R u d ov_m205 144 [(0, ov_r 90), (1, ov_i x1_)] [] z280 h281 (P_Mo_town_90 F z h) := by
                    intro n276
                    induction n276 with
                    | zero =>
                      intro x1_ z280 h281 I282 E283 E284 E285 E286 E287 E288 E289 E290 E291 E292 E293 E294 xg xh q278 hn295
                      exact absurd hn295 (by omega)
                    | succ n276 ih277 =>
                      intro x1_ z280 h281 I282 E283 E284 E285 E286 E287 E288 E289 E290 E291 E292 E293 E294 xg xh q278 hn295
                      refine ov_blk (ls2 := [(0, ov_r 90), (1, ov_i x1_)]) (st2 := [ov_r 90, ov_i x1_]) (pc2 := 146) b_205_144_2 rfl rfl ?_
                      refine ov_getf (v := ov_i (h281 90 13)) d_205_146 fl_Mo_208 (zb_90 I282) (zs_90 I282) rfl ?_
                      have g296 := rg_90_13 I282
                      refine ov_icge (tgt := 190) d_205_149 (by decide) (by omega) (by omega) (fun c297 => ?_) (fun c297 => ?_)
                      · skip
                        refine ov_blk (ls2 := [(0, ov_r 90), (1, ov_i x1_)]) (st2 := [ov_r 90]) (pc2 := 191) b_205_190_1 rfl rfl ?_
                        refine ov_cV (as := []) (st := []) (d2 := d - 1) d_205_191 lk_Mo_151 rfl (Nat.le_of_ble_eq_true rfl) (c := 1) (zb_90 I282) (zs_90 I282) ⟨by decide, rfl⟩ (by omega) (c_Mo_begins_90 (d - 1) (by omega) U I282 (by omega) (by show 0 ≤ (h281 90 22) ∧ (h281 90 22) ≤ 2000000000; omega)) ?_
                        rintro _ z311 h312 ⟨rfl, I313, f298, e299, e300, e301, e302, e303, e304, e305, e306, e307, e308, e309, e310⟩
                        have E314 : h312 92 = h16 92 := Eq.trans e299 E283
                        have E315 : h312 93 = h16 93 := Eq.trans e300 E284
                        have E316 : h312 94 = h16 94 := Eq.trans e301 E285
                        have E317 : h312 95 = h 95 := Eq.trans e302 E286
                        have E318 : h312 96 = h259 96 := Eq.trans e303 E287
                        have E319 : h312 97 = h281 97 := e304
                        have E320 : h312 98 = h281 98 := e305
                        have E321 : h312 99 = h231 99 := Eq.trans e306 E288
                        have E322 : h312 105 = h 105 := Eq.trans e307 E291
                        have E323 : h312 106 = h 106 := Eq.trans e308 E292
                        have E324 : h312 109 = h 109 := Eq.trans e309 E293
                        have E325 : h312 114 = h 114 := Eq.trans e310 E294
                        show ov_R u d ov_m205 194 [(0, ov_r 90), (1, ov_i x1_)] [] z311 h312 (P_Mo_town_90 F z h)
                        have f326 : (h312 90 2) = (h281 90 2) ∧ (h312 90 7) = (h281 90 7) ∧ (h312 90 8) = (h281 90 8) ∧ (h312 90 13) = (h281 90 13) ∧ (h312 90 25) = (h281 90 25) ∧ (h312 90 26) = (h281 90 26) ∧ (h312 90 28) = (h281 90 28) ∧ (h312 90 29) = (h281 90 29) ∧ (h312 90 30) = (h281 90 30) ∧ (h312 90 34) = (h281 90 34) ∧ (h312 90 22) = (h281 90 22) + 1 ∧ (h312 100 0) = 0 := f298
                        clear f298
                        refine ov_blk (ls2 := [(0, ov_r 90), (1, ov_i x1_)]) (st2 := [ov_i 0]) (pc2 := 195) b_205_194_1 rfl rfl ?_
                        exact ov_reti (st := []) d_205_195 rfl ⟨_, rfl, I313, (by show (h312 90 25) = (h 90 25) ∧ (h312 90 26) = (h 90 26) ∧ (h312 90 28) = (h 90 28) ∧ (h312 90 29) = (h 90 29) ∧ (h312 90 30) = (h 90 30) ∧ (h312 90 34) = (h 90 34) ∧ 0 ≤ 0 ∧ 0 ≤ 16005; omega), E317, E322, E323, E324, E325, (Or.inr ⟨(by show ov_WT (h312 96); rw [show h312 96 = h259 96 from E318]; exact ov_WT_of xw (fun j a b => xk j a (by omega))), (by show ov_CD (h312 96) (h312 97) (h312 98); rw [show h312 96 = h259 96 from E318, show h312 97 = h281 97 from E319, show h312 98 = h281 98 from E320]; exact ov_CD_of (xc (by omega)) (by omega) x348.2 (fun j a b => xk j a (by omega)) (fun j a b => xg j a (by omega))), (by show (h312 100 0) = 0; omega), (by show (h312 90 22) = h 90 22 + 1; omega)⟩)⟩
                      · skip
                        refine ov_blk (ls2 := [(0, ov_r 90), (1, ov_i x1_)]) (st2 := [ov_r 90]) (pc2 := 153) b_205_152_1 rfl rfl ?_
                        refine ov_getf (v := ov_r 97) d_205_153 fl_Mo_84 (zb_90 I282) (zs_90 I282) (congrArg ov_r (rg_90_11 I282)) ?_
                        refine ov_blk (ls2 := [(0, ov_r 90), (1, ov_i x1_)]) (st2 := [ov_r 90, ov_i x1_, ov_r 97]) (pc2 := 158) b_205_156_2 rfl rfl ?_
                        refine ov_getf (v := ov_r 97) d_205_158 fl_Mo_84 (zb_90 I282) (zs_90 I282) (congrArg ov_r (rg_90_11 I282)) ?_
                        refine ov_blk (ls2 := [(0, ov_r 90), (1, ov_i x1_)]) (st2 := [ov_i (1100 + x1_), ov_r 97, ov_i x1_, ov_r 97]) (pc2 := 166) b_205_161_3 rfl rfl ?_
                        refine ov_iald d_205_166 (zb_97 I282) (zs_97 I282) (by omega) ?_
                        have g327 := ra_97 I282 (1100 + x1_)
                        refine ov_iast d_205_167 (zb_97 I282) (zs_97 I282) (by omega) ?_
                        have I328 := ua_97 (k := x1_) (x := (h281 97 (1100 + x1_))) I282 (by omega)
                        refine ov_blk (ls2 := [(0, ov_r 90), (1, ov_i x1_)]) (st2 := [ov_r 90]) (pc2 := 169) b_205_168_1 rfl rfl ?_
                        refine ov_getf (v := ov_r 98) d_205_169 fl_Mo_87 (zb_90 I328) (zs_90 I328) (congrArg ov_r (rg_90_12 I328)) ?_
                        refine ov_blk (ls2 := [(0, ov_r 90), (1, ov_i x1_)]) (st2 := [ov_r 90, ov_i x1_, ov_r 98]) (pc2 := 174) b_205_172_2 rfl rfl ?_
                        refine ov_getf (v := ov_r 98) d_205_174 fl_Mo_87 (zb_90 I328) (zs_90 I328) (congrArg ov_r (rg_90_12 I328)) ?_
                        refine ov_blk (ls2 := [(0, ov_r 90), (1, ov_i x1_)]) (st2 := [ov_i (1100 + x1_), ov_r 98, ov_i x1_, ov_r 98]) (pc2 := 182) b_205_177_3 rfl rfl ?_
                        refine ov_iald d_205_182 (zb_98 I328) (zs_98 I328) (by omega) ?_
                        show ov_R u d ov_m205 183 [(0, ov_r 90), (1, ov_i x1_)] [ov_i (h281 98 (1100 + x1_)), ov_i x1_, ov_r 98] z280 (ov_up h281 97 x1_ (h281 97 (1100 + x1_))) (P_Mo_town_90 F z h)
                        have g329 := ra_98 I282 (1100 + x1_)
                        refine ov_iast d_205_183 (zb_98 I328) (zs_98 I328) (by omega) ?_
                        have I330 := ua_98 (k := x1_) (x := (h281 98 (1100 + x1_))) I328 (by omega)
                        refine ov_blk (ls2 := [(0, ov_r 90), (1, ov_i (x1_ + 1))]) (st2 := []) (pc2 := 187) b_205_184_1 rfl rfl ?_
                        refine ov_goto (tgt := 144) d_205_187 (by decide) ?_
                        exact ih277 (x1_ + 1) _ _ I330 E283 E284 E285 E286 E287 E288 E289 E290 E291 E292 E293 E294 (fun j a b => if e : j = x1_ then (by rw [e]; exact ⟨by show ov_up h281 97 x1_ _ 97 x1_ = _; rw [ov_up_row, ov_rs_eq]; exact (xh _ (by omega)).1, by show ov_up _ 98 x1_ _ 98 x1_ = _; rw [ov_up_row, ov_rs_eq]; exact (xh _ (by omega)).2⟩) else (by exact ⟨by show ov_up h281 97 x1_ _ 97 j = _; rw [ov_up_j e]; exact (xg j a (by omega)).1, by show ov_up _ 98 x1_ _ 98 j = _; rw [ov_up_j e]; exact (xg j a (by omega)).2⟩)) (fun j a => ⟨by show ov_up h281 97 x1_ _ 97 j = _; rw [ov_up_j (by omega)]; exact (xh j a).1, by show ov_up _ 98 x1_ _ 98 j = _; rw [ov_up_j (by omega)]; exact (xh j a).2⟩) (by show 0 ≤ (x1_ + 1) ∧ (x1_ + 1) ≤ 1000 ∧ (h281 90 2) = (h259 90 2) ∧ (h281 90 7) = (h259 90 7) ∧ (h281 90 8) = (h259 90 8) ∧ (h281 90 13) = (h259 90 13) ∧ (h281 90 20) = (h259 90 20) ∧ (h281 90 22) = (h259 90 22) ∧ (h281 90 25) = (h259 90 25) ∧ (h281 90 26) = (h259 90 26) ∧ (h281 90 28) = (h259 90 28) ∧ (h281 90 29) = (h259 90 29) ∧ (h281 90 30) = (h259 90 30) ∧ (h281 90 34) = (h259 90 34); omega) (by omega)
                  exact L279 1001 0 _ _ I260 E261 E262 E263 E264 rfl E267 E268 E269 E270 E271 E272 E273 (fun j a b => by omega) (fun j a => ⟨congrFun E265 j, congrFun E266 j⟩) (by show 0 ≤ 0 ∧ 0 ≤ 1000 ∧ (h259 90 2) = (h259 90 2) ∧ (h259 90 7) = (h259 90 7) ∧ (h259 90 8) = (h259 90 8) ∧ (h259 90 13) = (h259 90 13) ∧ (h259 90 20) = (h259 90 20) ∧ (h259 90 22) = (h259 90 22) ∧ (h259 90 25) = (h259 90 25) ∧ (h259 90 26) = (h259 90 26) ∧ (h259 90 28) = (h259 90 28) ∧ (h259 90 29) = (h259 90 29) ∧ (h259 90 30) = (h259 90 30) ∧ (h259 90 34) = (h259 90 34); omega) (by omega)
                · skip
                  have xe0 : x1 = 0 → h259 96 (340 + x1) = h231 96 340 := fun e => by rw [xl _ (by omega), e]; rfl
                  have xe1 : x1 = 1 → h259 96 (340 + x1) = h231 96 341 := fun e => by rw [xl _ (by omega), e]; rfl
                  have xe2 : x1 = 2 → h259 96 (340 + x1) = h231 96 342 := fun e => by rw [xl _ (by omega), e]; rfl
                  have xe9 : x1 = 9 → h259 96 (340 + x1) = h231 96 349 := fun e => by rw [xl _ (by omega), e]; rfl
                  refine ov_blk (ls2 := [(0, ov_r 90), (1, ov_i x1)]) (st2 := [ov_r 90]) (pc2 := 121) b_205_120_1 rfl rfl ?_
                  refine ov_getf (v := ov_r 96) d_205_121 fl_Mo_81 (zb_90 I260) (zs_90 I260) (congrArg ov_r (rg_90_10 I260)) ?_
                  refine ov_blk (ls2 := [(0, ov_r 90), (1, ov_i x1)]) (st2 := [ov_r 90, ov_i x1, ov_r 96]) (pc2 := 126) b_205_124_2 rfl rfl ?_
                  refine ov_getf (v := ov_r 96) d_205_126 fl_Mo_81 (zb_90 I260) (zs_90 I260) (congrArg ov_r (rg_90_10 I260)) ?_
                  refine ov_blk (ls2 := [(0, ov_r 90), (1, ov_i x1)]) (st2 := [ov_i (340 + x1), ov_r 96, ov_i x1, ov_r 96]) (pc2 := 134) b_205_129_3 rfl rfl ?_
                  refine ov_iald d_205_134 (zb_96 I260) (zs_96 I260) (by omega) ?_
                  have g331 := g96 I260 (340 + x1)
                  refine ov_iast d_205_135 (zb_96 I260) (zs_96 I260) (by omega) ?_
                  have I332 := ov_cp96 (k := x1) I260 (by omega) (by omega)
                  refine ov_blk (ls2 := [(0, ov_r 90), (1, ov_i (x1 + 1))]) (st2 := []) (pc2 := 139) b_205_136_1 rfl rfl ?_
                  refine ov_goto (tgt := 113) d_205_139 (by decide) ?_
                  exact ih255 (x1 + 1) _ _ I332 E261 E262 E263 E264 E265 E266 E267 E268 E269 E270 E271 E272 E273 (fun j a b => if e : j = x1 then (by rw [e, ov_up_row, ov_rs_eq]; exact xl _ (by omega)) else (by rw [ov_up_j e]; exact xk j a (by omega))) (fun j a => by rw [ov_up_j (by omega)]; exact xl j a) (by show 0 ≤ (x1 + 1) ∧ (x1 + 1) ≤ 340 ∧ (h259 90 2) = (h231 90 2) ∧ (h259 90 7) = (h231 90 7) ∧ (h259 90 8) = (h231 90 8) ∧ (h259 90 13) = (h231 90 13) ∧ (h259 90 20) = (h231 90 20) ∧ (h259 90 22) = (h231 90 22) ∧ (h259 90 25) = (h231 90 25) ∧ (h259 90 26) = (h231 90 26) ∧ (h259 90 28) = (h231 90 28) ∧ (h259 90 29) = (h231 90 29) ∧ (h259 90 30) = (h231 90 30) ∧ (h259 90 34) = (h231 90 34); omega) (by omega)
            exact L257 341 0 _ _ I232 E233 E234 E235 E236 rfl rfl rfl E237 E238 E239 E240 E241 E242 (fun j a b => by omega) (fun j a => rfl) (by show 0 ≤ 0 ∧ 0 ≤ 340 ∧ (h231 90 2) = (h231 90 2) ∧ (h231 90 7) = (h231 90 7) ∧ (h231 90 8) = (h231 90 8) ∧ (h231 90 13) = (h231 90 13) ∧ (h231 90 20) = (h231 90 20) ∧ (h231 90 22) = (h231 90 22) ∧ (h231 90 25) = (h231 90 25) ∧ (h231 90 26) = (h231 90 26) ∧ (h231 90 28) = (h231 90 28) ∧ (h231 90 29) = (h231 90 29) ∧ (h231 90 30) = (h231 90 30) ∧ (h231 90 34) = (h231 90 34); omega) (by omega)
          · omega
        · skip
          have qn : (h231 90 7) = n → h16 92 (h231 90 7) = h16 92 n := fun e => by rw [e]
          refine ov_blk (ls2 := [(0, ov_r 90)]) (st2 := [ov_r 90]) (pc2 := 87) b_205_86_1 rfl rfl ?_
          have cf333 : h231 92 (n) = h16 92 (n) := congrFun E233 (n)
          refine ov_cV (as := []) (st := []) (d2 := d - 1) d_205_87 lk_Mo_217 rfl (Nat.le_of_ble_eq_true rfl) (c := 1) (zb_90 I232) (zs_90 I232) ⟨by decide, rfl⟩ (by omega) (c_Mo_readLine_90 n (d - 1) (by omega) U I232 (by show 0 ≤ n ∧ n ≤ 1000 ∧ (h231 92 (n)) = 0 ∧ (h231 90 7) ≤ n; omega) (by show (h231 90 13) ≤ (h231 90 7); omega) (by show (h231 90 8) = 0; omega) (by show (h231 90 7) < n; omega)) ?_
          rintro _ z348 h349 ⟨rfl, I350, f334, e335, e336, e337, e338, e339, e340, e341, e342, e343, e344, y345, y346, y347⟩
          have E351 : h349 92 = h16 92 := Eq.trans e335 E233
          have E352 : h349 93 = h16 93 := Eq.trans e336 E234
          have E353 : h349 94 = h16 94 := Eq.trans e337 E235
          have E354 : h349 95 = h 95 := Eq.trans e338 E236
          have E355 : h349 100 = h 100 := Eq.trans e339 E237
          have E356 : h349 103 = h 103 := Eq.trans e340 E238
          have E357 : h349 105 = h 105 := Eq.trans e341 E239
          have E358 : h349 106 = h 106 := Eq.trans e342 E240
          have E359 : h349 109 = h 109 := Eq.trans e343 E241
          have E360 : h349 114 = h 114 := Eq.trans e344 E242
          show ov_R u d ov_m205 90 [(0, ov_r 90)] [] z348 h349 (P_Mo_town_90 F z h)
          have f361 : (h349 90 2) = (h231 90 2) ∧ (h349 90 20) = (h231 90 20) ∧ (h349 90 22) = (h231 90 22) ∧ (h349 90 25) = (h231 90 25) ∧ (h349 90 26) = (h231 90 26) ∧ (h349 90 28) = (h231 90 28) ∧ (h349 90 29) = (h231 90 29) ∧ (h349 90 30) = (h231 90 30) ∧ (h349 90 34) = (h231 90 34) ∧ (h231 90 7) ≤ (h349 90 7) ∧ (h349 90 7) ≤ n ∧ (h231 90 13) ≤ (h349 90 13) ∧ (h349 90 13) - (h231 90 13) ≤ (h349 90 7) - (h231 90 7) ∧ (h349 96 340) = (h231 96 340) ∧ (h349 96 341) = (h231 96 341) ∧ ((h349 90 8) = 0 → 1 ≤ (h231 96 342) → 1 ≤ (h349 96 342)) ∧ (1 ≤ (h231 96 349) → 1 ≤ (h349 96 349)) := f334
          clear f334
          have y345_ : ov_MK (h231 96) (h231 97) (h231 98) (h349 96) (h349 97) (h349 98) := y345
          have y346_ : ov_WS (h231 96) → ov_WS (h349 96) := y346
          have y347_ : (h349 90 8) = 0 → ov_CS (h231 96) (h231 97) (h231 98) (h231 90 13) → ov_CS (h349 96) (h349 97) (h349 98) (h349 90 13) := y347
          refine ov_blk (ls2 := [(0, ov_r 90)]) (st2 := [ov_i 59, ov_r 90]) (pc2 := 93) b_205_90_2 rfl rfl ?_
          have cf362 : h349 92 (n) = h16 92 (n) := congrFun E351 (n)
          refine ov_cV (as := [ov_i 59]) (st := []) (d2 := d - 1) d_205_93 lk_Mo_214 rfl (Nat.le_of_ble_eq_true rfl) (c := 1) (zb_90 I350) (zs_90 I350) ⟨by decide, rfl⟩ (by omega) (c_Mo_takeSign_90 n (d - 1) (by omega) U I350 59 (by omega) (by show 0 ≤ n ∧ n ≤ 1000 ∧ (h349 92 (n)) = 0 ∧ (h349 90 7) ≤ n; omega)) ?_
          rintro _ z378 h379 ⟨rfl, I380, f363, e364, e365, e366, e367, e368, e369, e370, e371, e372, e373, e374, e375, e376, e377⟩
          have E381 : h379 92 = h16 92 := Eq.trans e364 E351
          have E382 : h379 93 = h16 93 := Eq.trans e365 E352
          have E383 : h379 94 = h16 94 := Eq.trans e366 E353
          have E384 : h379 95 = h 95 := Eq.trans e367 E354
          have E385 : h379 96 = h349 96 := e368
          have E386 : h379 97 = h349 97 := e369
          have E387 : h379 98 = h349 98 := e370
          have E388 : h379 99 = h349 99 := e371
          have E389 : h379 100 = h 100 := Eq.trans e372 E355
          have E390 : h379 103 = h 103 := Eq.trans e373 E356
          have E391 : h379 105 = h 105 := Eq.trans e374 E357
          have E392 : h379 106 = h 106 := Eq.trans e375 E358
          have E393 : h379 109 = h 109 := Eq.trans e376 E359
          have E394 : h379 114 = h 114 := Eq.trans e377 E360
          show ov_R u d ov_m205 96 [(0, ov_r 90)] [] z378 h379 (P_Mo_town_90 F z h)
          have f395 : (h379 90 2) = (h349 90 2) ∧ (h379 90 13) = (h349 90 13) ∧ (h379 90 20) = (h349 90 20) ∧ (h379 90 22) = (h349 90 22) ∧ (h379 90 25) = (h349 90 25) ∧ (h379 90 26) = (h349 90 26) ∧ (h379 90 28) = (h349 90 28) ∧ (h379 90 29) = (h349 90 29) ∧ (h379 90 30) = (h349 90 30) ∧ (h379 90 34) = (h349 90 34) ∧ (h349 90 7) ≤ (h379 90 7) ∧ (h379 90 7) ≤ n ∧ (h349 90 8) ≤ (h379 90 8) ∧ (h349 90 7) < (h379 90 7) + (h379 90 8) := f363
          clear f363
          have km396 : ov_MK (h 96) (h 97) (h 98) (h379 96) (h379 97) (h379 98) := by rw [e368, e369, e370]; exact km219
          have kw397 : ov_WS (h379 96) := by rw [e368]; exact kw220
          refine ov_goto (tgt := 67) d_205_96 (by decide) ?_
          have bm : ov_MK (h 96) (h 97) (h 98) (h379 96) (h379 97) (h379 98) := by rw [show h379 96 = h349 96 from E385, show h379 97 = h349 97 from E386, show h379 98 = h349 98 from E387]; exact ov_MK_trans xm y345_
          have bw : ov_WS (h379 96) := by rw [show h379 96 = h349 96 from E385]; exact y346_ xw
          have bc : (h379 90 8) = 0 → ov_CS (h379 96) (h379 97) (h379 98) (h379 90 13) := fun e => by rw [show h379 96 = h349 96 from E385, show h379 97 = h349 97 from E386, show h379 98 = h349 98 from E387]; rw [show (h379 90 13) = h349 90 13 by omega]; exact y347_ (by omega) (xc (by omega))
          exact ih227  _ _ I380 E381 E382 E383 E384 E389 E390 E391 E392 E393 E394 bm bw bc (by have cf398 : h379 96 340 = h349 96 340 := congrFun E385 340; have cf399 : h379 96 341 = h349 96 341 := congrFun E385 341; have cf400 : h379 96 342 = h349 96 342 := congrFun E385 342; have cf401 : h379 96 349 = h349 96 349 := congrFun E385 349; show 0 ≤ (h379 90 7) ∧ (h379 90 7) ≤ n ∧ (h379 90 13) ≤ (h379 90 7) ∧ ((h379 90 8) = 0 → 1 ≤ (h379 96 340) ∧ 1 ≤ (h379 96 341) ∧ 1 ≤ (h379 96 342)) ∧ 1 ≤ (h379 96 349) ∧ (h379 90 2) = (h203 90 2) ∧ (h379 90 20) = (h203 90 20) ∧ (h379 90 22) = (h203 90 22) ∧ (h379 90 25) = (h203 90 25) ∧ (h379 90 26) = (h203 90 26) ∧ (h379 90 28) = (h203 90 28) ∧ (h379 90 29) = (h203 90 29) ∧ (h379 90 30) = (h203 90 30) ∧ (h379 90 34) = (h203 90 34); omega) (by omega)
  exact L229 1002  _ _ I204 E205 E206 E207 E208 E212 E213 E214 E215 E216 E217 km219 kw220 (fun _ r a b => by exfalso; have q : r < (h203 96 348) := b; omega) (by show 0 ≤ (h203 90 7) ∧ (h203 90 7) ≤ n ∧ (h203 90 13) ≤ (h203 90 7) ∧ ((h203 90 8) = 0 → 1 ≤ (h203 96 340) ∧ 1 ≤ (h203 96 341) ∧ 1 ≤ (h203 96 342)) ∧ 1 ≤ (h203 96 349) ∧ (h203 90 2) = (h203 90 2) ∧ (h203 90 20) = (h203 90 20) ∧ (h203 90 22) = (h203 90 22) ∧ (h203 90 25) = (h203 90 25) ∧ (h203 90 26) = (h203 90 26) ∧ (h203 90 28) = (h203 90 28) ∧ (h203 90 29) = (h203 90 29) ∧ (h203 90 30) = (h203 90 30) ∧ (h203 90 34) = (h203 90 34); omega) (by omega)

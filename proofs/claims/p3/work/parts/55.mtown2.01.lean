abbrev P_Mo_town_90 (F : ov_H × ov_Z) (z : ov_Z) (h : ov_H) : Option ov_V → ov_Z → ov_H → Prop := fun r0 z' h' => ∃ r : Int, r0 = some (ov_i r) ∧ ov_N F z' h' ∧ ((h' 90 25) = (h 90 25) ∧ (h' 90 26) = (h 90 26) ∧ (h' 90 28) = (h 90 28) ∧ (h' 90 29) = (h 90 29) ∧ (h' 90 30) = (h 90 30) ∧ (h' 90 34) = (h 90 34) ∧ 0 ≤ r ∧ r ≤ 16005 ∧ (h' 90 2) = 0) ∧ h' 91 = h 91 ∧ h' 95 = h 95 ∧ h' 105 = h 105 ∧ h' 106 = h 106 ∧ h' 109 = h 109 ∧ h' 114 = h 114 ∧ ((ov_MK (h 96) (h 97) (h 98) (h' 96) (h' 97) (h' 98) ∧ (h' 100) = (h 100) ∧ (h' 103) = (h 103) ∧ (h' 90 22) = (h 90 22)) ∨ (ov_WT (h' 96) ∧ ov_CD (h' 96) (h' 97) (h' 98) ∧ (h' 100 0) = 0 ∧ (h' 90 22) = (h 90 22) + 1))
set_option maxHeartbeats 4000000 in
theorem c_Mo_town_90 {u : ov_U} {F : ov_H × ov_Z} {z : ov_Z} {h : ov_H} (d : Nat) (hd : 60 ≤ d) (U : ov_cap u) (I : ov_N F z h) (p0 : 0 ≤ ov_bd F ∧ ov_bd F ≤ 800000000) (p1 : 0 ≤ (h 90 22) ∧ (h 90 22) ≤ 2000000000) : ov_T u d ov_m205 [ov_r 90] z h (P_Mo_town_90 F z h) := by
  refine ov_en rfl (Nat.le_of_ble_eq_true rfl) ?_
  show ov_R u d ov_m205 0 [(0, ov_r 90)] [] z h (P_Mo_town_90 F z h)
  refine ov_blk (ls2 := [(0, ov_r 90)]) (st2 := [ov_i 0, ov_r 90]) (pc2 := 2) b_205_0_2 rfl rfl ?_
  refine ov_putf (x := 0) d_205_2 fl_Mo_1 (zb_90 I) (zs_90 I) rfl nk_0 rfl ?_
  have I1 := up_90_0 (x := 0) I (by omega)
  refine ov_blk (ls2 := [(0, ov_r 90)]) (st2 := [ov_r 90]) (pc2 := 6) b_205_5_1 rfl rfl ?_
  refine ov_cV (as := []) (st := []) (d2 := d - 1) d_205_6 lk_Mo_205 rfl (Nat.le_of_ble_eq_true rfl) (c := 1) (zb_90 I1) (zs_90 I1) ⟨by decide, rfl⟩ (by omega) (c_Mo_cutAll_90 (d - 1) (by omega) U I1) ?_
  rintro _ z16 h17 ⟨rfl, I18, f2, e3, e4, e5, e6, e7, e8, e9, e10, e11, e12, e13, e14, y15⟩
  have E19 : h17 91 = h 91 := e3
  have E20 : h17 95 = h 95 := e4
  have E21 : h17 96 = h 96 := e5
  have E22 : h17 97 = h 97 := e6
  have E23 : h17 98 = h 98 := e7
  have E24 : h17 99 = h 99 := e8
  have E25 : h17 100 = h 100 := e9
  have E26 : h17 103 = h 103 := e10
  have E27 : h17 105 = h 105 := e11
  have E28 : h17 106 = h 106 := e12
  have E29 : h17 109 = h 109 := e13
  have E30 : h17 114 = h 114 := e14
  show ov_R u d ov_m205 9 [(0, ov_r 90)] [] z16 h17 (P_Mo_town_90 F z h)
  have f31 : (h17 90 13) = (h 90 13) ∧ (h17 90 20) = (h 90 20) ∧ (h17 90 22) = (h 90 22) ∧ (h17 90 25) = (h 90 25) ∧ (h17 90 26) = (h 90 26) ∧ (h17 90 28) = (h 90 28) ∧ (h17 90 29) = (h 90 29) ∧ (h17 90 30) = (h 90 30) ∧ (h17 90 34) = (h 90 34) ∧ (h17 90 7) = 0 ∧ (h17 90 8) = 0 ∧ (h17 90 2) = 0 := f2
  clear f2
  have y15_ : ∃ n : Int, 0 ≤ n ∧ n ≤ 1000 ∧ (h17 92) n = 0 := y15
  obtain ⟨n, hn0, hn1, hn2⟩ := y15_
  refine ov_blk (ls2 := [(0, ov_r 90)]) (st2 := [ov_i 0, ov_r 90]) (pc2 := 11) b_205_9_2 rfl rfl ?_
  refine ov_putf (x := 0) d_205_11 fl_Mo_208 (zb_90 I18) (zs_90 I18) rfl nk_0 rfl ?_
  have I32 := up_90_13 (x := 0) I18 (by omega)
  refine ov_blk (ls2 := [(0, ov_r 90)]) (st2 := [ov_i 0, ov_r 90]) (pc2 := 16) b_205_14_2 rfl rfl ?_
  refine ov_putf (x := 0) d_205_16 fl_Mo_211 (zb_90 I32) (zs_90 I32) rfl nk_0 rfl ?_
  have I33 := up_90_15 (x := 0) I32 (by omega)
  refine ov_blk (ls2 := [(0, ov_r 90)]) (st2 := [ov_i 340, ov_r 90]) (pc2 := 23) b_205_19_2 rfl rfl ?_
  refine ov_cV (as := [ov_i 340]) (st := []) (d2 := d - 1) d_205_23 lk_Mo_147 rfl (Nat.le_of_ble_eq_true rfl) (c := 1) (zb_90 I33) (zs_90 I33) ⟨by decide, rfl⟩ (by omega) (c_Mo_standsAsAlways_90 (d - 1) (by omega) U I33 340 (by omega) (by omega)) ?_
  rintro _ z51 h52 ⟨rfl, I53, f34, e35, e36, e37, e38, e39, e40, e41, e42, e43, e44, e45, e46, e47, e48, y49, y50⟩
  have E54 : h52 91 = h 91 := Eq.trans e35 E19
  have E55 : h52 92 = h17 92 := e36
  have E56 : h52 93 = h17 93 := e37
  have E57 : h52 94 = h17 94 := e38
  have E58 : h52 95 = h 95 := Eq.trans e39 E20
  have E59 : h52 97 = h 97 := Eq.trans e40 E22
  have E60 : h52 98 = h 98 := Eq.trans e41 E23
  have E61 : h52 99 = h 99 := Eq.trans e42 E24
  have E62 : h52 100 = h 100 := Eq.trans e43 E25
  have E63 : h52 103 = h 103 := Eq.trans e44 E26
  have E64 : h52 105 = h 105 := Eq.trans e45 E27
  have E65 : h52 106 = h 106 := Eq.trans e46 E28
  have E66 : h52 109 = h 109 := Eq.trans e47 E29
  have E67 : h52 114 = h 114 := Eq.trans e48 E30
  show ov_R u d ov_m205 26 [(0, ov_r 90)] [] z51 h52 (P_Mo_town_90 F z h)
  have f68 : (h52 90 2) = (h17 90 2) ∧ (h52 90 7) = (h17 90 7) ∧ (h52 90 8) = (h17 90 8) ∧ (h52 90 13) = 0 ∧ (h52 90 20) = (h17 90 20) ∧ (h52 90 22) = (h17 90 22) ∧ (h52 90 25) = (h17 90 25) ∧ (h52 90 26) = (h17 90 26) ∧ (h52 90 28) = (h17 90 28) ∧ (h52 90 29) = (h17 90 29) ∧ (h52 90 30) = (h17 90 30) ∧ (h52 90 34) = (h17 90 34) ∧ (h52 96 348) = 0 ∧ (h52 96 342) = 10 ∧ (h52 96 349) = 1 := f34
  clear f34
  rw [show (ov_up (ov_up h17 90 13 0) 90 15 0) 96 = h 96 from E21] at y49
  have y49_ : ∀ j : Int, j < 340 → (h52 96) j = (h 96) j := y49
  have y50_ : ov_WS (h52 96) := y50
  have km69 : ov_MK (h 96) (h 97) (h 98) (h52 96) (h52 97) (h52 98) := ⟨y49_, fun j _ => congrFun E59 j, fun j _ => congrFun E60 j⟩
  refine ov_blk (ls2 := [(0, ov_r 90)]) (st2 := [ov_i 0, ov_r 90]) (pc2 := 28) b_205_26_2 rfl rfl ?_
  have cf70 : h52 92 (n) = h17 92 (n) := congrFun E55 (n)
  refine ov_cV (as := [ov_i 0]) (st := []) (d2 := d - 1) d_205_28 lk_Mo_195 rfl (Nat.le_of_ble_eq_true rfl) (c := 1) (zb_90 I53) (zs_90 I53) ⟨by decide, rfl⟩ (by omega) (c_Mo_takeWord_90 n (d - 1) (by omega) U I53 0 (by omega) (by show 0 ≤ n ∧ n ≤ 1000 ∧ (h52 92 (n)) = 0 ∧ (h52 90 7) ≤ n; omega) (by omega)) ?_
  rintro _ z87 h88 ⟨rfl, I89, f71, e72, e73, e74, e75, e76, e77, e78, e79, e80, e81, e82, e83, e84, e85, e86⟩
  have E90 : h88 91 = h 91 := Eq.trans e72 E54
  have E91 : h88 92 = h17 92 := Eq.trans e73 E55
  have E92 : h88 93 = h17 93 := Eq.trans e74 E56
  have E93 : h88 94 = h17 94 := Eq.trans e75 E57
  have E94 : h88 95 = h 95 := Eq.trans e76 E58
  have E95 : h88 96 = h52 96 := e77
  have E96 : h88 97 = h 97 := Eq.trans e78 E59
  have E97 : h88 98 = h 98 := Eq.trans e79 E60
  have E98 : h88 99 = h 99 := Eq.trans e80 E61
  have E99 : h88 100 = h 100 := Eq.trans e81 E62
  have E100 : h88 103 = h 103 := Eq.trans e82 E63
  have E101 : h88 105 = h 105 := Eq.trans e83 E64
  have E102 : h88 106 = h 106 := Eq.trans e84 E65
  have E103 : h88 109 = h 109 := Eq.trans e85 E66
  have E104 : h88 114 = h 114 := Eq.trans e86 E67
  show ov_R u d ov_m205 31 [(0, ov_r 90)] [] z87 h88 (P_Mo_town_90 F z h)
  have f105 : (h88 90 2) = (h52 90 2) ∧ (h88 90 13) = (h52 90 13) ∧ (h88 90 20) = (h52 90 20) ∧ (h88 90 22) = (h52 90 22) ∧ (h88 90 25) = (h52 90 25) ∧ (h88 90 26) = (h52 90 26) ∧ (h88 90 28) = (h52 90 28) ∧ (h88 90 29) = (h52 90 29) ∧ (h88 90 30) = (h52 90 30) ∧ (h88 90 34) = (h52 90 34) ∧ (h52 90 7) ≤ (h88 90 7) ∧ (h88 90 7) ≤ n ∧ (h52 90 8) ≤ (h88 90 8) := f71
  clear f71
  have km106 : ov_MK (h 96) (h 97) (h 98) (h88 96) (h88 97) (h88 98) := by rw [e77, e78, e79]; exact km69
  have kw107 : ov_WS (h88 96) := by rw [e77]; exact y50_
  refine ov_blk (ls2 := [(0, ov_r 90)]) (st2 := [ov_r 90]) (pc2 := 32) b_205_31_1 rfl rfl ?_
  refine ov_getf (v := ov_r 96) d_205_32 fl_Mo_81 (zb_90 I89) (zs_90 I89) (congrArg ov_r (rg_90_10 I89)) ?_
  refine ov_blk (ls2 := [(0, ov_r 90)]) (st2 := [ov_i 6, ov_i 1, ov_r 90, ov_i 340, ov_r 96]) (pc2 := 42) b_205_35_4 rfl rfl ?_
  have cf108 : h88 92 (n) = h17 92 (n) := congrFun E91 (n)
  refine ov_cV (as := [ov_i 1, ov_i 6]) (st := [ov_i 340, ov_r 96]) (d2 := d - 1) d_205_42 lk_Mo_198 rfl (Nat.le_of_ble_eq_true rfl) (c := 1) (zb_90 I89) (zs_90 I89) ⟨by decide, rfl⟩ (by omega) (c_Mo_takeNumber_90 n (d - 1) (by omega) U I89 1 6 (by omega) (by omega) (by show 0 ≤ n ∧ n ≤ 1000 ∧ (h88 92 (n)) = 0 ∧ (h88 90 7) ≤ n; omega)) ?_
  rintro _ z126 h127 ⟨v110, rfl, I128, f109, e111, e112, e113, e114, e115, e116, e117, e118, e119, e120, e121, e122, e123, e124, e125⟩
  have E129 : h127 91 = h 91 := Eq.trans e111 E90
  have E130 : h127 92 = h17 92 := Eq.trans e112 E91
  have E131 : h127 93 = h17 93 := Eq.trans e113 E92
  have E132 : h127 94 = h17 94 := Eq.trans e114 E93
  have E133 : h127 95 = h 95 := Eq.trans e115 E94
  have E134 : h127 96 = h52 96 := Eq.trans e116 E95
  have E135 : h127 97 = h 97 := Eq.trans e117 E96
  have E136 : h127 98 = h 98 := Eq.trans e118 E97
  have E137 : h127 99 = h 99 := Eq.trans e119 E98
  have E138 : h127 100 = h 100 := Eq.trans e120 E99
  have E139 : h127 103 = h 103 := Eq.trans e121 E100
  have E140 : h127 105 = h 105 := Eq.trans e122 E101
  have E141 : h127 106 = h 106 := Eq.trans e123 E102
  have E142 : h127 109 = h 109 := Eq.trans e124 E103
  have E143 : h127 114 = h 114 := Eq.trans e125 E104
  show ov_R u d ov_m205 45 [(0, ov_r 90)] [ov_i v110, ov_i 340, ov_r 96] z126 h127 (P_Mo_town_90 F z h)
  have f144 : (h127 90 2) = (h88 90 2) ∧ (h127 90 13) = (h88 90 13) ∧ (h127 90 20) = (h88 90 20) ∧ (h127 90 22) = (h88 90 22) ∧ (h127 90 25) = (h88 90 25) ∧ (h127 90 26) = (h88 90 26) ∧ (h127 90 28) = (h88 90 28) ∧ (h127 90 29) = (h88 90 29) ∧ (h127 90 30) = (h88 90 30) ∧ (h127 90 34) = (h88 90 34) ∧ (h88 90 7) ≤ (h127 90 7) ∧ (h127 90 7) ≤ n ∧ (h88 90 8) ≤ (h127 90 8) ∧ ((h127 90 8) = 0 → (1 : Int) ≤ v110 ∧ v110 ≤ (6 : Int)) ∧ (0 < (h127 90 8) → v110 = 0) ∧ (h88 90 7) < (h127 90 7) + (h127 90 8) := f109
  clear f109
  have km145 : ov_MK (h 96) (h 97) (h 98) (h127 96) (h127 97) (h127 98) := by rw [e116, e117, e118]; exact km106
  have kw146 : ov_WS (h127 96) := by rw [e116]; exact kw107
  refine ov_iast d_205_45 (zb_96 I128) (zs_96 I128) (by omega) ?_
  have I147 := ua_96 (k := 340) (x := v110) I128 (by refine ⟨?_, ?_, ?_, ?_, ?_, ?_, ?_, ?_, ?_, ?_, ?_, ?_, ?_, ?_, ?_, ?_, ?_, ?_, ?_, ?_, ?_, ?_, ?_, ?_, ?_, ?_, ?_, ?_, ?_⟩ <;> omega)
  have km148 : ov_MK (h 96) (h 97) (h 98) ((ov_up h127 96 340 v110) 96) ((ov_up h127 96 340 v110) 97) ((ov_up h127 96 340 v110) 98) := by rw [ov_up_row]; exact ov_MK_1 km145 (by decide)
  have kw149 : ov_WS ((ov_up h127 96 340 v110) 96) := by rw [ov_up_row]; exact ov_WS_o kw146 (by decide)
  refine ov_blk (ls2 := [(0, ov_r 90)]) (st2 := [ov_r 90]) (pc2 := 47) b_205_46_1 rfl rfl ?_
  refine ov_getf (v := ov_r 96) d_205_47 fl_Mo_81 (zb_90 I147) (zs_90 I147) (congrArg ov_r (rg_90_10 I147)) ?_
  refine ov_blk (ls2 := [(0, ov_r 90)]) (st2 := [ov_i 9, ov_i 1, ov_r 90, ov_i 341, ov_r 96]) (pc2 := 57) b_205_50_4 rfl rfl ?_
  have cf150 : h127 92 (n) = h17 92 (n) := congrFun E130 (n)
  refine ov_cV (as := [ov_i 1, ov_i 9]) (st := [ov_i 341, ov_r 96]) (d2 := d - 1) d_205_57 lk_Mo_198 rfl (Nat.le_of_ble_eq_true rfl) (c := 1) (zb_90 I147) (zs_90 I147) ⟨by decide, rfl⟩ (by omega) (c_Mo_takeNumber_90 n (d - 1) (by omega) U I147 1 9 (by omega) (by omega) (by show 0 ≤ n ∧ n ≤ 1000 ∧ (h127 92 (n)) = 0 ∧ (h127 90 7) ≤ n; omega)) ?_
  rintro _ z168 h169 ⟨v152, rfl, I170, f151, e153, e154, e155, e156, e157, e158, e159, e160, e161, e162, e163, e164, e165, e166, e167⟩
  have E171 : h169 91 = h 91 := Eq.trans e153 E129
  have E172 : h169 92 = h17 92 := Eq.trans e154 E130
  have E173 : h169 93 = h17 93 := Eq.trans e155 E131
  have E174 : h169 94 = h17 94 := Eq.trans e156 E132
  have E175 : h169 95 = h 95 := Eq.trans e157 E133
  have E176 : h169 97 = h 97 := Eq.trans e159 E135
  have E177 : h169 98 = h 98 := Eq.trans e160 E136
  have E178 : h169 99 = h 99 := Eq.trans e161 E137
  have E179 : h169 100 = h 100 := Eq.trans e162 E138
  have E180 : h169 103 = h 103 := Eq.trans e163 E139
  have E181 : h169 105 = h 105 := Eq.trans e164 E140
  have E182 : h169 106 = h 106 := Eq.trans e165 E141
  have E183 : h169 109 = h 109 := Eq.trans e166 E142
  have E184 : h169 114 = h 114 := Eq.trans e167 E143
  show ov_R u d ov_m205 60 [(0, ov_r 90)] [ov_i v152, ov_i 341, ov_r 96] z168 h169 (P_Mo_town_90 F z h)
  have f185 : (h169 90 2) = (h127 90 2) ∧ (h169 90 13) = (h127 90 13) ∧ (h169 90 20) = (h127 90 20) ∧ (h169 90 22) = (h127 90 22) ∧ (h169 90 25) = (h127 90 25) ∧ (h169 90 26) = (h127 90 26) ∧ (h169 90 28) = (h127 90 28) ∧ (h169 90 29) = (h127 90 29) ∧ (h169 90 30) = (h127 90 30) ∧ (h169 90 34) = (h127 90 34) ∧ (h127 90 7) ≤ (h169 90 7) ∧ (h169 90 7) ≤ n ∧ (h127 90 8) ≤ (h169 90 8) ∧ ((h169 90 8) = 0 → (1 : Int) ≤ v152 ∧ v152 ≤ (9 : Int)) ∧ (0 < (h169 90 8) → v152 = 0) ∧ (h127 90 7) < (h169 90 7) + (h169 90 8) := f151
  clear f151
  have km186 : ov_MK (h 96) (h 97) (h 98) (h169 96) (h169 97) (h169 98) := by rw [e158, e159, e160]; exact km148
  have kw187 : ov_WS (h169 96) := by rw [e158]; exact kw149
  have lt188 : h169 96 340 = v110 := congrFun e158 340
  have lt189 : h127 96 340 = h52 96 340 := congrFun E134 340
  have lt190 : h169 96 341 = (h127 96 341) := congrFun e158 341
  have lt191 : h127 96 341 = h52 96 341 := congrFun E134 341
  have lt192 : h169 96 342 = (h127 96 342) := congrFun e158 342
  have lt193 : h127 96 342 = h52 96 342 := congrFun E134 342
  have lt194 : h169 96 348 = (h127 96 348) := congrFun e158 348
  have lt195 : h127 96 348 = h52 96 348 := congrFun E134 348
  have lt196 : h169 96 349 = (h127 96 349) := congrFun e158 349
  have lt197 : h127 96 349 = h52 96 349 := congrFun E134 349
  refine ov_iast d_205_60 (zb_96 I170) (zs_96 I170) (by omega) ?_
  have I198 := ua_96 (k := 341) (x := v152) I170 (by refine ⟨?_, ?_, ?_, ?_, ?_, ?_, ?_, ?_, ?_, ?_, ?_, ?_, ?_, ?_, ?_, ?_, ?_, ?_, ?_, ?_, ?_, ?_, ?_, ?_, ?_, ?_, ?_, ?_, ?_⟩ <;> omega)
  have km199 : ov_MK (h 96) (h 97) (h 98) ((ov_up h169 96 341 v152) 96) ((ov_up h169 96 341 v152) 97) ((ov_up h169 96 341 v152) 98) := by rw [ov_up_row]; exact ov_MK_1 km186 (by decide)
  have kw200 : ov_WS ((ov_up h169 96 341 v152) 96) := by rw [ov_up_row]; exact ov_WS_o kw187 (by decide)
  refine ov_blk (ls2 := [(0, ov_r 90)]) (st2 := [ov_i 59, ov_r 90]) (pc2 := 64) b_205_61_2 rfl rfl ?_
  have cf201 : h169 92 (n) = h17 92 (n) := congrFun E172 (n)
  refine ov_cV (as := [ov_i 59]) (st := []) (d2 := d - 1) d_205_64 lk_Mo_214 rfl (Nat.le_of_ble_eq_true rfl) (c := 1) (zb_90 I198) (zs_90 I198) ⟨by decide, rfl⟩ (by omega) (c_Mo_takeSign_90 n (d - 1) (by omega) U I198 59 (by omega) (by show 0 ≤ n ∧ n ≤ 1000 ∧ (h169 92 (n)) = 0 ∧ (h169 90 7) ≤ n; omega)) ?_
  rintro _ z218 h219 ⟨rfl, I220, f202, e203, e204, e205, e206, e207, e208, e209, e210, e211, e212, e213, e214, e215, e216, e217⟩
  have E221 : h219 91 = h 91 := Eq.trans e203 E171
  have E222 : h219 92 = h17 92 := Eq.trans e204 E172
  have E223 : h219 93 = h17 93 := Eq.trans e205 E173
  have E224 : h219 94 = h17 94 := Eq.trans e206 E174
  have E225 : h219 95 = h 95 := Eq.trans e207 E175
  have E226 : h219 97 = h 97 := Eq.trans e209 E176
  have E227 : h219 98 = h 98 := Eq.trans e210 E177
  have E228 : h219 99 = h 99 := Eq.trans e211 E178
  have E229 : h219 100 = h 100 := Eq.trans e212 E179
  have E230 : h219 103 = h 103 := Eq.trans e213 E180
  have E231 : h219 105 = h 105 := Eq.trans e214 E181
  have E232 : h219 106 = h 106 := Eq.trans e215 E182
  have E233 : h219 109 = h 109 := Eq.trans e216 E183
  have E234 : h219 114 = h 114 := Eq.trans e217 E184
  show ov_R u d ov_m205 67 [(0, ov_r 90)] [] z218 h219 (P_Mo_town_90 F z h)
  have f235 : (h219 90 2) = (h169 90 2) ∧ (h219 90 13) = (h169 90 13) ∧ (h219 90 20) = (h169 90 20) ∧ (h219 90 22) = (h169 90 22) ∧ (h219 90 25) = (h169 90 25) ∧ (h219 90 26) = (h169 90 26) ∧ (h219 90 28) = (h169 90 28) ∧ (h219 90 29) = (h169 90 29) ∧ (h219 90 30) = (h169 90 30) ∧ (h219 90 34) = (h169 90 34) ∧ (h169 90 7) ≤ (h219 90 7) ∧ (h219 90 7) ≤ n ∧ (h169 90 8) ≤ (h219 90 8) ∧ (h169 90 7) < (h219 90 7) + (h219 90 8) := f202
  clear f202
  have km236 : ov_MK (h 96) (h 97) (h 98) (h219 96) (h219 97) (h219 98) := by rw [e208, e209, e210]; exact km199
  have kw237 : ov_WS (h219 96) := by rw [e208]; exact kw200
  have lt238 : h219 96 340 = (h169 96 340) := congrFun e208 340
  have lt239 : h219 96 341 = v152 := congrFun e208 341
  have lt240 : h219 96 342 = (h169 96 342) := congrFun e208 342
  have lt241 : h219 96 348 = (h169 96 348) := congrFun e208 348
  have lt242 : h219 96 349 = (h169 96 349) := congrFun e208 349
  have L246 : ∀ (n243 : Nat) (z247 : ov_Z) (h248 : ov_H) (I249 : ov_N F z247 h248) (E250 : h248 91 = h 91) (E251 : h248 92 = h17 92) (E252 : h248 93 = h17 93) (E253 : h248 94 = h17 94) (E254 : h248 95 = h 95) (E255 : h248 100 = h 100) (E256 : h248 103 = h 103) (E257 : h248 105 = h 105) (E258 : h248 106 = h 106) (E259 : h248 109 = h 109) (E260 : h248 114 = h 114) (xm : ov_MK (h 96) (h 97) (h 98) (h248 96) (h248 97) (h248 98)) (xw : ov_WS (h248 96)) (xc : (h248 90 8) = 0 → ov_CS (h248 96) (h248 97) (h248 98) (h248 90 13)) (q245 : 0 ≤ (h248 90 7) ∧ (h248 90 7) ≤ n ∧ (h248 90 13) ≤ (h248 90 7) ∧ ((h248 90 8) = 0 → 1 ≤ (h248 96 340) ∧ 1 ≤ (h248 96 341) ∧ 1 ≤ (h248 96 342)) ∧ 1 ≤ (h248 96 349) ∧ (h248 90 2) = (h219 90 2) ∧ (h248 90 20) = (h219 90 20) ∧ (h248 90 22) = (h219 90 22) ∧ (h248 90 25) = (h219 90 25) ∧ (h248 90 26) = (h219 90 26) ∧ (h248 90 28) = (h219 90 28) ∧ (h248 90 29) = (h219 90 29) ∧ (h248 90 30) = (h219 90 30) ∧ (h248 90 34) = (h219 90 34)), 1001 - (h248 90 7) - min ((h248 90 8)) 1 < (n243 : Int) → ov_R u d ov_m205 67 [(0, ov_r 90)] [] z247 h248 (P_Mo_town_90 F z h) := by
    intro n243
    induction n243 with
    | zero =>
      intro  z247 h248 I249 E250 E251 E252 E253 E254 E255 E256 E257 E258 E259 E260 xm xw xc q245 hn261
      exact absurd hn261 (by omega)
    | succ n243 ih244 =>
      intro  z247 h248 I249 E250 E251 E252 E253 E254 E255 E256 E257 E258 E259 E260 xm xw xc q245 hn261
      refine ov_blk (ls2 := [(0, ov_r 90)]) (st2 := [ov_r 90]) (pc2 := 68) b_205_67_1 rfl rfl ?_
      refine ov_getf (v := ov_i (h248 90 8)) d_205_68 fl_Mo_180 (zb_90 I249) (zs_90 I249) rfl ?_
      have g262 := rg_90_8 I249
      refine ov_ifne (tgt := 99) d_205_71 (by decide) (by omega) (fun c263 => ?_) (fun c263 => ?_)
      · skip
        refine ov_blk (ls2 := [(0, ov_r 90)]) (st2 := [ov_r 90]) (pc2 := 100) b_205_99_1 rfl rfl ?_
        refine ov_getf (v := ov_i (h248 90 8)) d_205_100 fl_Mo_180 (zb_90 I249) (zs_90 I249) rfl ?_
        refine ov_ifle (tgt := 111) d_205_103 (by decide) (by omega) (fun c265 => ?_) (fun c265 => ?_)
        · omega
        · skip
          refine ov_blk (ls2 := [(0, ov_r 90)]) (st2 := [ov_r 90]) (pc2 := 107) b_205_106_1 rfl rfl ?_
          refine ov_getf (v := ov_i (h248 90 8)) d_205_107 fl_Mo_180 (zb_90 I249) (zs_90 I249) rfl ?_
          exact ov_reti (st := []) d_205_110 rfl ⟨_, rfl, I249, (by show (h248 90 25) = (h 90 25) ∧ (h248 90 26) = (h 90 26) ∧ (h248 90 28) = (h 90 28) ∧ (h248 90 29) = (h 90 29) ∧ (h248 90 30) = (h 90 30) ∧ (h248 90 34) = (h 90 34) ∧ 0 ≤ (h248 90 8) ∧ (h248 90 8) ≤ 16005 ∧ (h248 90 2) = 0; omega), E250, E254, E257, E258, E259, E260, (Or.inl ⟨(by show ov_MK (h 96) (h 97) (h 98) (h248 96) (h248 97) (h248 98); exact xm), E255, E256, (by show (h248 90 22) = h 90 22; omega)⟩)⟩
      · skip
        refine ov_blk (ls2 := [(0, ov_r 90)]) (st2 := [ov_r 90]) (pc2 := 75) b_205_74_1 rfl rfl ?_
        refine ov_getf (v := ov_r 92) d_205_75 fl_Mo_24 (zb_90 I249) (zs_90 I249) (congrArg ov_r (rg_90_4 I249)) ?_
        refine ov_blk (ls2 := [(0, ov_r 90)]) (st2 := [ov_r 90, ov_r 92]) (pc2 := 79) b_205_78_1 rfl rfl ?_
        refine ov_getf (v := ov_i (h248 90 7)) d_205_79 fl_Mo_177 (zb_90 I249) (zs_90 I249) rfl ?_
        have g267 := rg_90_7 I249
        refine ov_iald d_205_82 (zb_92 I249) (zs_92 I249) (by omega) ?_
        rw [show h248 92 = h17 92 from E251]
        have g268 := ra_92 I18 (h248 90 7)
        refine ov_ifeq (tgt := 99) d_205_83 (by decide) (by omega) (fun c269 => ?_) (fun c269 => ?_)
        · skip
          refine ov_blk (ls2 := [(0, ov_r 90)]) (st2 := [ov_r 90]) (pc2 := 100) b_205_99_1 rfl rfl ?_
          refine ov_getf (v := ov_i (h248 90 8)) d_205_100 fl_Mo_180 (zb_90 I249) (zs_90 I249) rfl ?_
          refine ov_ifle (tgt := 111) d_205_103 (by decide) (by omega) (fun c271 => ?_) (fun c271 => ?_)
          · skip
            have x348 := t96_348 I249
            refine ov_blk (ls2 := [(0, ov_r 90), (1, ov_i 0)]) (st2 := []) (pc2 := 113) b_205_111_2 rfl rfl ?_
            have L275 : ∀ (n272 : Nat) (x1 : Int) (z276 : ov_Z) (h277 : ov_H) (I278 : ov_N F z276 h277) (E279 : h277 91 = h 91) (E280 : h277 92 = h17 92) (E281 : h277 93 = h17 93) (E282 : h277 94 = h17 94) (E283 : h277 95 = h 95) (E284 : h277 97 = h248 97) (E285 : h277 98 = h248 98) (E286 : h277 99 = h248 99) (E287 : h277 100 = h 100) (E288 : h277 103 = h 103) (E289 : h277 105 = h 105) (E290 : h277 106 = h 106) (E291 : h277 109 = h 109) (E292 : h277 114 = h 114) (xk : ∀ j : Int, 0 ≤ j → j < x1 → (h277 96) j = h248 96 (340 + j)) (xl : ∀ j : Int, 340 ≤ j → (h277 96) j = h248 96 j) (q274 : 0 ≤ x1 ∧ x1 ≤ 340 ∧ (h277 90 2) = (h248 90 2) ∧ (h277 90 7) = (h248 90 7) ∧ (h277 90 8) = (h248 90 8) ∧ (h277 90 13) = (h248 90 13) ∧ (h277 90 20) = (h248 90 20) ∧ (h277 90 22) = (h248 90 22) ∧ (h277 90 25) = (h248 90 25) ∧ (h277 90 26) = (h248 90 26) ∧ (h277 90 28) = (h248 90 28) ∧ (h277 90 29) = (h248 90 29) ∧ (h277 90 30) = (h248 90 30) ∧ (h277 90 34) = (h248 90 34)), 340 - x1 < (n272 : Int) → ov_R u d ov_m205 113 [(0, ov_r 90), (1, ov_i x1)] [] z276 h277 (P_Mo_town_90 F z h) := by
              intro n272
              induction n272 with
              | zero =>
                intro x1 z276 h277 I278 E279 E280 E281 E282 E283 E284 E285 E286 E287 E288 E289 E290 E291 E292 xk xl q274 hn293
                exact absurd hn293 (by omega)
              | succ n272 ih273 =>
                intro x1 z276 h277 I278 E279 E280 E281 E282 E283 E284 E285 E286 E287 E288 E289 E290 E291 E292 xk xl q274 hn293
                refine ov_blk (ls2 := [(0, ov_r 90), (1, ov_i x1)]) (st2 := [ov_i 340, ov_i x1]) (pc2 := 117) b_205_113_2 rfl rfl ?_
                refine ov_icge (tgt := 142) d_205_117 (by decide) (by omega) (by omega) (fun c294 => ?_) (fun c294 => ?_)
                · skip
                  refine ov_blk (ls2 := [(0, ov_r 90), (1, ov_i 0)]) (st2 := []) (pc2 := 144) b_205_142_2 rfl rfl ?_
                  have L298 : ∀ (n295 : Nat) (x1_ : Int) (z299 : ov_Z) (h300 : ov_H) (I301 : ov_N F z299 h300) (E302 : h300 91 = h 91) (E303 : h300 92 = h17 92) (E304 : h300 93 = h17 93) (E305 : h300 94 = h17 94) (E306 : h300 95 = h 95) (E307 : h300 96 = h277 96) (E308 : h300 99 = h248 99) (E309 : h300 100 = h 100) (E310 : h300 103 = h 103) (E311 : h300 105 = h 105) (E312 : h300 106 = h 106) (E313 : h300 109 = h 109) (E314 : h300 114 = h 114) (xg : ∀ j : Int, 0 ≤ j → j < x1_ → (h300 97) j = h248 97 (1100 + j) ∧ (h300 98) j = h248 98 (1100 + j)) (xh : ∀ j : Int, 1100 ≤ j → (h300 97) j = h248 97 j ∧ (h300 98) j = h248 98 j) (q297 : 0 ≤ x1_ ∧ x1_ ≤ 1000 ∧ (h300 90 2) = (h277 90 2) ∧ (h300 90 7) = (h277 90 7) ∧ (h300 90 8) = (h277 90 8) ∧ (h300 90 13) = (h277 90 13) ∧ (h300 90 20) = (h277 90 20) ∧ (h300 90 22) = (h277 90 22) ∧ (h300 90 25) = (h277 90 25) ∧ (h300 90 26) = (h277 90 26) ∧ (h300 90 28) = (h277 90 28) ∧ (h300 90 29) = (h277 90 29) ∧ (h300 90 30) = (h277 90 30) ∧ (h300 90 34) = (h277 90 34)), 1000 - x1_ < (n295 : Int) → ov_R u d ov_m205 144 [(0, ov_r 90), (1, ov_i x1_)] [] z299 h300 (P_Mo_town_90 F z h) := by
                    intro n295
                    induction n295 with
                    | zero =>
                      intro x1_ z299 h300 I301 E302 E303 E304 E305 E306 E307 E308 E309 E310 E311 E312 E313 E314 xg xh q297 hn315
                      exact absurd hn315 (by omega)
                    | succ n295 ih296 =>
                      intro x1_ z299 h300 I301 E302 E303 E304 E305 E306 E307 E308 E309 E310 E311 E312 E313 E314 xg xh q297 hn315
                      refine ov_blk (ls2 := [(0, ov_r 90), (1, ov_i x1_)]) (st2 := [ov_r 90, ov_i x1_]) (pc2 := 146) b_205_144_2 rfl rfl ?_
                      refine ov_getf (v := ov_i (h300 90 13)) d_205_146 fl_Mo_208 (zb_90 I301) (zs_90 I301) rfl ?_
                      have g316 := rg_90_13 I301
                      refine ov_icge (tgt := 190) d_205_149 (by decide) (by omega) (by omega) (fun c317 => ?_) (fun c317 => ?_)
                      · skip
                        refine ov_blk (ls2 := [(0, ov_r 90), (1, ov_i x1_)]) (st2 := [ov_r 90]) (pc2 := 191) b_205_190_1 rfl rfl ?_
                        refine ov_cV (as := []) (st := []) (d2 := d - 1) d_205_191 lk_Mo_151 rfl (Nat.le_of_ble_eq_true rfl) (c := 1) (zb_90 I301) (zs_90 I301) ⟨by decide, rfl⟩ (by omega) (c_Mo_begins_90 (d - 1) (by omega) U I301 (by omega) (by show 0 ≤ (h300 90 22) ∧ (h300 90 22) ≤ 2000000000; omega)) ?_
                        rintro _ z332 h333 ⟨rfl, I334, f318, e319, e320, e321, e322, e323, e324, e325, e326, e327, e328, e329, e330, e331⟩
                        have E335 : h333 91 = h 91 := Eq.trans e319 E302
                        have E336 : h333 92 = h17 92 := Eq.trans e320 E303
                        have E337 : h333 93 = h17 93 := Eq.trans e321 E304
                        have E338 : h333 94 = h17 94 := Eq.trans e322 E305
                        have E339 : h333 95 = h 95 := Eq.trans e323 E306
                        have E340 : h333 96 = h277 96 := Eq.trans e324 E307
                        have E341 : h333 97 = h300 97 := e325
                        have E342 : h333 98 = h300 98 := e326
                        have E343 : h333 99 = h248 99 := Eq.trans e327 E308
                        have E344 : h333 105 = h 105 := Eq.trans e328 E311
                        have E345 : h333 106 = h 106 := Eq.trans e329 E312
                        have E346 : h333 109 = h 109 := Eq.trans e330 E313
                        have E347 : h333 114 = h 114 := Eq.trans e331 E314
                        show ov_R u d ov_m205 194 [(0, ov_r 90), (1, ov_i x1_)] [] z332 h333 (P_Mo_town_90 F z h)
                        have f348 : (h333 90 2) = (h300 90 2) ∧ (h333 90 7) = (h300 90 7) ∧ (h333 90 8) = (h300 90 8) ∧ (h333 90 13) = (h300 90 13) ∧ (h333 90 25) = (h300 90 25) ∧ (h333 90 26) = (h300 90 26) ∧ (h333 90 28) = (h300 90 28) ∧ (h333 90 29) = (h300 90 29) ∧ (h333 90 30) = (h300 90 30) ∧ (h333 90 34) = (h300 90 34) ∧ (h333 90 22) = (h300 90 22) + 1 ∧ (h333 100 0) = 0 := f318
                        clear f318
                        refine ov_blk (ls2 := [(0, ov_r 90), (1, ov_i x1_)]) (st2 := [ov_i 0]) (pc2 := 195) b_205_194_1 rfl rfl ?_
                        exact ov_reti (st := []) d_205_195 rfl ⟨_, rfl, I334, (by show (h333 90 25) = (h 90 25) ∧ (h333 90 26) = (h 90 26) ∧ (h333 90 28) = (h 90 28) ∧ (h333 90 29) = (h 90 29) ∧ (h333 90 30) = (h 90 30) ∧ (h333 90 34) = (h 90 34) ∧ 0 ≤ 0 ∧ 0 ≤ 16005 ∧ (h333 90 2) = 0; omega), E335, E339, E344, E345, E346, E347, (Or.inr ⟨(by show ov_WT (h333 96); rw [show h333 96 = h277 96 from E340]; exact ov_WT_of xw (fun j a b => xk j a (by omega))), (by show ov_CD (h333 96) (h333 97) (h333 98); rw [show h333 96 = h277 96 from E340, show h333 97 = h300 97 from E341, show h333 98 = h300 98 from E342]; exact ov_CD_of (xc (by omega)) (by omega) x348.2 (fun j a b => xk j a (by omega)) (fun j a b => xg j a (by omega))), (by show (h333 100 0) = 0; omega), (by show (h333 90 22) = h 90 22 + 1; omega)⟩)⟩
                      · skip
                        refine ov_blk (ls2 := [(0, ov_r 90), (1, ov_i x1_)]) (st2 := [ov_r 90]) (pc2 := 153) b_205_152_1 rfl rfl ?_
                        refine ov_getf (v := ov_r 97) d_205_153 fl_Mo_84 (zb_90 I301) (zs_90 I301) (congrArg ov_r (rg_90_11 I301)) ?_
                        refine ov_blk (ls2 := [(0, ov_r 90), (1, ov_i x1_)]) (st2 := [ov_r 90, ov_i x1_, ov_r 97]) (pc2 := 158) b_205_156_2 rfl rfl ?_
                        refine ov_getf (v := ov_r 97) d_205_158 fl_Mo_84 (zb_90 I301) (zs_90 I301) (congrArg ov_r (rg_90_11 I301)) ?_
                        refine ov_blk (ls2 := [(0, ov_r 90), (1, ov_i x1_)]) (st2 := [ov_i (1100 + x1_), ov_r 97, ov_i x1_, ov_r 97]) (pc2 := 166) b_205_161_3 rfl rfl ?_
                        refine ov_iald d_205_166 (zb_97 I301) (zs_97 I301) (by omega) ?_
                        have g349 := ra_97 I301 (1100 + x1_)
                        refine ov_iast d_205_167 (zb_97 I301) (zs_97 I301) (by omega) ?_
                        have I350 := ua_97 (k := x1_) (x := (h300 97 (1100 + x1_))) I301 (by omega)
                        refine ov_blk (ls2 := [(0, ov_r 90), (1, ov_i x1_)]) (st2 := [ov_r 90]) (pc2 := 169) b_205_168_1 rfl rfl ?_
                        refine ov_getf (v := ov_r 98) d_205_169 fl_Mo_87 (zb_90 I350) (zs_90 I350) (congrArg ov_r (rg_90_12 I350)) ?_
                        refine ov_blk (ls2 := [(0, ov_r 90), (1, ov_i x1_)]) (st2 := [ov_r 90, ov_i x1_, ov_r 98]) (pc2 := 174) b_205_172_2 rfl rfl ?_
                        refine ov_getf (v := ov_r 98) d_205_174 fl_Mo_87 (zb_90 I350) (zs_90 I350) (congrArg ov_r (rg_90_12 I350)) ?_
                        refine ov_blk (ls2 := [(0, ov_r 90), (1, ov_i x1_)]) (st2 := [ov_i (1100 + x1_), ov_r 98, ov_i x1_, ov_r 98]) (pc2 := 182) b_205_177_3 rfl rfl ?_
                        refine ov_iald d_205_182 (zb_98 I350) (zs_98 I350) (by omega) ?_
                        show ov_R u d ov_m205 183 [(0, ov_r 90), (1, ov_i x1_)] [ov_i (h300 98 (1100 + x1_)), ov_i x1_, ov_r 98] z299 (ov_up h300 97 x1_ (h300 97 (1100 + x1_))) (P_Mo_town_90 F z h)
                        have g351 := ra_98 I301 (1100 + x1_)
                        refine ov_iast d_205_183 (zb_98 I350) (zs_98 I350) (by omega) ?_
                        have I352 := ua_98 (k := x1_) (x := (h300 98 (1100 + x1_))) I350 (by omega)
                        refine ov_blk (ls2 := [(0, ov_r 90), (1, ov_i (x1_ + 1))]) (st2 := []) (pc2 := 187) b_205_184_1 rfl rfl ?_
                        refine ov_goto (tgt := 144) d_205_187 (by decide) ?_
                        exact ih296 (x1_ + 1) _ _ I352 E302 E303 E304 E305 E306 E307 E308 E309 E310 E311 E312 E313 E314 (fun j a b => if e : j = x1_ then (by rw [e]; exact ⟨by show ov_up h300 97 x1_ _ 97 x1_ = _; rw [ov_up_row, ov_rs_eq]; exact (xh _ (by omega)).1, by show ov_up _ 98 x1_ _ 98 x1_ = _; rw [ov_up_row, ov_rs_eq]; exact (xh _ (by omega)).2⟩) else (by exact ⟨by show ov_up h300 97 x1_ _ 97 j = _; rw [ov_up_j e]; exact (xg j a (by omega)).1, by show ov_up _ 98 x1_ _ 98 j = _; rw [ov_up_j e]; exact (xg j a (by omega)).2⟩)) (fun j a => ⟨by show ov_up h300 97 x1_ _ 97 j = _; rw [ov_up_j (by omega)]; exact (xh j a).1, by show ov_up _ 98 x1_ _ 98 j = _; rw [ov_up_j (by omega)]; exact (xh j a).2⟩) (by show 0 ≤ (x1_ + 1) ∧ (x1_ + 1) ≤ 1000 ∧ (h300 90 2) = (h277 90 2) ∧ (h300 90 7) = (h277 90 7) ∧ (h300 90 8) = (h277 90 8) ∧ (h300 90 13) = (h277 90 13) ∧ (h300 90 20) = (h277 90 20) ∧ (h300 90 22) = (h277 90 22) ∧ (h300 90 25) = (h277 90 25) ∧ (h300 90 26) = (h277 90 26) ∧ (h300 90 28) = (h277 90 28) ∧ (h300 90 29) = (h277 90 29) ∧ (h300 90 30) = (h277 90 30) ∧ (h300 90 34) = (h277 90 34); omega) (by omega)
                  exact L298 1001 0 _ _ I278 E279 E280 E281 E282 E283 rfl E286 E287 E288 E289 E290 E291 E292 (fun j a b => by omega) (fun j a => ⟨congrFun E284 j, congrFun E285 j⟩) (by show 0 ≤ 0 ∧ 0 ≤ 1000 ∧ (h277 90 2) = (h277 90 2) ∧ (h277 90 7) = (h277 90 7) ∧ (h277 90 8) = (h277 90 8) ∧ (h277 90 13) = (h277 90 13) ∧ (h277 90 20) = (h277 90 20) ∧ (h277 90 22) = (h277 90 22) ∧ (h277 90 25) = (h277 90 25) ∧ (h277 90 26) = (h277 90 26) ∧ (h277 90 28) = (h277 90 28) ∧ (h277 90 29) = (h277 90 29) ∧ (h277 90 30) = (h277 90 30) ∧ (h277 90 34) = (h277 90 34); omega) (by omega)
                · skip
                  have xe0 : x1 = 0 → h277 96 (340 + x1) = h248 96 340 := fun e => by rw [xl _ (by omega), e]; rfl
                  have xe1 : x1 = 1 → h277 96 (340 + x1) = h248 96 341 := fun e => by rw [xl _ (by omega), e]; rfl
                  have xe2 : x1 = 2 → h277 96 (340 + x1) = h248 96 342 := fun e => by rw [xl _ (by omega), e]; rfl
                  have xe9 : x1 = 9 → h277 96 (340 + x1) = h248 96 349 := fun e => by rw [xl _ (by omega), e]; rfl
                  refine ov_blk (ls2 := [(0, ov_r 90), (1, ov_i x1)]) (st2 := [ov_r 90]) (pc2 := 121) b_205_120_1 rfl rfl ?_
                  refine ov_getf (v := ov_r 96) d_205_121 fl_Mo_81 (zb_90 I278) (zs_90 I278) (congrArg ov_r (rg_90_10 I278)) ?_
                  refine ov_blk (ls2 := [(0, ov_r 90), (1, ov_i x1)]) (st2 := [ov_r 90, ov_i x1, ov_r 96]) (pc2 := 126) b_205_124_2 rfl rfl ?_
                  refine ov_getf (v := ov_r 96) d_205_126 fl_Mo_81 (zb_90 I278) (zs_90 I278) (congrArg ov_r (rg_90_10 I278)) ?_
                  refine ov_blk (ls2 := [(0, ov_r 90), (1, ov_i x1)]) (st2 := [ov_i (340 + x1), ov_r 96, ov_i x1, ov_r 96]) (pc2 := 134) b_205_129_3 rfl rfl ?_
                  refine ov_iald d_205_134 (zb_96 I278) (zs_96 I278) (by omega) ?_
                  have g353 := g96 I278 (340 + x1)
                  refine ov_iast d_205_135 (zb_96 I278) (zs_96 I278) (by omega) ?_
                  have I354 := ov_cp96 (k := x1) I278 (by omega) (by omega)
                  refine ov_blk (ls2 := [(0, ov_r 90), (1, ov_i (x1 + 1))]) (st2 := []) (pc2 := 139) b_205_136_1 rfl rfl ?_
                  refine ov_goto (tgt := 113) d_205_139 (by decide) ?_
                  exact ih273 (x1 + 1) _ _ I354 E279 E280 E281 E282 E283 E284 E285 E286 E287 E288 E289 E290 E291 E292 (fun j a b => if e : j = x1 then (by rw [e, ov_up_row, ov_rs_eq]; exact xl _ (by omega)) else (by rw [ov_up_j e]; exact xk j a (by omega))) (fun j a => by rw [ov_up_j (by omega)]; exact xl j a) (by show 0 ≤ (x1 + 1) ∧ (x1 + 1) ≤ 340 ∧ (h277 90 2) = (h248 90 2) ∧ (h277 90 7) = (h248 90 7) ∧ (h277 90 8) = (h248 90 8) ∧ (h277 90 13) = (h248 90 13) ∧ (h277 90 20) = (h248 90 20) ∧ (h277 90 22) = (h248 90 22) ∧ (h277 90 25) = (h248 90 25) ∧ (h277 90 26) = (h248 90 26) ∧ (h277 90 28) = (h248 90 28) ∧ (h277 90 29) = (h248 90 29) ∧ (h277 90 30) = (h248 90 30) ∧ (h277 90 34) = (h248 90 34); omega) (by omega)
            exact L275 341 0 _ _ I249 E250 E251 E252 E253 E254 rfl rfl rfl E255 E256 E257 E258 E259 E260 (fun j a b => by omega) (fun j a => rfl) (by show 0 ≤ 0 ∧ 0 ≤ 340 ∧ (h248 90 2) = (h248 90 2) ∧ (h248 90 7) = (h248 90 7) ∧ (h248 90 8) = (h248 90 8) ∧ (h248 90 13) = (h248 90 13) ∧ (h248 90 20) = (h248 90 20) ∧ (h248 90 22) = (h248 90 22) ∧ (h248 90 25) = (h248 90 25) ∧ (h248 90 26) = (h248 90 26) ∧ (h248 90 28) = (h248 90 28) ∧ (h248 90 29) = (h248 90 29) ∧ (h248 90 30) = (h248 90 30) ∧ (h248 90 34) = (h248 90 34); omega) (by omega)
          · omega
        · skip
          have qn : (h248 90 7) = n → h17 92 (h248 90 7) = h17 92 n := fun e => by rw [e]
          refine ov_blk (ls2 := [(0, ov_r 90)]) (st2 := [ov_r 90]) (pc2 := 87) b_205_86_1 rfl rfl ?_
          have cf355 : h248 92 (n) = h17 92 (n) := congrFun E251 (n)
          refine ov_cV (as := []) (st := []) (d2 := d - 1) d_205_87 lk_Mo_217 rfl (Nat.le_of_ble_eq_true rfl) (c := 1) (zb_90 I249) (zs_90 I249) ⟨by decide, rfl⟩ (by omega) (c_Mo_readLine_90 n (d - 1) (by omega) U I249 (by show 0 ≤ n ∧ n ≤ 1000 ∧ (h248 92 (n)) = 0 ∧ (h248 90 7) ≤ n; omega) (by show (h248 90 13) ≤ (h248 90 7); omega) (by show (h248 90 8) = 0; omega) (by show (h248 90 7) < n; omega)) ?_
          rintro _ z371 h372 ⟨rfl, I373, f356, e357, e358, e359, e360, e361, e362, e363, e364, e365, e366, e367, y368, y369, y370⟩
          have E374 : h372 91 = h 91 := Eq.trans e357 E250
          have E375 : h372 92 = h17 92 := Eq.trans e358 E251
          have E376 : h372 93 = h17 93 := Eq.trans e359 E252
          have E377 : h372 94 = h17 94 := Eq.trans e360 E253
          have E378 : h372 95 = h 95 := Eq.trans e361 E254
          have E379 : h372 100 = h 100 := Eq.trans e362 E255
          have E380 : h372 103 = h 103 := Eq.trans e363 E256
          have E381 : h372 105 = h 105 := Eq.trans e364 E257
          have E382 : h372 106 = h 106 := Eq.trans e365 E258
          have E383 : h372 109 = h 109 := Eq.trans e366 E259
          have E384 : h372 114 = h 114 := Eq.trans e367 E260
          show ov_R u d ov_m205 90 [(0, ov_r 90)] [] z371 h372 (P_Mo_town_90 F z h)
          have f385 : (h372 90 2) = (h248 90 2) ∧ (h372 90 20) = (h248 90 20) ∧ (h372 90 22) = (h248 90 22) ∧ (h372 90 25) = (h248 90 25) ∧ (h372 90 26) = (h248 90 26) ∧ (h372 90 28) = (h248 90 28) ∧ (h372 90 29) = (h248 90 29) ∧ (h372 90 30) = (h248 90 30) ∧ (h372 90 34) = (h248 90 34) ∧ (h248 90 7) ≤ (h372 90 7) ∧ (h372 90 7) ≤ n ∧ (h248 90 13) ≤ (h372 90 13) ∧ (h372 90 13) - (h248 90 13) ≤ (h372 90 7) - (h248 90 7) ∧ (h372 96 340) = (h248 96 340) ∧ (h372 96 341) = (h248 96 341) ∧ ((h372 90 8) = 0 → 1 ≤ (h248 96 342) → 1 ≤ (h372 96 342)) ∧ (1 ≤ (h248 96 349) → 1 ≤ (h372 96 349)) := f356
          clear f356
          have y368_ : ov_MK (h248 96) (h248 97) (h248 98) (h372 96) (h372 97) (h372 98) := y368
          have y369_ : ov_WS (h248 96) → ov_WS (h372 96) := y369
          have y370_ : (h372 90 8) = 0 → ov_CS (h248 96) (h248 97) (h248 98) (h248 90 13) → ov_CS (h372 96) (h372 97) (h372 98) (h372 90 13) := y370
          refine ov_blk (ls2 := [(0, ov_r 90)]) (st2 := [ov_i 59, ov_r 90]) (pc2 := 93) b_205_90_2 rfl rfl ?_
          have cf386 : h372 92 (n) = h17 92 (n) := congrFun E375 (n)
          refine ov_cV (as := [ov_i 59]) (st := []) (d2 := d - 1) d_205_93 lk_Mo_214 rfl (Nat.le_of_ble_eq_true rfl) (c := 1) (zb_90 I373) (zs_90 I373) ⟨by decide, rfl⟩ (by omega) (c_Mo_takeSign_90 n (d - 1) (by omega) U I373 59 (by omega) (by show 0 ≤ n ∧ n ≤ 1000 ∧ (h372 92 (n)) = 0 ∧ (h372 90 7) ≤ n; omega)) ?_
          rintro _ z403 h404 ⟨rfl, I405, f387, e388, e389, e390, e391, e392, e393, e394, e395, e396, e397, e398, e399, e400, e401, e402⟩
          have E406 : h404 91 = h 91 := Eq.trans e388 E374
          have E407 : h404 92 = h17 92 := Eq.trans e389 E375
          have E408 : h404 93 = h17 93 := Eq.trans e390 E376
          have E409 : h404 94 = h17 94 := Eq.trans e391 E377
          have E410 : h404 95 = h 95 := Eq.trans e392 E378
          have E411 : h404 96 = h372 96 := e393
          have E412 : h404 97 = h372 97 := e394
          have E413 : h404 98 = h372 98 := e395
          have E414 : h404 99 = h372 99 := e396
          have E415 : h404 100 = h 100 := Eq.trans e397 E379
          have E416 : h404 103 = h 103 := Eq.trans e398 E380
          have E417 : h404 105 = h 105 := Eq.trans e399 E381
          have E418 : h404 106 = h 106 := Eq.trans e400 E382
          have E419 : h404 109 = h 109 := Eq.trans e401 E383
          have E420 : h404 114 = h 114 := Eq.trans e402 E384
          show ov_R u d ov_m205 96 [(0, ov_r 90)] [] z403 h404 (P_Mo_town_90 F z h)
          have f421 : (h404 90 2) = (h372 90 2) ∧ (h404 90 13) = (h372 90 13) ∧ (h404 90 20) = (h372 90 20) ∧ (h404 90 22) = (h372 90 22) ∧ (h404 90 25) = (h372 90 25) ∧ (h404 90 26) = (h372 90 26) ∧ (h404 90 28) = (h372 90 28) ∧ (h404 90 29) = (h372 90 29) ∧ (h404 90 30) = (h372 90 30) ∧ (h404 90 34) = (h372 90 34) ∧ (h372 90 7) ≤ (h404 90 7) ∧ (h404 90 7) ≤ n ∧ (h372 90 8) ≤ (h404 90 8) ∧ (h372 90 7) < (h404 90 7) + (h404 90 8) := f387
          clear f387
          refine ov_goto (tgt := 67) d_205_96 (by decide) ?_
          have bm : ov_MK (h 96) (h 97) (h 98) (h404 96) (h404 97) (h404 98) := by rw [show h404 96 = h372 96 from E411, show h404 97 = h372 97 from E412, show h404 98 = h372 98 from E413]; exact ov_MK_trans xm y368_
          have bw : ov_WS (h404 96) := by rw [show h404 96 = h372 96 from E411]; exact y369_ xw
          have g8 := rg_90_8 I373
          have bc : (h404 90 8) = 0 → ov_CS (h404 96) (h404 97) (h404 98) (h404 90 13) := fun e => by rw [show h404 96 = h372 96 from E411, show h404 97 = h372 97 from E412, show h404 98 = h372 98 from E413]; rw [show (h404 90 13) = h372 90 13 by omega]; exact y370_ (by omega) (xc (by omega))
          exact ih244  _ _ I405 E406 E407 E408 E409 E410 E415 E416 E417 E418 E419 E420 bm bw bc (by have cf422 : h404 96 340 = h372 96 340 := congrFun E411 340; have cf423 : h404 96 341 = h372 96 341 := congrFun E411 341; have cf424 : h404 96 342 = h372 96 342 := congrFun E411 342; have cf425 : h404 96 349 = h372 96 349 := congrFun E411 349; show 0 ≤ (h404 90 7) ∧ (h404 90 7) ≤ n ∧ (h404 90 13) ≤ (h404 90 7) ∧ ((h404 90 8) = 0 → 1 ≤ (h404 96 340) ∧ 1 ≤ (h404 96 341) ∧ 1 ≤ (h404 96 342)) ∧ 1 ≤ (h404 96 349) ∧ (h404 90 2) = (h219 90 2) ∧ (h404 90 20) = (h219 90 20) ∧ (h404 90 22) = (h219 90 22) ∧ (h404 90 25) = (h219 90 25) ∧ (h404 90 26) = (h219 90 26) ∧ (h404 90 28) = (h219 90 28) ∧ (h404 90 29) = (h219 90 29) ∧ (h404 90 30) = (h219 90 30) ∧ (h404 90 34) = (h219 90 34); omega) (by omega)
  exact L246 1003  _ _ I220 E221 E222 E223 E224 E225 E229 E230 E231 E232 E233 E234 km236 kw237 (fun _ r a b => by exfalso; have q : r < (h219 96 348) := b; omega) (by show 0 ≤ (h219 90 7) ∧ (h219 90 7) ≤ n ∧ (h219 90 13) ≤ (h219 90 7) ∧ ((h219 90 8) = 0 → 1 ≤ (h219 96 340) ∧ 1 ≤ (h219 96 341) ∧ 1 ≤ (h219 96 342)) ∧ 1 ≤ (h219 96 349) ∧ (h219 90 2) = (h219 90 2) ∧ (h219 90 20) = (h219 90 20) ∧ (h219 90 22) = (h219 90 22) ∧ (h219 90 25) = (h219 90 25) ∧ (h219 90 26) = (h219 90 26) ∧ (h219 90 28) = (h219 90 28) ∧ (h219 90 29) = (h219 90 29) ∧ (h219 90 30) = (h219 90 30) ∧ (h219 90 34) = (h219 90 34); omega) (by omega)

abbrev P_Mo_town_90 (F : ov_H × ov_Z) (z : ov_Z) (h : ov_H) : Option ov_V → ov_Z → ov_H → Prop := fun r0 z' h' => ∃ r : Int, r0 = some (ov_i r) ∧ ov_N F z' h' ∧ ((h' 90 25) = (h 90 25) ∧ (h' 90 26) = (h 90 26) ∧ (h' 90 28) = (h 90 28) ∧ (h' 90 29) = (h 90 29) ∧ (h' 90 30) = (h 90 30) ∧ (h' 90 34) = (h 90 34) ∧ 0 ≤ r ∧ r ≤ 16005 ∧ (h' 90 2) = 0) ∧ h' 91 = h 91 ∧ h' 95 = h 95 ∧ h' 105 = h 105 ∧ h' 106 = h 106 ∧ h' 109 = h 109 ∧ h' 114 = h 114 ∧ ((ov_MK (h 96) (h 97) (h 98) (h' 96) (h' 97) (h' 98) ∧ (h' 100) = (h 100) ∧ (h' 103) = (h 103) ∧ (h' 90 22) = (h 90 22)) ∨ (ov_WT (h' 96) ∧ ov_CD (h' 96) (h' 97) (h' 98) ∧ (h' 100 0) = 0 ∧ (h' 90 22) = (h 90 22) + 1))
set_option maxHeartbeats 4000000 in
theorem c_Mo_town_90 {u : ov_U} {F : ov_H × ov_Z} {z : ov_Z} {h : ov_H} (d : Nat) (hd : 60 ≤ d) (U : ov_cap u) (I : ov_N F z h) (p0 : 0 ≤ ov_bd F ∧ ov_bd F ≤ 800000000) (p1 : 0 ≤ (h 90 22) ∧ (h 90 22) ≤ 2000000000) : ov_T u d ov_m205 [ov_r 90] z h (P_Mo_town_90 F z h) := by
  refine ov_en rfl (Nat.le_of_ble_eq_true rfl) ?_
  show ov_R u d ov_m205 0 [(0, ov_r 90)] [] z h (P_Mo_town_90 F z h)
  refine ov_blk (ls2 := [(0, ov_r 90)]) (st2 := [ov_i 0, ov_r 90]) (pc2 := 2) b_205_0_2 rfl rfl ?_
  refine ov_putf (x := 0) d_205_2 fl_Mo_1 (zb_90 I) (zs_90 I) rfl nk_0 rfl ?_
  have I1 := up_90_0 (x := 0) I (by omega)
  refine ov_blk (ls2 := [(0, ov_r 90)]) (st2 := [ov_r 90]) (pc2 := 6) b_205_5_1 rfl rfl ?_
  refine ov_cV (as := []) (st := []) (d2 := d - 1) d_205_6 lk_Mo_205 rfl (Nat.le_of_ble_eq_true rfl) (c := 1) (zb_90 I1) (zs_90 I1) ⟨by decide, rfl⟩ (by omega) (c_Mo_cutAll_90 (d - 1) (by omega) U I1) ?_
  rintro _ z17 h18 ⟨rfl, I19, f2, e3, e4, e5, e6, e7, e8, e9, e10, e11, e12, e13, e14, e15, y16⟩
  have E20 : h18 91 = h 91 := e3
  have E21 : h18 95 = h 95 := e4
  have E22 : h18 96 = h 96 := e5
  have E23 : h18 97 = h 97 := e6
  have E24 : h18 98 = h 98 := e7
  have E25 : h18 99 = h 99 := e8
  have E26 : h18 100 = h 100 := e9
  have E27 : h18 103 = h 103 := e10
  have E28 : h18 104 = h 104 := e11
  have E29 : h18 105 = h 105 := e12
  have E30 : h18 106 = h 106 := e13
  have E31 : h18 109 = h 109 := e14
  have E32 : h18 114 = h 114 := e15
  show ov_R u d ov_m205 9 [(0, ov_r 90)] [] z17 h18 (P_Mo_town_90 F z h)
  have f33 : (h18 90 13) = (h 90 13) ∧ (h18 90 20) = (h 90 20) ∧ (h18 90 22) = (h 90 22) ∧ (h18 90 25) = (h 90 25) ∧ (h18 90 26) = (h 90 26) ∧ (h18 90 28) = (h 90 28) ∧ (h18 90 29) = (h 90 29) ∧ (h18 90 30) = (h 90 30) ∧ (h18 90 34) = (h 90 34) ∧ (h18 90 7) = 0 ∧ (h18 90 8) = 0 ∧ (h18 90 2) = 0 := f2
  clear f2
  have y16_ : ∃ n : Int, 0 ≤ n ∧ n ≤ 1000 ∧ (h18 92) n = 0 := y16
  obtain ⟨n, hn0, hn1, hn2⟩ := y16_
  refine ov_blk (ls2 := [(0, ov_r 90)]) (st2 := [ov_i 0, ov_r 90]) (pc2 := 11) b_205_9_2 rfl rfl ?_
  refine ov_putf (x := 0) d_205_11 fl_Mo_208 (zb_90 I19) (zs_90 I19) rfl nk_0 rfl ?_
  have I34 := up_90_13 (x := 0) I19 (by omega)
  refine ov_blk (ls2 := [(0, ov_r 90)]) (st2 := [ov_i 0, ov_r 90]) (pc2 := 16) b_205_14_2 rfl rfl ?_
  refine ov_putf (x := 0) d_205_16 fl_Mo_211 (zb_90 I34) (zs_90 I34) rfl nk_0 rfl ?_
  have I35 := up_90_15 (x := 0) I34 (by omega)
  refine ov_blk (ls2 := [(0, ov_r 90)]) (st2 := [ov_i 340, ov_r 90]) (pc2 := 23) b_205_19_2 rfl rfl ?_
  refine ov_cV (as := [ov_i 340]) (st := []) (d2 := d - 1) d_205_23 lk_Mo_147 rfl (Nat.le_of_ble_eq_true rfl) (c := 1) (zb_90 I35) (zs_90 I35) ⟨by decide, rfl⟩ (by omega) (c_Mo_standsAsAlways_90 (d - 1) (by omega) U I35 340 (by omega) (by omega)) ?_
  rintro _ z54 h55 ⟨rfl, I56, f36, e37, e38, e39, e40, e41, e42, e43, e44, e45, e46, e47, e48, e49, e50, e51, y52, y53⟩
  have E57 : h55 91 = h 91 := Eq.trans e37 E20
  have E58 : h55 92 = h18 92 := e38
  have E59 : h55 93 = h18 93 := e39
  have E60 : h55 94 = h18 94 := e40
  have E61 : h55 95 = h 95 := Eq.trans e41 E21
  have E62 : h55 97 = h 97 := Eq.trans e42 E23
  have E63 : h55 98 = h 98 := Eq.trans e43 E24
  have E64 : h55 99 = h 99 := Eq.trans e44 E25
  have E65 : h55 100 = h 100 := Eq.trans e45 E26
  have E66 : h55 103 = h 103 := Eq.trans e46 E27
  have E67 : h55 104 = h 104 := Eq.trans e47 E28
  have E68 : h55 105 = h 105 := Eq.trans e48 E29
  have E69 : h55 106 = h 106 := Eq.trans e49 E30
  have E70 : h55 109 = h 109 := Eq.trans e50 E31
  have E71 : h55 114 = h 114 := Eq.trans e51 E32
  show ov_R u d ov_m205 26 [(0, ov_r 90)] [] z54 h55 (P_Mo_town_90 F z h)
  have f72 : (h55 90 2) = (h18 90 2) ∧ (h55 90 7) = (h18 90 7) ∧ (h55 90 8) = (h18 90 8) ∧ (h55 90 13) = 0 ∧ (h55 90 20) = (h18 90 20) ∧ (h55 90 22) = (h18 90 22) ∧ (h55 90 25) = (h18 90 25) ∧ (h55 90 26) = (h18 90 26) ∧ (h55 90 28) = (h18 90 28) ∧ (h55 90 29) = (h18 90 29) ∧ (h55 90 30) = (h18 90 30) ∧ (h55 90 34) = (h18 90 34) ∧ (h55 96 348) = 0 ∧ (h55 96 342) = 10 ∧ (h55 96 349) = 1 := f36
  clear f36
  rw [show (ov_up (ov_up h18 90 13 0) 90 15 0) 96 = h 96 from E22] at y52
  have y52_ : ∀ j : Int, j < 340 → (h55 96) j = (h 96) j := y52
  have y53_ : ov_WS (h55 96) := y53
  have km73 : ov_MK (h 96) (h 97) (h 98) (h55 96) (h55 97) (h55 98) := ⟨y52_, fun j _ => congrFun E62 j, fun j _ => congrFun E63 j⟩
  refine ov_blk (ls2 := [(0, ov_r 90)]) (st2 := [ov_i 0, ov_r 90]) (pc2 := 28) b_205_26_2 rfl rfl ?_
  have cf74 : h55 92 (n) = h18 92 (n) := congrFun E58 (n)
  refine ov_cV (as := [ov_i 0]) (st := []) (d2 := d - 1) d_205_28 lk_Mo_195 rfl (Nat.le_of_ble_eq_true rfl) (c := 1) (zb_90 I56) (zs_90 I56) ⟨by decide, rfl⟩ (by omega) (c_Mo_takeWord_90 n (d - 1) (by omega) U I56 0 (by omega) (by show 0 ≤ n ∧ n ≤ 1000 ∧ (h55 92 (n)) = 0 ∧ (h55 90 7) ≤ n; omega) (by omega)) ?_
  rintro _ z92 h93 ⟨rfl, I94, f75, e76, e77, e78, e79, e80, e81, e82, e83, e84, e85, e86, e87, e88, e89, e90, e91⟩
  have E95 : h93 91 = h 91 := Eq.trans e76 E57
  have E96 : h93 92 = h18 92 := Eq.trans e77 E58
  have E97 : h93 93 = h18 93 := Eq.trans e78 E59
  have E98 : h93 94 = h18 94 := Eq.trans e79 E60
  have E99 : h93 95 = h 95 := Eq.trans e80 E61
  have E100 : h93 96 = h55 96 := e81
  have E101 : h93 97 = h 97 := Eq.trans e82 E62
  have E102 : h93 98 = h 98 := Eq.trans e83 E63
  have E103 : h93 99 = h 99 := Eq.trans e84 E64
  have E104 : h93 100 = h 100 := Eq.trans e85 E65
  have E105 : h93 103 = h 103 := Eq.trans e86 E66
  have E106 : h93 104 = h 104 := Eq.trans e87 E67
  have E107 : h93 105 = h 105 := Eq.trans e88 E68
  have E108 : h93 106 = h 106 := Eq.trans e89 E69
  have E109 : h93 109 = h 109 := Eq.trans e90 E70
  have E110 : h93 114 = h 114 := Eq.trans e91 E71
  show ov_R u d ov_m205 31 [(0, ov_r 90)] [] z92 h93 (P_Mo_town_90 F z h)
  have f111 : (h93 90 2) = (h55 90 2) ∧ (h93 90 13) = (h55 90 13) ∧ (h93 90 20) = (h55 90 20) ∧ (h93 90 22) = (h55 90 22) ∧ (h93 90 25) = (h55 90 25) ∧ (h93 90 26) = (h55 90 26) ∧ (h93 90 28) = (h55 90 28) ∧ (h93 90 29) = (h55 90 29) ∧ (h93 90 30) = (h55 90 30) ∧ (h93 90 34) = (h55 90 34) ∧ (h55 90 7) ≤ (h93 90 7) ∧ (h93 90 7) ≤ n ∧ (h55 90 8) ≤ (h93 90 8) := f75
  clear f75
  have km112 : ov_MK (h 96) (h 97) (h 98) (h93 96) (h93 97) (h93 98) := by rw [e81, e82, e83]; exact km73
  have kw113 : ov_WS (h93 96) := by rw [e81]; exact y53_
  refine ov_blk (ls2 := [(0, ov_r 90)]) (st2 := [ov_r 90]) (pc2 := 32) b_205_31_1 rfl rfl ?_
  refine ov_getf (v := ov_r 96) d_205_32 fl_Mo_81 (zb_90 I94) (zs_90 I94) (congrArg ov_r (rg_90_10 I94)) ?_
  refine ov_blk (ls2 := [(0, ov_r 90)]) (st2 := [ov_i 6, ov_i 1, ov_r 90, ov_i 340, ov_r 96]) (pc2 := 42) b_205_35_4 rfl rfl ?_
  have cf114 : h93 92 (n) = h18 92 (n) := congrFun E96 (n)
  refine ov_cV (as := [ov_i 1, ov_i 6]) (st := [ov_i 340, ov_r 96]) (d2 := d - 1) d_205_42 lk_Mo_198 rfl (Nat.le_of_ble_eq_true rfl) (c := 1) (zb_90 I94) (zs_90 I94) ⟨by decide, rfl⟩ (by omega) (c_Mo_takeNumber_90 n (d - 1) (by omega) U I94 1 6 (by omega) (by omega) (by show 0 ≤ n ∧ n ≤ 1000 ∧ (h93 92 (n)) = 0 ∧ (h93 90 7) ≤ n; omega)) ?_
  rintro _ z133 h134 ⟨v116, rfl, I135, f115, e117, e118, e119, e120, e121, e122, e123, e124, e125, e126, e127, e128, e129, e130, e131, e132⟩
  have E136 : h134 91 = h 91 := Eq.trans e117 E95
  have E137 : h134 92 = h18 92 := Eq.trans e118 E96
  have E138 : h134 93 = h18 93 := Eq.trans e119 E97
  have E139 : h134 94 = h18 94 := Eq.trans e120 E98
  have E140 : h134 95 = h 95 := Eq.trans e121 E99
  have E141 : h134 96 = h55 96 := Eq.trans e122 E100
  have E142 : h134 97 = h 97 := Eq.trans e123 E101
  have E143 : h134 98 = h 98 := Eq.trans e124 E102
  have E144 : h134 99 = h 99 := Eq.trans e125 E103
  have E145 : h134 100 = h 100 := Eq.trans e126 E104
  have E146 : h134 103 = h 103 := Eq.trans e127 E105
  have E147 : h134 104 = h 104 := Eq.trans e128 E106
  have E148 : h134 105 = h 105 := Eq.trans e129 E107
  have E149 : h134 106 = h 106 := Eq.trans e130 E108
  have E150 : h134 109 = h 109 := Eq.trans e131 E109
  have E151 : h134 114 = h 114 := Eq.trans e132 E110
  show ov_R u d ov_m205 45 [(0, ov_r 90)] [ov_i v116, ov_i 340, ov_r 96] z133 h134 (P_Mo_town_90 F z h)
  have f152 : (h134 90 2) = (h93 90 2) ∧ (h134 90 13) = (h93 90 13) ∧ (h134 90 20) = (h93 90 20) ∧ (h134 90 22) = (h93 90 22) ∧ (h134 90 25) = (h93 90 25) ∧ (h134 90 26) = (h93 90 26) ∧ (h134 90 28) = (h93 90 28) ∧ (h134 90 29) = (h93 90 29) ∧ (h134 90 30) = (h93 90 30) ∧ (h134 90 34) = (h93 90 34) ∧ (h93 90 7) ≤ (h134 90 7) ∧ (h134 90 7) ≤ n ∧ (h93 90 8) ≤ (h134 90 8) ∧ ((h134 90 8) = 0 → (1 : Int) ≤ v116 ∧ v116 ≤ (6 : Int)) ∧ (0 < (h134 90 8) → v116 = 0) ∧ (h93 90 7) < (h134 90 7) + (h134 90 8) := f115
  clear f115
  have km153 : ov_MK (h 96) (h 97) (h 98) (h134 96) (h134 97) (h134 98) := by rw [e122, e123, e124]; exact km112
  have kw154 : ov_WS (h134 96) := by rw [e122]; exact kw113
  refine ov_iast d_205_45 (zb_96 I135) (zs_96 I135) (by omega) ?_
  have I155 := ua_96 (k := 340) (x := v116) I135 (by refine ⟨?_, ?_, ?_, ?_, ?_, ?_, ?_, ?_, ?_, ?_, ?_, ?_, ?_, ?_, ?_, ?_, ?_, ?_, ?_, ?_, ?_, ?_, ?_, ?_, ?_, ?_, ?_, ?_, ?_⟩ <;> omega)
  have km156 : ov_MK (h 96) (h 97) (h 98) ((ov_up h134 96 340 v116) 96) ((ov_up h134 96 340 v116) 97) ((ov_up h134 96 340 v116) 98) := by rw [ov_up_row]; exact ov_MK_1 km153 (by decide)
  have kw157 : ov_WS ((ov_up h134 96 340 v116) 96) := by rw [ov_up_row]; exact ov_WS_o kw154 (by decide)
  refine ov_blk (ls2 := [(0, ov_r 90)]) (st2 := [ov_r 90]) (pc2 := 47) b_205_46_1 rfl rfl ?_
  refine ov_getf (v := ov_r 96) d_205_47 fl_Mo_81 (zb_90 I155) (zs_90 I155) (congrArg ov_r (rg_90_10 I155)) ?_
  refine ov_blk (ls2 := [(0, ov_r 90)]) (st2 := [ov_i 9, ov_i 1, ov_r 90, ov_i 341, ov_r 96]) (pc2 := 57) b_205_50_4 rfl rfl ?_
  have cf158 : h134 92 (n) = h18 92 (n) := congrFun E137 (n)
  refine ov_cV (as := [ov_i 1, ov_i 9]) (st := [ov_i 341, ov_r 96]) (d2 := d - 1) d_205_57 lk_Mo_198 rfl (Nat.le_of_ble_eq_true rfl) (c := 1) (zb_90 I155) (zs_90 I155) ⟨by decide, rfl⟩ (by omega) (c_Mo_takeNumber_90 n (d - 1) (by omega) U I155 1 9 (by omega) (by omega) (by show 0 ≤ n ∧ n ≤ 1000 ∧ (h134 92 (n)) = 0 ∧ (h134 90 7) ≤ n; omega)) ?_
  rintro _ z177 h178 ⟨v160, rfl, I179, f159, e161, e162, e163, e164, e165, e166, e167, e168, e169, e170, e171, e172, e173, e174, e175, e176⟩
  have E180 : h178 91 = h 91 := Eq.trans e161 E136
  have E181 : h178 92 = h18 92 := Eq.trans e162 E137
  have E182 : h178 93 = h18 93 := Eq.trans e163 E138
  have E183 : h178 94 = h18 94 := Eq.trans e164 E139
  have E184 : h178 95 = h 95 := Eq.trans e165 E140
  have E185 : h178 97 = h 97 := Eq.trans e167 E142
  have E186 : h178 98 = h 98 := Eq.trans e168 E143
  have E187 : h178 99 = h 99 := Eq.trans e169 E144
  have E188 : h178 100 = h 100 := Eq.trans e170 E145
  have E189 : h178 103 = h 103 := Eq.trans e171 E146
  have E190 : h178 104 = h 104 := Eq.trans e172 E147
  have E191 : h178 105 = h 105 := Eq.trans e173 E148
  have E192 : h178 106 = h 106 := Eq.trans e174 E149
  have E193 : h178 109 = h 109 := Eq.trans e175 E150
  have E194 : h178 114 = h 114 := Eq.trans e176 E151
  show ov_R u d ov_m205 60 [(0, ov_r 90)] [ov_i v160, ov_i 341, ov_r 96] z177 h178 (P_Mo_town_90 F z h)
  have f195 : (h178 90 2) = (h134 90 2) ∧ (h178 90 13) = (h134 90 13) ∧ (h178 90 20) = (h134 90 20) ∧ (h178 90 22) = (h134 90 22) ∧ (h178 90 25) = (h134 90 25) ∧ (h178 90 26) = (h134 90 26) ∧ (h178 90 28) = (h134 90 28) ∧ (h178 90 29) = (h134 90 29) ∧ (h178 90 30) = (h134 90 30) ∧ (h178 90 34) = (h134 90 34) ∧ (h134 90 7) ≤ (h178 90 7) ∧ (h178 90 7) ≤ n ∧ (h134 90 8) ≤ (h178 90 8) ∧ ((h178 90 8) = 0 → (1 : Int) ≤ v160 ∧ v160 ≤ (9 : Int)) ∧ (0 < (h178 90 8) → v160 = 0) ∧ (h134 90 7) < (h178 90 7) + (h178 90 8) := f159
  clear f159
  have km196 : ov_MK (h 96) (h 97) (h 98) (h178 96) (h178 97) (h178 98) := by rw [e166, e167, e168]; exact km156
  have kw197 : ov_WS (h178 96) := by rw [e166]; exact kw157
  have lt198 : h178 96 340 = v116 := congrFun e166 340
  have lt199 : h134 96 340 = h55 96 340 := congrFun E141 340
  have lt200 : h178 96 341 = (h134 96 341) := congrFun e166 341
  have lt201 : h134 96 341 = h55 96 341 := congrFun E141 341
  have lt202 : h178 96 342 = (h134 96 342) := congrFun e166 342
  have lt203 : h134 96 342 = h55 96 342 := congrFun E141 342
  have lt204 : h178 96 348 = (h134 96 348) := congrFun e166 348
  have lt205 : h134 96 348 = h55 96 348 := congrFun E141 348
  have lt206 : h178 96 349 = (h134 96 349) := congrFun e166 349
  have lt207 : h134 96 349 = h55 96 349 := congrFun E141 349
  refine ov_iast d_205_60 (zb_96 I179) (zs_96 I179) (by omega) ?_
  have I208 := ua_96 (k := 341) (x := v160) I179 (by refine ⟨?_, ?_, ?_, ?_, ?_, ?_, ?_, ?_, ?_, ?_, ?_, ?_, ?_, ?_, ?_, ?_, ?_, ?_, ?_, ?_, ?_, ?_, ?_, ?_, ?_, ?_, ?_, ?_, ?_⟩ <;> omega)
  have km209 : ov_MK (h 96) (h 97) (h 98) ((ov_up h178 96 341 v160) 96) ((ov_up h178 96 341 v160) 97) ((ov_up h178 96 341 v160) 98) := by rw [ov_up_row]; exact ov_MK_1 km196 (by decide)
  have kw210 : ov_WS ((ov_up h178 96 341 v160) 96) := by rw [ov_up_row]; exact ov_WS_o kw197 (by decide)
  refine ov_blk (ls2 := [(0, ov_r 90)]) (st2 := [ov_i 59, ov_r 90]) (pc2 := 64) b_205_61_2 rfl rfl ?_
  have cf211 : h178 92 (n) = h18 92 (n) := congrFun E181 (n)
  refine ov_cV (as := [ov_i 59]) (st := []) (d2 := d - 1) d_205_64 lk_Mo_214 rfl (Nat.le_of_ble_eq_true rfl) (c := 1) (zb_90 I208) (zs_90 I208) ⟨by decide, rfl⟩ (by omega) (c_Mo_takeSign_90 n (d - 1) (by omega) U I208 59 (by omega) (by show 0 ≤ n ∧ n ≤ 1000 ∧ (h178 92 (n)) = 0 ∧ (h178 90 7) ≤ n; omega)) ?_
  rintro _ z229 h230 ⟨rfl, I231, f212, e213, e214, e215, e216, e217, e218, e219, e220, e221, e222, e223, e224, e225, e226, e227, e228⟩
  have E232 : h230 91 = h 91 := Eq.trans e213 E180
  have E233 : h230 92 = h18 92 := Eq.trans e214 E181
  have E234 : h230 93 = h18 93 := Eq.trans e215 E182
  have E235 : h230 94 = h18 94 := Eq.trans e216 E183
  have E236 : h230 95 = h 95 := Eq.trans e217 E184
  have E237 : h230 97 = h 97 := Eq.trans e219 E185
  have E238 : h230 98 = h 98 := Eq.trans e220 E186
  have E239 : h230 99 = h 99 := Eq.trans e221 E187
  have E240 : h230 100 = h 100 := Eq.trans e222 E188
  have E241 : h230 103 = h 103 := Eq.trans e223 E189
  have E242 : h230 104 = h 104 := Eq.trans e224 E190
  have E243 : h230 105 = h 105 := Eq.trans e225 E191
  have E244 : h230 106 = h 106 := Eq.trans e226 E192
  have E245 : h230 109 = h 109 := Eq.trans e227 E193
  have E246 : h230 114 = h 114 := Eq.trans e228 E194
  show ov_R u d ov_m205 67 [(0, ov_r 90)] [] z229 h230 (P_Mo_town_90 F z h)
  have f247 : (h230 90 2) = (h178 90 2) ∧ (h230 90 13) = (h178 90 13) ∧ (h230 90 20) = (h178 90 20) ∧ (h230 90 22) = (h178 90 22) ∧ (h230 90 25) = (h178 90 25) ∧ (h230 90 26) = (h178 90 26) ∧ (h230 90 28) = (h178 90 28) ∧ (h230 90 29) = (h178 90 29) ∧ (h230 90 30) = (h178 90 30) ∧ (h230 90 34) = (h178 90 34) ∧ (h178 90 7) ≤ (h230 90 7) ∧ (h230 90 7) ≤ n ∧ (h178 90 8) ≤ (h230 90 8) ∧ (h178 90 7) < (h230 90 7) + (h230 90 8) := f212
  clear f212
  have km248 : ov_MK (h 96) (h 97) (h 98) (h230 96) (h230 97) (h230 98) := by rw [e218, e219, e220]; exact km209
  have kw249 : ov_WS (h230 96) := by rw [e218]; exact kw210
  have lt250 : h230 96 340 = (h178 96 340) := congrFun e218 340
  have lt251 : h230 96 341 = v160 := congrFun e218 341
  have lt252 : h230 96 342 = (h178 96 342) := congrFun e218 342
  have lt253 : h230 96 348 = (h178 96 348) := congrFun e218 348
  have lt254 : h230 96 349 = (h178 96 349) := congrFun e218 349
  have L258 : ∀ (n255 : Nat) (z259 : ov_Z) (h260 : ov_H) (I261 : ov_N F z259 h260) (E262 : h260 91 = h 91) (E263 : h260 92 = h18 92) (E264 : h260 93 = h18 93) (E265 : h260 94 = h18 94) (E266 : h260 95 = h 95) (E267 : h260 100 = h 100) (E268 : h260 103 = h 103) (E269 : h260 104 = h 104) (E270 : h260 105 = h 105) (E271 : h260 106 = h 106) (E272 : h260 109 = h 109) (E273 : h260 114 = h 114) (xm : ov_MK (h 96) (h 97) (h 98) (h260 96) (h260 97) (h260 98)) (xw : ov_WS (h260 96)) (xc : (h260 90 8) = 0 → ov_CS (h260 96) (h260 97) (h260 98) (h260 90 13)) (q257 : 0 ≤ (h260 90 7) ∧ (h260 90 7) ≤ n ∧ (h260 90 13) ≤ (h260 90 7) ∧ ((h260 90 8) = 0 → 1 ≤ (h260 96 340) ∧ 1 ≤ (h260 96 341) ∧ 1 ≤ (h260 96 342)) ∧ 1 ≤ (h260 96 349) ∧ (h260 90 2) = (h230 90 2) ∧ (h260 90 20) = (h230 90 20) ∧ (h260 90 22) = (h230 90 22) ∧ (h260 90 25) = (h230 90 25) ∧ (h260 90 26) = (h230 90 26) ∧ (h260 90 28) = (h230 90 28) ∧ (h260 90 29) = (h230 90 29) ∧ (h260 90 30) = (h230 90 30) ∧ (h260 90 34) = (h230 90 34)), 1001 - (h260 90 7) - min ((h260 90 8)) 1 < (n255 : Int) → ov_R u d ov_m205 67 [(0, ov_r 90)] [] z259 h260 (P_Mo_town_90 F z h) := by
    intro n255
    induction n255 with
    | zero =>
      intro  z259 h260 I261 E262 E263 E264 E265 E266 E267 E268 E269 E270 E271 E272 E273 xm xw xc q257 hn274
      exact absurd hn274 (by omega)
    | succ n255 ih256 =>
      intro  z259 h260 I261 E262 E263 E264 E265 E266 E267 E268 E269 E270 E271 E272 E273 xm xw xc q257 hn274
      refine ov_blk (ls2 := [(0, ov_r 90)]) (st2 := [ov_r 90]) (pc2 := 68) b_205_67_1 rfl rfl ?_
      refine ov_getf (v := ov_i (h260 90 8)) d_205_68 fl_Mo_180 (zb_90 I261) (zs_90 I261) rfl ?_
      have g275 := rg_90_8 I261
      refine ov_ifne (tgt := 99) d_205_71 (by decide) (by omega) (fun c276 => ?_) (fun c276 => ?_)
      · skip
        refine ov_blk (ls2 := [(0, ov_r 90)]) (st2 := [ov_r 90]) (pc2 := 100) b_205_99_1 rfl rfl ?_
        refine ov_getf (v := ov_i (h260 90 8)) d_205_100 fl_Mo_180 (zb_90 I261) (zs_90 I261) rfl ?_
        refine ov_ifle (tgt := 111) d_205_103 (by decide) (by omega) (fun c278 => ?_) (fun c278 => ?_)
        · omega
        · skip
          refine ov_blk (ls2 := [(0, ov_r 90)]) (st2 := [ov_r 90]) (pc2 := 107) b_205_106_1 rfl rfl ?_
          refine ov_getf (v := ov_i (h260 90 8)) d_205_107 fl_Mo_180 (zb_90 I261) (zs_90 I261) rfl ?_
          exact ov_reti (st := []) d_205_110 rfl ⟨_, rfl, I261, (by show (h260 90 25) = (h 90 25) ∧ (h260 90 26) = (h 90 26) ∧ (h260 90 28) = (h 90 28) ∧ (h260 90 29) = (h 90 29) ∧ (h260 90 30) = (h 90 30) ∧ (h260 90 34) = (h 90 34) ∧ 0 ≤ (h260 90 8) ∧ (h260 90 8) ≤ 16005 ∧ (h260 90 2) = 0; omega), E262, E266, E270, E271, E272, E273, (Or.inl ⟨(by show ov_MK (h 96) (h 97) (h 98) (h260 96) (h260 97) (h260 98); exact xm), E267, E268, (by show (h260 90 22) = h 90 22; omega)⟩)⟩
      · skip
        refine ov_blk (ls2 := [(0, ov_r 90)]) (st2 := [ov_r 90]) (pc2 := 75) b_205_74_1 rfl rfl ?_
        refine ov_getf (v := ov_r 92) d_205_75 fl_Mo_24 (zb_90 I261) (zs_90 I261) (congrArg ov_r (rg_90_4 I261)) ?_
        refine ov_blk (ls2 := [(0, ov_r 90)]) (st2 := [ov_r 90, ov_r 92]) (pc2 := 79) b_205_78_1 rfl rfl ?_
        refine ov_getf (v := ov_i (h260 90 7)) d_205_79 fl_Mo_177 (zb_90 I261) (zs_90 I261) rfl ?_
        have g280 := rg_90_7 I261
        refine ov_iald d_205_82 (zb_92 I261) (zs_92 I261) (by omega) ?_
        rw [show h260 92 = h18 92 from E263]
        have g281 := ra_92 I19 (h260 90 7)
        refine ov_ifeq (tgt := 99) d_205_83 (by decide) (by omega) (fun c282 => ?_) (fun c282 => ?_)
        · skip
          refine ov_blk (ls2 := [(0, ov_r 90)]) (st2 := [ov_r 90]) (pc2 := 100) b_205_99_1 rfl rfl ?_
          refine ov_getf (v := ov_i (h260 90 8)) d_205_100 fl_Mo_180 (zb_90 I261) (zs_90 I261) rfl ?_
          refine ov_ifle (tgt := 111) d_205_103 (by decide) (by omega) (fun c284 => ?_) (fun c284 => ?_)
          · skip
            have x348 := t96_348 I261
            refine ov_blk (ls2 := [(0, ov_r 90), (1, ov_i 0)]) (st2 := []) (pc2 := 113) b_205_111_2 rfl rfl ?_
            have L288 : ∀ (n285 : Nat) (x1 : Int) (z289 : ov_Z) (h290 : ov_H) (I291 : ov_N F z289 h290) (E292 : h290 91 = h 91) (E293 : h290 92 = h18 92) (E294 : h290 93 = h18 93) (E295 : h290 94 = h18 94) (E296 : h290 95 = h 95) (E297 : h290 97 = h260 97) (E298 : h290 98 = h260 98) (E299 : h290 99 = h260 99) (E300 : h290 100 = h 100) (E301 : h290 103 = h 103) (E302 : h290 104 = h 104) (E303 : h290 105 = h 105) (E304 : h290 106 = h 106) (E305 : h290 109 = h 109) (E306 : h290 114 = h 114) (xk : ∀ j : Int, 0 ≤ j → j < x1 → (h290 96) j = h260 96 (340 + j)) (xl : ∀ j : Int, 340 ≤ j → (h290 96) j = h260 96 j) (q287 : 0 ≤ x1 ∧ x1 ≤ 340 ∧ (h290 90 2) = (h260 90 2) ∧ (h290 90 7) = (h260 90 7) ∧ (h290 90 8) = (h260 90 8) ∧ (h290 90 13) = (h260 90 13) ∧ (h290 90 20) = (h260 90 20) ∧ (h290 90 22) = (h260 90 22) ∧ (h290 90 25) = (h260 90 25) ∧ (h290 90 26) = (h260 90 26) ∧ (h290 90 28) = (h260 90 28) ∧ (h290 90 29) = (h260 90 29) ∧ (h290 90 30) = (h260 90 30) ∧ (h290 90 34) = (h260 90 34)), 340 - x1 < (n285 : Int) → ov_R u d ov_m205 113 [(0, ov_r 90), (1, ov_i x1)] [] z289 h290 (P_Mo_town_90 F z h) := by
              intro n285
              induction n285 with
              | zero =>
                intro x1 z289 h290 I291 E292 E293 E294 E295 E296 E297 E298 E299 E300 E301 E302 E303 E304 E305 E306 xk xl q287 hn307
                exact absurd hn307 (by omega)
              | succ n285 ih286 =>
                intro x1 z289 h290 I291 E292 E293 E294 E295 E296 E297 E298 E299 E300 E301 E302 E303 E304 E305 E306 xk xl q287 hn307
                refine ov_blk (ls2 := [(0, ov_r 90), (1, ov_i x1)]) (st2 := [ov_i 340, ov_i x1]) (pc2 := 117) b_205_113_2 rfl rfl ?_
                refine ov_icge (tgt := 142) d_205_117 (by decide) (by omega) (by omega) (fun c308 => ?_) (fun c308 => ?_)
                · skip
                  refine ov_blk (ls2 := [(0, ov_r 90), (1, ov_i 0)]) (st2 := []) (pc2 := 144) b_205_142_2 rfl rfl ?_
                  have L312 : ∀ (n309 : Nat) (x1_ : Int) (z313 : ov_Z) (h314 : ov_H) (I315 : ov_N F z313 h314) (E316 : h314 91 = h 91) (E317 : h314 92 = h18 92) (E318 : h314 93 = h18 93) (E319 : h314 94 = h18 94) (E320 : h314 95 = h 95) (E321 : h314 96 = h290 96) (E322 : h314 99 = h260 99) (E323 : h314 100 = h 100) (E324 : h314 103 = h 103) (E325 : h314 104 = h 104) (E326 : h314 105 = h 105) (E327 : h314 106 = h 106) (E328 : h314 109 = h 109) (E329 : h314 114 = h 114) (xg : ∀ j : Int, 0 ≤ j → j < x1_ → (h314 97) j = h260 97 (1100 + j) ∧ (h314 98) j = h260 98 (1100 + j)) (xh : ∀ j : Int, 1100 ≤ j → (h314 97) j = h260 97 j ∧ (h314 98) j = h260 98 j) (q311 : 0 ≤ x1_ ∧ x1_ ≤ 1000 ∧ (h314 90 2) = (h290 90 2) ∧ (h314 90 7) = (h290 90 7) ∧ (h314 90 8) = (h290 90 8) ∧ (h314 90 13) = (h290 90 13) ∧ (h314 90 20) = (h290 90 20) ∧ (h314 90 22) = (h290 90 22) ∧ (h314 90 25) = (h290 90 25) ∧ (h314 90 26) = (h290 90 26) ∧ (h314 90 28) = (h290 90 28) ∧ (h314 90 29) = (h290 90 29) ∧ (h314 90 30) = (h290 90 30) ∧ (h314 90 34) = (h290 90 34)), 1000 - x1_ < (n309 : Int) → ov_R u d ov_m205 144 [(0, ov_r 90), (1, ov_i x1_)] [] z313 h314 (P_Mo_town_90 F z h) := by
                    intro n309
                    induction n309 with
                    | zero =>
                      intro x1_ z313 h314 I315 E316 E317 E318 E319 E320 E321 E322 E323 E324 E325 E326 E327 E328 E329 xg xh q311 hn330
                      exact absurd hn330 (by omega)
                    | succ n309 ih310 =>
                      intro x1_ z313 h314 I315 E316 E317 E318 E319 E320 E321 E322 E323 E324 E325 E326 E327 E328 E329 xg xh q311 hn330
                      refine ov_blk (ls2 := [(0, ov_r 90), (1, ov_i x1_)]) (st2 := [ov_r 90, ov_i x1_]) (pc2 := 146) b_205_144_2 rfl rfl ?_
                      refine ov_getf (v := ov_i (h314 90 13)) d_205_146 fl_Mo_208 (zb_90 I315) (zs_90 I315) rfl ?_
                      have g331 := rg_90_13 I315
                      refine ov_icge (tgt := 190) d_205_149 (by decide) (by omega) (by omega) (fun c332 => ?_) (fun c332 => ?_)
                      · skip
                        refine ov_blk (ls2 := [(0, ov_r 90), (1, ov_i x1_)]) (st2 := [ov_r 90]) (pc2 := 191) b_205_190_1 rfl rfl ?_
                        refine ov_cV (as := []) (st := []) (d2 := d - 1) d_205_191 lk_Mo_151 rfl (Nat.le_of_ble_eq_true rfl) (c := 1) (zb_90 I315) (zs_90 I315) ⟨by decide, rfl⟩ (by omega) (c_Mo_begins_90 (d - 1) (by omega) U I315 (by omega) (by show 0 ≤ (h314 90 22) ∧ (h314 90 22) ≤ 2000000000; omega)) ?_
                        rintro _ z347 h348 ⟨rfl, I349, f333, e334, e335, e336, e337, e338, e339, e340, e341, e342, e343, e344, e345, e346⟩
                        have E350 : h348 91 = h 91 := Eq.trans e334 E316
                        have E351 : h348 92 = h18 92 := Eq.trans e335 E317
                        have E352 : h348 93 = h18 93 := Eq.trans e336 E318
                        have E353 : h348 94 = h18 94 := Eq.trans e337 E319
                        have E354 : h348 95 = h 95 := Eq.trans e338 E320
                        have E355 : h348 96 = h290 96 := Eq.trans e339 E321
                        have E356 : h348 97 = h314 97 := e340
                        have E357 : h348 98 = h314 98 := e341
                        have E358 : h348 99 = h260 99 := Eq.trans e342 E322
                        have E359 : h348 105 = h 105 := Eq.trans e343 E326
                        have E360 : h348 106 = h 106 := Eq.trans e344 E327
                        have E361 : h348 109 = h 109 := Eq.trans e345 E328
                        have E362 : h348 114 = h 114 := Eq.trans e346 E329
                        show ov_R u d ov_m205 194 [(0, ov_r 90), (1, ov_i x1_)] [] z347 h348 (P_Mo_town_90 F z h)
                        have f363 : (h348 90 2) = (h314 90 2) ∧ (h348 90 7) = (h314 90 7) ∧ (h348 90 8) = (h314 90 8) ∧ (h348 90 13) = (h314 90 13) ∧ (h348 90 25) = (h314 90 25) ∧ (h348 90 26) = (h314 90 26) ∧ (h348 90 28) = (h314 90 28) ∧ (h348 90 29) = (h314 90 29) ∧ (h348 90 30) = (h314 90 30) ∧ (h348 90 34) = (h314 90 34) ∧ (h348 90 22) = (h314 90 22) + 1 ∧ (h348 100 0) = 0 := f333
                        clear f333
                        refine ov_blk (ls2 := [(0, ov_r 90), (1, ov_i x1_)]) (st2 := [ov_i 0]) (pc2 := 195) b_205_194_1 rfl rfl ?_
                        exact ov_reti (st := []) d_205_195 rfl ⟨_, rfl, I349, (by show (h348 90 25) = (h 90 25) ∧ (h348 90 26) = (h 90 26) ∧ (h348 90 28) = (h 90 28) ∧ (h348 90 29) = (h 90 29) ∧ (h348 90 30) = (h 90 30) ∧ (h348 90 34) = (h 90 34) ∧ 0 ≤ 0 ∧ 0 ≤ 16005 ∧ (h348 90 2) = 0; omega), E350, E354, E359, E360, E361, E362, (Or.inr ⟨(by show ov_WT (h348 96); rw [show h348 96 = h290 96 from E355]; exact ov_WT_of xw (fun j a b => xk j a (by omega))), (by show ov_CD (h348 96) (h348 97) (h348 98); rw [show h348 96 = h290 96 from E355, show h348 97 = h314 97 from E356, show h348 98 = h314 98 from E357]; exact ov_CD_of (xc (by omega)) (by omega) x348.2 (fun j a b => xk j a (by omega)) (fun j a b => xg j a (by omega))), (by show (h348 100 0) = 0; omega), (by show (h348 90 22) = h 90 22 + 1; omega)⟩)⟩
                      · skip
                        refine ov_blk (ls2 := [(0, ov_r 90), (1, ov_i x1_)]) (st2 := [ov_r 90]) (pc2 := 153) b_205_152_1 rfl rfl ?_
                        refine ov_getf (v := ov_r 97) d_205_153 fl_Mo_84 (zb_90 I315) (zs_90 I315) (congrArg ov_r (rg_90_11 I315)) ?_
                        refine ov_blk (ls2 := [(0, ov_r 90), (1, ov_i x1_)]) (st2 := [ov_r 90, ov_i x1_, ov_r 97]) (pc2 := 158) b_205_156_2 rfl rfl ?_
                        refine ov_getf (v := ov_r 97) d_205_158 fl_Mo_84 (zb_90 I315) (zs_90 I315) (congrArg ov_r (rg_90_11 I315)) ?_
                        refine ov_blk (ls2 := [(0, ov_r 90), (1, ov_i x1_)]) (st2 := [ov_i (1100 + x1_), ov_r 97, ov_i x1_, ov_r 97]) (pc2 := 166) b_205_161_3 rfl rfl ?_
                        refine ov_iald d_205_166 (zb_97 I315) (zs_97 I315) (by omega) ?_
                        have g364 := ra_97 I315 (1100 + x1_)
                        refine ov_iast d_205_167 (zb_97 I315) (zs_97 I315) (by omega) ?_
                        have I365 := ua_97 (k := x1_) (x := (h314 97 (1100 + x1_))) I315 (by omega)
                        refine ov_blk (ls2 := [(0, ov_r 90), (1, ov_i x1_)]) (st2 := [ov_r 90]) (pc2 := 169) b_205_168_1 rfl rfl ?_
                        refine ov_getf (v := ov_r 98) d_205_169 fl_Mo_87 (zb_90 I365) (zs_90 I365) (congrArg ov_r (rg_90_12 I365)) ?_
                        refine ov_blk (ls2 := [(0, ov_r 90), (1, ov_i x1_)]) (st2 := [ov_r 90, ov_i x1_, ov_r 98]) (pc2 := 174) b_205_172_2 rfl rfl ?_
                        refine ov_getf (v := ov_r 98) d_205_174 fl_Mo_87 (zb_90 I365) (zs_90 I365) (congrArg ov_r (rg_90_12 I365)) ?_
                        refine ov_blk (ls2 := [(0, ov_r 90), (1, ov_i x1_)]) (st2 := [ov_i (1100 + x1_), ov_r 98, ov_i x1_, ov_r 98]) (pc2 := 182) b_205_177_3 rfl rfl ?_
                        refine ov_iald d_205_182 (zb_98 I365) (zs_98 I365) (by omega) ?_
                        show ov_R u d ov_m205 183 [(0, ov_r 90), (1, ov_i x1_)] [ov_i (h314 98 (1100 + x1_)), ov_i x1_, ov_r 98] z313 (ov_up h314 97 x1_ (h314 97 (1100 + x1_))) (P_Mo_town_90 F z h)
                        have g366 := ra_98 I315 (1100 + x1_)
                        refine ov_iast d_205_183 (zb_98 I365) (zs_98 I365) (by omega) ?_
                        have I367 := ua_98 (k := x1_) (x := (h314 98 (1100 + x1_))) I365 (by omega)
                        refine ov_blk (ls2 := [(0, ov_r 90), (1, ov_i (x1_ + 1))]) (st2 := []) (pc2 := 187) b_205_184_1 rfl rfl ?_
                        refine ov_goto (tgt := 144) d_205_187 (by decide) ?_
                        exact ih310 (x1_ + 1) _ _ I367 E316 E317 E318 E319 E320 E321 E322 E323 E324 E325 E326 E327 E328 E329 (fun j a b => if e : j = x1_ then (by rw [e]; exact ⟨by show ov_up h314 97 x1_ _ 97 x1_ = _; rw [ov_up_row, ov_rs_eq]; exact (xh _ (by omega)).1, by show ov_up _ 98 x1_ _ 98 x1_ = _; rw [ov_up_row, ov_rs_eq]; exact (xh _ (by omega)).2⟩) else (by exact ⟨by show ov_up h314 97 x1_ _ 97 j = _; rw [ov_up_j e]; exact (xg j a (by omega)).1, by show ov_up _ 98 x1_ _ 98 j = _; rw [ov_up_j e]; exact (xg j a (by omega)).2⟩)) (fun j a => ⟨by show ov_up h314 97 x1_ _ 97 j = _; rw [ov_up_j (by omega)]; exact (xh j a).1, by show ov_up _ 98 x1_ _ 98 j = _; rw [ov_up_j (by omega)]; exact (xh j a).2⟩) (by show 0 ≤ (x1_ + 1) ∧ (x1_ + 1) ≤ 1000 ∧ (h314 90 2) = (h290 90 2) ∧ (h314 90 7) = (h290 90 7) ∧ (h314 90 8) = (h290 90 8) ∧ (h314 90 13) = (h290 90 13) ∧ (h314 90 20) = (h290 90 20) ∧ (h314 90 22) = (h290 90 22) ∧ (h314 90 25) = (h290 90 25) ∧ (h314 90 26) = (h290 90 26) ∧ (h314 90 28) = (h290 90 28) ∧ (h314 90 29) = (h290 90 29) ∧ (h314 90 30) = (h290 90 30) ∧ (h314 90 34) = (h290 90 34); omega) (by omega)
                  exact L312 1001 0 _ _ I291 E292 E293 E294 E295 E296 rfl E299 E300 E301 E302 E303 E304 E305 E306 (fun j a b => by omega) (fun j a => ⟨congrFun E297 j, congrFun E298 j⟩) (by show 0 ≤ 0 ∧ 0 ≤ 1000 ∧ (h290 90 2) = (h290 90 2) ∧ (h290 90 7) = (h290 90 7) ∧ (h290 90 8) = (h290 90 8) ∧ (h290 90 13) = (h290 90 13) ∧ (h290 90 20) = (h290 90 20) ∧ (h290 90 22) = (h290 90 22) ∧ (h290 90 25) = (h290 90 25) ∧ (h290 90 26) = (h290 90 26) ∧ (h290 90 28) = (h290 90 28) ∧ (h290 90 29) = (h290 90 29) ∧ (h290 90 30) = (h290 90 30) ∧ (h290 90 34) = (h290 90 34); omega) (by omega)
                · skip
                  have xe0 : x1 = 0 → h290 96 (340 + x1) = h260 96 340 := fun e => by rw [xl _ (by omega), e]; rfl
                  have xe1 : x1 = 1 → h290 96 (340 + x1) = h260 96 341 := fun e => by rw [xl _ (by omega), e]; rfl
                  have xe2 : x1 = 2 → h290 96 (340 + x1) = h260 96 342 := fun e => by rw [xl _ (by omega), e]; rfl
                  have xe9 : x1 = 9 → h290 96 (340 + x1) = h260 96 349 := fun e => by rw [xl _ (by omega), e]; rfl
                  refine ov_blk (ls2 := [(0, ov_r 90), (1, ov_i x1)]) (st2 := [ov_r 90]) (pc2 := 121) b_205_120_1 rfl rfl ?_
                  refine ov_getf (v := ov_r 96) d_205_121 fl_Mo_81 (zb_90 I291) (zs_90 I291) (congrArg ov_r (rg_90_10 I291)) ?_
                  refine ov_blk (ls2 := [(0, ov_r 90), (1, ov_i x1)]) (st2 := [ov_r 90, ov_i x1, ov_r 96]) (pc2 := 126) b_205_124_2 rfl rfl ?_
                  refine ov_getf (v := ov_r 96) d_205_126 fl_Mo_81 (zb_90 I291) (zs_90 I291) (congrArg ov_r (rg_90_10 I291)) ?_
                  refine ov_blk (ls2 := [(0, ov_r 90), (1, ov_i x1)]) (st2 := [ov_i (340 + x1), ov_r 96, ov_i x1, ov_r 96]) (pc2 := 134) b_205_129_3 rfl rfl ?_
                  refine ov_iald d_205_134 (zb_96 I291) (zs_96 I291) (by omega) ?_
                  have g368 := g96 I291 (340 + x1)
                  refine ov_iast d_205_135 (zb_96 I291) (zs_96 I291) (by omega) ?_
                  have I369 := ov_cp96 (k := x1) I291 (by omega) (by omega)
                  refine ov_blk (ls2 := [(0, ov_r 90), (1, ov_i (x1 + 1))]) (st2 := []) (pc2 := 139) b_205_136_1 rfl rfl ?_
                  refine ov_goto (tgt := 113) d_205_139 (by decide) ?_
                  exact ih286 (x1 + 1) _ _ I369 E292 E293 E294 E295 E296 E297 E298 E299 E300 E301 E302 E303 E304 E305 E306 (fun j a b => if e : j = x1 then (by rw [e, ov_up_row, ov_rs_eq]; exact xl _ (by omega)) else (by rw [ov_up_j e]; exact xk j a (by omega))) (fun j a => by rw [ov_up_j (by omega)]; exact xl j a) (by show 0 ≤ (x1 + 1) ∧ (x1 + 1) ≤ 340 ∧ (h290 90 2) = (h260 90 2) ∧ (h290 90 7) = (h260 90 7) ∧ (h290 90 8) = (h260 90 8) ∧ (h290 90 13) = (h260 90 13) ∧ (h290 90 20) = (h260 90 20) ∧ (h290 90 22) = (h260 90 22) ∧ (h290 90 25) = (h260 90 25) ∧ (h290 90 26) = (h260 90 26) ∧ (h290 90 28) = (h260 90 28) ∧ (h290 90 29) = (h260 90 29) ∧ (h290 90 30) = (h260 90 30) ∧ (h290 90 34) = (h260 90 34); omega) (by omega)
            exact L288 341 0 _ _ I261 E262 E263 E264 E265 E266 rfl rfl rfl E267 E268 E269 E270 E271 E272 E273 (fun j a b => by omega) (fun j a => rfl) (by show 0 ≤ 0 ∧ 0 ≤ 340 ∧ (h260 90 2) = (h260 90 2) ∧ (h260 90 7) = (h260 90 7) ∧ (h260 90 8) = (h260 90 8) ∧ (h260 90 13) = (h260 90 13) ∧ (h260 90 20) = (h260 90 20) ∧ (h260 90 22) = (h260 90 22) ∧ (h260 90 25) = (h260 90 25) ∧ (h260 90 26) = (h260 90 26) ∧ (h260 90 28) = (h260 90 28) ∧ (h260 90 29) = (h260 90 29) ∧ (h260 90 30) = (h260 90 30) ∧ (h260 90 34) = (h260 90 34); omega) (by omega)
          · omega
        · skip
          have qn : (h260 90 7) = n → h18 92 (h260 90 7) = h18 92 n := fun e => by rw [e]
          refine ov_blk (ls2 := [(0, ov_r 90)]) (st2 := [ov_r 90]) (pc2 := 87) b_205_86_1 rfl rfl ?_
          have cf370 : h260 92 (n) = h18 92 (n) := congrFun E263 (n)
          refine ov_cV (as := []) (st := []) (d2 := d - 1) d_205_87 lk_Mo_217 rfl (Nat.le_of_ble_eq_true rfl) (c := 1) (zb_90 I261) (zs_90 I261) ⟨by decide, rfl⟩ (by omega) (c_Mo_readLine_90 n (d - 1) (by omega) U I261 (by show 0 ≤ n ∧ n ≤ 1000 ∧ (h260 92 (n)) = 0 ∧ (h260 90 7) ≤ n; omega) (by show (h260 90 13) ≤ (h260 90 7); omega) (by show (h260 90 8) = 0; omega) (by show (h260 90 7) < n; omega)) ?_
          rintro _ z387 h388 ⟨rfl, I389, f371, e372, e373, e374, e375, e376, e377, e378, e379, e380, e381, e382, e383, y384, y385, y386⟩
          have E390 : h388 91 = h 91 := Eq.trans e372 E262
          have E391 : h388 92 = h18 92 := Eq.trans e373 E263
          have E392 : h388 93 = h18 93 := Eq.trans e374 E264
          have E393 : h388 94 = h18 94 := Eq.trans e375 E265
          have E394 : h388 95 = h 95 := Eq.trans e376 E266
          have E395 : h388 100 = h 100 := Eq.trans e377 E267
          have E396 : h388 103 = h 103 := Eq.trans e378 E268
          have E397 : h388 104 = h 104 := Eq.trans e379 E269
          have E398 : h388 105 = h 105 := Eq.trans e380 E270
          have E399 : h388 106 = h 106 := Eq.trans e381 E271
          have E400 : h388 109 = h 109 := Eq.trans e382 E272
          have E401 : h388 114 = h 114 := Eq.trans e383 E273
          show ov_R u d ov_m205 90 [(0, ov_r 90)] [] z387 h388 (P_Mo_town_90 F z h)
          have f402 : (h388 90 2) = (h260 90 2) ∧ (h388 90 20) = (h260 90 20) ∧ (h388 90 22) = (h260 90 22) ∧ (h388 90 25) = (h260 90 25) ∧ (h388 90 26) = (h260 90 26) ∧ (h388 90 28) = (h260 90 28) ∧ (h388 90 29) = (h260 90 29) ∧ (h388 90 30) = (h260 90 30) ∧ (h388 90 34) = (h260 90 34) ∧ (h260 90 7) ≤ (h388 90 7) ∧ (h388 90 7) ≤ n ∧ (h260 90 13) ≤ (h388 90 13) ∧ (h388 90 13) - (h260 90 13) ≤ (h388 90 7) - (h260 90 7) ∧ (h388 96 340) = (h260 96 340) ∧ (h388 96 341) = (h260 96 341) ∧ ((h388 90 8) = 0 → 1 ≤ (h260 96 342) → 1 ≤ (h388 96 342)) ∧ (1 ≤ (h260 96 349) → 1 ≤ (h388 96 349)) := f371
          clear f371
          have y384_ : ov_MK (h260 96) (h260 97) (h260 98) (h388 96) (h388 97) (h388 98) := y384
          have y385_ : ov_WS (h260 96) → ov_WS (h388 96) := y385
          have y386_ : (h388 90 8) = 0 → ov_CS (h260 96) (h260 97) (h260 98) (h260 90 13) → ov_CS (h388 96) (h388 97) (h388 98) (h388 90 13) := y386
          refine ov_blk (ls2 := [(0, ov_r 90)]) (st2 := [ov_i 59, ov_r 90]) (pc2 := 93) b_205_90_2 rfl rfl ?_
          have cf403 : h388 92 (n) = h18 92 (n) := congrFun E391 (n)
          refine ov_cV (as := [ov_i 59]) (st := []) (d2 := d - 1) d_205_93 lk_Mo_214 rfl (Nat.le_of_ble_eq_true rfl) (c := 1) (zb_90 I389) (zs_90 I389) ⟨by decide, rfl⟩ (by omega) (c_Mo_takeSign_90 n (d - 1) (by omega) U I389 59 (by omega) (by show 0 ≤ n ∧ n ≤ 1000 ∧ (h388 92 (n)) = 0 ∧ (h388 90 7) ≤ n; omega)) ?_
          rintro _ z421 h422 ⟨rfl, I423, f404, e405, e406, e407, e408, e409, e410, e411, e412, e413, e414, e415, e416, e417, e418, e419, e420⟩
          have E424 : h422 91 = h 91 := Eq.trans e405 E390
          have E425 : h422 92 = h18 92 := Eq.trans e406 E391
          have E426 : h422 93 = h18 93 := Eq.trans e407 E392
          have E427 : h422 94 = h18 94 := Eq.trans e408 E393
          have E428 : h422 95 = h 95 := Eq.trans e409 E394
          have E429 : h422 96 = h388 96 := e410
          have E430 : h422 97 = h388 97 := e411
          have E431 : h422 98 = h388 98 := e412
          have E432 : h422 99 = h388 99 := e413
          have E433 : h422 100 = h 100 := Eq.trans e414 E395
          have E434 : h422 103 = h 103 := Eq.trans e415 E396
          have E435 : h422 104 = h 104 := Eq.trans e416 E397
          have E436 : h422 105 = h 105 := Eq.trans e417 E398
          have E437 : h422 106 = h 106 := Eq.trans e418 E399
          have E438 : h422 109 = h 109 := Eq.trans e419 E400
          have E439 : h422 114 = h 114 := Eq.trans e420 E401
          show ov_R u d ov_m205 96 [(0, ov_r 90)] [] z421 h422 (P_Mo_town_90 F z h)
          have f440 : (h422 90 2) = (h388 90 2) ∧ (h422 90 13) = (h388 90 13) ∧ (h422 90 20) = (h388 90 20) ∧ (h422 90 22) = (h388 90 22) ∧ (h422 90 25) = (h388 90 25) ∧ (h422 90 26) = (h388 90 26) ∧ (h422 90 28) = (h388 90 28) ∧ (h422 90 29) = (h388 90 29) ∧ (h422 90 30) = (h388 90 30) ∧ (h422 90 34) = (h388 90 34) ∧ (h388 90 7) ≤ (h422 90 7) ∧ (h422 90 7) ≤ n ∧ (h388 90 8) ≤ (h422 90 8) ∧ (h388 90 7) < (h422 90 7) + (h422 90 8) := f404
          clear f404
          refine ov_goto (tgt := 67) d_205_96 (by decide) ?_
          have bm : ov_MK (h 96) (h 97) (h 98) (h422 96) (h422 97) (h422 98) := by rw [show h422 96 = h388 96 from E429, show h422 97 = h388 97 from E430, show h422 98 = h388 98 from E431]; exact ov_MK_trans xm y384_
          have bw : ov_WS (h422 96) := by rw [show h422 96 = h388 96 from E429]; exact y385_ xw
          have g8 := rg_90_8 I389
          have bc : (h422 90 8) = 0 → ov_CS (h422 96) (h422 97) (h422 98) (h422 90 13) := fun e => by rw [show h422 96 = h388 96 from E429, show h422 97 = h388 97 from E430, show h422 98 = h388 98 from E431]; rw [show (h422 90 13) = h388 90 13 by omega]; exact y386_ (by omega) (xc (by omega))
          exact ih256  _ _ I423 E424 E425 E426 E427 E428 E433 E434 E435 E436 E437 E438 E439 bm bw bc (by have cf441 : h422 96 340 = h388 96 340 := congrFun E429 340; have cf442 : h422 96 341 = h388 96 341 := congrFun E429 341; have cf443 : h422 96 342 = h388 96 342 := congrFun E429 342; have cf444 : h422 96 349 = h388 96 349 := congrFun E429 349; show 0 ≤ (h422 90 7) ∧ (h422 90 7) ≤ n ∧ (h422 90 13) ≤ (h422 90 7) ∧ ((h422 90 8) = 0 → 1 ≤ (h422 96 340) ∧ 1 ≤ (h422 96 341) ∧ 1 ≤ (h422 96 342)) ∧ 1 ≤ (h422 96 349) ∧ (h422 90 2) = (h230 90 2) ∧ (h422 90 20) = (h230 90 20) ∧ (h422 90 22) = (h230 90 22) ∧ (h422 90 25) = (h230 90 25) ∧ (h422 90 26) = (h230 90 26) ∧ (h422 90 28) = (h230 90 28) ∧ (h422 90 29) = (h230 90 29) ∧ (h422 90 30) = (h230 90 30) ∧ (h422 90 34) = (h230 90 34); omega) (by omega)
  exact L258 1003  _ _ I231 E232 E233 E234 E235 E236 E240 E241 E242 E243 E244 E245 E246 km248 kw249 (fun _ r a b => by exfalso; have q : r < (h230 96 348) := b; omega) (by show 0 ≤ (h230 90 7) ∧ (h230 90 7) ≤ n ∧ (h230 90 13) ≤ (h230 90 7) ∧ ((h230 90 8) = 0 → 1 ≤ (h230 96 340) ∧ 1 ≤ (h230 96 341) ∧ 1 ≤ (h230 96 342)) ∧ 1 ≤ (h230 96 349) ∧ (h230 90 2) = (h230 90 2) ∧ (h230 90 20) = (h230 90 20) ∧ (h230 90 22) = (h230 90 22) ∧ (h230 90 25) = (h230 90 25) ∧ (h230 90 26) = (h230 90 26) ∧ (h230 90 28) = (h230 90 28) ∧ (h230 90 29) = (h230 90 29) ∧ (h230 90 30) = (h230 90 30) ∧ (h230 90 34) = (h230 90 34); omega) (by omega)

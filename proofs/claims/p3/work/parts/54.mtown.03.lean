abbrev P_Mo_readLight_90 (F : ov_H × ov_Z) (z : ov_Z) (h : ov_H) (n : Int) : Option ov_V → ov_Z → ov_H → Prop := fun r0 z' h' => r0 = none ∧ ov_N F z' h' ∧ ((h' 90 2) = (h 90 2) ∧ (h' 90 13) = (h 90 13) ∧ (h' 90 20) = (h 90 20) ∧ (h' 90 22) = (h 90 22) ∧ (h' 90 25) = (h 90 25) ∧ (h' 90 26) = (h 90 26) ∧ (h' 90 28) = (h 90 28) ∧ (h' 90 29) = (h 90 29) ∧ (h' 90 30) = (h 90 30) ∧ (h' 90 34) = (h 90 34) ∧ (h 90 7) ≤ (h' 90 7) ∧ (h' 90 7) ≤ n ∧ (h 90 13) ≤ (h' 90 13) ∧ (h' 90 13) - (h 90 13) ≤ (h' 90 7) - (h 90 7) ∧ (h' 96 340) = (h 96 340) ∧ (h' 96 341) = (h 96 341) ∧ ((h' 90 8) = 0 → 1 ≤ (h 96 342) → 1 ≤ (h' 96 342)) ∧ (1 ≤ (h 96 349) → 1 ≤ (h' 96 349))) ∧ h' 91 = h 91 ∧ h' 92 = h 92 ∧ h' 93 = h 93 ∧ h' 94 = h 94 ∧ h' 95 = h 95 ∧ h' 97 = h 97 ∧ h' 98 = h 98 ∧ h' 99 = h 99 ∧ h' 100 = h 100 ∧ h' 103 = h 103 ∧ h' 105 = h 105 ∧ h' 106 = h 106 ∧ h' 109 = h 109 ∧ h' 114 = h 114 ∧ (ov_MK (h 96) (h 97) (h 98) (h' 96) (h' 97) (h' 98)) ∧ (ov_WS (h 96) → ov_WS (h' 96)) ∧ ((h' 90 8) = 0 → ov_CS (h 96) (h 97) (h 98) (h 90 13) → ov_CS (h' 96) (h' 97) (h' 98) (h' 90 13))
set_option maxHeartbeats 4000000 in
theorem c_Mo_readLight_90 {u : ov_U} {F : ov_H × ov_Z} (n : Int) {z : ov_Z} {h : ov_H} (d : Nat) (hd : 4 ≤ d) (U : ov_cap u) (I : ov_N F z h) (p0 : 0 ≤ n ∧ n ≤ 1000 ∧ (h 92 (n)) = 0 ∧ (h 90 7) ≤ n) (p1 : (h 90 13) ≤ (h 90 7)) (p2 : (h 90 8) = 0) (p3 : (h 90 7) < n) : ov_T u d ov_m219 [ov_r 90] z h (P_Mo_readLight_90 F z h n) := by
  refine ov_en rfl (Nat.le_of_ble_eq_true rfl) ?_
  show ov_R u d ov_m219 0 [(0, ov_r 90)] [] z h (P_Mo_readLight_90 F z h n)
  refine ov_blk (ls2 := [(0, ov_r 90)]) (st2 := [ov_r 90, ov_r 90]) (pc2 := 2) b_219_0_2 rfl rfl ?_
  refine ov_getf (v := ov_i (h 90 7)) d_219_2 fl_Mo_177 (zb_90 I) (zs_90 I) rfl ?_
  have g1 := rg_90_7 I
  refine ov_blk (ls2 := [(0, ov_r 90)]) (st2 := [ov_i ((h 90 7) + 1), ov_r 90]) (pc2 := 7) b_219_5_2 rfl rfl ?_
  refine ov_putf (x := ((h 90 7) + 1)) d_219_7 fl_Mo_177 (zb_90 I) (zs_90 I) rfl nk_0 rfl ?_
  have I2 := up_90_7 (x := ((h 90 7) + 1)) I (by omega)
  refine ov_blk (ls2 := [(0, ov_r 90)]) (st2 := [ov_r 90, ov_i 0, ov_r 90]) (pc2 := 13) b_219_10_3 rfl rfl ?_
  refine ov_getf (v := ov_r 96) d_219_13 fl_Mo_81 (zb_90 I2) (zs_90 I2) (congrArg ov_r (rg_90_10 I2)) ?_
  refine ov_blk (ls2 := [(0, ov_r 90)]) (st2 := [ov_i 340, ov_r 96, ov_i 0, ov_r 90]) (pc2 := 19) b_219_16_1 rfl rfl ?_
  refine ov_iald d_219_19 (zb_96 I2) (zs_96 I2) (by omega) ?_
  show ov_R u d ov_m219 20 [(0, ov_r 90)] [ov_i (h 96 340), ov_i 0, ov_r 90] z (ov_up h 90 7 ((h 90 7) + 1)) (P_Mo_readLight_90 F z h n)
  have g3 := t96_340 I
  refine ov_blk (ls2 := [(0, ov_r 90)]) (st2 := [ov_i ((h 96 340) - 1), ov_i 0, ov_r 90]) (pc2 := 22) b_219_20_2 rfl rfl ?_
  refine ov_cV (as := [ov_i 0, ov_i ((h 96 340) - 1)]) (st := []) (d2 := d - 1) d_219_22 lk_Mo_198 rfl (Nat.le_of_ble_eq_true rfl) (c := 1) (zb_90 I2) (zs_90 I2) ⟨by decide, rfl⟩ (by omega) (c_Mo_takeNumber_90 n (d - 1) (by omega) U I2 0 ((h 96 340) - 1) (by omega) (by omega) (by show 0 ≤ n ∧ n ≤ 1000 ∧ (h 92 (n)) = 0 ∧ ((h 90 7) + 1) ≤ n; omega)) ?_
  rintro _ z21 h22 ⟨v5, rfl, I23, f4, e6, e7, e8, e9, e10, e11, e12, e13, e14, e15, e16, e17, e18, e19, e20⟩
  have E24 : h22 91 = h 91 := e6
  have E25 : h22 92 = h 92 := e7
  have E26 : h22 93 = h 93 := e8
  have E27 : h22 94 = h 94 := e9
  have E28 : h22 95 = h 95 := e10
  have E29 : h22 96 = h 96 := e11
  have E30 : h22 97 = h 97 := e12
  have E31 : h22 98 = h 98 := e13
  have E32 : h22 99 = h 99 := e14
  have E33 : h22 100 = h 100 := e15
  have E34 : h22 103 = h 103 := e16
  have E35 : h22 105 = h 105 := e17
  have E36 : h22 106 = h 106 := e18
  have E37 : h22 109 = h 109 := e19
  have E38 : h22 114 = h 114 := e20
  show ov_R u d ov_m219 25 [(0, ov_r 90)] [ov_i v5] z21 h22 (P_Mo_readLight_90 F z h n)
  have f39 : (h22 90 2) = (h 90 2) ∧ (h22 90 13) = (h 90 13) ∧ (h22 90 20) = (h 90 20) ∧ (h22 90 22) = (h 90 22) ∧ (h22 90 25) = (h 90 25) ∧ (h22 90 26) = (h 90 26) ∧ (h22 90 28) = (h 90 28) ∧ (h22 90 29) = (h 90 29) ∧ (h22 90 30) = (h 90 30) ∧ (h22 90 34) = (h 90 34) ∧ ((h 90 7) + 1) ≤ (h22 90 7) ∧ (h22 90 7) ≤ n ∧ (h 90 8) ≤ (h22 90 8) ∧ ((h22 90 8) = 0 → (0 : Int) ≤ v5 ∧ v5 ≤ ((h 96 340) - 1)) ∧ (0 < (h22 90 8) → v5 = 0) ∧ ((h 90 7) + 1) < (h22 90 7) + (h22 90 8) := f4
  clear f4
  refine ov_blk (ls2 := [(0, ov_r 90), (1, ov_i v5)]) (st2 := [ov_r 90, ov_i 0, ov_r 90]) (pc2 := 29) b_219_25_4 rfl rfl ?_
  refine ov_getf (v := ov_r 96) d_219_29 fl_Mo_81 (zb_90 I23) (zs_90 I23) (congrArg ov_r (rg_90_10 I23)) ?_
  refine ov_blk (ls2 := [(0, ov_r 90), (1, ov_i v5)]) (st2 := [ov_i 341, ov_r 96, ov_i 0, ov_r 90]) (pc2 := 35) b_219_32_1 rfl rfl ?_
  refine ov_iald d_219_35 (zb_96 I23) (zs_96 I23) (by omega) ?_
  rw [show h22 96 = h 96 from E29]
  have g40 := t96_341 I
  refine ov_blk (ls2 := [(0, ov_r 90), (1, ov_i v5)]) (st2 := [ov_i ((h 96 341) - 1), ov_i 0, ov_r 90]) (pc2 := 38) b_219_36_2 rfl rfl ?_
  have cf41 : h22 92 (n) = h 92 (n) := congrFun E25 (n)
  refine ov_cV (as := [ov_i 0, ov_i ((h 96 341) - 1)]) (st := []) (d2 := d - 1) d_219_38 lk_Mo_198 rfl (Nat.le_of_ble_eq_true rfl) (c := 1) (zb_90 I23) (zs_90 I23) ⟨by decide, rfl⟩ (by omega) (c_Mo_takeNumber_90 n (d - 1) (by omega) U I23 0 ((h 96 341) - 1) (by omega) (by omega) (by show 0 ≤ n ∧ n ≤ 1000 ∧ (h22 92 (n)) = 0 ∧ (h22 90 7) ≤ n; omega)) ?_
  rintro _ z59 h60 ⟨v43, rfl, I61, f42, e44, e45, e46, e47, e48, e49, e50, e51, e52, e53, e54, e55, e56, e57, e58⟩
  have E62 : h60 91 = h 91 := Eq.trans e44 E24
  have E63 : h60 92 = h 92 := Eq.trans e45 E25
  have E64 : h60 93 = h 93 := Eq.trans e46 E26
  have E65 : h60 94 = h 94 := Eq.trans e47 E27
  have E66 : h60 95 = h 95 := Eq.trans e48 E28
  have E67 : h60 96 = h 96 := Eq.trans e49 E29
  have E68 : h60 97 = h 97 := Eq.trans e50 E30
  have E69 : h60 98 = h 98 := Eq.trans e51 E31
  have E70 : h60 99 = h 99 := Eq.trans e52 E32
  have E71 : h60 100 = h 100 := Eq.trans e53 E33
  have E72 : h60 103 = h 103 := Eq.trans e54 E34
  have E73 : h60 105 = h 105 := Eq.trans e55 E35
  have E74 : h60 106 = h 106 := Eq.trans e56 E36
  have E75 : h60 109 = h 109 := Eq.trans e57 E37
  have E76 : h60 114 = h 114 := Eq.trans e58 E38
  show ov_R u d ov_m219 41 [(0, ov_r 90), (1, ov_i v5)] [ov_i v43] z59 h60 (P_Mo_readLight_90 F z h n)
  have f77 : (h60 90 2) = (h22 90 2) ∧ (h60 90 13) = (h22 90 13) ∧ (h60 90 20) = (h22 90 20) ∧ (h60 90 22) = (h22 90 22) ∧ (h60 90 25) = (h22 90 25) ∧ (h60 90 26) = (h22 90 26) ∧ (h60 90 28) = (h22 90 28) ∧ (h60 90 29) = (h22 90 29) ∧ (h60 90 30) = (h22 90 30) ∧ (h60 90 34) = (h22 90 34) ∧ (h22 90 7) ≤ (h60 90 7) ∧ (h60 90 7) ≤ n ∧ (h22 90 8) ≤ (h60 90 8) ∧ ((h60 90 8) = 0 → (0 : Int) ≤ v43 ∧ v43 ≤ ((h 96 341) - 1)) ∧ (0 < (h60 90 8) → v43 = 0) ∧ (h22 90 7) < (h60 90 7) + (h60 90 8) := f42
  clear f42
  refine ov_blk (ls2 := [(0, ov_r 90), (1, ov_i v5), (2, ov_i v43), (3, ov_i (350 + (4 * ((6 * v43) + v5))))]) (st2 := [ov_r 90]) (pc2 := 56) b_219_41_12 rfl rfl ?_
  refine ov_getf (v := ov_i (h60 90 8)) d_219_56 fl_Mo_180 (zb_90 I61) (zs_90 I61) rfl ?_
  have g78 := rg_90_8 I61
  refine ov_ifne (tgt := 86) d_219_59 (by decide) (by omega) (fun c79 => ?_) (fun c79 => ?_)
  · skip
    refine ov_blk (ls2 := [(0, ov_r 90), (1, ov_i v5), (2, ov_i v43), (3, ov_i (350 + (4 * ((6 * v43) + v5))))]) (st2 := [ov_r 90]) (pc2 := 87) b_219_86_1 rfl rfl ?_
    refine ov_getf (v := ov_i (h60 90 8)) d_219_87 fl_Mo_180 (zb_90 I61) (zs_90 I61) rfl ?_
    refine ov_ifle (tgt := 97) d_219_90 (by decide) (by omega) (fun c81 => ?_) (fun c81 => ?_)
    · omega
    · skip
      refine ov_blk (ls2 := [(0, ov_r 90), (1, ov_i v5), (2, ov_i v43), (3, ov_i (350 + (4 * ((6 * v43) + v5))))]) (st2 := [ov_i (-1)]) (pc2 := 94) b_219_93_1 rfl rfl ?_
      refine ov_goto (tgt := 104) d_219_94 (by decide) ?_
      refine ov_blk (ls2 := [(0, ov_r 90), (1, ov_i v5), (2, ov_i v43), (3, ov_i (350 + (4 * ((6 * v43) + v5)))), (4, ov_i (-1))]) (st2 := [ov_i (-1)]) (pc2 := 108) b_219_104_2 rfl rfl ?_
      refine ov_ifge (tgt := 117) d_219_108 (by decide) (by omega) (fun c82 => ?_) (fun c82 => ?_)
      · omega
      · skip
        refine ov_blk (ls2 := [(0, ov_r 90), (1, ov_i v5), (2, ov_i v43), (3, ov_i (350 + (4 * ((6 * v43) + v5)))), (4, ov_i (-1))]) (st2 := [ov_i 1, ov_r 90]) (pc2 := 113) b_219_111_2 rfl rfl ?_
        refine ov_cV (as := [ov_i 1]) (st := []) (d2 := d - 1) d_219_113 lk_Mo_186 rfl (Nat.le_of_ble_eq_true rfl) (c := 1) (zb_90 I61) (zs_90 I61) ⟨by decide, rfl⟩ (by omega) (c_Mo_wrong_90 (d - 1) (by omega) U I61 1 (by omega) (by omega)) ?_
        rintro _ z99 h100 ⟨rfl, I101, f83, e84, e85, e86, e87, e88, e89, e90, e91, e92, e93, e94, e95, e96, e97, e98⟩
        have E102 : h100 91 = h 91 := Eq.trans e84 E62
        have E103 : h100 92 = h 92 := Eq.trans e85 E63
        have E104 : h100 93 = h 93 := Eq.trans e86 E64
        have E105 : h100 94 = h 94 := Eq.trans e87 E65
        have E106 : h100 95 = h 95 := Eq.trans e88 E66
        have E107 : h100 96 = h 96 := Eq.trans e89 E67
        have E108 : h100 97 = h 97 := Eq.trans e90 E68
        have E109 : h100 98 = h 98 := Eq.trans e91 E69
        have E110 : h100 99 = h 99 := Eq.trans e92 E70
        have E111 : h100 100 = h 100 := Eq.trans e93 E71
        have E112 : h100 103 = h 103 := Eq.trans e94 E72
        have E113 : h100 105 = h 105 := Eq.trans e95 E73
        have E114 : h100 106 = h 106 := Eq.trans e96 E74
        have E115 : h100 109 = h 109 := Eq.trans e97 E75
        have E116 : h100 114 = h 114 := Eq.trans e98 E76
        show ov_R u d ov_m219 116 [(0, ov_r 90), (1, ov_i v5), (2, ov_i v43), (3, ov_i (350 + (4 * ((6 * v43) + v5)))), (4, ov_i (-1))] [] z99 h100 (P_Mo_readLight_90 F z h n)
        have f117 : (h100 90 2) = (h60 90 2) ∧ (h100 90 7) = (h60 90 7) ∧ (h100 90 13) = (h60 90 13) ∧ (h100 90 20) = (h60 90 20) ∧ (h100 90 22) = (h60 90 22) ∧ (h100 90 25) = (h60 90 25) ∧ (h100 90 26) = (h60 90 26) ∧ (h100 90 28) = (h60 90 28) ∧ (h100 90 29) = (h60 90 29) ∧ (h100 90 30) = (h60 90 30) ∧ (h100 90 34) = (h60 90 34) ∧ 0 < (h100 90 8) ∧ (h60 90 8) ≤ (h100 90 8) := f83
        clear f83
        have cf118 : h100 96 340 = h 96 340 := congrFun E107 340
        have cf119 : h100 96 341 = h 96 341 := congrFun E107 341
        have cf120 : h100 96 342 = h 96 342 := congrFun E107 342
        have cf121 : h100 96 349 = h 96 349 := congrFun E107 349
        have R122 : ov_RD (h 96) (h 97) (h 98) (h 90 13) (h100 96) (h100 97) (h100 98) (h 90 13) := by rw [show h100 96 = h 96 from E107, show h100 97 = h 97 from E108, show h100 98 = h 98 from E109]; exact ov_RD_refl _ _ _ _
        exact ov_retv (st := []) d_219_116 rfl ⟨rfl, I101, (by show (h100 90 2) = (h 90 2) ∧ (h100 90 13) = (h 90 13) ∧ (h100 90 20) = (h 90 20) ∧ (h100 90 22) = (h 90 22) ∧ (h100 90 25) = (h 90 25) ∧ (h100 90 26) = (h 90 26) ∧ (h100 90 28) = (h 90 28) ∧ (h100 90 29) = (h 90 29) ∧ (h100 90 30) = (h 90 30) ∧ (h100 90 34) = (h 90 34) ∧ (h 90 7) ≤ (h100 90 7) ∧ (h100 90 7) ≤ n ∧ (h 90 13) ≤ (h100 90 13) ∧ (h100 90 13) - (h 90 13) ≤ (h100 90 7) - (h 90 7) ∧ (h100 96 340) = (h 96 340) ∧ (h100 96 341) = (h 96 341) ∧ ((h100 90 8) = 0 → 1 ≤ (h 96 342) → 1 ≤ (h100 96 342)) ∧ (1 ≤ (h 96 349) → 1 ≤ (h100 96 349)); omega), E102, E103, E104, E105, E106, E108, E109, E110, E111, E112, E113, E114, E115, E116, R122.1, R122.2.1, (fun _ w => by show ov_CS (h100 96) (h100 97) (h100 98) (h100 90 13); rw [show (h100 90 13) = h 90 13 by omega]; exact R122.2.2 w)⟩
  · skip
    refine ov_blk (ls2 := [(0, ov_r 90), (1, ov_i v5), (2, ov_i v43), (3, ov_i (350 + (4 * ((6 * v43) + v5))))]) (st2 := [ov_r 90]) (pc2 := 63) b_219_62_1 rfl rfl ?_
    refine ov_getf (v := ov_r 96) d_219_63 fl_Mo_81 (zb_90 I61) (zs_90 I61) (congrArg ov_r (rg_90_10 I61)) ?_
    refine ov_blk (ls2 := [(0, ov_r 90), (1, ov_i v5), (2, ov_i v43), (3, ov_i (350 + (4 * ((6 * v43) + v5))))]) (st2 := [ov_i (350 + (4 * ((6 * v43) + v5))), ov_r 96]) (pc2 := 67) b_219_66_1 rfl rfl ?_
    refine ov_iald d_219_67 (zb_96 I61) (zs_96 I61) (by omega) ?_
    rw [show h60 96 = h 96 from E67]
    have g123 := g96 I (350 + (4 * ((6 * v43) + v5)))
    refine ov_ifle (tgt := 86) d_219_68 (by decide) (by omega) (fun c124 => ?_) (fun c124 => ?_)
    · skip
      refine ov_blk (ls2 := [(0, ov_r 90), (1, ov_i v5), (2, ov_i v43), (3, ov_i (350 + (4 * ((6 * v43) + v5))))]) (st2 := [ov_r 90]) (pc2 := 87) b_219_86_1 rfl rfl ?_
      refine ov_getf (v := ov_i (h60 90 8)) d_219_87 fl_Mo_180 (zb_90 I61) (zs_90 I61) rfl ?_
      refine ov_ifle (tgt := 97) d_219_90 (by decide) (by omega) (fun c126 => ?_) (fun c126 => ?_)
      · skip
        refine ov_blk (ls2 := [(0, ov_r 90), (1, ov_i v5), (2, ov_i v43), (3, ov_i (350 + (4 * ((6 * v43) + v5))))]) (st2 := [ov_i 4, ov_i 13, ov_r 90]) (pc2 := 101) b_219_97_3 rfl rfl ?_
        have cf127 : h60 92 (n) = h 92 (n) := congrFun E63 (n)
        refine ov_cV (as := [ov_i 13, ov_i 4]) (st := []) (d2 := d - 1) d_219_101 lk_Mo_202 rfl (Nat.le_of_ble_eq_true rfl) (c := 1) (zb_90 I61) (zs_90 I61) ⟨by decide, rfl⟩ (by omega) (c_Mo_wordHere_90 n (d - 1) (by omega) U I61 13 4 (by omega) (by omega) (by show 0 ≤ n ∧ n ≤ 1000 ∧ (h60 92 (n)) = 0 ∧ (h60 90 7) ≤ n; omega) (by omega)) ?_
        rintro _ _ _ ⟨v129, rfl, rfl, rfl, f128⟩
        show ov_R u d ov_m219 104 [(0, ov_r 90), (1, ov_i v5), (2, ov_i v43), (3, ov_i (350 + (4 * ((6 * v43) + v5))))] [ov_i v129] z59 h60 (P_Mo_readLight_90 F z h n)
        have f130 : -1 ≤ v129 ∧ v129 < (4 : Int) ∧ (0 ≤ v129 → (h60 90 7) < n ∧ (h60 90 8) = 0) := f128
        clear f128
        refine ov_blk (ls2 := [(0, ov_r 90), (1, ov_i v5), (2, ov_i v43), (3, ov_i (350 + (4 * ((6 * v43) + v5)))), (4, ov_i v129)]) (st2 := [ov_i v129]) (pc2 := 108) b_219_104_2 rfl rfl ?_
        refine ov_ifge (tgt := 117) d_219_108 (by decide) (by omega) (fun c131 => ?_) (fun c131 => ?_)
        · skip
          refine ov_blk (ls2 := [(0, ov_r 90), (1, ov_i v5), (2, ov_i v43), (3, ov_i (350 + (4 * ((6 * v43) + v5)))), (4, ov_i v129)]) (st2 := [ov_r 90, ov_r 90]) (pc2 := 119) b_219_117_2 rfl rfl ?_
          refine ov_getf (v := ov_i (h60 90 7)) d_219_119 fl_Mo_177 (zb_90 I61) (zs_90 I61) rfl ?_
          have g132 := rg_90_7 I61
          refine ov_blk (ls2 := [(0, ov_r 90), (1, ov_i v5), (2, ov_i v43), (3, ov_i (350 + (4 * ((6 * v43) + v5)))), (4, ov_i v129)]) (st2 := [ov_i ((h60 90 7) + 1), ov_r 90]) (pc2 := 124) b_219_122_2 rfl rfl ?_
          refine ov_putf (x := ((h60 90 7) + 1)) d_219_124 fl_Mo_177 (zb_90 I61) (zs_90 I61) rfl nk_0 rfl ?_
          have I133 := up_90_7 (x := ((h60 90 7) + 1)) I61 (by omega)
          refine ov_blk (ls2 := [(0, ov_r 90), (1, ov_i v5), (2, ov_i v43), (3, ov_i (350 + (4 * ((6 * v43) + v5)))), (4, ov_i v129)]) (st2 := [ov_i 60, ov_i 1, ov_i 9, ov_r 90]) (pc2 := 133) b_219_127_4 rfl rfl ?_
          have cf134 : h60 92 (n) = h 92 (n) := congrFun E63 (n)
          refine ov_cV (as := [ov_i 9, ov_i 1, ov_i 60]) (st := []) (d2 := d - 1) d_219_133 lk_Mo_232 rfl (Nat.le_of_ble_eq_true rfl) (c := 1) (zb_90 I133) (zs_90 I133) ⟨by decide, rfl⟩ (by omega) (c_Mo_takeAfter_90 n (d - 1) (by omega) U I133 9 1 60 (by omega) (by omega) (by omega) (by show 0 ≤ n ∧ n ≤ 1000 ∧ (h60 92 (n)) = 0 ∧ ((h60 90 7) + 1) ≤ n; omega) (by omega)) ?_
          rintro _ z152 h153 ⟨v136, rfl, I154, f135, e137, e138, e139, e140, e141, e142, e143, e144, e145, e146, e147, e148, e149, e150, e151⟩
          have E155 : h153 91 = h 91 := Eq.trans e137 E62
          have E156 : h153 92 = h 92 := Eq.trans e138 E63
          have E157 : h153 93 = h 93 := Eq.trans e139 E64
          have E158 : h153 94 = h 94 := Eq.trans e140 E65
          have E159 : h153 95 = h 95 := Eq.trans e141 E66
          have E160 : h153 96 = h 96 := Eq.trans e142 E67
          have E161 : h153 97 = h 97 := Eq.trans e143 E68
          have E162 : h153 98 = h 98 := Eq.trans e144 E69
          have E163 : h153 99 = h 99 := Eq.trans e145 E70
          have E164 : h153 100 = h 100 := Eq.trans e146 E71
          have E165 : h153 103 = h 103 := Eq.trans e147 E72
          have E166 : h153 105 = h 105 := Eq.trans e148 E73
          have E167 : h153 106 = h 106 := Eq.trans e149 E74
          have E168 : h153 109 = h 109 := Eq.trans e150 E75
          have E169 : h153 114 = h 114 := Eq.trans e151 E76
          show ov_R u d ov_m219 136 [(0, ov_r 90), (1, ov_i v5), (2, ov_i v43), (3, ov_i (350 + (4 * ((6 * v43) + v5)))), (4, ov_i v129)] [ov_i v136] z152 h153 (P_Mo_readLight_90 F z h n)
          have f170 : (h153 90 2) = (h60 90 2) ∧ (h153 90 13) = (h60 90 13) ∧ (h153 90 20) = (h60 90 20) ∧ (h153 90 22) = (h60 90 22) ∧ (h153 90 25) = (h60 90 25) ∧ (h153 90 26) = (h60 90 26) ∧ (h153 90 28) = (h60 90 28) ∧ (h153 90 29) = (h60 90 29) ∧ (h153 90 30) = (h60 90 30) ∧ (h153 90 34) = (h60 90 34) ∧ ((h60 90 7) + 1) ≤ (h153 90 7) ∧ (h153 90 7) ≤ n ∧ (h60 90 8) ≤ (h153 90 8) ∧ ((h153 90 8) = 0 → (1 : Int) ≤ v136 ∧ v136 ≤ (60 : Int)) ∧ (0 < (h153 90 8) → v136 = 0) := f135
          clear f135
          refine ov_blk (ls2 := [(0, ov_r 90), (1, ov_i v5), (2, ov_i v43), (3, ov_i (350 + (4 * ((6 * v43) + v5)))), (4, ov_i v129), (5, ov_i v136)]) (st2 := []) (pc2 := 138) b_219_136_1 rfl rfl ?_
          have J171 : ∀ (j172 : Int) (q173 : 0 ≤ j172 ∧ j172 ≤ 72000 ∧ (1 ≤ (h 96 349) → (h153 90 8) = 0 → 1 ≤ j172) ∧ ((h153 90 8) = 0 → j172 % (h 96 349) = 0 ∧ (v129 < 2 → j172 % v136 = 0))), ov_R u d ov_m219 189 [(0, ov_r 90), (1, ov_i v5), (2, ov_i v43), (3, ov_i (350 + (4 * ((6 * v43) + v5)))), (4, ov_i v129), (5, ov_i v136), (6, ov_i j172)] [] z152 h153 (P_Mo_readLight_90 F z h n) := by
            intro j172 q173
            refine ov_blk (ls2 := [(0, ov_r 90), (1, ov_i v5), (2, ov_i v43), (3, ov_i (350 + (4 * ((6 * v43) + v5)))), (4, ov_i v129), (5, ov_i v136), (6, ov_i j172)]) (st2 := [ov_r 90]) (pc2 := 190) b_219_189_1 rfl rfl ?_
            refine ov_getf (v := ov_i (h153 90 8)) d_219_190 fl_Mo_180 (zb_90 I154) (zs_90 I154) rfl ?_
            have g174 := rg_90_8 I154
            refine ov_ifne (tgt := 219) d_219_193 (by decide) (by omega) (fun c175 => ?_) (fun c175 => ?_)
            · skip
              refine ov_blk (ls2 := [(0, ov_r 90), (1, ov_i v5), (2, ov_i v43), (3, ov_i (350 + (4 * ((6 * v43) + v5)))), (4, ov_i v129), (5, ov_i v136), (6, ov_i j172)]) (st2 := [ov_r 90]) (pc2 := 220) b_219_219_1 rfl rfl ?_
              refine ov_getf (v := ov_i (h153 90 8)) d_219_220 fl_Mo_180 (zb_90 I154) (zs_90 I154) rfl ?_
              refine ov_ifle (tgt := 227) d_219_223 (by decide) (by omega) (fun c177 => ?_) (fun c177 => ?_)
              · omega
              · skip
                have cf178 : h153 96 340 = h 96 340 := congrFun E160 340
                have cf179 : h153 96 341 = h 96 341 := congrFun E160 341
                have cf180 : h153 96 342 = h 96 342 := congrFun E160 342
                have cf181 : h153 96 349 = h 96 349 := congrFun E160 349
                have R182 : ov_RD (h 96) (h 97) (h 98) (h 90 13) (h153 96) (h153 97) (h153 98) (h 90 13) := by rw [show h153 96 = h 96 from E160, show h153 97 = h 97 from E161, show h153 98 = h 98 from E162]; exact ov_RD_refl _ _ _ _
                exact ov_retv (st := []) d_219_226 rfl ⟨rfl, I154, (by show (h153 90 2) = (h 90 2) ∧ (h153 90 13) = (h 90 13) ∧ (h153 90 20) = (h 90 20) ∧ (h153 90 22) = (h 90 22) ∧ (h153 90 25) = (h 90 25) ∧ (h153 90 26) = (h 90 26) ∧ (h153 90 28) = (h 90 28) ∧ (h153 90 29) = (h 90 29) ∧ (h153 90 30) = (h 90 30) ∧ (h153 90 34) = (h 90 34) ∧ (h 90 7) ≤ (h153 90 7) ∧ (h153 90 7) ≤ n ∧ (h 90 13) ≤ (h153 90 13) ∧ (h153 90 13) - (h 90 13) ≤ (h153 90 7) - (h 90 7) ∧ (h153 96 340) = (h 96 340) ∧ (h153 96 341) = (h 96 341) ∧ ((h153 90 8) = 0 → 1 ≤ (h 96 342) → 1 ≤ (h153 96 342)) ∧ (1 ≤ (h 96 349) → 1 ≤ (h153 96 349)); omega), E155, E156, E157, E158, E159, E161, E162, E163, E164, E165, E166, E167, E168, E169, R182.1, R182.2.1, (fun _ w => by show ov_CS (h153 96) (h153 97) (h153 98) (h153 90 13); rw [show (h153 90 13) = h 90 13 by omega]; exact R182.2.2 w)⟩
            · skip
              refine ov_blk (ls2 := [(0, ov_r 90), (1, ov_i v5), (2, ov_i v43), (3, ov_i (350 + (4 * ((6 * v43) + v5)))), (4, ov_i v129), (5, ov_i v136), (6, ov_i j172)]) (st2 := [ov_i 1200, ov_i j172]) (pc2 := 201) b_219_196_2 rfl rfl ?_
              refine ov_icle (tgt := 219) d_219_201 (by decide) (by omega) (by omega) (fun c183 => ?_) (fun c183 => ?_)
              · skip
                refine ov_blk (ls2 := [(0, ov_r 90), (1, ov_i v5), (2, ov_i v43), (3, ov_i (350 + (4 * ((6 * v43) + v5)))), (4, ov_i v129), (5, ov_i v136), (6, ov_i j172)]) (st2 := [ov_r 90]) (pc2 := 220) b_219_219_1 rfl rfl ?_
                refine ov_getf (v := ov_i (h153 90 8)) d_219_220 fl_Mo_180 (zb_90 I154) (zs_90 I154) rfl ?_
                refine ov_ifle (tgt := 227) d_219_223 (by decide) (by omega) (fun c185 => ?_) (fun c185 => ?_)
                · skip
                  obtain ⟨ja, jb, jc, jd⟩ := q173
                  have j8 : h153 90 8 = 0 := by omega
                  have jl := fun u => jc u j8
                  have jm := (jd j8).1
                  have jn : Unit → v129 < 2 → j172 % v136 = 0 := fun _ => (jd j8).2
                  clear jc jd
                  have k186 : (h22 90 2) = (h 90 2) ∧ (h22 90 13) = (h 90 13) ∧ (h22 90 20) = (h 90 20) ∧ (h22 90 22) = (h 90 22) ∧ (h22 90 25) = (h 90 25) ∧ (h22 90 26) = (h 90 26) ∧ (h22 90 28) = (h 90 28) ∧ (h22 90 29) = (h 90 29) ∧ (h22 90 30) = (h 90 30) ∧ (h22 90 34) = (h 90 34) ∧ ((h 90 7) + 1) ≤ (h22 90 7) ∧ (h22 90 7) ≤ n ∧ (h 90 8) ≤ (h22 90 8) ∧ ((0 : Int) ≤ v5 ∧ v5 ≤ ((h 96 340) - 1)) ∧ ((h 90 7) + 1) < (h22 90 7) + (h22 90 8) := ⟨f39.1, f39.2.1, f39.2.2.1, f39.2.2.2.1, f39.2.2.2.2.1, f39.2.2.2.2.2.1, f39.2.2.2.2.2.2.1, f39.2.2.2.2.2.2.2.1, f39.2.2.2.2.2.2.2.2.1, f39.2.2.2.2.2.2.2.2.2.1, f39.2.2.2.2.2.2.2.2.2.2.1, f39.2.2.2.2.2.2.2.2.2.2.2.1, f39.2.2.2.2.2.2.2.2.2.2.2.2.1, f39.2.2.2.2.2.2.2.2.2.2.2.2.2.1 (by omega), f39.2.2.2.2.2.2.2.2.2.2.2.2.2.2.2⟩
                  clear f39
                  have k187 : (h60 90 2) = (h22 90 2) ∧ (h60 90 13) = (h22 90 13) ∧ (h60 90 20) = (h22 90 20) ∧ (h60 90 22) = (h22 90 22) ∧ (h60 90 25) = (h22 90 25) ∧ (h60 90 26) = (h22 90 26) ∧ (h60 90 28) = (h22 90 28) ∧ (h60 90 29) = (h22 90 29) ∧ (h60 90 30) = (h22 90 30) ∧ (h60 90 34) = (h22 90 34) ∧ (h22 90 7) ≤ (h60 90 7) ∧ (h60 90 7) ≤ n ∧ (h22 90 8) ≤ (h60 90 8) ∧ ((0 : Int) ≤ v43 ∧ v43 ≤ ((h 96 341) - 1)) ∧ (h22 90 7) < (h60 90 7) + (h60 90 8) := ⟨f77.1, f77.2.1, f77.2.2.1, f77.2.2.2.1, f77.2.2.2.2.1, f77.2.2.2.2.2.1, f77.2.2.2.2.2.2.1, f77.2.2.2.2.2.2.2.1, f77.2.2.2.2.2.2.2.2.1, f77.2.2.2.2.2.2.2.2.2.1, f77.2.2.2.2.2.2.2.2.2.2.1, f77.2.2.2.2.2.2.2.2.2.2.2.1, f77.2.2.2.2.2.2.2.2.2.2.2.2.1, f77.2.2.2.2.2.2.2.2.2.2.2.2.2.1 (by omega), f77.2.2.2.2.2.2.2.2.2.2.2.2.2.2.2⟩
                  clear f77
                  have k188 : -1 ≤ v129 ∧ v129 < (4 : Int) := ⟨f130.1, f130.2.1⟩
                  clear f130
                  have k189 : (h153 90 2) = (h60 90 2) ∧ (h153 90 13) = (h60 90 13) ∧ (h153 90 20) = (h60 90 20) ∧ (h153 90 22) = (h60 90 22) ∧ (h153 90 25) = (h60 90 25) ∧ (h153 90 26) = (h60 90 26) ∧ (h153 90 28) = (h60 90 28) ∧ (h153 90 29) = (h60 90 29) ∧ (h153 90 30) = (h60 90 30) ∧ (h153 90 34) = (h60 90 34) ∧ ((h60 90 7) + 1) ≤ (h153 90 7) ∧ (h153 90 7) ≤ n ∧ (h60 90 8) ≤ (h153 90 8) ∧ ((1 : Int) ≤ v136 ∧ v136 ≤ (60 : Int)) := ⟨f170.1, f170.2.1, f170.2.2.1, f170.2.2.2.1, f170.2.2.2.2.1, f170.2.2.2.2.2.1, f170.2.2.2.2.2.2.1, f170.2.2.2.2.2.2.2.1, f170.2.2.2.2.2.2.2.2.1, f170.2.2.2.2.2.2.2.2.2.1, f170.2.2.2.2.2.2.2.2.2.2.1, f170.2.2.2.2.2.2.2.2.2.2.2.1, f170.2.2.2.2.2.2.2.2.2.2.2.2.1, f170.2.2.2.2.2.2.2.2.2.2.2.2.2.1 (by omega)⟩
                  clear f170
                  refine ov_blk (ls2 := [(0, ov_r 90), (1, ov_i v5), (2, ov_i v43), (3, ov_i (350 + (4 * ((6 * v43) + v5)))), (4, ov_i v129), (5, ov_i v136), (6, ov_i j172)]) (st2 := [ov_r 90]) (pc2 := 228) b_219_227_1 rfl rfl ?_
                  refine ov_getf (v := ov_r 96) d_219_228 fl_Mo_81 (zb_90 I154) (zs_90 I154) (congrArg ov_r (rg_90_10 I154)) ?_
                  refine ov_blk (ls2 := [(0, ov_r 90), (1, ov_i v5), (2, ov_i v43), (3, ov_i (350 + (4 * ((6 * v43) + v5)))), (4, ov_i v129), (5, ov_i v136), (6, ov_i j172)]) (st2 := [ov_i j172, ov_i 349, ov_r 96]) (pc2 := 236) b_219_231_2 rfl rfl ?_
                  refine ov_iast d_219_236 (zb_96 I154) (zs_96 I154) (by omega) ?_
                  have I190 := ua_96 (k := 349) (x := j172) I154 (by refine ⟨?_, ?_, ?_, ?_, ?_, ?_, ?_, ?_, ?_, ?_, ?_, ?_, ?_, ?_, ?_, ?_, ?_, ?_, ?_, ?_, ?_, ?_, ?_, ?_, ?_, ?_, ?_, ?_, ?_⟩ <;> omega)
                  have R191 : ov_RD (h 96) (h 97) (h 98) (h 90 13) (h153 96) (h153 97) (h153 98) (h 90 13) := by rw [show h153 96 = h 96 from E160, show h153 97 = h 97 from E161, show h153 98 = h 98 from E162]; exact ov_RD_refl _ _ _ _
                  have R192 : ov_RD (h 96) (h 97) (h 98) (h 90 13) ((ov_up h153 96 349 j172) 96) ((ov_up h153 96 349 j172) 97) ((ov_up h153 96 349 j172) 98) (h 90 13) := by rw [ov_up_row]; exact ov_RD_c R191 (t96_348 I154).2 rfl (by rw [show h153 96 = h 96 from E160]; exact jm)
                  refine ov_blk (ls2 := [(0, ov_r 90), (1, ov_i v5), (2, ov_i v43), (3, ov_i (350 + (4 * ((6 * v43) + v5)))), (4, ov_i v129), (5, ov_i v136), (6, ov_i j172)]) (st2 := [ov_r 90]) (pc2 := 238) b_219_237_1 rfl rfl ?_
                  refine ov_getf (v := ov_r 96) d_219_238 fl_Mo_81 (zb_90 I190) (zs_90 I190) (congrArg ov_r (rg_90_10 I190)) ?_
                  refine ov_blk (ls2 := [(0, ov_r 90), (1, ov_i v5), (2, ov_i v43), (3, ov_i (350 + (4 * ((6 * v43) + v5)))), (4, ov_i v129), (5, ov_i v136), (6, ov_i j172)]) (st2 := [ov_i (1 + v129), ov_i (350 + (4 * ((6 * v43) + v5))), ov_r 96]) (pc2 := 246) b_219_241_4 rfl rfl ?_
                  refine ov_iast d_219_246 (zb_96 I190) (zs_96 I190) (by omega) ?_
                  have I193 := ua_96 (k := (350 + (4 * ((6 * v43) + v5)))) (x := (1 + v129)) I190 (by refine ⟨?_, ?_, ?_, ?_, ?_, ?_, ?_, ?_, ?_, ?_, ?_, ?_, ?_, ?_, ?_, ?_, ?_, ?_, ?_, ?_, ?_, ?_, ?_, ?_, ?_, ?_, ?_, ?_, ?_⟩ <;> omega)
                  refine ov_blk (ls2 := [(0, ov_r 90), (1, ov_i v5), (2, ov_i v43), (3, ov_i (350 + (4 * ((6 * v43) + v5)))), (4, ov_i v129), (5, ov_i v136), (6, ov_i j172)]) (st2 := [ov_r 90]) (pc2 := 248) b_219_247_1 rfl rfl ?_
                  refine ov_getf (v := ov_r 96) d_219_248 fl_Mo_81 (zb_90 I193) (zs_90 I193) (congrArg ov_r (rg_90_10 I193)) ?_
                  refine ov_blk (ls2 := [(0, ov_r 90), (1, ov_i v5), (2, ov_i v43), (3, ov_i (350 + (4 * ((6 * v43) + v5)))), (4, ov_i v129), (5, ov_i v136), (6, ov_i j172)]) (st2 := [ov_i v136, ov_i ((350 + (4 * ((6 * v43) + v5))) + 1), ov_r 96]) (pc2 := 256) b_219_251_4 rfl rfl ?_
                  refine ov_iast d_219_256 (zb_96 I193) (zs_96 I193) (by omega) ?_
                  have I194 := ua_96 (k := ((350 + (4 * ((6 * v43) + v5))) + 1)) (x := v136) I193 (by refine ⟨?_, ?_, ?_, ?_, ?_, ?_, ?_, ?_, ?_, ?_, ?_, ?_, ?_, ?_, ?_, ?_, ?_, ?_, ?_, ?_, ?_, ?_, ?_, ?_, ?_, ?_, ?_, ?_, ?_⟩ <;> omega)
                  have R195 : ov_RD (h 96) (h 97) (h 98) (h 90 13) ((ov_up (ov_up (ov_up h153 96 349 j172) 96 (350 + (4 * ((6 * v43) + v5))) (1 + v129)) 96 ((350 + (4 * ((6 * v43) + v5))) + 1) v136) 96) ((ov_up (ov_up (ov_up h153 96 349 j172) 96 (350 + (4 * ((6 * v43) + v5))) (1 + v129)) 96 ((350 + (4 * ((6 * v43) + v5))) + 1) v136) 97) ((ov_up (ov_up (ov_up h153 96 349 j172) 96 (350 + (4 * ((6 * v43) + v5))) (1 + v129)) 96 ((350 + (4 * ((6 * v43) + v5))) + 1) v136) 98) (h 90 13) := by rw [ov_up_row, ov_up_row]; exact ov_RD_k R192 (t96_348 I190).2 (e := 6 * v43 + v5) (by omega) (by omega) (by omega) (by omega) (fun q => by show j172 % v136 = 0; exact jn () (by omega))
                  refine ov_blk (ls2 := [(0, ov_r 90), (1, ov_i v5), (2, ov_i v43), (3, ov_i (350 + (4 * ((6 * v43) + v5)))), (4, ov_i v129), (5, ov_i v136), (6, ov_i j172)]) (st2 := [ov_r 90]) (pc2 := 258) b_219_257_1 rfl rfl ?_
                  refine ov_getf (v := ov_r 96) d_219_258 fl_Mo_81 (zb_90 I194) (zs_90 I194) (congrArg ov_r (rg_90_10 I194)) ?_
                  refine ov_blk (ls2 := [(0, ov_r 90), (1, ov_i v5), (2, ov_i v43), (3, ov_i (350 + (4 * ((6 * v43) + v5)))), (4, ov_i v129), (5, ov_i v136), (6, ov_i j172)]) (st2 := [ov_i (v136 - 1), ov_i 0, ov_i 10, ov_r 90, ov_i ((350 + (4 * ((6 * v43) + v5))) + 2), ov_r 96]) (pc2 := 272) b_219_261_9 rfl rfl ?_
                  have cf196 : h153 92 (n) = h 92 (n) := congrFun E156 (n)
                  refine ov_cV (as := [ov_i 10, ov_i 0, ov_i (v136 - 1)]) (st := [ov_i ((350 + (4 * ((6 * v43) + v5))) + 2), ov_r 96]) (d2 := d - 1) d_219_272 lk_Mo_232 rfl (Nat.le_of_ble_eq_true rfl) (c := 1) (zb_90 I194) (zs_90 I194) ⟨by decide, rfl⟩ (by omega) (c_Mo_takeAfter_90 n (d - 1) (by omega) U I194 10 0 (v136 - 1) (by omega) (by omega) (by omega) (by show 0 ≤ n ∧ n ≤ 1000 ∧ (h153 92 (n)) = 0 ∧ (h153 90 7) ≤ n; omega) (by omega)) ?_
                  rintro _ z214 h215 ⟨v198, rfl, I216, f197, e199, e200, e201, e202, e203, e204, e205, e206, e207, e208, e209, e210, e211, e212, e213⟩
                  have E217 : h215 91 = h 91 := Eq.trans e199 E155
                  have E218 : h215 92 = h 92 := Eq.trans e200 E156
                  have E219 : h215 93 = h 93 := Eq.trans e201 E157
                  have E220 : h215 94 = h 94 := Eq.trans e202 E158
                  have E221 : h215 95 = h 95 := Eq.trans e203 E159
                  have E222 : h215 97 = h 97 := Eq.trans e205 E161
                  have E223 : h215 98 = h 98 := Eq.trans e206 E162
                  have E224 : h215 99 = h 99 := Eq.trans e207 E163
                  have E225 : h215 100 = h 100 := Eq.trans e208 E164
                  have E226 : h215 103 = h 103 := Eq.trans e209 E165
                  have E227 : h215 105 = h 105 := Eq.trans e210 E166
                  have E228 : h215 106 = h 106 := Eq.trans e211 E167
                  have E229 : h215 109 = h 109 := Eq.trans e212 E168
                  have E230 : h215 114 = h 114 := Eq.trans e213 E169
                  show ov_R u d ov_m219 275 [(0, ov_r 90), (1, ov_i v5), (2, ov_i v43), (3, ov_i (350 + (4 * ((6 * v43) + v5)))), (4, ov_i v129), (5, ov_i v136), (6, ov_i j172)] [ov_i v198, ov_i ((350 + (4 * ((6 * v43) + v5))) + 2), ov_r 96] z214 h215 (P_Mo_readLight_90 F z h n)
                  have f231 : (h215 90 2) = (h153 90 2) ∧ (h215 90 13) = (h153 90 13) ∧ (h215 90 20) = (h153 90 20) ∧ (h215 90 22) = (h153 90 22) ∧ (h215 90 25) = (h153 90 25) ∧ (h215 90 26) = (h153 90 26) ∧ (h215 90 28) = (h153 90 28) ∧ (h215 90 29) = (h153 90 29) ∧ (h215 90 30) = (h153 90 30) ∧ (h215 90 34) = (h153 90 34) ∧ (h153 90 7) ≤ (h215 90 7) ∧ (h215 90 7) ≤ n ∧ (h153 90 8) ≤ (h215 90 8) ∧ ((h215 90 8) = 0 → (0 : Int) ≤ v198 ∧ v198 ≤ (v136 - 1)) ∧ (0 < (h215 90 8) → v198 = 0) := f197
                  clear f197
                  have R232 : ov_RD (h 96) (h 97) (h 98) (h 90 13) (h215 96) (h215 97) (h215 98) (h 90 13) := by rw [e204, e205, e206]; exact R195
                  have lt233 : ((ov_up (ov_up (ov_up h153 96 349 j172) 96 (350 + (4 * ((6 * v43) + v5))) (1 + v129)) 96 ((350 + (4 * ((6 * v43) + v5))) + 1) v136) 96 340) = h153 96 340 := by try rw [ov_up_j (by omega)]; try rw [ov_up_j (by omega)]; try rw [ov_up_j (by omega)]; try rfl
                  have lt234 : h153 96 340 = h 96 340 := congrFun E160 340
                  have lt235 : ((ov_up (ov_up (ov_up h153 96 349 j172) 96 (350 + (4 * ((6 * v43) + v5))) (1 + v129)) 96 ((350 + (4 * ((6 * v43) + v5))) + 1) v136) 96 341) = h153 96 341 := by try rw [ov_up_j (by omega)]; try rw [ov_up_j (by omega)]; try rw [ov_up_j (by omega)]; try rfl
                  have lt236 : h153 96 341 = h 96 341 := congrFun E160 341
                  have lt237 : ((ov_up (ov_up (ov_up h153 96 349 j172) 96 (350 + (4 * ((6 * v43) + v5))) (1 + v129)) 96 ((350 + (4 * ((6 * v43) + v5))) + 1) v136) 96 342) = h153 96 342 := by try rw [ov_up_j (by omega)]; try rw [ov_up_j (by omega)]; try rw [ov_up_j (by omega)]; try rfl
                  have lt238 : h153 96 342 = h 96 342 := congrFun E160 342
                  have lt239 : ((ov_up (ov_up (ov_up h153 96 349 j172) 96 (350 + (4 * ((6 * v43) + v5))) (1 + v129)) 96 ((350 + (4 * ((6 * v43) + v5))) + 1) v136) 96 348) = h153 96 348 := by try rw [ov_up_j (by omega)]; try rw [ov_up_j (by omega)]; try rw [ov_up_j (by omega)]; try rfl
                  have lt240 : h153 96 348 = h 96 348 := congrFun E160 348
                  have lt241 : ((ov_up (ov_up (ov_up h153 96 349 j172) 96 (350 + (4 * ((6 * v43) + v5))) (1 + v129)) 96 ((350 + (4 * ((6 * v43) + v5))) + 1) v136) 96 349) = j172 := by try rw [ov_up_j (by omega)]; try rw [ov_up_j (by omega)]; try rw [ov_up_row, ov_rs_eq]; try rfl
                  have lt242 : h153 96 349 = h 96 349 := congrFun E160 349
                  have lt243 : h215 96 340 = ((ov_up (ov_up (ov_up h153 96 349 j172) 96 (350 + (4 * ((6 * v43) + v5))) (1 + v129)) 96 ((350 + (4 * ((6 * v43) + v5))) + 1) v136) 96 340) := congrFun e204 340
                  have lt244 : h215 96 341 = ((ov_up (ov_up (ov_up h153 96 349 j172) 96 (350 + (4 * ((6 * v43) + v5))) (1 + v129)) 96 ((350 + (4 * ((6 * v43) + v5))) + 1) v136) 96 341) := congrFun e204 341
                  have lt245 : h215 96 342 = ((ov_up (ov_up (ov_up h153 96 349 j172) 96 (350 + (4 * ((6 * v43) + v5))) (1 + v129)) 96 ((350 + (4 * ((6 * v43) + v5))) + 1) v136) 96 342) := congrFun e204 342
                  have lt246 : h215 96 348 = ((ov_up (ov_up (ov_up h153 96 349 j172) 96 (350 + (4 * ((6 * v43) + v5))) (1 + v129)) 96 ((350 + (4 * ((6 * v43) + v5))) + 1) v136) 96 348) := congrFun e204 348
                  have lt247 : h215 96 349 = ((ov_up (ov_up (ov_up h153 96 349 j172) 96 (350 + (4 * ((6 * v43) + v5))) (1 + v129)) 96 ((350 + (4 * ((6 * v43) + v5))) + 1) v136) 96 349) := congrFun e204 349
                  refine ov_iast d_219_275 (zb_96 I216) (zs_96 I216) (by omega) ?_
                  have I248 := ua_96 (k := ((350 + (4 * ((6 * v43) + v5))) + 2)) (x := v198) I216 (by refine ⟨?_, ?_, ?_, ?_, ?_, ?_, ?_, ?_, ?_, ?_, ?_, ?_, ?_, ?_, ?_, ?_, ?_, ?_, ?_, ?_, ?_, ?_, ?_, ?_, ?_, ?_, ?_, ?_, ?_⟩ <;> omega)
                  have R249 : ov_RD (h 96) (h 97) (h 98) (h 90 13) ((ov_up h215 96 ((350 + (4 * ((6 * v43) + v5))) + 2) v198) 96) ((ov_up h215 96 ((350 + (4 * ((6 * v43) + v5))) + 2) v198) 97) ((ov_up h215 96 ((350 + (4 * ((6 * v43) + v5))) + 2) v198) 98) (h 90 13) := by rw [ov_up_row]; exact ov_RD_l R232 (t96_348 I216).2 (e := 6 * v43 + v5) (i := 2) (by omega) (Or.inl rfl) (by omega)
                  refine ov_blk (ls2 := [(0, ov_r 90), (1, ov_i v5), (2, ov_i v43), (3, ov_i (350 + (4 * ((6 * v43) + v5)))), (4, ov_i v129), (5, ov_i v136), (6, ov_i j172)]) (st2 := [ov_r 90]) (pc2 := 277) b_219_276_1 rfl rfl ?_
                  refine ov_getf (v := ov_r 96) d_219_277 fl_Mo_81 (zb_90 I248) (zs_90 I248) (congrArg ov_r (rg_90_10 I248)) ?_
                  refine ov_blk (ls2 := [(0, ov_r 90), (1, ov_i v5), (2, ov_i v43), (3, ov_i (350 + (4 * ((6 * v43) + v5)))), (4, ov_i v129), (5, ov_i v136), (6, ov_i j172)]) (st2 := [ov_i v136, ov_i 0, ov_i 12, ov_r 90, ov_i ((350 + (4 * ((6 * v43) + v5))) + 3), ov_r 96]) (pc2 := 289) b_219_280_7 rfl rfl ?_
                  have cf250 : h215 92 (n) = h 92 (n) := congrFun E218 (n)
                  refine ov_cV (as := [ov_i 12, ov_i 0, ov_i v136]) (st := [ov_i ((350 + (4 * ((6 * v43) + v5))) + 3), ov_r 96]) (d2 := d - 1) d_219_289 lk_Mo_232 rfl (Nat.le_of_ble_eq_true rfl) (c := 1) (zb_90 I248) (zs_90 I248) ⟨by decide, rfl⟩ (by omega) (c_Mo_takeAfter_90 n (d - 1) (by omega) U I248 12 0 v136 (by omega) (by omega) (by omega) (by show 0 ≤ n ∧ n ≤ 1000 ∧ (h215 92 (n)) = 0 ∧ (h215 90 7) ≤ n; omega) (by omega)) ?_
                  rintro _ z268 h269 ⟨v252, rfl, I270, f251, e253, e254, e255, e256, e257, e258, e259, e260, e261, e262, e263, e264, e265, e266, e267⟩
                  have E271 : h269 91 = h 91 := Eq.trans e253 E217
                  have E272 : h269 92 = h 92 := Eq.trans e254 E218
                  have E273 : h269 93 = h 93 := Eq.trans e255 E219
                  have E274 : h269 94 = h 94 := Eq.trans e256 E220
                  have E275 : h269 95 = h 95 := Eq.trans e257 E221
                  have E276 : h269 97 = h 97 := Eq.trans e259 E222
                  have E277 : h269 98 = h 98 := Eq.trans e260 E223
                  have E278 : h269 99 = h 99 := Eq.trans e261 E224
                  have E279 : h269 100 = h 100 := Eq.trans e262 E225
                  have E280 : h269 103 = h 103 := Eq.trans e263 E226
                  have E281 : h269 105 = h 105 := Eq.trans e264 E227
                  have E282 : h269 106 = h 106 := Eq.trans e265 E228
                  have E283 : h269 109 = h 109 := Eq.trans e266 E229
                  have E284 : h269 114 = h 114 := Eq.trans e267 E230
                  show ov_R u d ov_m219 292 [(0, ov_r 90), (1, ov_i v5), (2, ov_i v43), (3, ov_i (350 + (4 * ((6 * v43) + v5)))), (4, ov_i v129), (5, ov_i v136), (6, ov_i j172)] [ov_i v252, ov_i ((350 + (4 * ((6 * v43) + v5))) + 3), ov_r 96] z268 h269 (P_Mo_readLight_90 F z h n)
                  have f285 : (h269 90 2) = (h215 90 2) ∧ (h269 90 13) = (h215 90 13) ∧ (h269 90 20) = (h215 90 20) ∧ (h269 90 22) = (h215 90 22) ∧ (h269 90 25) = (h215 90 25) ∧ (h269 90 26) = (h215 90 26) ∧ (h269 90 28) = (h215 90 28) ∧ (h269 90 29) = (h215 90 29) ∧ (h269 90 30) = (h215 90 30) ∧ (h269 90 34) = (h215 90 34) ∧ (h215 90 7) ≤ (h269 90 7) ∧ (h269 90 7) ≤ n ∧ (h215 90 8) ≤ (h269 90 8) ∧ ((h269 90 8) = 0 → (0 : Int) ≤ v252 ∧ v252 ≤ v136) ∧ (0 < (h269 90 8) → v252 = 0) := f251
                  clear f251
                  have R286 : ov_RD (h 96) (h 97) (h 98) (h 90 13) (h269 96) (h269 97) (h269 98) (h 90 13) := by rw [e258, e259, e260]; exact R249
                  have lt287 : ((ov_up h215 96 ((350 + (4 * ((6 * v43) + v5))) + 2) v198) 96 340) = h215 96 340 := by try rw [ov_up_j (by omega)]; try rfl
                  have lt288 : ((ov_up h215 96 ((350 + (4 * ((6 * v43) + v5))) + 2) v198) 96 341) = h215 96 341 := by try rw [ov_up_j (by omega)]; try rfl
                  have lt289 : ((ov_up h215 96 ((350 + (4 * ((6 * v43) + v5))) + 2) v198) 96 342) = h215 96 342 := by try rw [ov_up_j (by omega)]; try rfl
                  have lt290 : ((ov_up h215 96 ((350 + (4 * ((6 * v43) + v5))) + 2) v198) 96 348) = h215 96 348 := by try rw [ov_up_j (by omega)]; try rfl
                  have lt291 : ((ov_up h215 96 ((350 + (4 * ((6 * v43) + v5))) + 2) v198) 96 349) = h215 96 349 := by try rw [ov_up_j (by omega)]; try rfl
                  have lt292 : h269 96 340 = ((ov_up h215 96 ((350 + (4 * ((6 * v43) + v5))) + 2) v198) 96 340) := congrFun e258 340
                  have lt293 : h269 96 341 = ((ov_up h215 96 ((350 + (4 * ((6 * v43) + v5))) + 2) v198) 96 341) := congrFun e258 341
                  have lt294 : h269 96 342 = ((ov_up h215 96 ((350 + (4 * ((6 * v43) + v5))) + 2) v198) 96 342) := congrFun e258 342
                  have lt295 : h269 96 348 = ((ov_up h215 96 ((350 + (4 * ((6 * v43) + v5))) + 2) v198) 96 348) := congrFun e258 348
                  have lt296 : h269 96 349 = ((ov_up h215 96 ((350 + (4 * ((6 * v43) + v5))) + 2) v198) 96 349) := congrFun e258 349
                  refine ov_iast d_219_292 (zb_96 I270) (zs_96 I270) (by omega) ?_
                  have I297 := ua_96 (k := ((350 + (4 * ((6 * v43) + v5))) + 3)) (x := v252) I270 (by refine ⟨?_, ?_, ?_, ?_, ?_, ?_, ?_, ?_, ?_, ?_, ?_, ?_, ?_, ?_, ?_, ?_, ?_, ?_, ?_, ?_, ?_, ?_, ?_, ?_, ?_, ?_, ?_, ?_, ?_⟩ <;> omega)
                  have R298 : ov_RD (h 96) (h 97) (h 98) (h 90 13) ((ov_up h269 96 ((350 + (4 * ((6 * v43) + v5))) + 3) v252) 96) ((ov_up h269 96 ((350 + (4 * ((6 * v43) + v5))) + 3) v252) 97) ((ov_up h269 96 ((350 + (4 * ((6 * v43) + v5))) + 3) v252) 98) (h 90 13) := by rw [ov_up_row]; exact ov_RD_l R286 (t96_348 I270).2 (e := 6 * v43 + v5) (i := 3) (by omega) (Or.inr rfl) (by omega)
                  refine ov_blk (ls2 := [(0, ov_r 90), (1, ov_i v5), (2, ov_i v43), (3, ov_i (350 + (4 * ((6 * v43) + v5)))), (4, ov_i v129), (5, ov_i v136), (6, ov_i j172)]) (st2 := [ov_r 90]) (pc2 := 294) b_219_293_1 rfl rfl ?_
                  refine ov_getf (v := ov_r 96) d_219_294 fl_Mo_81 (zb_90 I297) (zs_90 I297) (congrArg ov_r (rg_90_10 I297)) ?_
                  refine ov_blk (ls2 := [(0, ov_r 90), (1, ov_i v5), (2, ov_i v43), (3, ov_i (350 + (4 * ((6 * v43) + v5)))), (4, ov_i v129), (5, ov_i v136), (6, ov_i j172)]) (st2 := [ov_i 347, ov_r 96, ov_i 347, ov_r 96]) (pc2 := 301) b_219_297_2 rfl rfl ?_
                  refine ov_iald d_219_301 (zb_96 I297) (zs_96 I297) (by omega) ?_
                  show ov_R u d ov_m219 302 [(0, ov_r 90), (1, ov_i v5), (2, ov_i v43), (3, ov_i (350 + (4 * ((6 * v43) + v5)))), (4, ov_i v129), (5, ov_i v136), (6, ov_i j172)] [ov_i ((ov_up h269 96 ((350 + (4 * ((6 * v43) + v5))) + 3) v252) 96 347), ov_i 347, ov_r 96] z268 (ov_up h269 96 ((350 + (4 * ((6 * v43) + v5))) + 3) v252) (P_Mo_readLight_90 F z h n)
                  refine ov_blk (ls2 := [(0, ov_r 90), (1, ov_i v5), (2, ov_i v43), (3, ov_i (350 + (4 * ((6 * v43) + v5)))), (4, ov_i v129), (5, ov_i v136), (6, ov_i j172)]) (st2 := [ov_i (((ov_up h269 96 ((350 + (4 * ((6 * v43) + v5))) + 3) v252) 96 347) + 1), ov_i 347, ov_r 96]) (pc2 := 304) b_219_302_2 rfl rfl ?_
                  refine ov_hav (fun w299 gw299 => ?_)
                  refine ov_iast d_219_304 (zb_96 I297) (zs_96 I297) (by omega) ?_
                  have I300 := ua_96 (k := 347) (x := w299) I297 (by refine ⟨?_, ?_, ?_, ?_, ?_, ?_, ?_, ?_, ?_, ?_, ?_, ?_, ?_, ?_, ?_, ?_, ?_, ?_, ?_, ?_, ?_, ?_, ?_, ?_, ?_, ?_, ?_, ?_, ?_⟩ <;> omega)
                  have R301 : ov_RD (h 96) (h 97) (h 98) (h 90 13) ((ov_up (ov_up h269 96 ((350 + (4 * ((6 * v43) + v5))) + 3) v252) 96 347 w299) 96) ((ov_up (ov_up h269 96 ((350 + (4 * ((6 * v43) + v5))) + 3) v252) 96 347 w299) 97) ((ov_up (ov_up h269 96 ((350 + (4 * ((6 * v43) + v5))) + 3) v252) 96 347 w299) 98) (h 90 13) := by rw [ov_up_row]; exact ov_RD_w R298 (t96_348 I297).2 (by omega)
                  have lt302 : ((ov_up h269 96 ((350 + (4 * ((6 * v43) + v5))) + 3) v252) 96 340) = h269 96 340 := by try rw [ov_up_j (by omega)]; try rw [ov_up_j (by omega)]; try rfl
                  have lt303 : ((ov_up h269 96 ((350 + (4 * ((6 * v43) + v5))) + 3) v252) 96 341) = h269 96 341 := by try rw [ov_up_j (by omega)]; try rw [ov_up_j (by omega)]; try rfl
                  have lt304 : ((ov_up h269 96 ((350 + (4 * ((6 * v43) + v5))) + 3) v252) 96 342) = h269 96 342 := by try rw [ov_up_j (by omega)]; try rw [ov_up_j (by omega)]; try rfl
                  have lt305 : ((ov_up h269 96 ((350 + (4 * ((6 * v43) + v5))) + 3) v252) 96 348) = h269 96 348 := by try rw [ov_up_j (by omega)]; try rw [ov_up_j (by omega)]; try rfl
                  have lt306 : ((ov_up h269 96 ((350 + (4 * ((6 * v43) + v5))) + 3) v252) 96 349) = h269 96 349 := by try rw [ov_up_j (by omega)]; try rw [ov_up_j (by omega)]; try rfl
                  exact ov_retv (st := []) d_219_305 rfl ⟨rfl, I300, (by show (h269 90 2) = (h 90 2) ∧ (h269 90 13) = (h 90 13) ∧ (h269 90 20) = (h 90 20) ∧ (h269 90 22) = (h 90 22) ∧ (h269 90 25) = (h 90 25) ∧ (h269 90 26) = (h 90 26) ∧ (h269 90 28) = (h 90 28) ∧ (h269 90 29) = (h 90 29) ∧ (h269 90 30) = (h 90 30) ∧ (h269 90 34) = (h 90 34) ∧ (h 90 7) ≤ (h269 90 7) ∧ (h269 90 7) ≤ n ∧ (h 90 13) ≤ (h269 90 13) ∧ (h269 90 13) - (h 90 13) ≤ (h269 90 7) - (h 90 7) ∧ ((ov_up h269 96 ((350 + (4 * ((6 * v43) + v5))) + 3) v252) 96 340) = (h 96 340) ∧ ((ov_up h269 96 ((350 + (4 * ((6 * v43) + v5))) + 3) v252) 96 341) = (h 96 341) ∧ ((h269 90 8) = 0 → 1 ≤ (h 96 342) → 1 ≤ ((ov_up h269 96 ((350 + (4 * ((6 * v43) + v5))) + 3) v252) 96 342)) ∧ (1 ≤ (h 96 349) → 1 ≤ ((ov_up h269 96 ((350 + (4 * ((6 * v43) + v5))) + 3) v252) 96 349)); omega), E271, E272, E273, E274, E275, E276, E277, E278, E279, E280, E281, E282, E283, E284, R301.1, R301.2.1, (fun _ w => by show ov_CS ((ov_up (ov_up h269 96 ((350 + (4 * ((6 * v43) + v5))) + 3) v252) 96 347 w299) 96) ((ov_up (ov_up h269 96 ((350 + (4 * ((6 * v43) + v5))) + 3) v252) 96 347 w299) 97) ((ov_up (ov_up h269 96 ((350 + (4 * ((6 * v43) + v5))) + 3) v252) 96 347 w299) 98) (h269 90 13); rw [show (h269 90 13) = h 90 13 by omega]; exact R301.2.2 w)⟩
                · omega
              · skip
                refine ov_blk (ls2 := [(0, ov_r 90), (1, ov_i v5), (2, ov_i v43), (3, ov_i (350 + (4 * ((6 * v43) + v5)))), (4, ov_i v129), (5, ov_i v136), (6, ov_i j172)]) (st2 := [ov_r 90, ov_r 90]) (pc2 := 206) b_219_204_2 rfl rfl ?_
                refine ov_getf (v := ov_i (h153 90 7)) d_219_206 fl_Mo_177 (zb_90 I154) (zs_90 I154) rfl ?_
                have g307 := rg_90_7 I154
                refine ov_blk (ls2 := [(0, ov_r 90), (1, ov_i v5), (2, ov_i v43), (3, ov_i (350 + (4 * ((6 * v43) + v5)))), (4, ov_i v129), (5, ov_i v136), (6, ov_i j172)]) (st2 := [ov_i ((h153 90 7) - 1), ov_r 90]) (pc2 := 211) b_219_209_2 rfl rfl ?_
                refine ov_putf (x := ((h153 90 7) - 1)) d_219_211 fl_Mo_177 (zb_90 I154) (zs_90 I154) rfl nk_0 rfl ?_
                have I308 := up_90_7 (x := ((h153 90 7) - 1)) I154 (by omega)
                refine ov_blk (ls2 := [(0, ov_r 90), (1, ov_i v5), (2, ov_i v43), (3, ov_i (350 + (4 * ((6 * v43) + v5)))), (4, ov_i v129), (5, ov_i v136), (6, ov_i j172)]) (st2 := [ov_i 4, ov_r 90]) (pc2 := 216) b_219_214_2 rfl rfl ?_
                refine ov_cV (as := [ov_i 4]) (st := []) (d2 := d - 1) d_219_216 lk_Mo_186 rfl (Nat.le_of_ble_eq_true rfl) (c := 1) (zb_90 I308) (zs_90 I308) ⟨by decide, rfl⟩ (by omega) (c_Mo_wrong_90 (d - 1) (by omega) U I308 4 (by omega) (by omega)) ?_
                rintro _ z325 h326 ⟨rfl, I327, f309, e310, e311, e312, e313, e314, e315, e316, e317, e318, e319, e320, e321, e322, e323, e324⟩
                have E328 : h326 91 = h 91 := Eq.trans e310 E155
                have E329 : h326 92 = h 92 := Eq.trans e311 E156
                have E330 : h326 93 = h 93 := Eq.trans e312 E157
                have E331 : h326 94 = h 94 := Eq.trans e313 E158
                have E332 : h326 95 = h 95 := Eq.trans e314 E159
                have E333 : h326 96 = h 96 := Eq.trans e315 E160
                have E334 : h326 97 = h 97 := Eq.trans e316 E161
                have E335 : h326 98 = h 98 := Eq.trans e317 E162
                have E336 : h326 99 = h 99 := Eq.trans e318 E163
                have E337 : h326 100 = h 100 := Eq.trans e319 E164
                have E338 : h326 103 = h 103 := Eq.trans e320 E165
                have E339 : h326 105 = h 105 := Eq.trans e321 E166
                have E340 : h326 106 = h 106 := Eq.trans e322 E167
                have E341 : h326 109 = h 109 := Eq.trans e323 E168
                have E342 : h326 114 = h 114 := Eq.trans e324 E169
                show ov_R u d ov_m219 219 [(0, ov_r 90), (1, ov_i v5), (2, ov_i v43), (3, ov_i (350 + (4 * ((6 * v43) + v5)))), (4, ov_i v129), (5, ov_i v136), (6, ov_i j172)] [] z325 h326 (P_Mo_readLight_90 F z h n)
                have f343 : (h326 90 2) = (h153 90 2) ∧ (h326 90 7) = ((h153 90 7) - 1) ∧ (h326 90 13) = (h153 90 13) ∧ (h326 90 20) = (h153 90 20) ∧ (h326 90 22) = (h153 90 22) ∧ (h326 90 25) = (h153 90 25) ∧ (h326 90 26) = (h153 90 26) ∧ (h326 90 28) = (h153 90 28) ∧ (h326 90 29) = (h153 90 29) ∧ (h326 90 30) = (h153 90 30) ∧ (h326 90 34) = (h153 90 34) ∧ 0 < (h326 90 8) ∧ (h153 90 8) ≤ (h326 90 8) := f309
                clear f309
                refine ov_blk (ls2 := [(0, ov_r 90), (1, ov_i v5), (2, ov_i v43), (3, ov_i (350 + (4 * ((6 * v43) + v5)))), (4, ov_i v129), (5, ov_i v136), (6, ov_i j172)]) (st2 := [ov_r 90]) (pc2 := 220) b_219_219_1 rfl rfl ?_
                refine ov_getf (v := ov_i (h326 90 8)) d_219_220 fl_Mo_180 (zb_90 I327) (zs_90 I327) rfl ?_
                have g344 := rg_90_8 I327
                refine ov_ifle (tgt := 227) d_219_223 (by decide) (by omega) (fun c345 => ?_) (fun c345 => ?_)
                · omega
                · skip
                  have cf346 : h326 96 340 = h 96 340 := congrFun E333 340
                  have cf347 : h326 96 341 = h 96 341 := congrFun E333 341
                  have cf348 : h326 96 342 = h 96 342 := congrFun E333 342
                  have cf349 : h326 96 349 = h 96 349 := congrFun E333 349
                  have R350 : ov_RD (h 96) (h 97) (h 98) (h 90 13) (h326 96) (h326 97) (h326 98) (h 90 13) := by rw [show h326 96 = h 96 from E333, show h326 97 = h 97 from E334, show h326 98 = h 98 from E335]; exact ov_RD_refl _ _ _ _
                  exact ov_retv (st := []) d_219_226 rfl ⟨rfl, I327, (by show (h326 90 2) = (h 90 2) ∧ (h326 90 13) = (h 90 13) ∧ (h326 90 20) = (h 90 20) ∧ (h326 90 22) = (h 90 22) ∧ (h326 90 25) = (h 90 25) ∧ (h326 90 26) = (h 90 26) ∧ (h326 90 28) = (h 90 28) ∧ (h326 90 29) = (h 90 29) ∧ (h326 90 30) = (h 90 30) ∧ (h326 90 34) = (h 90 34) ∧ (h 90 7) ≤ (h326 90 7) ∧ (h326 90 7) ≤ n ∧ (h 90 13) ≤ (h326 90 13) ∧ (h326 90 13) - (h 90 13) ≤ (h326 90 7) - (h 90 7) ∧ (h326 96 340) = (h 96 340) ∧ (h326 96 341) = (h 96 341) ∧ ((h326 90 8) = 0 → 1 ≤ (h 96 342) → 1 ≤ (h326 96 342)) ∧ (1 ≤ (h 96 349) → 1 ≤ (h326 96 349)); omega), E328, E329, E330, E331, E332, E334, E335, E336, E337, E338, E339, E340, E341, E342, R350.1, R350.2.1, (fun _ w => by show ov_CS (h326 96) (h326 97) (h326 98) (h326 90 13); rw [show (h326 90 13) = h 90 13 by omega]; exact R350.2.2 w)⟩
          refine ov_blk (ls2 := [(0, ov_r 90), (1, ov_i v5), (2, ov_i v43), (3, ov_i (350 + (4 * ((6 * v43) + v5)))), (4, ov_i v129), (5, ov_i v136)]) (st2 := [ov_r 90]) (pc2 := 139) b_219_138_1 rfl rfl ?_
          refine ov_getf (v := ov_i (h153 90 8)) d_219_139 fl_Mo_180 (zb_90 I154) (zs_90 I154) rfl ?_
          have g351 := rg_90_8 I154
          refine ov_ifgt (tgt := 151) d_219_142 (by decide) (by omega) (fun c352 => ?_) (fun c352 => ?_)
          · skip
            refine ov_blk (ls2 := [(0, ov_r 90), (1, ov_i v5), (2, ov_i v43), (3, ov_i (350 + (4 * ((6 * v43) + v5)))), (4, ov_i v129), (5, ov_i v136)]) (st2 := [ov_r 90]) (pc2 := 152) b_219_151_1 rfl rfl ?_
            refine ov_getf (v := ov_r 96) d_219_152 fl_Mo_81 (zb_90 I154) (zs_90 I154) (congrArg ov_r (rg_90_10 I154)) ?_
            refine ov_blk (ls2 := [(0, ov_r 90), (1, ov_i v5), (2, ov_i v43), (3, ov_i (350 + (4 * ((6 * v43) + v5)))), (4, ov_i v129), (5, ov_i v136)]) (st2 := [ov_i 349, ov_r 96]) (pc2 := 158) b_219_155_1 rfl rfl ?_
            refine ov_iald d_219_158 (zb_96 I154) (zs_96 I154) (by omega) ?_
            rw [show h153 96 = h 96 from E160]
            have g353 := t96_349 I
            have em := Int.emod_self (a := (h 96 349))
            refine ov_goto (tgt := 187) d_219_159 (by decide) ?_
            refine ov_blk (ls2 := [(0, ov_r 90), (1, ov_i v5), (2, ov_i v43), (3, ov_i (350 + (4 * ((6 * v43) + v5)))), (4, ov_i v129), (5, ov_i v136), (6, ov_i (h 96 349))]) (st2 := []) (pc2 := 189) b_219_187_1 rfl rfl ?_
            exact J171 (h 96 349) (by show 0 ≤ (h 96 349) ∧ (h 96 349) ≤ 72000 ∧ (1 ≤ (h 96 349) → (h153 90 8) = 0 → 1 ≤ (h 96 349)) ∧ ((h153 90 8) = 0 → (h 96 349) % (h 96 349) = 0 ∧ (v129 < 2 → (h 96 349) % v136 = 0)); exact ⟨by omega, by omega, fun u1 u2 => by omega, fun e => ⟨by omega, fun u3 => by omega⟩⟩)
          · skip
            refine ov_blk (ls2 := [(0, ov_r 90), (1, ov_i v5), (2, ov_i v43), (3, ov_i (350 + (4 * ((6 * v43) + v5)))), (4, ov_i v129), (5, ov_i v136)]) (st2 := [ov_i 2, ov_i v129]) (pc2 := 148) b_219_145_2 rfl rfl ?_
            refine ov_iclt (tgt := 162) d_219_148 (by decide) (by omega) (by omega) (fun c354 => ?_) (fun c354 => ?_)
            · skip
              refine ov_blk (ls2 := [(0, ov_r 90), (1, ov_i v5), (2, ov_i v43), (3, ov_i (350 + (4 * ((6 * v43) + v5)))), (4, ov_i v129), (5, ov_i v136)]) (st2 := [ov_r 90]) (pc2 := 163) b_219_162_1 rfl rfl ?_
              refine ov_getf (v := ov_r 96) d_219_163 fl_Mo_81 (zb_90 I154) (zs_90 I154) (congrArg ov_r (rg_90_10 I154)) ?_
              refine ov_blk (ls2 := [(0, ov_r 90), (1, ov_i v5), (2, ov_i v43), (3, ov_i (350 + (4 * ((6 * v43) + v5)))), (4, ov_i v129), (5, ov_i v136)]) (st2 := [ov_i 349, ov_r 96]) (pc2 := 169) b_219_166_1 rfl rfl ?_
              refine ov_iald d_219_169 (zb_96 I154) (zs_96 I154) (by omega) ?_
              rw [show h153 96 = h 96 from E160]
              have g355 := t96_349 I
              refine ov_blk (ls2 := [(0, ov_r 90), (1, ov_i v5), (2, ov_i v43), (3, ov_i (350 + (4 * ((6 * v43) + v5)))), (4, ov_i v129), (5, ov_i v136)]) (st2 := [ov_r 90, ov_i (h 96 349)]) (pc2 := 171) b_219_170_1 rfl rfl ?_
              refine ov_getf (v := ov_r 96) d_219_171 fl_Mo_81 (zb_90 I154) (zs_90 I154) (congrArg ov_r (rg_90_10 I154)) ?_
              refine ov_blk (ls2 := [(0, ov_r 90), (1, ov_i v5), (2, ov_i v43), (3, ov_i (350 + (4 * ((6 * v43) + v5)))), (4, ov_i v129), (5, ov_i v136)]) (st2 := [ov_i 349, ov_r 96, ov_i (h 96 349)]) (pc2 := 177) b_219_174_1 rfl rfl ?_
              refine ov_iald d_219_177 (zb_96 I154) (zs_96 I154) (by omega) ?_
              rw [show h153 96 = h 96 from E160]
              refine ov_blk (ls2 := [(0, ov_r 90), (1, ov_i v5), (2, ov_i v43), (3, ov_i (350 + (4 * ((6 * v43) + v5)))), (4, ov_i v129), (5, ov_i v136)]) (st2 := [ov_i v136, ov_i (h 96 349), ov_i (h 96 349)]) (pc2 := 180) b_219_178_1 rfl rfl ?_
              refine ov_cS (as := [ov_i (h 96 349), ov_i v136]) (st := [ov_i (h 96 349)]) (d2 := d - 1) d_219_180 lk_Mo_236 rfl (Nat.le_of_ble_eq_true rfl) (by omega) (c_Mo_common (d - 1) (by omega) U I154 (h 96 349) v136 (by omega) (by omega) (by omega) (by omega)) ?_
              rintro _ _ _ ⟨v358, rfl, rfl, rfl, f357, y359⟩
              show ov_R u d ov_m219 183 [(0, ov_r 90), (1, ov_i v5), (2, ov_i v43), (3, ov_i (350 + (4 * ((6 * v43) + v5)))), (4, ov_i v129), (5, ov_i v136)] [ov_i v358, ov_i (h 96 349)] z152 h153 (P_Mo_readLight_90 F z h n)
              have f360 : 1 ≤ v358 ∧ v358 ≤ 1200 ∧ (1 ≤ (h 96 349) → v358 ≤ (h 96 349)) := f357
              clear f357
              have y359_ : (h 96 349) % v358 = 0 ∧ v136 % v358 = 0 := y359
              have gd := ov_tdp (a := (h 96 349)) (b := v358) (by omega) (by omega)
              refine ov_idiv d_219_183 (by omega) (by omega) (by omega) ?_
              have g361 := ov_tdl (a := (h 96 349)) (b := v358) (by omega) (by omega)
              refine ov_blk (ls2 := [(0, ov_r 90), (1, ov_i v5), (2, ov_i v43), (3, ov_i (350 + (4 * ((6 * v43) + v5)))), (4, ov_i v129), (5, ov_i v136)]) (st2 := [ov_i v136, ov_i (Int.tdiv (h 96 349) v358)]) (pc2 := 186) b_219_184_1 rfl rfl ?_
              have gq := ov_mulb (q := (Int.tdiv (h 96 349) v358)) (b := v136) (A := 1200) (B := 60) (by omega) (by omega) (by omega) (by omega)
              have gl := ov_lcmd (a := (h 96 349)) (b := v136) (g := v358) (by omega) y359_.1 y359_.2
              have gp : 1 ≤ (Int.tdiv (h 96 349) v358) → 1 ≤ v136 → 1 ≤ (Int.tdiv (h 96 349) v358) * v136 := fun u1 u2 => by have := Int.mul_le_mul u1 u2 (by decide) (by omega); omega
              refine ov_blk (ls2 := [(0, ov_r 90), (1, ov_i v5), (2, ov_i v43), (3, ov_i (350 + (4 * ((6 * v43) + v5)))), (4, ov_i v129), (5, ov_i v136), (6, ov_i ((Int.tdiv (h 96 349) v358) * v136))]) (st2 := []) (pc2 := 189) b_219_186_2 rfl rfl ?_
              exact J171 ((Int.tdiv (h 96 349) v358) * v136) (by show 0 ≤ ((Int.tdiv (h 96 349) v358) * v136) ∧ ((Int.tdiv (h 96 349) v358) * v136) ≤ 72000 ∧ (1 ≤ (h 96 349) → (h153 90 8) = 0 → 1 ≤ ((Int.tdiv (h 96 349) v358) * v136)) ∧ ((h153 90 8) = 0 → ((Int.tdiv (h 96 349) v358) * v136) % (h 96 349) = 0 ∧ (v129 < 2 → ((Int.tdiv (h 96 349) v358) * v136) % v136 = 0)); exact ⟨by omega, by omega, fun u1 u2 => by omega, fun e => ⟨by omega, fun u3 => by omega⟩⟩)
            · skip
              refine ov_blk (ls2 := [(0, ov_r 90), (1, ov_i v5), (2, ov_i v43), (3, ov_i (350 + (4 * ((6 * v43) + v5)))), (4, ov_i v129), (5, ov_i v136)]) (st2 := [ov_r 90]) (pc2 := 152) b_219_151_1 rfl rfl ?_
              refine ov_getf (v := ov_r 96) d_219_152 fl_Mo_81 (zb_90 I154) (zs_90 I154) (congrArg ov_r (rg_90_10 I154)) ?_
              refine ov_blk (ls2 := [(0, ov_r 90), (1, ov_i v5), (2, ov_i v43), (3, ov_i (350 + (4 * ((6 * v43) + v5)))), (4, ov_i v129), (5, ov_i v136)]) (st2 := [ov_i 349, ov_r 96]) (pc2 := 158) b_219_155_1 rfl rfl ?_
              refine ov_iald d_219_158 (zb_96 I154) (zs_96 I154) (by omega) ?_
              rw [show h153 96 = h 96 from E160]
              have g362 := t96_349 I
              have em := Int.emod_self (a := (h 96 349))
              refine ov_goto (tgt := 187) d_219_159 (by decide) ?_
              refine ov_blk (ls2 := [(0, ov_r 90), (1, ov_i v5), (2, ov_i v43), (3, ov_i (350 + (4 * ((6 * v43) + v5)))), (4, ov_i v129), (5, ov_i v136), (6, ov_i (h 96 349))]) (st2 := []) (pc2 := 189) b_219_187_1 rfl rfl ?_
              exact J171 (h 96 349) (by show 0 ≤ (h 96 349) ∧ (h 96 349) ≤ 72000 ∧ (1 ≤ (h 96 349) → (h153 90 8) = 0 → 1 ≤ (h 96 349)) ∧ ((h153 90 8) = 0 → (h 96 349) % (h 96 349) = 0 ∧ (v129 < 2 → (h 96 349) % v136 = 0)); exact ⟨by omega, by omega, fun u1 u2 => by omega, fun e => ⟨by omega, fun u3 => by omega⟩⟩)
        · skip
          refine ov_blk (ls2 := [(0, ov_r 90), (1, ov_i v5), (2, ov_i v43), (3, ov_i (350 + (4 * ((6 * v43) + v5)))), (4, ov_i v129)]) (st2 := [ov_i 1, ov_r 90]) (pc2 := 113) b_219_111_2 rfl rfl ?_
          refine ov_cV (as := [ov_i 1]) (st := []) (d2 := d - 1) d_219_113 lk_Mo_186 rfl (Nat.le_of_ble_eq_true rfl) (c := 1) (zb_90 I61) (zs_90 I61) ⟨by decide, rfl⟩ (by omega) (c_Mo_wrong_90 (d - 1) (by omega) U I61 1 (by omega) (by omega)) ?_
          rintro _ z379 h380 ⟨rfl, I381, f363, e364, e365, e366, e367, e368, e369, e370, e371, e372, e373, e374, e375, e376, e377, e378⟩
          have E382 : h380 91 = h 91 := Eq.trans e364 E62
          have E383 : h380 92 = h 92 := Eq.trans e365 E63
          have E384 : h380 93 = h 93 := Eq.trans e366 E64
          have E385 : h380 94 = h 94 := Eq.trans e367 E65
          have E386 : h380 95 = h 95 := Eq.trans e368 E66
          have E387 : h380 96 = h 96 := Eq.trans e369 E67
          have E388 : h380 97 = h 97 := Eq.trans e370 E68
          have E389 : h380 98 = h 98 := Eq.trans e371 E69
          have E390 : h380 99 = h 99 := Eq.trans e372 E70
          have E391 : h380 100 = h 100 := Eq.trans e373 E71
          have E392 : h380 103 = h 103 := Eq.trans e374 E72
          have E393 : h380 105 = h 105 := Eq.trans e375 E73
          have E394 : h380 106 = h 106 := Eq.trans e376 E74
          have E395 : h380 109 = h 109 := Eq.trans e377 E75
          have E396 : h380 114 = h 114 := Eq.trans e378 E76
          show ov_R u d ov_m219 116 [(0, ov_r 90), (1, ov_i v5), (2, ov_i v43), (3, ov_i (350 + (4 * ((6 * v43) + v5)))), (4, ov_i v129)] [] z379 h380 (P_Mo_readLight_90 F z h n)
          have f397 : (h380 90 2) = (h60 90 2) ∧ (h380 90 7) = (h60 90 7) ∧ (h380 90 13) = (h60 90 13) ∧ (h380 90 20) = (h60 90 20) ∧ (h380 90 22) = (h60 90 22) ∧ (h380 90 25) = (h60 90 25) ∧ (h380 90 26) = (h60 90 26) ∧ (h380 90 28) = (h60 90 28) ∧ (h380 90 29) = (h60 90 29) ∧ (h380 90 30) = (h60 90 30) ∧ (h380 90 34) = (h60 90 34) ∧ 0 < (h380 90 8) ∧ (h60 90 8) ≤ (h380 90 8) := f363
          clear f363
          have cf398 : h380 96 340 = h 96 340 := congrFun E387 340
          have cf399 : h380 96 341 = h 96 341 := congrFun E387 341
          have cf400 : h380 96 342 = h 96 342 := congrFun E387 342
          have cf401 : h380 96 349 = h 96 349 := congrFun E387 349
          have R402 : ov_RD (h 96) (h 97) (h 98) (h 90 13) (h380 96) (h380 97) (h380 98) (h 90 13) := by rw [show h380 96 = h 96 from E387, show h380 97 = h 97 from E388, show h380 98 = h 98 from E389]; exact ov_RD_refl _ _ _ _
          exact ov_retv (st := []) d_219_116 rfl ⟨rfl, I381, (by show (h380 90 2) = (h 90 2) ∧ (h380 90 13) = (h 90 13) ∧ (h380 90 20) = (h 90 20) ∧ (h380 90 22) = (h 90 22) ∧ (h380 90 25) = (h 90 25) ∧ (h380 90 26) = (h 90 26) ∧ (h380 90 28) = (h 90 28) ∧ (h380 90 29) = (h 90 29) ∧ (h380 90 30) = (h 90 30) ∧ (h380 90 34) = (h 90 34) ∧ (h 90 7) ≤ (h380 90 7) ∧ (h380 90 7) ≤ n ∧ (h 90 13) ≤ (h380 90 13) ∧ (h380 90 13) - (h 90 13) ≤ (h380 90 7) - (h 90 7) ∧ (h380 96 340) = (h 96 340) ∧ (h380 96 341) = (h 96 341) ∧ ((h380 90 8) = 0 → 1 ≤ (h 96 342) → 1 ≤ (h380 96 342)) ∧ (1 ≤ (h 96 349) → 1 ≤ (h380 96 349)); omega), E382, E383, E384, E385, E386, E388, E389, E390, E391, E392, E393, E394, E395, E396, R402.1, R402.2.1, (fun _ w => by show ov_CS (h380 96) (h380 97) (h380 98) (h380 90 13); rw [show (h380 90 13) = h 90 13 by omega]; exact R402.2.2 w)⟩
      · omega
    · skip
      refine ov_blk (ls2 := [(0, ov_r 90), (1, ov_i v5), (2, ov_i v43), (3, ov_i (350 + (4 * ((6 * v43) + v5))))]) (st2 := [ov_r 90, ov_r 90]) (pc2 := 73) b_219_71_2 rfl rfl ?_
      refine ov_getf (v := ov_i (h60 90 7)) d_219_73 fl_Mo_177 (zb_90 I61) (zs_90 I61) rfl ?_
      have g403 := rg_90_7 I61
      refine ov_blk (ls2 := [(0, ov_r 90), (1, ov_i v5), (2, ov_i v43), (3, ov_i (350 + (4 * ((6 * v43) + v5))))]) (st2 := [ov_i ((h60 90 7) - 1), ov_r 90]) (pc2 := 78) b_219_76_2 rfl rfl ?_
      refine ov_putf (x := ((h60 90 7) - 1)) d_219_78 fl_Mo_177 (zb_90 I61) (zs_90 I61) rfl nk_0 rfl ?_
      have I404 := up_90_7 (x := ((h60 90 7) - 1)) I61 (by omega)
      refine ov_blk (ls2 := [(0, ov_r 90), (1, ov_i v5), (2, ov_i v43), (3, ov_i (350 + (4 * ((6 * v43) + v5))))]) (st2 := [ov_i 3, ov_r 90]) (pc2 := 83) b_219_81_2 rfl rfl ?_
      refine ov_cV (as := [ov_i 3]) (st := []) (d2 := d - 1) d_219_83 lk_Mo_186 rfl (Nat.le_of_ble_eq_true rfl) (c := 1) (zb_90 I404) (zs_90 I404) ⟨by decide, rfl⟩ (by omega) (c_Mo_wrong_90 (d - 1) (by omega) U I404 3 (by omega) (by omega)) ?_
      rintro _ z421 h422 ⟨rfl, I423, f405, e406, e407, e408, e409, e410, e411, e412, e413, e414, e415, e416, e417, e418, e419, e420⟩
      have E424 : h422 91 = h 91 := Eq.trans e406 E62
      have E425 : h422 92 = h 92 := Eq.trans e407 E63
      have E426 : h422 93 = h 93 := Eq.trans e408 E64
      have E427 : h422 94 = h 94 := Eq.trans e409 E65
      have E428 : h422 95 = h 95 := Eq.trans e410 E66
      have E429 : h422 96 = h 96 := Eq.trans e411 E67
      have E430 : h422 97 = h 97 := Eq.trans e412 E68
      have E431 : h422 98 = h 98 := Eq.trans e413 E69
      have E432 : h422 99 = h 99 := Eq.trans e414 E70
      have E433 : h422 100 = h 100 := Eq.trans e415 E71
      have E434 : h422 103 = h 103 := Eq.trans e416 E72
      have E435 : h422 105 = h 105 := Eq.trans e417 E73
      have E436 : h422 106 = h 106 := Eq.trans e418 E74
      have E437 : h422 109 = h 109 := Eq.trans e419 E75
      have E438 : h422 114 = h 114 := Eq.trans e420 E76
      show ov_R u d ov_m219 86 [(0, ov_r 90), (1, ov_i v5), (2, ov_i v43), (3, ov_i (350 + (4 * ((6 * v43) + v5))))] [] z421 h422 (P_Mo_readLight_90 F z h n)
      have f439 : (h422 90 2) = (h60 90 2) ∧ (h422 90 7) = ((h60 90 7) - 1) ∧ (h422 90 13) = (h60 90 13) ∧ (h422 90 20) = (h60 90 20) ∧ (h422 90 22) = (h60 90 22) ∧ (h422 90 25) = (h60 90 25) ∧ (h422 90 26) = (h60 90 26) ∧ (h422 90 28) = (h60 90 28) ∧ (h422 90 29) = (h60 90 29) ∧ (h422 90 30) = (h60 90 30) ∧ (h422 90 34) = (h60 90 34) ∧ 0 < (h422 90 8) ∧ (h60 90 8) ≤ (h422 90 8) := f405
      clear f405
      refine ov_blk (ls2 := [(0, ov_r 90), (1, ov_i v5), (2, ov_i v43), (3, ov_i (350 + (4 * ((6 * v43) + v5))))]) (st2 := [ov_r 90]) (pc2 := 87) b_219_86_1 rfl rfl ?_
      refine ov_getf (v := ov_i (h422 90 8)) d_219_87 fl_Mo_180 (zb_90 I423) (zs_90 I423) rfl ?_
      have g440 := rg_90_8 I423
      refine ov_ifle (tgt := 97) d_219_90 (by decide) (by omega) (fun c441 => ?_) (fun c441 => ?_)
      · omega
      · skip
        refine ov_blk (ls2 := [(0, ov_r 90), (1, ov_i v5), (2, ov_i v43), (3, ov_i (350 + (4 * ((6 * v43) + v5))))]) (st2 := [ov_i (-1)]) (pc2 := 94) b_219_93_1 rfl rfl ?_
        refine ov_goto (tgt := 104) d_219_94 (by decide) ?_
        refine ov_blk (ls2 := [(0, ov_r 90), (1, ov_i v5), (2, ov_i v43), (3, ov_i (350 + (4 * ((6 * v43) + v5)))), (4, ov_i (-1))]) (st2 := [ov_i (-1)]) (pc2 := 108) b_219_104_2 rfl rfl ?_
        refine ov_ifge (tgt := 117) d_219_108 (by decide) (by omega) (fun c442 => ?_) (fun c442 => ?_)
        · omega
        · skip
          refine ov_blk (ls2 := [(0, ov_r 90), (1, ov_i v5), (2, ov_i v43), (3, ov_i (350 + (4 * ((6 * v43) + v5)))), (4, ov_i (-1))]) (st2 := [ov_i 1, ov_r 90]) (pc2 := 113) b_219_111_2 rfl rfl ?_
          refine ov_cV (as := [ov_i 1]) (st := []) (d2 := d - 1) d_219_113 lk_Mo_186 rfl (Nat.le_of_ble_eq_true rfl) (c := 1) (zb_90 I423) (zs_90 I423) ⟨by decide, rfl⟩ (by omega) (c_Mo_wrong_90 (d - 1) (by omega) U I423 1 (by omega) (by omega)) ?_
          rintro _ z459 h460 ⟨rfl, I461, f443, e444, e445, e446, e447, e448, e449, e450, e451, e452, e453, e454, e455, e456, e457, e458⟩
          have E462 : h460 91 = h 91 := Eq.trans e444 E424
          have E463 : h460 92 = h 92 := Eq.trans e445 E425
          have E464 : h460 93 = h 93 := Eq.trans e446 E426
          have E465 : h460 94 = h 94 := Eq.trans e447 E427
          have E466 : h460 95 = h 95 := Eq.trans e448 E428
          have E467 : h460 96 = h 96 := Eq.trans e449 E429
          have E468 : h460 97 = h 97 := Eq.trans e450 E430
          have E469 : h460 98 = h 98 := Eq.trans e451 E431
          have E470 : h460 99 = h 99 := Eq.trans e452 E432
          have E471 : h460 100 = h 100 := Eq.trans e453 E433
          have E472 : h460 103 = h 103 := Eq.trans e454 E434
          have E473 : h460 105 = h 105 := Eq.trans e455 E435
          have E474 : h460 106 = h 106 := Eq.trans e456 E436
          have E475 : h460 109 = h 109 := Eq.trans e457 E437
          have E476 : h460 114 = h 114 := Eq.trans e458 E438
          show ov_R u d ov_m219 116 [(0, ov_r 90), (1, ov_i v5), (2, ov_i v43), (3, ov_i (350 + (4 * ((6 * v43) + v5)))), (4, ov_i (-1))] [] z459 h460 (P_Mo_readLight_90 F z h n)
          have f477 : (h460 90 2) = (h422 90 2) ∧ (h460 90 7) = (h422 90 7) ∧ (h460 90 13) = (h422 90 13) ∧ (h460 90 20) = (h422 90 20) ∧ (h460 90 22) = (h422 90 22) ∧ (h460 90 25) = (h422 90 25) ∧ (h460 90 26) = (h422 90 26) ∧ (h460 90 28) = (h422 90 28) ∧ (h460 90 29) = (h422 90 29) ∧ (h460 90 30) = (h422 90 30) ∧ (h460 90 34) = (h422 90 34) ∧ 0 < (h460 90 8) ∧ (h422 90 8) ≤ (h460 90 8) := f443
          clear f443
          have cf478 : h460 96 340 = h 96 340 := congrFun E467 340
          have cf479 : h460 96 341 = h 96 341 := congrFun E467 341
          have cf480 : h460 96 342 = h 96 342 := congrFun E467 342
          have cf481 : h460 96 349 = h 96 349 := congrFun E467 349
          have R482 : ov_RD (h 96) (h 97) (h 98) (h 90 13) (h460 96) (h460 97) (h460 98) (h 90 13) := by rw [show h460 96 = h 96 from E467, show h460 97 = h 97 from E468, show h460 98 = h 98 from E469]; exact ov_RD_refl _ _ _ _
          exact ov_retv (st := []) d_219_116 rfl ⟨rfl, I461, (by show (h460 90 2) = (h 90 2) ∧ (h460 90 13) = (h 90 13) ∧ (h460 90 20) = (h 90 20) ∧ (h460 90 22) = (h 90 22) ∧ (h460 90 25) = (h 90 25) ∧ (h460 90 26) = (h 90 26) ∧ (h460 90 28) = (h 90 28) ∧ (h460 90 29) = (h 90 29) ∧ (h460 90 30) = (h 90 30) ∧ (h460 90 34) = (h 90 34) ∧ (h 90 7) ≤ (h460 90 7) ∧ (h460 90 7) ≤ n ∧ (h 90 13) ≤ (h460 90 13) ∧ (h460 90 13) - (h 90 13) ≤ (h460 90 7) - (h 90 7) ∧ (h460 96 340) = (h 96 340) ∧ (h460 96 341) = (h 96 341) ∧ ((h460 90 8) = 0 → 1 ≤ (h 96 342) → 1 ≤ (h460 96 342)) ∧ (1 ≤ (h 96 349) → 1 ≤ (h460 96 349)); omega), E462, E463, E464, E465, E466, E468, E469, E470, E471, E472, E473, E474, E475, E476, R482.1, R482.2.1, (fun _ w => by show ov_CS (h460 96) (h460 97) (h460 98) (h460 90 13); rw [show (h460 90 13) = h 90 13 by omega]; exact R482.2.2 w)⟩

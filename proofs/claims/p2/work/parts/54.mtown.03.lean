abbrev P_Mo_readLight_90 (F : ov_H × ov_Z) (z : ov_Z) (h : ov_H) (n : Int) : Option ov_V → ov_Z → ov_H → Prop := fun r0 z' h' => r0 = none ∧ ov_N F z' h' ∧ ((h' 90 2) = (h 90 2) ∧ (h' 90 13) = (h 90 13) ∧ (h' 90 20) = (h 90 20) ∧ (h' 90 22) = (h 90 22) ∧ (h' 90 25) = (h 90 25) ∧ (h' 90 26) = (h 90 26) ∧ (h' 90 28) = (h 90 28) ∧ (h' 90 29) = (h 90 29) ∧ (h' 90 30) = (h 90 30) ∧ (h' 90 34) = (h 90 34) ∧ (h 90 7) ≤ (h' 90 7) ∧ (h' 90 7) ≤ n ∧ (h 90 13) ≤ (h' 90 13) ∧ (h' 90 13) - (h 90 13) ≤ (h' 90 7) - (h 90 7) ∧ (h' 96 340) = (h 96 340) ∧ (h' 96 341) = (h 96 341) ∧ ((h' 90 8) = 0 → 1 ≤ (h 96 342) → 1 ≤ (h' 96 342)) ∧ (1 ≤ (h 96 349) → 1 ≤ (h' 96 349))) ∧ h' 92 = h 92 ∧ h' 93 = h 93 ∧ h' 94 = h 94 ∧ h' 95 = h 95 ∧ h' 97 = h 97 ∧ h' 98 = h 98 ∧ h' 99 = h 99 ∧ h' 100 = h 100 ∧ h' 103 = h 103 ∧ h' 105 = h 105 ∧ h' 106 = h 106 ∧ h' 109 = h 109 ∧ h' 114 = h 114 ∧ (ov_MK (h 96) (h 97) (h 98) (h' 96) (h' 97) (h' 98)) ∧ (ov_WS (h 96) → ov_WS (h' 96)) ∧ ((h' 90 8) = 0 → ov_CS (h 96) (h 97) (h 98) (h 90 13) → ov_CS (h' 96) (h' 97) (h' 98) (h' 90 13))
set_option maxHeartbeats 4000000 in
theorem c_Mo_readLight_90 {u : ov_U} {F : ov_H × ov_Z} (n : Int) {z : ov_Z} {h : ov_H} (d : Nat) (hd : 4 ≤ d) (U : ov_cap u) (I : ov_N F z h) (p0 : 0 ≤ n ∧ n ≤ 1000 ∧ (h 92 (n)) = 0 ∧ (h 90 7) ≤ n) (p1 : (h 90 13) ≤ (h 90 7)) (p2 : (h 90 8) = 0) (p3 : (h 90 7) < n) : ov_T u d ov_m219 [ov_r 90] z h (P_Mo_readLight_90 F z h n) := by
  refine ov_en rfl (Nat.le_of_ble_eq_true rfl) ?_
  show ov_R u d ov_m219 0 [(0, ov_r 90)] [] z h (P_Mo_readLight_90 F z h n)
  refine ov_blk (ls2 := [(0, ov_r 90)]) (st2 := [ov_r 90, ov_r 90]) (pc2 := 2) b_219_0_2 rfl rfl ?_
  refine ov_getf (v := ov_i (h 90 7)) d_219_2 fl_Mo_177 (zb_90 I) (zs_90 I) rfl ?_
  have g1 := rg_90_7 I
  refine ov_blk (ls2 := [(0, ov_r 90)]) (st2 := [ov_i ((h 90 7) + 1), ov_r 90]) (pc2 := 7) b_219_5_2 rfl rfl ?_
  refine ov_putf (x := ((h 90 7) + 1)) d_219_7 fl_Mo_177 (zb_90 I) (zs_90 I) rfl nk_0 rfl ?_
  have I2 := up_90_7 (x := ((h 90 7) + 1)) I (by omega)
  refine ov_blk (ls2 := [(0, ov_r 90)]) (st2 := [ov_r 90, ov_i 0, ov_r 90]) (pc2 := 13) b_219_10_3 rfl rfl ?_
  refine ov_getf (v := ov_r 96) d_219_13 fl_Mo_81 (zb_90 I2) (zs_90 I2) (congrArg ov_r (rg_90_10 I2)) ?_
  refine ov_blk (ls2 := [(0, ov_r 90)]) (st2 := [ov_i 340, ov_r 96, ov_i 0, ov_r 90]) (pc2 := 19) b_219_16_1 rfl rfl ?_
  refine ov_iald d_219_19 (zb_96 I2) (zs_96 I2) (by omega) ?_
  show ov_R u d ov_m219 20 [(0, ov_r 90)] [ov_i (h 96 340), ov_i 0, ov_r 90] z (ov_up h 90 7 ((h 90 7) + 1)) (P_Mo_readLight_90 F z h n)
  have g3 := t96_340 I
  refine ov_blk (ls2 := [(0, ov_r 90)]) (st2 := [ov_i ((h 96 340) - 1), ov_i 0, ov_r 90]) (pc2 := 22) b_219_20_2 rfl rfl ?_
  refine ov_cV (as := [ov_i 0, ov_i ((h 96 340) - 1)]) (st := []) (d2 := d - 1) d_219_22 lk_Mo_198 rfl (Nat.le_of_ble_eq_true rfl) (c := 1) (zb_90 I2) (zs_90 I2) ⟨by decide, rfl⟩ (by omega) (c_Mo_takeNumber_90 n (d - 1) (by omega) U I2 0 ((h 96 340) - 1) (by omega) (by omega) (by show 0 ≤ n ∧ n ≤ 1000 ∧ (h 92 (n)) = 0 ∧ ((h 90 7) + 1) ≤ n; omega)) ?_
  rintro _ z20 h21 ⟨v5, rfl, I22, f4, e6, e7, e8, e9, e10, e11, e12, e13, e14, e15, e16, e17, e18, e19⟩
  have E23 : h21 92 = h 92 := e6
  have E24 : h21 93 = h 93 := e7
  have E25 : h21 94 = h 94 := e8
  have E26 : h21 95 = h 95 := e9
  have E27 : h21 96 = h 96 := e10
  have E28 : h21 97 = h 97 := e11
  have E29 : h21 98 = h 98 := e12
  have E30 : h21 99 = h 99 := e13
  have E31 : h21 100 = h 100 := e14
  have E32 : h21 103 = h 103 := e15
  have E33 : h21 105 = h 105 := e16
  have E34 : h21 106 = h 106 := e17
  have E35 : h21 109 = h 109 := e18
  have E36 : h21 114 = h 114 := e19
  show ov_R u d ov_m219 25 [(0, ov_r 90)] [ov_i v5] z20 h21 (P_Mo_readLight_90 F z h n)
  have f37 : (h21 90 2) = (h 90 2) ∧ (h21 90 13) = (h 90 13) ∧ (h21 90 20) = (h 90 20) ∧ (h21 90 22) = (h 90 22) ∧ (h21 90 25) = (h 90 25) ∧ (h21 90 26) = (h 90 26) ∧ (h21 90 28) = (h 90 28) ∧ (h21 90 29) = (h 90 29) ∧ (h21 90 30) = (h 90 30) ∧ (h21 90 34) = (h 90 34) ∧ ((h 90 7) + 1) ≤ (h21 90 7) ∧ (h21 90 7) ≤ n ∧ (h 90 8) ≤ (h21 90 8) ∧ ((h21 90 8) = 0 → (0 : Int) ≤ v5 ∧ v5 ≤ ((h 96 340) - 1)) ∧ (0 < (h21 90 8) → v5 = 0) ∧ ((h 90 7) + 1) < (h21 90 7) + (h21 90 8) := f4
  clear f4
  refine ov_blk (ls2 := [(0, ov_r 90), (1, ov_i v5)]) (st2 := [ov_r 90, ov_i 0, ov_r 90]) (pc2 := 29) b_219_25_4 rfl rfl ?_
  refine ov_getf (v := ov_r 96) d_219_29 fl_Mo_81 (zb_90 I22) (zs_90 I22) (congrArg ov_r (rg_90_10 I22)) ?_
  refine ov_blk (ls2 := [(0, ov_r 90), (1, ov_i v5)]) (st2 := [ov_i 341, ov_r 96, ov_i 0, ov_r 90]) (pc2 := 35) b_219_32_1 rfl rfl ?_
  refine ov_iald d_219_35 (zb_96 I22) (zs_96 I22) (by omega) ?_
  rw [show h21 96 = h 96 from E27]
  have g38 := t96_341 I
  refine ov_blk (ls2 := [(0, ov_r 90), (1, ov_i v5)]) (st2 := [ov_i ((h 96 341) - 1), ov_i 0, ov_r 90]) (pc2 := 38) b_219_36_2 rfl rfl ?_
  have cf39 : h21 92 (n) = h 92 (n) := congrFun E23 (n)
  refine ov_cV (as := [ov_i 0, ov_i ((h 96 341) - 1)]) (st := []) (d2 := d - 1) d_219_38 lk_Mo_198 rfl (Nat.le_of_ble_eq_true rfl) (c := 1) (zb_90 I22) (zs_90 I22) ⟨by decide, rfl⟩ (by omega) (c_Mo_takeNumber_90 n (d - 1) (by omega) U I22 0 ((h 96 341) - 1) (by omega) (by omega) (by show 0 ≤ n ∧ n ≤ 1000 ∧ (h21 92 (n)) = 0 ∧ (h21 90 7) ≤ n; omega)) ?_
  rintro _ z56 h57 ⟨v41, rfl, I58, f40, e42, e43, e44, e45, e46, e47, e48, e49, e50, e51, e52, e53, e54, e55⟩
  have E59 : h57 92 = h 92 := Eq.trans e42 E23
  have E60 : h57 93 = h 93 := Eq.trans e43 E24
  have E61 : h57 94 = h 94 := Eq.trans e44 E25
  have E62 : h57 95 = h 95 := Eq.trans e45 E26
  have E63 : h57 96 = h 96 := Eq.trans e46 E27
  have E64 : h57 97 = h 97 := Eq.trans e47 E28
  have E65 : h57 98 = h 98 := Eq.trans e48 E29
  have E66 : h57 99 = h 99 := Eq.trans e49 E30
  have E67 : h57 100 = h 100 := Eq.trans e50 E31
  have E68 : h57 103 = h 103 := Eq.trans e51 E32
  have E69 : h57 105 = h 105 := Eq.trans e52 E33
  have E70 : h57 106 = h 106 := Eq.trans e53 E34
  have E71 : h57 109 = h 109 := Eq.trans e54 E35
  have E72 : h57 114 = h 114 := Eq.trans e55 E36
  show ov_R u d ov_m219 41 [(0, ov_r 90), (1, ov_i v5)] [ov_i v41] z56 h57 (P_Mo_readLight_90 F z h n)
  have f73 : (h57 90 2) = (h21 90 2) ∧ (h57 90 13) = (h21 90 13) ∧ (h57 90 20) = (h21 90 20) ∧ (h57 90 22) = (h21 90 22) ∧ (h57 90 25) = (h21 90 25) ∧ (h57 90 26) = (h21 90 26) ∧ (h57 90 28) = (h21 90 28) ∧ (h57 90 29) = (h21 90 29) ∧ (h57 90 30) = (h21 90 30) ∧ (h57 90 34) = (h21 90 34) ∧ (h21 90 7) ≤ (h57 90 7) ∧ (h57 90 7) ≤ n ∧ (h21 90 8) ≤ (h57 90 8) ∧ ((h57 90 8) = 0 → (0 : Int) ≤ v41 ∧ v41 ≤ ((h 96 341) - 1)) ∧ (0 < (h57 90 8) → v41 = 0) ∧ (h21 90 7) < (h57 90 7) + (h57 90 8) := f40
  clear f40
  refine ov_blk (ls2 := [(0, ov_r 90), (1, ov_i v5), (2, ov_i v41), (3, ov_i (350 + (4 * ((6 * v41) + v5))))]) (st2 := [ov_r 90]) (pc2 := 56) b_219_41_12 rfl rfl ?_
  refine ov_getf (v := ov_i (h57 90 8)) d_219_56 fl_Mo_180 (zb_90 I58) (zs_90 I58) rfl ?_
  have g74 := rg_90_8 I58
  refine ov_ifne (tgt := 86) d_219_59 (by decide) (by omega) (fun c75 => ?_) (fun c75 => ?_)
  · skip
    refine ov_blk (ls2 := [(0, ov_r 90), (1, ov_i v5), (2, ov_i v41), (3, ov_i (350 + (4 * ((6 * v41) + v5))))]) (st2 := [ov_r 90]) (pc2 := 87) b_219_86_1 rfl rfl ?_
    refine ov_getf (v := ov_i (h57 90 8)) d_219_87 fl_Mo_180 (zb_90 I58) (zs_90 I58) rfl ?_
    refine ov_ifle (tgt := 97) d_219_90 (by decide) (by omega) (fun c77 => ?_) (fun c77 => ?_)
    · omega
    · skip
      refine ov_blk (ls2 := [(0, ov_r 90), (1, ov_i v5), (2, ov_i v41), (3, ov_i (350 + (4 * ((6 * v41) + v5))))]) (st2 := [ov_i (-1)]) (pc2 := 94) b_219_93_1 rfl rfl ?_
      refine ov_goto (tgt := 104) d_219_94 (by decide) ?_
      refine ov_blk (ls2 := [(0, ov_r 90), (1, ov_i v5), (2, ov_i v41), (3, ov_i (350 + (4 * ((6 * v41) + v5)))), (4, ov_i (-1))]) (st2 := [ov_i (-1)]) (pc2 := 108) b_219_104_2 rfl rfl ?_
      refine ov_ifge (tgt := 117) d_219_108 (by decide) (by omega) (fun c78 => ?_) (fun c78 => ?_)
      · omega
      · skip
        refine ov_blk (ls2 := [(0, ov_r 90), (1, ov_i v5), (2, ov_i v41), (3, ov_i (350 + (4 * ((6 * v41) + v5)))), (4, ov_i (-1))]) (st2 := [ov_i 1, ov_r 90]) (pc2 := 113) b_219_111_2 rfl rfl ?_
        refine ov_cV (as := [ov_i 1]) (st := []) (d2 := d - 1) d_219_113 lk_Mo_186 rfl (Nat.le_of_ble_eq_true rfl) (c := 1) (zb_90 I58) (zs_90 I58) ⟨by decide, rfl⟩ (by omega) (c_Mo_wrong_90 (d - 1) (by omega) U I58 1 (by omega) (by omega)) ?_
        rintro _ z94 h95 ⟨rfl, I96, f79, e80, e81, e82, e83, e84, e85, e86, e87, e88, e89, e90, e91, e92, e93⟩
        have E97 : h95 92 = h 92 := Eq.trans e80 E59
        have E98 : h95 93 = h 93 := Eq.trans e81 E60
        have E99 : h95 94 = h 94 := Eq.trans e82 E61
        have E100 : h95 95 = h 95 := Eq.trans e83 E62
        have E101 : h95 96 = h 96 := Eq.trans e84 E63
        have E102 : h95 97 = h 97 := Eq.trans e85 E64
        have E103 : h95 98 = h 98 := Eq.trans e86 E65
        have E104 : h95 99 = h 99 := Eq.trans e87 E66
        have E105 : h95 100 = h 100 := Eq.trans e88 E67
        have E106 : h95 103 = h 103 := Eq.trans e89 E68
        have E107 : h95 105 = h 105 := Eq.trans e90 E69
        have E108 : h95 106 = h 106 := Eq.trans e91 E70
        have E109 : h95 109 = h 109 := Eq.trans e92 E71
        have E110 : h95 114 = h 114 := Eq.trans e93 E72
        show ov_R u d ov_m219 116 [(0, ov_r 90), (1, ov_i v5), (2, ov_i v41), (3, ov_i (350 + (4 * ((6 * v41) + v5)))), (4, ov_i (-1))] [] z94 h95 (P_Mo_readLight_90 F z h n)
        have f111 : (h95 90 2) = (h57 90 2) ∧ (h95 90 7) = (h57 90 7) ∧ (h95 90 13) = (h57 90 13) ∧ (h95 90 20) = (h57 90 20) ∧ (h95 90 22) = (h57 90 22) ∧ (h95 90 25) = (h57 90 25) ∧ (h95 90 26) = (h57 90 26) ∧ (h95 90 28) = (h57 90 28) ∧ (h95 90 29) = (h57 90 29) ∧ (h95 90 30) = (h57 90 30) ∧ (h95 90 34) = (h57 90 34) ∧ 0 < (h95 90 8) ∧ (h57 90 8) ≤ (h95 90 8) := f79
        clear f79
        have cf112 : h95 96 340 = h 96 340 := congrFun E101 340
        have cf113 : h95 96 341 = h 96 341 := congrFun E101 341
        have cf114 : h95 96 342 = h 96 342 := congrFun E101 342
        have cf115 : h95 96 349 = h 96 349 := congrFun E101 349
        have R116 : ov_RD (h 96) (h 97) (h 98) (h 90 13) (h95 96) (h95 97) (h95 98) (h 90 13) := by rw [show h95 96 = h 96 from E101, show h95 97 = h 97 from E102, show h95 98 = h 98 from E103]; exact ov_RD_refl _ _ _ _
        exact ov_retv (st := []) d_219_116 rfl ⟨rfl, I96, (by show (h95 90 2) = (h 90 2) ∧ (h95 90 13) = (h 90 13) ∧ (h95 90 20) = (h 90 20) ∧ (h95 90 22) = (h 90 22) ∧ (h95 90 25) = (h 90 25) ∧ (h95 90 26) = (h 90 26) ∧ (h95 90 28) = (h 90 28) ∧ (h95 90 29) = (h 90 29) ∧ (h95 90 30) = (h 90 30) ∧ (h95 90 34) = (h 90 34) ∧ (h 90 7) ≤ (h95 90 7) ∧ (h95 90 7) ≤ n ∧ (h 90 13) ≤ (h95 90 13) ∧ (h95 90 13) - (h 90 13) ≤ (h95 90 7) - (h 90 7) ∧ (h95 96 340) = (h 96 340) ∧ (h95 96 341) = (h 96 341) ∧ ((h95 90 8) = 0 → 1 ≤ (h 96 342) → 1 ≤ (h95 96 342)) ∧ (1 ≤ (h 96 349) → 1 ≤ (h95 96 349)); omega), E97, E98, E99, E100, E102, E103, E104, E105, E106, E107, E108, E109, E110, R116.1, R116.2.1, (fun _ w => by show ov_CS (h95 96) (h95 97) (h95 98) (h95 90 13); rw [show (h95 90 13) = h 90 13 by omega]; exact R116.2.2 w)⟩
  · skip
    refine ov_blk (ls2 := [(0, ov_r 90), (1, ov_i v5), (2, ov_i v41), (3, ov_i (350 + (4 * ((6 * v41) + v5))))]) (st2 := [ov_r 90]) (pc2 := 63) b_219_62_1 rfl rfl ?_
    refine ov_getf (v := ov_r 96) d_219_63 fl_Mo_81 (zb_90 I58) (zs_90 I58) (congrArg ov_r (rg_90_10 I58)) ?_
    refine ov_blk (ls2 := [(0, ov_r 90), (1, ov_i v5), (2, ov_i v41), (3, ov_i (350 + (4 * ((6 * v41) + v5))))]) (st2 := [ov_i (350 + (4 * ((6 * v41) + v5))), ov_r 96]) (pc2 := 67) b_219_66_1 rfl rfl ?_
    refine ov_iald d_219_67 (zb_96 I58) (zs_96 I58) (by omega) ?_
    rw [show h57 96 = h 96 from E63]
    have g117 := g96 I (350 + (4 * ((6 * v41) + v5)))
    refine ov_ifle (tgt := 86) d_219_68 (by decide) (by omega) (fun c118 => ?_) (fun c118 => ?_)
    · skip
      refine ov_blk (ls2 := [(0, ov_r 90), (1, ov_i v5), (2, ov_i v41), (3, ov_i (350 + (4 * ((6 * v41) + v5))))]) (st2 := [ov_r 90]) (pc2 := 87) b_219_86_1 rfl rfl ?_
      refine ov_getf (v := ov_i (h57 90 8)) d_219_87 fl_Mo_180 (zb_90 I58) (zs_90 I58) rfl ?_
      refine ov_ifle (tgt := 97) d_219_90 (by decide) (by omega) (fun c120 => ?_) (fun c120 => ?_)
      · skip
        refine ov_blk (ls2 := [(0, ov_r 90), (1, ov_i v5), (2, ov_i v41), (3, ov_i (350 + (4 * ((6 * v41) + v5))))]) (st2 := [ov_i 4, ov_i 13, ov_r 90]) (pc2 := 101) b_219_97_3 rfl rfl ?_
        have cf121 : h57 92 (n) = h 92 (n) := congrFun E59 (n)
        refine ov_cV (as := [ov_i 13, ov_i 4]) (st := []) (d2 := d - 1) d_219_101 lk_Mo_202 rfl (Nat.le_of_ble_eq_true rfl) (c := 1) (zb_90 I58) (zs_90 I58) ⟨by decide, rfl⟩ (by omega) (c_Mo_wordHere_90 n (d - 1) (by omega) U I58 13 4 (by omega) (by omega) (by show 0 ≤ n ∧ n ≤ 1000 ∧ (h57 92 (n)) = 0 ∧ (h57 90 7) ≤ n; omega) (by omega)) ?_
        rintro _ _ _ ⟨v123, rfl, rfl, rfl, f122⟩
        show ov_R u d ov_m219 104 [(0, ov_r 90), (1, ov_i v5), (2, ov_i v41), (3, ov_i (350 + (4 * ((6 * v41) + v5))))] [ov_i v123] z56 h57 (P_Mo_readLight_90 F z h n)
        have f124 : -1 ≤ v123 ∧ v123 < (4 : Int) ∧ (0 ≤ v123 → (h57 90 7) < n ∧ (h57 90 8) = 0) := f122
        clear f122
        refine ov_blk (ls2 := [(0, ov_r 90), (1, ov_i v5), (2, ov_i v41), (3, ov_i (350 + (4 * ((6 * v41) + v5)))), (4, ov_i v123)]) (st2 := [ov_i v123]) (pc2 := 108) b_219_104_2 rfl rfl ?_
        refine ov_ifge (tgt := 117) d_219_108 (by decide) (by omega) (fun c125 => ?_) (fun c125 => ?_)
        · skip
          refine ov_blk (ls2 := [(0, ov_r 90), (1, ov_i v5), (2, ov_i v41), (3, ov_i (350 + (4 * ((6 * v41) + v5)))), (4, ov_i v123)]) (st2 := [ov_r 90, ov_r 90]) (pc2 := 119) b_219_117_2 rfl rfl ?_
          refine ov_getf (v := ov_i (h57 90 7)) d_219_119 fl_Mo_177 (zb_90 I58) (zs_90 I58) rfl ?_
          have g126 := rg_90_7 I58
          refine ov_blk (ls2 := [(0, ov_r 90), (1, ov_i v5), (2, ov_i v41), (3, ov_i (350 + (4 * ((6 * v41) + v5)))), (4, ov_i v123)]) (st2 := [ov_i ((h57 90 7) + 1), ov_r 90]) (pc2 := 124) b_219_122_2 rfl rfl ?_
          refine ov_putf (x := ((h57 90 7) + 1)) d_219_124 fl_Mo_177 (zb_90 I58) (zs_90 I58) rfl nk_0 rfl ?_
          have I127 := up_90_7 (x := ((h57 90 7) + 1)) I58 (by omega)
          refine ov_blk (ls2 := [(0, ov_r 90), (1, ov_i v5), (2, ov_i v41), (3, ov_i (350 + (4 * ((6 * v41) + v5)))), (4, ov_i v123)]) (st2 := [ov_i 60, ov_i 1, ov_i 9, ov_r 90]) (pc2 := 133) b_219_127_4 rfl rfl ?_
          have cf128 : h57 92 (n) = h 92 (n) := congrFun E59 (n)
          refine ov_cV (as := [ov_i 9, ov_i 1, ov_i 60]) (st := []) (d2 := d - 1) d_219_133 lk_Mo_232 rfl (Nat.le_of_ble_eq_true rfl) (c := 1) (zb_90 I127) (zs_90 I127) ⟨by decide, rfl⟩ (by omega) (c_Mo_takeAfter_90 n (d - 1) (by omega) U I127 9 1 60 (by omega) (by omega) (by omega) (by show 0 ≤ n ∧ n ≤ 1000 ∧ (h57 92 (n)) = 0 ∧ ((h57 90 7) + 1) ≤ n; omega) (by omega)) ?_
          rintro _ z145 h146 ⟨v130, rfl, I147, f129, e131, e132, e133, e134, e135, e136, e137, e138, e139, e140, e141, e142, e143, e144⟩
          have E148 : h146 92 = h 92 := Eq.trans e131 E59
          have E149 : h146 93 = h 93 := Eq.trans e132 E60
          have E150 : h146 94 = h 94 := Eq.trans e133 E61
          have E151 : h146 95 = h 95 := Eq.trans e134 E62
          have E152 : h146 96 = h 96 := Eq.trans e135 E63
          have E153 : h146 97 = h 97 := Eq.trans e136 E64
          have E154 : h146 98 = h 98 := Eq.trans e137 E65
          have E155 : h146 99 = h 99 := Eq.trans e138 E66
          have E156 : h146 100 = h 100 := Eq.trans e139 E67
          have E157 : h146 103 = h 103 := Eq.trans e140 E68
          have E158 : h146 105 = h 105 := Eq.trans e141 E69
          have E159 : h146 106 = h 106 := Eq.trans e142 E70
          have E160 : h146 109 = h 109 := Eq.trans e143 E71
          have E161 : h146 114 = h 114 := Eq.trans e144 E72
          show ov_R u d ov_m219 136 [(0, ov_r 90), (1, ov_i v5), (2, ov_i v41), (3, ov_i (350 + (4 * ((6 * v41) + v5)))), (4, ov_i v123)] [ov_i v130] z145 h146 (P_Mo_readLight_90 F z h n)
          have f162 : (h146 90 2) = (h57 90 2) ∧ (h146 90 13) = (h57 90 13) ∧ (h146 90 20) = (h57 90 20) ∧ (h146 90 22) = (h57 90 22) ∧ (h146 90 25) = (h57 90 25) ∧ (h146 90 26) = (h57 90 26) ∧ (h146 90 28) = (h57 90 28) ∧ (h146 90 29) = (h57 90 29) ∧ (h146 90 30) = (h57 90 30) ∧ (h146 90 34) = (h57 90 34) ∧ ((h57 90 7) + 1) ≤ (h146 90 7) ∧ (h146 90 7) ≤ n ∧ (h57 90 8) ≤ (h146 90 8) ∧ ((h146 90 8) = 0 → (1 : Int) ≤ v130 ∧ v130 ≤ (60 : Int)) ∧ (0 < (h146 90 8) → v130 = 0) := f129
          clear f129
          refine ov_blk (ls2 := [(0, ov_r 90), (1, ov_i v5), (2, ov_i v41), (3, ov_i (350 + (4 * ((6 * v41) + v5)))), (4, ov_i v123), (5, ov_i v130)]) (st2 := []) (pc2 := 138) b_219_136_1 rfl rfl ?_
          have J163 : ∀ (j164 : Int) (q165 : 0 ≤ j164 ∧ j164 ≤ 72000 ∧ (1 ≤ (h 96 349) → (h146 90 8) = 0 → 1 ≤ j164) ∧ ((h146 90 8) = 0 → j164 % (h 96 349) = 0 ∧ (v123 < 2 → j164 % v130 = 0))), ov_R u d ov_m219 189 [(0, ov_r 90), (1, ov_i v5), (2, ov_i v41), (3, ov_i (350 + (4 * ((6 * v41) + v5)))), (4, ov_i v123), (5, ov_i v130), (6, ov_i j164)] [] z145 h146 (P_Mo_readLight_90 F z h n) := by
            intro j164 q165
            refine ov_blk (ls2 := [(0, ov_r 90), (1, ov_i v5), (2, ov_i v41), (3, ov_i (350 + (4 * ((6 * v41) + v5)))), (4, ov_i v123), (5, ov_i v130), (6, ov_i j164)]) (st2 := [ov_r 90]) (pc2 := 190) b_219_189_1 rfl rfl ?_
            refine ov_getf (v := ov_i (h146 90 8)) d_219_190 fl_Mo_180 (zb_90 I147) (zs_90 I147) rfl ?_
            have g166 := rg_90_8 I147
            refine ov_ifne (tgt := 219) d_219_193 (by decide) (by omega) (fun c167 => ?_) (fun c167 => ?_)
            · skip
              refine ov_blk (ls2 := [(0, ov_r 90), (1, ov_i v5), (2, ov_i v41), (3, ov_i (350 + (4 * ((6 * v41) + v5)))), (4, ov_i v123), (5, ov_i v130), (6, ov_i j164)]) (st2 := [ov_r 90]) (pc2 := 220) b_219_219_1 rfl rfl ?_
              refine ov_getf (v := ov_i (h146 90 8)) d_219_220 fl_Mo_180 (zb_90 I147) (zs_90 I147) rfl ?_
              refine ov_ifle (tgt := 227) d_219_223 (by decide) (by omega) (fun c169 => ?_) (fun c169 => ?_)
              · omega
              · skip
                have cf170 : h146 96 340 = h 96 340 := congrFun E152 340
                have cf171 : h146 96 341 = h 96 341 := congrFun E152 341
                have cf172 : h146 96 342 = h 96 342 := congrFun E152 342
                have cf173 : h146 96 349 = h 96 349 := congrFun E152 349
                have R174 : ov_RD (h 96) (h 97) (h 98) (h 90 13) (h146 96) (h146 97) (h146 98) (h 90 13) := by rw [show h146 96 = h 96 from E152, show h146 97 = h 97 from E153, show h146 98 = h 98 from E154]; exact ov_RD_refl _ _ _ _
                exact ov_retv (st := []) d_219_226 rfl ⟨rfl, I147, (by show (h146 90 2) = (h 90 2) ∧ (h146 90 13) = (h 90 13) ∧ (h146 90 20) = (h 90 20) ∧ (h146 90 22) = (h 90 22) ∧ (h146 90 25) = (h 90 25) ∧ (h146 90 26) = (h 90 26) ∧ (h146 90 28) = (h 90 28) ∧ (h146 90 29) = (h 90 29) ∧ (h146 90 30) = (h 90 30) ∧ (h146 90 34) = (h 90 34) ∧ (h 90 7) ≤ (h146 90 7) ∧ (h146 90 7) ≤ n ∧ (h 90 13) ≤ (h146 90 13) ∧ (h146 90 13) - (h 90 13) ≤ (h146 90 7) - (h 90 7) ∧ (h146 96 340) = (h 96 340) ∧ (h146 96 341) = (h 96 341) ∧ ((h146 90 8) = 0 → 1 ≤ (h 96 342) → 1 ≤ (h146 96 342)) ∧ (1 ≤ (h 96 349) → 1 ≤ (h146 96 349)); omega), E148, E149, E150, E151, E153, E154, E155, E156, E157, E158, E159, E160, E161, R174.1, R174.2.1, (fun _ w => by show ov_CS (h146 96) (h146 97) (h146 98) (h146 90 13); rw [show (h146 90 13) = h 90 13 by omega]; exact R174.2.2 w)⟩
            · skip
              refine ov_blk (ls2 := [(0, ov_r 90), (1, ov_i v5), (2, ov_i v41), (3, ov_i (350 + (4 * ((6 * v41) + v5)))), (4, ov_i v123), (5, ov_i v130), (6, ov_i j164)]) (st2 := [ov_i 1200, ov_i j164]) (pc2 := 201) b_219_196_2 rfl rfl ?_
              refine ov_icle (tgt := 219) d_219_201 (by decide) (by omega) (by omega) (fun c175 => ?_) (fun c175 => ?_)
              · skip
                refine ov_blk (ls2 := [(0, ov_r 90), (1, ov_i v5), (2, ov_i v41), (3, ov_i (350 + (4 * ((6 * v41) + v5)))), (4, ov_i v123), (5, ov_i v130), (6, ov_i j164)]) (st2 := [ov_r 90]) (pc2 := 220) b_219_219_1 rfl rfl ?_
                refine ov_getf (v := ov_i (h146 90 8)) d_219_220 fl_Mo_180 (zb_90 I147) (zs_90 I147) rfl ?_
                refine ov_ifle (tgt := 227) d_219_223 (by decide) (by omega) (fun c177 => ?_) (fun c177 => ?_)
                · skip
                  refine ov_blk (ls2 := [(0, ov_r 90), (1, ov_i v5), (2, ov_i v41), (3, ov_i (350 + (4 * ((6 * v41) + v5)))), (4, ov_i v123), (5, ov_i v130), (6, ov_i j164)]) (st2 := [ov_r 90]) (pc2 := 228) b_219_227_1 rfl rfl ?_
                  refine ov_getf (v := ov_r 96) d_219_228 fl_Mo_81 (zb_90 I147) (zs_90 I147) (congrArg ov_r (rg_90_10 I147)) ?_
                  refine ov_blk (ls2 := [(0, ov_r 90), (1, ov_i v5), (2, ov_i v41), (3, ov_i (350 + (4 * ((6 * v41) + v5)))), (4, ov_i v123), (5, ov_i v130), (6, ov_i j164)]) (st2 := [ov_i j164, ov_i 349, ov_r 96]) (pc2 := 236) b_219_231_2 rfl rfl ?_
                  refine ov_iast d_219_236 (zb_96 I147) (zs_96 I147) (by omega) ?_
                  have I178 := ua_96 (k := 349) (x := j164) I147 (by refine ⟨?_, ?_, ?_, ?_, ?_, ?_, ?_, ?_, ?_, ?_, ?_, ?_, ?_, ?_, ?_, ?_, ?_, ?_, ?_, ?_, ?_, ?_, ?_, ?_, ?_, ?_, ?_, ?_, ?_⟩ <;> omega)
                  have R179 : ov_RD (h 96) (h 97) (h 98) (h 90 13) (h146 96) (h146 97) (h146 98) (h 90 13) := by rw [show h146 96 = h 96 from E152, show h146 97 = h 97 from E153, show h146 98 = h 98 from E154]; exact ov_RD_refl _ _ _ _
                  have R180 : ov_RD (h 96) (h 97) (h 98) (h 90 13) ((ov_up h146 96 349 j164) 96) ((ov_up h146 96 349 j164) 97) ((ov_up h146 96 349 j164) 98) (h 90 13) := by rw [ov_up_row]; exact ov_RD_c R179 (t96_348 I147).2 rfl (by rw [show h146 96 = h 96 from E152]; omega)
                  refine ov_blk (ls2 := [(0, ov_r 90), (1, ov_i v5), (2, ov_i v41), (3, ov_i (350 + (4 * ((6 * v41) + v5)))), (4, ov_i v123), (5, ov_i v130), (6, ov_i j164)]) (st2 := [ov_r 90]) (pc2 := 238) b_219_237_1 rfl rfl ?_
                  refine ov_getf (v := ov_r 96) d_219_238 fl_Mo_81 (zb_90 I178) (zs_90 I178) (congrArg ov_r (rg_90_10 I178)) ?_
                  refine ov_blk (ls2 := [(0, ov_r 90), (1, ov_i v5), (2, ov_i v41), (3, ov_i (350 + (4 * ((6 * v41) + v5)))), (4, ov_i v123), (5, ov_i v130), (6, ov_i j164)]) (st2 := [ov_i (1 + v123), ov_i (350 + (4 * ((6 * v41) + v5))), ov_r 96]) (pc2 := 246) b_219_241_4 rfl rfl ?_
                  refine ov_iast d_219_246 (zb_96 I178) (zs_96 I178) (by omega) ?_
                  have I181 := ua_96 (k := (350 + (4 * ((6 * v41) + v5)))) (x := (1 + v123)) I178 (by refine ⟨?_, ?_, ?_, ?_, ?_, ?_, ?_, ?_, ?_, ?_, ?_, ?_, ?_, ?_, ?_, ?_, ?_, ?_, ?_, ?_, ?_, ?_, ?_, ?_, ?_, ?_, ?_, ?_, ?_⟩ <;> omega)
                  refine ov_blk (ls2 := [(0, ov_r 90), (1, ov_i v5), (2, ov_i v41), (3, ov_i (350 + (4 * ((6 * v41) + v5)))), (4, ov_i v123), (5, ov_i v130), (6, ov_i j164)]) (st2 := [ov_r 90]) (pc2 := 248) b_219_247_1 rfl rfl ?_
                  refine ov_getf (v := ov_r 96) d_219_248 fl_Mo_81 (zb_90 I181) (zs_90 I181) (congrArg ov_r (rg_90_10 I181)) ?_
                  refine ov_blk (ls2 := [(0, ov_r 90), (1, ov_i v5), (2, ov_i v41), (3, ov_i (350 + (4 * ((6 * v41) + v5)))), (4, ov_i v123), (5, ov_i v130), (6, ov_i j164)]) (st2 := [ov_i v130, ov_i ((350 + (4 * ((6 * v41) + v5))) + 1), ov_r 96]) (pc2 := 256) b_219_251_4 rfl rfl ?_
                  refine ov_iast d_219_256 (zb_96 I181) (zs_96 I181) (by omega) ?_
                  have I182 := ua_96 (k := ((350 + (4 * ((6 * v41) + v5))) + 1)) (x := v130) I181 (by refine ⟨?_, ?_, ?_, ?_, ?_, ?_, ?_, ?_, ?_, ?_, ?_, ?_, ?_, ?_, ?_, ?_, ?_, ?_, ?_, ?_, ?_, ?_, ?_, ?_, ?_, ?_, ?_, ?_, ?_⟩ <;> omega)
                  have R183 : ov_RD (h 96) (h 97) (h 98) (h 90 13) ((ov_up (ov_up (ov_up h146 96 349 j164) 96 (350 + (4 * ((6 * v41) + v5))) (1 + v123)) 96 ((350 + (4 * ((6 * v41) + v5))) + 1) v130) 96) ((ov_up (ov_up (ov_up h146 96 349 j164) 96 (350 + (4 * ((6 * v41) + v5))) (1 + v123)) 96 ((350 + (4 * ((6 * v41) + v5))) + 1) v130) 97) ((ov_up (ov_up (ov_up h146 96 349 j164) 96 (350 + (4 * ((6 * v41) + v5))) (1 + v123)) 96 ((350 + (4 * ((6 * v41) + v5))) + 1) v130) 98) (h 90 13) := by rw [ov_up_row, ov_up_row]; exact ov_RD_k R180 (t96_348 I178).2 (e := 6 * v41 + v5) (by omega) (by omega) (by omega) (by omega) (fun q => by show j164 % v130 = 0; omega)
                  refine ov_blk (ls2 := [(0, ov_r 90), (1, ov_i v5), (2, ov_i v41), (3, ov_i (350 + (4 * ((6 * v41) + v5)))), (4, ov_i v123), (5, ov_i v130), (6, ov_i j164)]) (st2 := [ov_r 90]) (pc2 := 258) b_219_257_1 rfl rfl ?_
                  refine ov_getf (v := ov_r 96) d_219_258 fl_Mo_81 (zb_90 I182) (zs_90 I182) (congrArg ov_r (rg_90_10 I182)) ?_
                  refine ov_blk (ls2 := [(0, ov_r 90), (1, ov_i v5), (2, ov_i v41), (3, ov_i (350 + (4 * ((6 * v41) + v5)))), (4, ov_i v123), (5, ov_i v130), (6, ov_i j164)]) (st2 := [ov_i (v130 - 1), ov_i 0, ov_i 10, ov_r 90, ov_i ((350 + (4 * ((6 * v41) + v5))) + 2), ov_r 96]) (pc2 := 272) b_219_261_9 rfl rfl ?_
                  have cf184 : h146 92 (n) = h 92 (n) := congrFun E148 (n)
                  refine ov_cV (as := [ov_i 10, ov_i 0, ov_i (v130 - 1)]) (st := [ov_i ((350 + (4 * ((6 * v41) + v5))) + 2), ov_r 96]) (d2 := d - 1) d_219_272 lk_Mo_232 rfl (Nat.le_of_ble_eq_true rfl) (c := 1) (zb_90 I182) (zs_90 I182) ⟨by decide, rfl⟩ (by omega) (c_Mo_takeAfter_90 n (d - 1) (by omega) U I182 10 0 (v130 - 1) (by omega) (by omega) (by omega) (by show 0 ≤ n ∧ n ≤ 1000 ∧ (h146 92 (n)) = 0 ∧ (h146 90 7) ≤ n; omega) (by omega)) ?_
                  rintro _ z201 h202 ⟨v186, rfl, I203, f185, e187, e188, e189, e190, e191, e192, e193, e194, e195, e196, e197, e198, e199, e200⟩
                  have E204 : h202 92 = h 92 := Eq.trans e187 E148
                  have E205 : h202 93 = h 93 := Eq.trans e188 E149
                  have E206 : h202 94 = h 94 := Eq.trans e189 E150
                  have E207 : h202 95 = h 95 := Eq.trans e190 E151
                  have E208 : h202 97 = h 97 := Eq.trans e192 E153
                  have E209 : h202 98 = h 98 := Eq.trans e193 E154
                  have E210 : h202 99 = h 99 := Eq.trans e194 E155
                  have E211 : h202 100 = h 100 := Eq.trans e195 E156
                  have E212 : h202 103 = h 103 := Eq.trans e196 E157
                  have E213 : h202 105 = h 105 := Eq.trans e197 E158
                  have E214 : h202 106 = h 106 := Eq.trans e198 E159
                  have E215 : h202 109 = h 109 := Eq.trans e199 E160
                  have E216 : h202 114 = h 114 := Eq.trans e200 E161
                  show ov_R u d ov_m219 275 [(0, ov_r 90), (1, ov_i v5), (2, ov_i v41), (3, ov_i (350 + (4 * ((6 * v41) + v5)))), (4, ov_i v123), (5, ov_i v130), (6, ov_i j164)] [ov_i v186, ov_i ((350 + (4 * ((6 * v41) + v5))) + 2), ov_r 96] z201 h202 (P_Mo_readLight_90 F z h n)
                  have f217 : (h202 90 2) = (h146 90 2) ∧ (h202 90 13) = (h146 90 13) ∧ (h202 90 20) = (h146 90 20) ∧ (h202 90 22) = (h146 90 22) ∧ (h202 90 25) = (h146 90 25) ∧ (h202 90 26) = (h146 90 26) ∧ (h202 90 28) = (h146 90 28) ∧ (h202 90 29) = (h146 90 29) ∧ (h202 90 30) = (h146 90 30) ∧ (h202 90 34) = (h146 90 34) ∧ (h146 90 7) ≤ (h202 90 7) ∧ (h202 90 7) ≤ n ∧ (h146 90 8) ≤ (h202 90 8) ∧ ((h202 90 8) = 0 → (0 : Int) ≤ v186 ∧ v186 ≤ (v130 - 1)) ∧ (0 < (h202 90 8) → v186 = 0) := f185
                  clear f185
                  have R218 : ov_RD (h 96) (h 97) (h 98) (h 90 13) (h202 96) (h202 97) (h202 98) (h 90 13) := by rw [e191, e192, e193]; exact R183
                  have lt219 : ((ov_up (ov_up (ov_up h146 96 349 j164) 96 (350 + (4 * ((6 * v41) + v5))) (1 + v123)) 96 ((350 + (4 * ((6 * v41) + v5))) + 1) v130) 96 340) = h146 96 340 := by try rw [ov_up_j (by omega)]; try rw [ov_up_j (by omega)]; try rw [ov_up_j (by omega)]; try rfl
                  have lt220 : h146 96 340 = h 96 340 := congrFun E152 340
                  have lt221 : ((ov_up (ov_up (ov_up h146 96 349 j164) 96 (350 + (4 * ((6 * v41) + v5))) (1 + v123)) 96 ((350 + (4 * ((6 * v41) + v5))) + 1) v130) 96 341) = h146 96 341 := by try rw [ov_up_j (by omega)]; try rw [ov_up_j (by omega)]; try rw [ov_up_j (by omega)]; try rfl
                  have lt222 : h146 96 341 = h 96 341 := congrFun E152 341
                  have lt223 : ((ov_up (ov_up (ov_up h146 96 349 j164) 96 (350 + (4 * ((6 * v41) + v5))) (1 + v123)) 96 ((350 + (4 * ((6 * v41) + v5))) + 1) v130) 96 342) = h146 96 342 := by try rw [ov_up_j (by omega)]; try rw [ov_up_j (by omega)]; try rw [ov_up_j (by omega)]; try rfl
                  have lt224 : h146 96 342 = h 96 342 := congrFun E152 342
                  have lt225 : ((ov_up (ov_up (ov_up h146 96 349 j164) 96 (350 + (4 * ((6 * v41) + v5))) (1 + v123)) 96 ((350 + (4 * ((6 * v41) + v5))) + 1) v130) 96 348) = h146 96 348 := by try rw [ov_up_j (by omega)]; try rw [ov_up_j (by omega)]; try rw [ov_up_j (by omega)]; try rfl
                  have lt226 : h146 96 348 = h 96 348 := congrFun E152 348
                  have lt227 : ((ov_up (ov_up (ov_up h146 96 349 j164) 96 (350 + (4 * ((6 * v41) + v5))) (1 + v123)) 96 ((350 + (4 * ((6 * v41) + v5))) + 1) v130) 96 349) = j164 := by try rw [ov_up_j (by omega)]; try rw [ov_up_j (by omega)]; try rw [ov_up_row, ov_rs_eq]; try rfl
                  have lt228 : h146 96 349 = h 96 349 := congrFun E152 349
                  have lt229 : h202 96 340 = ((ov_up (ov_up (ov_up h146 96 349 j164) 96 (350 + (4 * ((6 * v41) + v5))) (1 + v123)) 96 ((350 + (4 * ((6 * v41) + v5))) + 1) v130) 96 340) := congrFun e191 340
                  have lt230 : h202 96 341 = ((ov_up (ov_up (ov_up h146 96 349 j164) 96 (350 + (4 * ((6 * v41) + v5))) (1 + v123)) 96 ((350 + (4 * ((6 * v41) + v5))) + 1) v130) 96 341) := congrFun e191 341
                  have lt231 : h202 96 342 = ((ov_up (ov_up (ov_up h146 96 349 j164) 96 (350 + (4 * ((6 * v41) + v5))) (1 + v123)) 96 ((350 + (4 * ((6 * v41) + v5))) + 1) v130) 96 342) := congrFun e191 342
                  have lt232 : h202 96 348 = ((ov_up (ov_up (ov_up h146 96 349 j164) 96 (350 + (4 * ((6 * v41) + v5))) (1 + v123)) 96 ((350 + (4 * ((6 * v41) + v5))) + 1) v130) 96 348) := congrFun e191 348
                  have lt233 : h202 96 349 = ((ov_up (ov_up (ov_up h146 96 349 j164) 96 (350 + (4 * ((6 * v41) + v5))) (1 + v123)) 96 ((350 + (4 * ((6 * v41) + v5))) + 1) v130) 96 349) := congrFun e191 349
                  refine ov_iast d_219_275 (zb_96 I203) (zs_96 I203) (by omega) ?_
                  have I234 := ua_96 (k := ((350 + (4 * ((6 * v41) + v5))) + 2)) (x := v186) I203 (by refine ⟨?_, ?_, ?_, ?_, ?_, ?_, ?_, ?_, ?_, ?_, ?_, ?_, ?_, ?_, ?_, ?_, ?_, ?_, ?_, ?_, ?_, ?_, ?_, ?_, ?_, ?_, ?_, ?_, ?_⟩ <;> omega)
                  have R235 : ov_RD (h 96) (h 97) (h 98) (h 90 13) ((ov_up h202 96 ((350 + (4 * ((6 * v41) + v5))) + 2) v186) 96) ((ov_up h202 96 ((350 + (4 * ((6 * v41) + v5))) + 2) v186) 97) ((ov_up h202 96 ((350 + (4 * ((6 * v41) + v5))) + 2) v186) 98) (h 90 13) := by rw [ov_up_row]; exact ov_RD_l R218 (t96_348 I203).2 (e := 6 * v41 + v5) (i := 2) (by omega) (Or.inl rfl) (by omega)
                  refine ov_blk (ls2 := [(0, ov_r 90), (1, ov_i v5), (2, ov_i v41), (3, ov_i (350 + (4 * ((6 * v41) + v5)))), (4, ov_i v123), (5, ov_i v130), (6, ov_i j164)]) (st2 := [ov_r 90]) (pc2 := 277) b_219_276_1 rfl rfl ?_
                  refine ov_getf (v := ov_r 96) d_219_277 fl_Mo_81 (zb_90 I234) (zs_90 I234) (congrArg ov_r (rg_90_10 I234)) ?_
                  refine ov_blk (ls2 := [(0, ov_r 90), (1, ov_i v5), (2, ov_i v41), (3, ov_i (350 + (4 * ((6 * v41) + v5)))), (4, ov_i v123), (5, ov_i v130), (6, ov_i j164)]) (st2 := [ov_i v130, ov_i 0, ov_i 12, ov_r 90, ov_i ((350 + (4 * ((6 * v41) + v5))) + 3), ov_r 96]) (pc2 := 289) b_219_280_7 rfl rfl ?_
                  have cf236 : h202 92 (n) = h 92 (n) := congrFun E204 (n)
                  refine ov_cV (as := [ov_i 12, ov_i 0, ov_i v130]) (st := [ov_i ((350 + (4 * ((6 * v41) + v5))) + 3), ov_r 96]) (d2 := d - 1) d_219_289 lk_Mo_232 rfl (Nat.le_of_ble_eq_true rfl) (c := 1) (zb_90 I234) (zs_90 I234) ⟨by decide, rfl⟩ (by omega) (c_Mo_takeAfter_90 n (d - 1) (by omega) U I234 12 0 v130 (by omega) (by omega) (by omega) (by show 0 ≤ n ∧ n ≤ 1000 ∧ (h202 92 (n)) = 0 ∧ (h202 90 7) ≤ n; omega) (by omega)) ?_
                  rintro _ z253 h254 ⟨v238, rfl, I255, f237, e239, e240, e241, e242, e243, e244, e245, e246, e247, e248, e249, e250, e251, e252⟩
                  have E256 : h254 92 = h 92 := Eq.trans e239 E204
                  have E257 : h254 93 = h 93 := Eq.trans e240 E205
                  have E258 : h254 94 = h 94 := Eq.trans e241 E206
                  have E259 : h254 95 = h 95 := Eq.trans e242 E207
                  have E260 : h254 97 = h 97 := Eq.trans e244 E208
                  have E261 : h254 98 = h 98 := Eq.trans e245 E209
                  have E262 : h254 99 = h 99 := Eq.trans e246 E210
                  have E263 : h254 100 = h 100 := Eq.trans e247 E211
                  have E264 : h254 103 = h 103 := Eq.trans e248 E212
                  have E265 : h254 105 = h 105 := Eq.trans e249 E213
                  have E266 : h254 106 = h 106 := Eq.trans e250 E214
                  have E267 : h254 109 = h 109 := Eq.trans e251 E215
                  have E268 : h254 114 = h 114 := Eq.trans e252 E216
                  show ov_R u d ov_m219 292 [(0, ov_r 90), (1, ov_i v5), (2, ov_i v41), (3, ov_i (350 + (4 * ((6 * v41) + v5)))), (4, ov_i v123), (5, ov_i v130), (6, ov_i j164)] [ov_i v238, ov_i ((350 + (4 * ((6 * v41) + v5))) + 3), ov_r 96] z253 h254 (P_Mo_readLight_90 F z h n)
                  have f269 : (h254 90 2) = (h202 90 2) ∧ (h254 90 13) = (h202 90 13) ∧ (h254 90 20) = (h202 90 20) ∧ (h254 90 22) = (h202 90 22) ∧ (h254 90 25) = (h202 90 25) ∧ (h254 90 26) = (h202 90 26) ∧ (h254 90 28) = (h202 90 28) ∧ (h254 90 29) = (h202 90 29) ∧ (h254 90 30) = (h202 90 30) ∧ (h254 90 34) = (h202 90 34) ∧ (h202 90 7) ≤ (h254 90 7) ∧ (h254 90 7) ≤ n ∧ (h202 90 8) ≤ (h254 90 8) ∧ ((h254 90 8) = 0 → (0 : Int) ≤ v238 ∧ v238 ≤ v130) ∧ (0 < (h254 90 8) → v238 = 0) := f237
                  clear f237
                  have R270 : ov_RD (h 96) (h 97) (h 98) (h 90 13) (h254 96) (h254 97) (h254 98) (h 90 13) := by rw [e243, e244, e245]; exact R235
                  have lt271 : ((ov_up h202 96 ((350 + (4 * ((6 * v41) + v5))) + 2) v186) 96 340) = h202 96 340 := by try rw [ov_up_j (by omega)]; try rfl
                  have lt272 : ((ov_up h202 96 ((350 + (4 * ((6 * v41) + v5))) + 2) v186) 96 341) = h202 96 341 := by try rw [ov_up_j (by omega)]; try rfl
                  have lt273 : ((ov_up h202 96 ((350 + (4 * ((6 * v41) + v5))) + 2) v186) 96 342) = h202 96 342 := by try rw [ov_up_j (by omega)]; try rfl
                  have lt274 : ((ov_up h202 96 ((350 + (4 * ((6 * v41) + v5))) + 2) v186) 96 348) = h202 96 348 := by try rw [ov_up_j (by omega)]; try rfl
                  have lt275 : ((ov_up h202 96 ((350 + (4 * ((6 * v41) + v5))) + 2) v186) 96 349) = h202 96 349 := by try rw [ov_up_j (by omega)]; try rfl
                  have lt276 : h254 96 340 = ((ov_up h202 96 ((350 + (4 * ((6 * v41) + v5))) + 2) v186) 96 340) := congrFun e243 340
                  have lt277 : h254 96 341 = ((ov_up h202 96 ((350 + (4 * ((6 * v41) + v5))) + 2) v186) 96 341) := congrFun e243 341
                  have lt278 : h254 96 342 = ((ov_up h202 96 ((350 + (4 * ((6 * v41) + v5))) + 2) v186) 96 342) := congrFun e243 342
                  have lt279 : h254 96 348 = ((ov_up h202 96 ((350 + (4 * ((6 * v41) + v5))) + 2) v186) 96 348) := congrFun e243 348
                  have lt280 : h254 96 349 = ((ov_up h202 96 ((350 + (4 * ((6 * v41) + v5))) + 2) v186) 96 349) := congrFun e243 349
                  refine ov_iast d_219_292 (zb_96 I255) (zs_96 I255) (by omega) ?_
                  have I281 := ua_96 (k := ((350 + (4 * ((6 * v41) + v5))) + 3)) (x := v238) I255 (by refine ⟨?_, ?_, ?_, ?_, ?_, ?_, ?_, ?_, ?_, ?_, ?_, ?_, ?_, ?_, ?_, ?_, ?_, ?_, ?_, ?_, ?_, ?_, ?_, ?_, ?_, ?_, ?_, ?_, ?_⟩ <;> omega)
                  have R282 : ov_RD (h 96) (h 97) (h 98) (h 90 13) ((ov_up h254 96 ((350 + (4 * ((6 * v41) + v5))) + 3) v238) 96) ((ov_up h254 96 ((350 + (4 * ((6 * v41) + v5))) + 3) v238) 97) ((ov_up h254 96 ((350 + (4 * ((6 * v41) + v5))) + 3) v238) 98) (h 90 13) := by rw [ov_up_row]; exact ov_RD_l R270 (t96_348 I255).2 (e := 6 * v41 + v5) (i := 3) (by omega) (Or.inr rfl) (by omega)
                  refine ov_blk (ls2 := [(0, ov_r 90), (1, ov_i v5), (2, ov_i v41), (3, ov_i (350 + (4 * ((6 * v41) + v5)))), (4, ov_i v123), (5, ov_i v130), (6, ov_i j164)]) (st2 := [ov_r 90]) (pc2 := 294) b_219_293_1 rfl rfl ?_
                  refine ov_getf (v := ov_r 96) d_219_294 fl_Mo_81 (zb_90 I281) (zs_90 I281) (congrArg ov_r (rg_90_10 I281)) ?_
                  refine ov_blk (ls2 := [(0, ov_r 90), (1, ov_i v5), (2, ov_i v41), (3, ov_i (350 + (4 * ((6 * v41) + v5)))), (4, ov_i v123), (5, ov_i v130), (6, ov_i j164)]) (st2 := [ov_i 347, ov_r 96, ov_i 347, ov_r 96]) (pc2 := 301) b_219_297_2 rfl rfl ?_
                  refine ov_iald d_219_301 (zb_96 I281) (zs_96 I281) (by omega) ?_
                  show ov_R u d ov_m219 302 [(0, ov_r 90), (1, ov_i v5), (2, ov_i v41), (3, ov_i (350 + (4 * ((6 * v41) + v5)))), (4, ov_i v123), (5, ov_i v130), (6, ov_i j164)] [ov_i ((ov_up h254 96 ((350 + (4 * ((6 * v41) + v5))) + 3) v238) 96 347), ov_i 347, ov_r 96] z253 (ov_up h254 96 ((350 + (4 * ((6 * v41) + v5))) + 3) v238) (P_Mo_readLight_90 F z h n)
                  refine ov_blk (ls2 := [(0, ov_r 90), (1, ov_i v5), (2, ov_i v41), (3, ov_i (350 + (4 * ((6 * v41) + v5)))), (4, ov_i v123), (5, ov_i v130), (6, ov_i j164)]) (st2 := [ov_i (((ov_up h254 96 ((350 + (4 * ((6 * v41) + v5))) + 3) v238) 96 347) + 1), ov_i 347, ov_r 96]) (pc2 := 304) b_219_302_2 rfl rfl ?_
                  refine ov_havw (fun w283 gw283 qw283 => ?_)
                  refine ov_iast d_219_304 (zb_96 I281) (zs_96 I281) (by omega) ?_
                  have I284 := ua_96 (k := 347) (x := w283) I281 (by refine ⟨?_, ?_, ?_, ?_, ?_, ?_, ?_, ?_, ?_, ?_, ?_, ?_, ?_, ?_, ?_, ?_, ?_, ?_, ?_, ?_, ?_, ?_, ?_, ?_, ?_, ?_, ?_, ?_, ?_⟩ <;> omega)
                  have R285 : ov_RD (h 96) (h 97) (h 98) (h 90 13) ((ov_up (ov_up h254 96 ((350 + (4 * ((6 * v41) + v5))) + 3) v238) 96 347 w283) 96) ((ov_up (ov_up h254 96 ((350 + (4 * ((6 * v41) + v5))) + 3) v238) 96 347 w283) 97) ((ov_up (ov_up h254 96 ((350 + (4 * ((6 * v41) + v5))) + 3) v238) 96 347 w283) 98) (h 90 13) := by rw [ov_up_row]; exact ov_RD_w R282 (t96_348 I281).2 (by omega)
                  have lt286 : ((ov_up h254 96 ((350 + (4 * ((6 * v41) + v5))) + 3) v238) 96 340) = h254 96 340 := by try rw [ov_up_j (by omega)]; try rw [ov_up_j (by omega)]; try rfl
                  have lt287 : ((ov_up h254 96 ((350 + (4 * ((6 * v41) + v5))) + 3) v238) 96 341) = h254 96 341 := by try rw [ov_up_j (by omega)]; try rw [ov_up_j (by omega)]; try rfl
                  have lt288 : ((ov_up h254 96 ((350 + (4 * ((6 * v41) + v5))) + 3) v238) 96 342) = h254 96 342 := by try rw [ov_up_j (by omega)]; try rw [ov_up_j (by omega)]; try rfl
                  have lt289 : ((ov_up h254 96 ((350 + (4 * ((6 * v41) + v5))) + 3) v238) 96 348) = h254 96 348 := by try rw [ov_up_j (by omega)]; try rw [ov_up_j (by omega)]; try rfl
                  have lt290 : ((ov_up h254 96 ((350 + (4 * ((6 * v41) + v5))) + 3) v238) 96 349) = h254 96 349 := by try rw [ov_up_j (by omega)]; try rw [ov_up_j (by omega)]; try rfl
                  exact ov_retv (st := []) d_219_305 rfl ⟨rfl, I284, (by show (h254 90 2) = (h 90 2) ∧ (h254 90 13) = (h 90 13) ∧ (h254 90 20) = (h 90 20) ∧ (h254 90 22) = (h 90 22) ∧ (h254 90 25) = (h 90 25) ∧ (h254 90 26) = (h 90 26) ∧ (h254 90 28) = (h 90 28) ∧ (h254 90 29) = (h 90 29) ∧ (h254 90 30) = (h 90 30) ∧ (h254 90 34) = (h 90 34) ∧ (h 90 7) ≤ (h254 90 7) ∧ (h254 90 7) ≤ n ∧ (h 90 13) ≤ (h254 90 13) ∧ (h254 90 13) - (h 90 13) ≤ (h254 90 7) - (h 90 7) ∧ ((ov_up h254 96 ((350 + (4 * ((6 * v41) + v5))) + 3) v238) 96 340) = (h 96 340) ∧ ((ov_up h254 96 ((350 + (4 * ((6 * v41) + v5))) + 3) v238) 96 341) = (h 96 341) ∧ ((h254 90 8) = 0 → 1 ≤ (h 96 342) → 1 ≤ ((ov_up h254 96 ((350 + (4 * ((6 * v41) + v5))) + 3) v238) 96 342)) ∧ (1 ≤ (h 96 349) → 1 ≤ ((ov_up h254 96 ((350 + (4 * ((6 * v41) + v5))) + 3) v238) 96 349)); omega), E256, E257, E258, E259, E260, E261, E262, E263, E264, E265, E266, E267, E268, R285.1, R285.2.1, (fun _ w => by show ov_CS ((ov_up (ov_up h254 96 ((350 + (4 * ((6 * v41) + v5))) + 3) v238) 96 347 w283) 96) ((ov_up (ov_up h254 96 ((350 + (4 * ((6 * v41) + v5))) + 3) v238) 96 347 w283) 97) ((ov_up (ov_up h254 96 ((350 + (4 * ((6 * v41) + v5))) + 3) v238) 96 347 w283) 98) (h254 90 13); rw [show (h254 90 13) = h 90 13 by omega]; exact R285.2.2 w)⟩
                · omega
              · skip
                refine ov_blk (ls2 := [(0, ov_r 90), (1, ov_i v5), (2, ov_i v41), (3, ov_i (350 + (4 * ((6 * v41) + v5)))), (4, ov_i v123), (5, ov_i v130), (6, ov_i j164)]) (st2 := [ov_r 90, ov_r 90]) (pc2 := 206) b_219_204_2 rfl rfl ?_
                refine ov_getf (v := ov_i (h146 90 7)) d_219_206 fl_Mo_177 (zb_90 I147) (zs_90 I147) rfl ?_
                have g291 := rg_90_7 I147
                refine ov_blk (ls2 := [(0, ov_r 90), (1, ov_i v5), (2, ov_i v41), (3, ov_i (350 + (4 * ((6 * v41) + v5)))), (4, ov_i v123), (5, ov_i v130), (6, ov_i j164)]) (st2 := [ov_i ((h146 90 7) - 1), ov_r 90]) (pc2 := 211) b_219_209_2 rfl rfl ?_
                refine ov_putf (x := ((h146 90 7) - 1)) d_219_211 fl_Mo_177 (zb_90 I147) (zs_90 I147) rfl nk_0 rfl ?_
                have I292 := up_90_7 (x := ((h146 90 7) - 1)) I147 (by omega)
                refine ov_blk (ls2 := [(0, ov_r 90), (1, ov_i v5), (2, ov_i v41), (3, ov_i (350 + (4 * ((6 * v41) + v5)))), (4, ov_i v123), (5, ov_i v130), (6, ov_i j164)]) (st2 := [ov_i 4, ov_r 90]) (pc2 := 216) b_219_214_2 rfl rfl ?_
                refine ov_cV (as := [ov_i 4]) (st := []) (d2 := d - 1) d_219_216 lk_Mo_186 rfl (Nat.le_of_ble_eq_true rfl) (c := 1) (zb_90 I292) (zs_90 I292) ⟨by decide, rfl⟩ (by omega) (c_Mo_wrong_90 (d - 1) (by omega) U I292 4 (by omega) (by omega)) ?_
                rintro _ z308 h309 ⟨rfl, I310, f293, e294, e295, e296, e297, e298, e299, e300, e301, e302, e303, e304, e305, e306, e307⟩
                have E311 : h309 92 = h 92 := Eq.trans e294 E148
                have E312 : h309 93 = h 93 := Eq.trans e295 E149
                have E313 : h309 94 = h 94 := Eq.trans e296 E150
                have E314 : h309 95 = h 95 := Eq.trans e297 E151
                have E315 : h309 96 = h 96 := Eq.trans e298 E152
                have E316 : h309 97 = h 97 := Eq.trans e299 E153
                have E317 : h309 98 = h 98 := Eq.trans e300 E154
                have E318 : h309 99 = h 99 := Eq.trans e301 E155
                have E319 : h309 100 = h 100 := Eq.trans e302 E156
                have E320 : h309 103 = h 103 := Eq.trans e303 E157
                have E321 : h309 105 = h 105 := Eq.trans e304 E158
                have E322 : h309 106 = h 106 := Eq.trans e305 E159
                have E323 : h309 109 = h 109 := Eq.trans e306 E160
                have E324 : h309 114 = h 114 := Eq.trans e307 E161
                show ov_R u d ov_m219 219 [(0, ov_r 90), (1, ov_i v5), (2, ov_i v41), (3, ov_i (350 + (4 * ((6 * v41) + v5)))), (4, ov_i v123), (5, ov_i v130), (6, ov_i j164)] [] z308 h309 (P_Mo_readLight_90 F z h n)
                have f325 : (h309 90 2) = (h146 90 2) ∧ (h309 90 7) = ((h146 90 7) - 1) ∧ (h309 90 13) = (h146 90 13) ∧ (h309 90 20) = (h146 90 20) ∧ (h309 90 22) = (h146 90 22) ∧ (h309 90 25) = (h146 90 25) ∧ (h309 90 26) = (h146 90 26) ∧ (h309 90 28) = (h146 90 28) ∧ (h309 90 29) = (h146 90 29) ∧ (h309 90 30) = (h146 90 30) ∧ (h309 90 34) = (h146 90 34) ∧ 0 < (h309 90 8) ∧ (h146 90 8) ≤ (h309 90 8) := f293
                clear f293
                refine ov_blk (ls2 := [(0, ov_r 90), (1, ov_i v5), (2, ov_i v41), (3, ov_i (350 + (4 * ((6 * v41) + v5)))), (4, ov_i v123), (5, ov_i v130), (6, ov_i j164)]) (st2 := [ov_r 90]) (pc2 := 220) b_219_219_1 rfl rfl ?_
                refine ov_getf (v := ov_i (h309 90 8)) d_219_220 fl_Mo_180 (zb_90 I310) (zs_90 I310) rfl ?_
                have g326 := rg_90_8 I310
                refine ov_ifle (tgt := 227) d_219_223 (by decide) (by omega) (fun c327 => ?_) (fun c327 => ?_)
                · omega
                · skip
                  have cf328 : h309 96 340 = h 96 340 := congrFun E315 340
                  have cf329 : h309 96 341 = h 96 341 := congrFun E315 341
                  have cf330 : h309 96 342 = h 96 342 := congrFun E315 342
                  have cf331 : h309 96 349 = h 96 349 := congrFun E315 349
                  have R332 : ov_RD (h 96) (h 97) (h 98) (h 90 13) (h309 96) (h309 97) (h309 98) (h 90 13) := by rw [show h309 96 = h 96 from E315, show h309 97 = h 97 from E316, show h309 98 = h 98 from E317]; exact ov_RD_refl _ _ _ _
                  exact ov_retv (st := []) d_219_226 rfl ⟨rfl, I310, (by show (h309 90 2) = (h 90 2) ∧ (h309 90 13) = (h 90 13) ∧ (h309 90 20) = (h 90 20) ∧ (h309 90 22) = (h 90 22) ∧ (h309 90 25) = (h 90 25) ∧ (h309 90 26) = (h 90 26) ∧ (h309 90 28) = (h 90 28) ∧ (h309 90 29) = (h 90 29) ∧ (h309 90 30) = (h 90 30) ∧ (h309 90 34) = (h 90 34) ∧ (h 90 7) ≤ (h309 90 7) ∧ (h309 90 7) ≤ n ∧ (h 90 13) ≤ (h309 90 13) ∧ (h309 90 13) - (h 90 13) ≤ (h309 90 7) - (h 90 7) ∧ (h309 96 340) = (h 96 340) ∧ (h309 96 341) = (h 96 341) ∧ ((h309 90 8) = 0 → 1 ≤ (h 96 342) → 1 ≤ (h309 96 342)) ∧ (1 ≤ (h 96 349) → 1 ≤ (h309 96 349)); omega), E311, E312, E313, E314, E316, E317, E318, E319, E320, E321, E322, E323, E324, R332.1, R332.2.1, (fun _ w => by show ov_CS (h309 96) (h309 97) (h309 98) (h309 90 13); rw [show (h309 90 13) = h 90 13 by omega]; exact R332.2.2 w)⟩
          refine ov_blk (ls2 := [(0, ov_r 90), (1, ov_i v5), (2, ov_i v41), (3, ov_i (350 + (4 * ((6 * v41) + v5)))), (4, ov_i v123), (5, ov_i v130)]) (st2 := [ov_r 90]) (pc2 := 139) b_219_138_1 rfl rfl ?_
          refine ov_getf (v := ov_i (h146 90 8)) d_219_139 fl_Mo_180 (zb_90 I147) (zs_90 I147) rfl ?_
          have g333 := rg_90_8 I147
          refine ov_ifgt (tgt := 151) d_219_142 (by decide) (by omega) (fun c334 => ?_) (fun c334 => ?_)
          · skip
            refine ov_blk (ls2 := [(0, ov_r 90), (1, ov_i v5), (2, ov_i v41), (3, ov_i (350 + (4 * ((6 * v41) + v5)))), (4, ov_i v123), (5, ov_i v130)]) (st2 := [ov_r 90]) (pc2 := 152) b_219_151_1 rfl rfl ?_
            refine ov_getf (v := ov_r 96) d_219_152 fl_Mo_81 (zb_90 I147) (zs_90 I147) (congrArg ov_r (rg_90_10 I147)) ?_
            refine ov_blk (ls2 := [(0, ov_r 90), (1, ov_i v5), (2, ov_i v41), (3, ov_i (350 + (4 * ((6 * v41) + v5)))), (4, ov_i v123), (5, ov_i v130)]) (st2 := [ov_i 349, ov_r 96]) (pc2 := 158) b_219_155_1 rfl rfl ?_
            refine ov_iald d_219_158 (zb_96 I147) (zs_96 I147) (by omega) ?_
            rw [show h146 96 = h 96 from E152]
            have g335 := t96_349 I
            have em := Int.emod_self (a := (h 96 349))
            refine ov_goto (tgt := 187) d_219_159 (by decide) ?_
            refine ov_blk (ls2 := [(0, ov_r 90), (1, ov_i v5), (2, ov_i v41), (3, ov_i (350 + (4 * ((6 * v41) + v5)))), (4, ov_i v123), (5, ov_i v130), (6, ov_i (h 96 349))]) (st2 := []) (pc2 := 189) b_219_187_1 rfl rfl ?_
            exact J163 (h 96 349) (by show 0 ≤ (h 96 349) ∧ (h 96 349) ≤ 72000 ∧ (1 ≤ (h 96 349) → (h146 90 8) = 0 → 1 ≤ (h 96 349)) ∧ ((h146 90 8) = 0 → (h 96 349) % (h 96 349) = 0 ∧ (v123 < 2 → (h 96 349) % v130 = 0)); omega)
          · skip
            refine ov_blk (ls2 := [(0, ov_r 90), (1, ov_i v5), (2, ov_i v41), (3, ov_i (350 + (4 * ((6 * v41) + v5)))), (4, ov_i v123), (5, ov_i v130)]) (st2 := [ov_i 2, ov_i v123]) (pc2 := 148) b_219_145_2 rfl rfl ?_
            refine ov_iclt (tgt := 162) d_219_148 (by decide) (by omega) (by omega) (fun c336 => ?_) (fun c336 => ?_)
            · skip
              refine ov_blk (ls2 := [(0, ov_r 90), (1, ov_i v5), (2, ov_i v41), (3, ov_i (350 + (4 * ((6 * v41) + v5)))), (4, ov_i v123), (5, ov_i v130)]) (st2 := [ov_r 90]) (pc2 := 163) b_219_162_1 rfl rfl ?_
              refine ov_getf (v := ov_r 96) d_219_163 fl_Mo_81 (zb_90 I147) (zs_90 I147) (congrArg ov_r (rg_90_10 I147)) ?_
              refine ov_blk (ls2 := [(0, ov_r 90), (1, ov_i v5), (2, ov_i v41), (3, ov_i (350 + (4 * ((6 * v41) + v5)))), (4, ov_i v123), (5, ov_i v130)]) (st2 := [ov_i 349, ov_r 96]) (pc2 := 169) b_219_166_1 rfl rfl ?_
              refine ov_iald d_219_169 (zb_96 I147) (zs_96 I147) (by omega) ?_
              rw [show h146 96 = h 96 from E152]
              have g337 := t96_349 I
              refine ov_blk (ls2 := [(0, ov_r 90), (1, ov_i v5), (2, ov_i v41), (3, ov_i (350 + (4 * ((6 * v41) + v5)))), (4, ov_i v123), (5, ov_i v130)]) (st2 := [ov_r 90, ov_i (h 96 349)]) (pc2 := 171) b_219_170_1 rfl rfl ?_
              refine ov_getf (v := ov_r 96) d_219_171 fl_Mo_81 (zb_90 I147) (zs_90 I147) (congrArg ov_r (rg_90_10 I147)) ?_
              refine ov_blk (ls2 := [(0, ov_r 90), (1, ov_i v5), (2, ov_i v41), (3, ov_i (350 + (4 * ((6 * v41) + v5)))), (4, ov_i v123), (5, ov_i v130)]) (st2 := [ov_i 349, ov_r 96, ov_i (h 96 349)]) (pc2 := 177) b_219_174_1 rfl rfl ?_
              refine ov_iald d_219_177 (zb_96 I147) (zs_96 I147) (by omega) ?_
              rw [show h146 96 = h 96 from E152]
              refine ov_blk (ls2 := [(0, ov_r 90), (1, ov_i v5), (2, ov_i v41), (3, ov_i (350 + (4 * ((6 * v41) + v5)))), (4, ov_i v123), (5, ov_i v130)]) (st2 := [ov_i v130, ov_i (h 96 349), ov_i (h 96 349)]) (pc2 := 180) b_219_178_1 rfl rfl ?_
              refine ov_cS (as := [ov_i (h 96 349), ov_i v130]) (st := [ov_i (h 96 349)]) (d2 := d - 1) d_219_180 lk_Mo_236 rfl (Nat.le_of_ble_eq_true rfl) (by omega) (c_Mo_common (d - 1) (by omega) U I147 (h 96 349) v130 (by omega) (by omega) (by omega) (by omega)) ?_
              rintro _ _ _ ⟨v340, rfl, rfl, rfl, f339, y341⟩
              show ov_R u d ov_m219 183 [(0, ov_r 90), (1, ov_i v5), (2, ov_i v41), (3, ov_i (350 + (4 * ((6 * v41) + v5)))), (4, ov_i v123), (5, ov_i v130)] [ov_i v340, ov_i (h 96 349)] z145 h146 (P_Mo_readLight_90 F z h n)
              have f342 : 1 ≤ v340 ∧ v340 ≤ 1200 ∧ (1 ≤ (h 96 349) → v340 ≤ (h 96 349)) := f339
              clear f339
              have y341_ : (h 96 349) % v340 = 0 ∧ v130 % v340 = 0 := y341
              have gd := ov_tdp (a := (h 96 349)) (b := v340) (by omega) (by omega)
              refine ov_idiv d_219_183 (by omega) (by omega) (by omega) ?_
              have g343 := ov_tdl (a := (h 96 349)) (b := v340) (by omega) (by omega)
              refine ov_blk (ls2 := [(0, ov_r 90), (1, ov_i v5), (2, ov_i v41), (3, ov_i (350 + (4 * ((6 * v41) + v5)))), (4, ov_i v123), (5, ov_i v130)]) (st2 := [ov_i v130, ov_i (Int.tdiv (h 96 349) v340)]) (pc2 := 186) b_219_184_1 rfl rfl ?_
              have gq := ov_mulb (q := (Int.tdiv (h 96 349) v340)) (b := v130) (A := 1200) (B := 60) (by omega) (by omega) (by omega) (by omega)
              have gl := ov_lcmd (a := (h 96 349)) (b := v130) (g := v340) (by omega) y341_.1 y341_.2
              have gp : 1 ≤ (Int.tdiv (h 96 349) v340) → 1 ≤ v130 → 1 ≤ (Int.tdiv (h 96 349) v340) * v130 := fun u1 u2 => by have := Int.mul_le_mul u1 u2 (by decide) (by omega); omega
              refine ov_blk (ls2 := [(0, ov_r 90), (1, ov_i v5), (2, ov_i v41), (3, ov_i (350 + (4 * ((6 * v41) + v5)))), (4, ov_i v123), (5, ov_i v130), (6, ov_i ((Int.tdiv (h 96 349) v340) * v130))]) (st2 := []) (pc2 := 189) b_219_186_2 rfl rfl ?_
              exact J163 ((Int.tdiv (h 96 349) v340) * v130) (by show 0 ≤ ((Int.tdiv (h 96 349) v340) * v130) ∧ ((Int.tdiv (h 96 349) v340) * v130) ≤ 72000 ∧ (1 ≤ (h 96 349) → (h146 90 8) = 0 → 1 ≤ ((Int.tdiv (h 96 349) v340) * v130)) ∧ ((h146 90 8) = 0 → ((Int.tdiv (h 96 349) v340) * v130) % (h 96 349) = 0 ∧ (v123 < 2 → ((Int.tdiv (h 96 349) v340) * v130) % v130 = 0)); omega)
            · skip
              refine ov_blk (ls2 := [(0, ov_r 90), (1, ov_i v5), (2, ov_i v41), (3, ov_i (350 + (4 * ((6 * v41) + v5)))), (4, ov_i v123), (5, ov_i v130)]) (st2 := [ov_r 90]) (pc2 := 152) b_219_151_1 rfl rfl ?_
              refine ov_getf (v := ov_r 96) d_219_152 fl_Mo_81 (zb_90 I147) (zs_90 I147) (congrArg ov_r (rg_90_10 I147)) ?_
              refine ov_blk (ls2 := [(0, ov_r 90), (1, ov_i v5), (2, ov_i v41), (3, ov_i (350 + (4 * ((6 * v41) + v5)))), (4, ov_i v123), (5, ov_i v130)]) (st2 := [ov_i 349, ov_r 96]) (pc2 := 158) b_219_155_1 rfl rfl ?_
              refine ov_iald d_219_158 (zb_96 I147) (zs_96 I147) (by omega) ?_
              rw [show h146 96 = h 96 from E152]
              have g344 := t96_349 I
              have em := Int.emod_self (a := (h 96 349))
              refine ov_goto (tgt := 187) d_219_159 (by decide) ?_
              refine ov_blk (ls2 := [(0, ov_r 90), (1, ov_i v5), (2, ov_i v41), (3, ov_i (350 + (4 * ((6 * v41) + v5)))), (4, ov_i v123), (5, ov_i v130), (6, ov_i (h 96 349))]) (st2 := []) (pc2 := 189) b_219_187_1 rfl rfl ?_
              exact J163 (h 96 349) (by show 0 ≤ (h 96 349) ∧ (h 96 349) ≤ 72000 ∧ (1 ≤ (h 96 349) → (h146 90 8) = 0 → 1 ≤ (h 96 349)) ∧ ((h146 90 8) = 0 → (h 96 349) % (h 96 349) = 0 ∧ (v123 < 2 → (h 96 349) % v130 = 0)); omega)
        · skip
          refine ov_blk (ls2 := [(0, ov_r 90), (1, ov_i v5), (2, ov_i v41), (3, ov_i (350 + (4 * ((6 * v41) + v5)))), (4, ov_i v123)]) (st2 := [ov_i 1, ov_r 90]) (pc2 := 113) b_219_111_2 rfl rfl ?_
          refine ov_cV (as := [ov_i 1]) (st := []) (d2 := d - 1) d_219_113 lk_Mo_186 rfl (Nat.le_of_ble_eq_true rfl) (c := 1) (zb_90 I58) (zs_90 I58) ⟨by decide, rfl⟩ (by omega) (c_Mo_wrong_90 (d - 1) (by omega) U I58 1 (by omega) (by omega)) ?_
          rintro _ z360 h361 ⟨rfl, I362, f345, e346, e347, e348, e349, e350, e351, e352, e353, e354, e355, e356, e357, e358, e359⟩
          have E363 : h361 92 = h 92 := Eq.trans e346 E59
          have E364 : h361 93 = h 93 := Eq.trans e347 E60
          have E365 : h361 94 = h 94 := Eq.trans e348 E61
          have E366 : h361 95 = h 95 := Eq.trans e349 E62
          have E367 : h361 96 = h 96 := Eq.trans e350 E63
          have E368 : h361 97 = h 97 := Eq.trans e351 E64
          have E369 : h361 98 = h 98 := Eq.trans e352 E65
          have E370 : h361 99 = h 99 := Eq.trans e353 E66
          have E371 : h361 100 = h 100 := Eq.trans e354 E67
          have E372 : h361 103 = h 103 := Eq.trans e355 E68
          have E373 : h361 105 = h 105 := Eq.trans e356 E69
          have E374 : h361 106 = h 106 := Eq.trans e357 E70
          have E375 : h361 109 = h 109 := Eq.trans e358 E71
          have E376 : h361 114 = h 114 := Eq.trans e359 E72
          show ov_R u d ov_m219 116 [(0, ov_r 90), (1, ov_i v5), (2, ov_i v41), (3, ov_i (350 + (4 * ((6 * v41) + v5)))), (4, ov_i v123)] [] z360 h361 (P_Mo_readLight_90 F z h n)
          have f377 : (h361 90 2) = (h57 90 2) ∧ (h361 90 7) = (h57 90 7) ∧ (h361 90 13) = (h57 90 13) ∧ (h361 90 20) = (h57 90 20) ∧ (h361 90 22) = (h57 90 22) ∧ (h361 90 25) = (h57 90 25) ∧ (h361 90 26) = (h57 90 26) ∧ (h361 90 28) = (h57 90 28) ∧ (h361 90 29) = (h57 90 29) ∧ (h361 90 30) = (h57 90 30) ∧ (h361 90 34) = (h57 90 34) ∧ 0 < (h361 90 8) ∧ (h57 90 8) ≤ (h361 90 8) := f345
          clear f345
          have cf378 : h361 96 340 = h 96 340 := congrFun E367 340
          have cf379 : h361 96 341 = h 96 341 := congrFun E367 341
          have cf380 : h361 96 342 = h 96 342 := congrFun E367 342
          have cf381 : h361 96 349 = h 96 349 := congrFun E367 349
          have R382 : ov_RD (h 96) (h 97) (h 98) (h 90 13) (h361 96) (h361 97) (h361 98) (h 90 13) := by rw [show h361 96 = h 96 from E367, show h361 97 = h 97 from E368, show h361 98 = h 98 from E369]; exact ov_RD_refl _ _ _ _
          exact ov_retv (st := []) d_219_116 rfl ⟨rfl, I362, (by show (h361 90 2) = (h 90 2) ∧ (h361 90 13) = (h 90 13) ∧ (h361 90 20) = (h 90 20) ∧ (h361 90 22) = (h 90 22) ∧ (h361 90 25) = (h 90 25) ∧ (h361 90 26) = (h 90 26) ∧ (h361 90 28) = (h 90 28) ∧ (h361 90 29) = (h 90 29) ∧ (h361 90 30) = (h 90 30) ∧ (h361 90 34) = (h 90 34) ∧ (h 90 7) ≤ (h361 90 7) ∧ (h361 90 7) ≤ n ∧ (h 90 13) ≤ (h361 90 13) ∧ (h361 90 13) - (h 90 13) ≤ (h361 90 7) - (h 90 7) ∧ (h361 96 340) = (h 96 340) ∧ (h361 96 341) = (h 96 341) ∧ ((h361 90 8) = 0 → 1 ≤ (h 96 342) → 1 ≤ (h361 96 342)) ∧ (1 ≤ (h 96 349) → 1 ≤ (h361 96 349)); omega), E363, E364, E365, E366, E368, E369, E370, E371, E372, E373, E374, E375, E376, R382.1, R382.2.1, (fun _ w => by show ov_CS (h361 96) (h361 97) (h361 98) (h361 90 13); rw [show (h361 90 13) = h 90 13 by omega]; exact R382.2.2 w)⟩
      · omega
    · skip
      refine ov_blk (ls2 := [(0, ov_r 90), (1, ov_i v5), (2, ov_i v41), (3, ov_i (350 + (4 * ((6 * v41) + v5))))]) (st2 := [ov_r 90, ov_r 90]) (pc2 := 73) b_219_71_2 rfl rfl ?_
      refine ov_getf (v := ov_i (h57 90 7)) d_219_73 fl_Mo_177 (zb_90 I58) (zs_90 I58) rfl ?_
      have g383 := rg_90_7 I58
      refine ov_blk (ls2 := [(0, ov_r 90), (1, ov_i v5), (2, ov_i v41), (3, ov_i (350 + (4 * ((6 * v41) + v5))))]) (st2 := [ov_i ((h57 90 7) - 1), ov_r 90]) (pc2 := 78) b_219_76_2 rfl rfl ?_
      refine ov_putf (x := ((h57 90 7) - 1)) d_219_78 fl_Mo_177 (zb_90 I58) (zs_90 I58) rfl nk_0 rfl ?_
      have I384 := up_90_7 (x := ((h57 90 7) - 1)) I58 (by omega)
      refine ov_blk (ls2 := [(0, ov_r 90), (1, ov_i v5), (2, ov_i v41), (3, ov_i (350 + (4 * ((6 * v41) + v5))))]) (st2 := [ov_i 3, ov_r 90]) (pc2 := 83) b_219_81_2 rfl rfl ?_
      refine ov_cV (as := [ov_i 3]) (st := []) (d2 := d - 1) d_219_83 lk_Mo_186 rfl (Nat.le_of_ble_eq_true rfl) (c := 1) (zb_90 I384) (zs_90 I384) ⟨by decide, rfl⟩ (by omega) (c_Mo_wrong_90 (d - 1) (by omega) U I384 3 (by omega) (by omega)) ?_
      rintro _ z400 h401 ⟨rfl, I402, f385, e386, e387, e388, e389, e390, e391, e392, e393, e394, e395, e396, e397, e398, e399⟩
      have E403 : h401 92 = h 92 := Eq.trans e386 E59
      have E404 : h401 93 = h 93 := Eq.trans e387 E60
      have E405 : h401 94 = h 94 := Eq.trans e388 E61
      have E406 : h401 95 = h 95 := Eq.trans e389 E62
      have E407 : h401 96 = h 96 := Eq.trans e390 E63
      have E408 : h401 97 = h 97 := Eq.trans e391 E64
      have E409 : h401 98 = h 98 := Eq.trans e392 E65
      have E410 : h401 99 = h 99 := Eq.trans e393 E66
      have E411 : h401 100 = h 100 := Eq.trans e394 E67
      have E412 : h401 103 = h 103 := Eq.trans e395 E68
      have E413 : h401 105 = h 105 := Eq.trans e396 E69
      have E414 : h401 106 = h 106 := Eq.trans e397 E70
      have E415 : h401 109 = h 109 := Eq.trans e398 E71
      have E416 : h401 114 = h 114 := Eq.trans e399 E72
      show ov_R u d ov_m219 86 [(0, ov_r 90), (1, ov_i v5), (2, ov_i v41), (3, ov_i (350 + (4 * ((6 * v41) + v5))))] [] z400 h401 (P_Mo_readLight_90 F z h n)
      have f417 : (h401 90 2) = (h57 90 2) ∧ (h401 90 7) = ((h57 90 7) - 1) ∧ (h401 90 13) = (h57 90 13) ∧ (h401 90 20) = (h57 90 20) ∧ (h401 90 22) = (h57 90 22) ∧ (h401 90 25) = (h57 90 25) ∧ (h401 90 26) = (h57 90 26) ∧ (h401 90 28) = (h57 90 28) ∧ (h401 90 29) = (h57 90 29) ∧ (h401 90 30) = (h57 90 30) ∧ (h401 90 34) = (h57 90 34) ∧ 0 < (h401 90 8) ∧ (h57 90 8) ≤ (h401 90 8) := f385
      clear f385
      refine ov_blk (ls2 := [(0, ov_r 90), (1, ov_i v5), (2, ov_i v41), (3, ov_i (350 + (4 * ((6 * v41) + v5))))]) (st2 := [ov_r 90]) (pc2 := 87) b_219_86_1 rfl rfl ?_
      refine ov_getf (v := ov_i (h401 90 8)) d_219_87 fl_Mo_180 (zb_90 I402) (zs_90 I402) rfl ?_
      have g418 := rg_90_8 I402
      refine ov_ifle (tgt := 97) d_219_90 (by decide) (by omega) (fun c419 => ?_) (fun c419 => ?_)
      · omega
      · skip
        refine ov_blk (ls2 := [(0, ov_r 90), (1, ov_i v5), (2, ov_i v41), (3, ov_i (350 + (4 * ((6 * v41) + v5))))]) (st2 := [ov_i (-1)]) (pc2 := 94) b_219_93_1 rfl rfl ?_
        refine ov_goto (tgt := 104) d_219_94 (by decide) ?_
        refine ov_blk (ls2 := [(0, ov_r 90), (1, ov_i v5), (2, ov_i v41), (3, ov_i (350 + (4 * ((6 * v41) + v5)))), (4, ov_i (-1))]) (st2 := [ov_i (-1)]) (pc2 := 108) b_219_104_2 rfl rfl ?_
        refine ov_ifge (tgt := 117) d_219_108 (by decide) (by omega) (fun c420 => ?_) (fun c420 => ?_)
        · omega
        · skip
          refine ov_blk (ls2 := [(0, ov_r 90), (1, ov_i v5), (2, ov_i v41), (3, ov_i (350 + (4 * ((6 * v41) + v5)))), (4, ov_i (-1))]) (st2 := [ov_i 1, ov_r 90]) (pc2 := 113) b_219_111_2 rfl rfl ?_
          refine ov_cV (as := [ov_i 1]) (st := []) (d2 := d - 1) d_219_113 lk_Mo_186 rfl (Nat.le_of_ble_eq_true rfl) (c := 1) (zb_90 I402) (zs_90 I402) ⟨by decide, rfl⟩ (by omega) (c_Mo_wrong_90 (d - 1) (by omega) U I402 1 (by omega) (by omega)) ?_
          rintro _ z436 h437 ⟨rfl, I438, f421, e422, e423, e424, e425, e426, e427, e428, e429, e430, e431, e432, e433, e434, e435⟩
          have E439 : h437 92 = h 92 := Eq.trans e422 E403
          have E440 : h437 93 = h 93 := Eq.trans e423 E404
          have E441 : h437 94 = h 94 := Eq.trans e424 E405
          have E442 : h437 95 = h 95 := Eq.trans e425 E406
          have E443 : h437 96 = h 96 := Eq.trans e426 E407
          have E444 : h437 97 = h 97 := Eq.trans e427 E408
          have E445 : h437 98 = h 98 := Eq.trans e428 E409
          have E446 : h437 99 = h 99 := Eq.trans e429 E410
          have E447 : h437 100 = h 100 := Eq.trans e430 E411
          have E448 : h437 103 = h 103 := Eq.trans e431 E412
          have E449 : h437 105 = h 105 := Eq.trans e432 E413
          have E450 : h437 106 = h 106 := Eq.trans e433 E414
          have E451 : h437 109 = h 109 := Eq.trans e434 E415
          have E452 : h437 114 = h 114 := Eq.trans e435 E416
          show ov_R u d ov_m219 116 [(0, ov_r 90), (1, ov_i v5), (2, ov_i v41), (3, ov_i (350 + (4 * ((6 * v41) + v5)))), (4, ov_i (-1))] [] z436 h437 (P_Mo_readLight_90 F z h n)
          have f453 : (h437 90 2) = (h401 90 2) ∧ (h437 90 7) = (h401 90 7) ∧ (h437 90 13) = (h401 90 13) ∧ (h437 90 20) = (h401 90 20) ∧ (h437 90 22) = (h401 90 22) ∧ (h437 90 25) = (h401 90 25) ∧ (h437 90 26) = (h401 90 26) ∧ (h437 90 28) = (h401 90 28) ∧ (h437 90 29) = (h401 90 29) ∧ (h437 90 30) = (h401 90 30) ∧ (h437 90 34) = (h401 90 34) ∧ 0 < (h437 90 8) ∧ (h401 90 8) ≤ (h437 90 8) := f421
          clear f421
          have cf454 : h437 96 340 = h 96 340 := congrFun E443 340
          have cf455 : h437 96 341 = h 96 341 := congrFun E443 341
          have cf456 : h437 96 342 = h 96 342 := congrFun E443 342
          have cf457 : h437 96 349 = h 96 349 := congrFun E443 349
          have R458 : ov_RD (h 96) (h 97) (h 98) (h 90 13) (h437 96) (h437 97) (h437 98) (h 90 13) := by rw [show h437 96 = h 96 from E443, show h437 97 = h 97 from E444, show h437 98 = h 98 from E445]; exact ov_RD_refl _ _ _ _
          exact ov_retv (st := []) d_219_116 rfl ⟨rfl, I438, (by show (h437 90 2) = (h 90 2) ∧ (h437 90 13) = (h 90 13) ∧ (h437 90 20) = (h 90 20) ∧ (h437 90 22) = (h 90 22) ∧ (h437 90 25) = (h 90 25) ∧ (h437 90 26) = (h 90 26) ∧ (h437 90 28) = (h 90 28) ∧ (h437 90 29) = (h 90 29) ∧ (h437 90 30) = (h 90 30) ∧ (h437 90 34) = (h 90 34) ∧ (h 90 7) ≤ (h437 90 7) ∧ (h437 90 7) ≤ n ∧ (h 90 13) ≤ (h437 90 13) ∧ (h437 90 13) - (h 90 13) ≤ (h437 90 7) - (h 90 7) ∧ (h437 96 340) = (h 96 340) ∧ (h437 96 341) = (h 96 341) ∧ ((h437 90 8) = 0 → 1 ≤ (h 96 342) → 1 ≤ (h437 96 342)) ∧ (1 ≤ (h 96 349) → 1 ≤ (h437 96 349)); omega), E439, E440, E441, E442, E444, E445, E446, E447, E448, E449, E450, E451, E452, R458.1, R458.2.1, (fun _ w => by show ov_CS (h437 96) (h437 97) (h437 98) (h437 90 13); rw [show (h437 90 13) = h 90 13 by omega]; exact R458.2.2 w)⟩

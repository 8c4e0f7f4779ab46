abbrev P_Mo_readLight_90 (F : ov_H × ov_Z) (z : ov_Z) (h : ov_H) (n : Int) : Option ov_V → ov_Z → ov_H → Prop := fun r0 z' h' => r0 = none ∧ ov_N F z' h' ∧ ((h' 90 2) = (h 90 2) ∧ (h' 90 13) = (h 90 13) ∧ (h' 90 20) = (h 90 20) ∧ (h' 90 22) = (h 90 22) ∧ (h' 90 25) = (h 90 25) ∧ (h' 90 26) = (h 90 26) ∧ (h' 90 28) = (h 90 28) ∧ (h' 90 29) = (h 90 29) ∧ (h' 90 30) = (h 90 30) ∧ (h' 90 34) = (h 90 34) ∧ (h 90 7) ≤ (h' 90 7) ∧ (h' 90 7) ≤ n ∧ (h 90 13) ≤ (h' 90 13) ∧ (h' 90 13) - (h 90 13) ≤ (h' 90 7) - (h 90 7) ∧ (h' 96 340) = (h 96 340) ∧ (h' 96 341) = (h 96 341) ∧ ((h' 90 8) = 0 → 1 ≤ (h 96 342) → 1 ≤ (h' 96 342)) ∧ (1 ≤ (h 96 349) → 1 ≤ (h' 96 349))) ∧ h' 92 = h 92 ∧ h' 93 = h 93 ∧ h' 94 = h 94 ∧ h' 95 = h 95 ∧ h' 97 = h 97 ∧ h' 98 = h 98 ∧ h' 99 = h 99 ∧ h' 100 = h 100 ∧ h' 103 = h 103 ∧ h' 105 = h 105 ∧ h' 106 = h 106 ∧ h' 109 = h 109 ∧ h' 114 = h 114 ∧ (ov_MK (h 96) (h 97) (h 98) (h' 96) (h' 97) (h' 98)) ∧ (ov_WS (h 96) → ov_WS (h' 96)) ∧ ((h' 90 8) = 0 → ov_CS (h 96) (h 97) (h 98) (h 90 13) → ov_CS (h' 96) (h' 97) (h' 98) (h' 90 13))
set_option maxHeartbeats 4000000 in
theorem c_Mo_readLight_90 {u : ov_U} {F : ov_H × ov_Z} (n : Int) {z : ov_Z} {h : ov_H} (d : Nat) (hd : 4 ≤ d) (U : ov_cap u) (I : ov_N F z h) (p0 : 0 ≤ n ∧ n ≤ 1000 ∧ (h 92 (n)) = 0 ∧ (h 90 7) ≤ n) (p1 : (h 90 13) ≤ (h 90 7)) (p2 : (h 90 8) = 0) (p3 : (h 90 7) < n) : ov_T u d ov_m219 [ov_r 90] z h (P_Mo_readLight_90 F z h n) := by
  refine ov_en rfl (Nat.le_of_ble_eq_true rfl) ?_
  show ov_R u d ov_m219 0 [(0, ov_r 90)] [] z h (P_Mo_readLight_90 F z h n)
  refine ov_blk (ls2 := [(0, ov_r 90)]) (st2 := [ov_r 90, ov_r 90]) (pc2 := 2) b_219_0_2 rfl rfl ?_
  refine ov_getf (v := ov_i (h 90 7)) d_219_2 fl_Mo_177 (zb_90 I) (zs_90 I) rfl ?_
  have g1 := rg_90_7 I
  refine ov_blk (ls2 := [(0, ov_r 90)]) (st2 := [ov_i ((h 90 7) + 1), ov_r 90]) (pc2 := 7) b_219_5_2 rfl rfl ?_
  refine ov_putf (x := ((h 90 7) + 1)) d_219_7 fl_Mo_177 (zb_90 I) (zs_90 I) rfl nk_0 rfl ?_
  have I2 := up_90_7 (x := ((h 90 7) + 1)) I (by omega)
  refine ov_blk (ls2 := [(0, ov_r 90)]) (st2 := [ov_r 90, ov_i 0, ov_r 90]) (pc2 := 13) b_219_10_3 rfl rfl ?_
  refine ov_getf (v := ov_r 96) d_219_13 fl_Mo_81 (zb_90 I2) (zs_90 I2) (congrArg ov_r (rg_90_10 I2)) ?_
  refine ov_blk (ls2 := [(0, ov_r 90)]) (st2 := [ov_i 340, ov_r 96, ov_i 0, ov_r 90]) (pc2 := 19) b_219_16_1 rfl rfl ?_
  refine ov_iald d_219_19 (zb_96 I2) (zs_96 I2) (by omega) ?_
  show ov_R u d ov_m219 20 [(0, ov_r 90)] [ov_i (h 96 340), ov_i 0, ov_r 90] z (ov_up h 90 7 ((h 90 7) + 1)) (P_Mo_readLight_90 F z h n)
  have g3 := t96_340 I
  refine ov_blk (ls2 := [(0, ov_r 90)]) (st2 := [ov_i ((h 96 340) - 1), ov_i 0, ov_r 90]) (pc2 := 22) b_219_20_2 rfl rfl ?_
  refine ov_cV (as := [ov_i 0, ov_i ((h 96 340) - 1)]) (st := []) (d2 := d - 1) d_219_22 lk_Mo_198 rfl (Nat.le_of_ble_eq_true rfl) (c := 1) (zb_90 I2) (zs_90 I2) ⟨by decide, rfl⟩ (by omega) (c_Mo_takeNumber_90 n (d - 1) (by omega) U I2 0 ((h 96 340) - 1) (by omega) (by omega) (by show 0 ≤ n ∧ n ≤ 1000 ∧ (h 92 (n)) = 0 ∧ ((h 90 7) + 1) ≤ n; omega)) ?_
  rintro _ z20 h21 ⟨v5, rfl, I22, f4, e6, e7, e8, e9, e10, e11, e12, e13, e14, e15, e16, e17, e18, e19⟩
  have E23 : h21 92 = h 92 := e6
  have E24 : h21 93 = h 93 := e7
  have E25 : h21 94 = h 94 := e8
  have E26 : h21 95 = h 95 := e9
  have E27 : h21 96 = h 96 := e10
  have E28 : h21 97 = h 97 := e11
  have E29 : h21 98 = h 98 := e12
  have E30 : h21 99 = h 99 := e13
  have E31 : h21 100 = h 100 := e14
  have E32 : h21 103 = h 103 := e15
  have E33 : h21 105 = h 105 := e16
  have E34 : h21 106 = h 106 := e17
  have E35 : h21 109 = h 109 := e18
  have E36 : h21 114 = h 114 := e19
  show ov_R u d ov_m219 25 [(0, ov_r 90)] [ov_i v5] z20 h21 (P_Mo_readLight_90 F z h n)
  have f37 : (h21 90 2) = (h 90 2) ∧ (h21 90 13) = (h 90 13) ∧ (h21 90 20) = (h 90 20) ∧ (h21 90 22) = (h 90 22) ∧ (h21 90 25) = (h 90 25) ∧ (h21 90 26) = (h 90 26) ∧ (h21 90 28) = (h 90 28) ∧ (h21 90 29) = (h 90 29) ∧ (h21 90 30) = (h 90 30) ∧ (h21 90 34) = (h 90 34) ∧ ((h 90 7) + 1) ≤ (h21 90 7) ∧ (h21 90 7) ≤ n ∧ (h 90 8) ≤ (h21 90 8) ∧ ((h21 90 8) = 0 → (0 : Int) ≤ v5 ∧ v5 ≤ ((h 96 340) - 1)) ∧ (0 < (h21 90 8) → v5 = 0) ∧ ((h 90 7) + 1) < (h21 90 7) + (h21 90 8) := f4
  clear f4
  refine ov_blk (ls2 := [(0, ov_r 90), (1, ov_i v5)]) (st2 := [ov_r 90, ov_i 0, ov_r 90]) (pc2 := 29) b_219_25_4 rfl rfl ?_
  refine ov_getf (v := ov_r 96) d_219_29 fl_Mo_81 (zb_90 I22) (zs_90 I22) (congrArg ov_r (rg_90_10 I22)) ?_
  refine ov_blk (ls2 := [(0, ov_r 90), (1, ov_i v5)]) (st2 := [ov_i 341, ov_r 96, ov_i 0, ov_r 90]) (pc2 := 35) b_219_32_1 rfl rfl ?_
  refine ov_iald d_219_35 (zb_96 I22) (zs_96 I22) (by omega) ?_
  rw [show h21 96 = h 96 from E27]
  have g38 := t96_341 I
  refine ov_blk (ls2 := [(0, ov_r 90), (1, ov_i v5)]) (st2 := [ov_i ((h 96 341) - 1), ov_i 0, ov_r 90]) (pc2 := 38) b_219_36_2 rfl rfl ?_
  have cf39 : h21 92 (n) = h 92 (n) := congrFun E23 (n)
  refine ov_cV (as := [ov_i 0, ov_i ((h 96 341) - 1)]) (st := []) (d2 := d - 1) d_219_38 lk_Mo_198 rfl (Nat.le_of_ble_eq_true rfl) (c := 1) (zb_90 I22) (zs_90 I22) ⟨by decide, rfl⟩ (by omega) (c_Mo_takeNumber_90 n (d - 1) (by omega) U I22 0 ((h 96 341) - 1) (by omega) (by omega) (by show 0 ≤ n ∧ n ≤ 1000 ∧ (h21 92 (n)) = 0 ∧ (h21 90 7) ≤ n; omega)) ?_
  rintro _ z56 h57 ⟨v41, rfl, I58, f40, e42, e43, e44, e45, e46, e47, e48, e49, e50, e51, e52, e53, e54, e55⟩
  have E59 : h57 92 = h 92 := Eq.trans e42 E23
  have E60 : h57 93 = h 93 := Eq.trans e43 E24
  have E61 : h57 94 = h 94 := Eq.trans e44 E25
  have E62 : h57 95 = h 95 := Eq.trans e45 E26
  have E63 : h57 96 = h 96 := Eq.trans e46 E27
  have E64 : h57 97 = h 97 := Eq.trans e47 E28
  have E65 : h57 98 = h 98 := Eq.trans e48 E29
  have E66 : h57 99 = h 99 := Eq.trans e49 E30
  have E67 : h57 100 = h 100 := Eq.trans e50 E31
  have E68 : h57 103 = h 103 := Eq.trans e51 E32
  have E69 : h57 105 = h 105 := Eq.trans e52 E33
  have E70 : h57 106 = h 106 := Eq.trans e53 E34
  have E71 : h57 109 = h 109 := Eq.trans e54 E35
  have E72 : h57 114 = h 114 := Eq.trans e55 E36
  show ov_R u d ov_m219 41 [(0, ov_r 90), (1, ov_i v5)] [ov_i v41] z56 h57 (P_Mo_readLight_90 F z h n)
  have f73 : (h57 90 2) = (h21 90 2) ∧ (h57 90 13) = (h21 90 13) ∧ (h57 90 20) = (h21 90 20) ∧ (h57 90 22) = (h21 90 22) ∧ (h57 90 25) = (h21 90 25) ∧ (h57 90 26) = (h21 90 26) ∧ (h57 90 28) = (h21 90 28) ∧ (h57 90 29) = (h21 90 29) ∧ (h57 90 30) = (h21 90 30) ∧ (h57 90 34) = (h21 90 34) ∧ (h21 90 7) ≤ (h57 90 7) ∧ (h57 90 7) ≤ n ∧ (h21 90 8) ≤ (h57 90 8) ∧ ((h57 90 8) = 0 → (0 : Int) ≤ v41 ∧ v41 ≤ ((h 96 341) - 1)) ∧ (0 < (h57 90 8) → v41 = 0) ∧ (h21 90 7) < (h57 90 7) + (h57 90 8) := f40
  clear f40
  refine ov_blk (ls2 := [(0, ov_r 90), (1, ov_i v5), (2, ov_i v41), (3, ov_i (350 + (4 * ((6 * v41) + v5))))]) (st2 := [ov_r 90]) (pc2 := 56) b_219_41_12 rfl rfl ?_
  refine ov_getf (v := ov_i (h57 90 8)) d_219_56 fl_Mo_180 (zb_90 I58) (zs_90 I58) rfl ?_
  have g74 := rg_90_8 I58
  refine ov_ifne (tgt := 86) d_219_59 (by decide) (by omega) (fun c75 => ?_) (fun c75 => ?_)
  · skip
    refine ov_blk (ls2 := [(0, ov_r 90), (1, ov_i v5), (2, ov_i v41), (3, ov_i (350 + (4 * ((6 * v41) + v5))))]) (st2 := [ov_r 90]) (pc2 := 87) b_219_86_1 rfl rfl ?_
    refine ov_getf (v := ov_i (h57 90 8)) d_219_87 fl_Mo_180 (zb_90 I58) (zs_90 I58) rfl ?_
    refine ov_ifle (tgt := 97) d_219_90 (by decide) (by omega) (fun c77 => ?_) (fun c77 => ?_)
    · omega
    · skip
      refine ov_blk (ls2 := [(0, ov_r 90), (1, ov_i v5), (2, ov_i v41), (3, ov_i (350 + (4 * ((6 * v41) + v5))))]) (st2 := [ov_i (-1)]) (pc2 := 94) b_219_93_1 rfl rfl ?_
      refine ov_goto (tgt := 104) d_219_94 (by decide) ?_
      refine ov_blk (ls2 := [(0, ov_r 90), (1, ov_i v5), (2, ov_i v41), (3, ov_i (350 + (4 * ((6 * v41) + v5)))), (4, ov_i (-1))]) (st2 := [ov_i (-1)]) (pc2 := 108) b_219_104_2 rfl rfl ?_
      refine ov_ifge (tgt := 117) d_219_108 (by decide) (by omega) (fun c78 => ?_) (fun c78 => ?_)
      · omega
      · skip
        refine ov_blk (ls2 := [(0, ov_r 90), (1, ov_i v5), (2, ov_i v41), (3, ov_i (350 + (4 * ((6 * v41) + v5)))), (4, ov_i (-1))]) (st2 := [ov_i 1, ov_r 90]) (pc2 := 113) b_219_111_2 rfl rfl ?_
        refine ov_cV (as := [ov_i 1]) (st := []) (d2 := d - 1) d_219_113 lk_Mo_186 rfl (Nat.le_of_ble_eq_true rfl) (c := 1) (zb_90 I58) (zs_90 I58) ⟨by decide, rfl⟩ (by omega) (c_Mo_wrong_90 (d - 1) (by omega) U I58 1 (by omega) (by omega)) ?_
        rintro _ z94 h95 ⟨rfl, I96, f79, e80, e81, e82, e83, e84, e85, e86, e87, e88, e89, e90, e91, e92, e93⟩
        have E97 : h95 92 = h 92 := Eq.trans e80 E59
        have E98 : h95 93 = h 93 := Eq.trans e81 E60
        have E99 : h95 94 = h 94 := Eq.trans e82 E61
        have E100 : h95 95 = h 95 := Eq.trans e83 E62
        have E101 : h95 96 = h 96 := Eq.trans e84 E63
        have E102 : h95 97 = h 97 := Eq.trans e85 E64
        have E103 : h95 98 = h 98 := Eq.trans e86 E65
        have E104 : h95 99 = h 99 := Eq.trans e87 E66
        have E105 : h95 100 = h 100 := Eq.trans e88 E67
        have E106 : h95 103 = h 103 := Eq.trans e89 E68
        have E107 : h95 105 = h 105 := Eq.trans e90 E69
        have E108 : h95 106 = h 106 := Eq.trans e91 E70
        have E109 : h95 109 = h 109 := Eq.trans e92 E71
        have E110 : h95 114 = h 114 := Eq.trans e93 E72
        show ov_R u d ov_m219 116 [(0, ov_r 90), (1, ov_i v5), (2, ov_i v41), (3, ov_i (350 + (4 * ((6 * v41) + v5)))), (4, ov_i (-1))] [] z94 h95 (P_Mo_readLight_90 F z h n)
        have f111 : (h95 90 2) = (h57 90 2) ∧ (h95 90 7) = (h57 90 7) ∧ (h95 90 13) = (h57 90 13) ∧ (h95 90 20) = (h57 90 20) ∧ (h95 90 22) = (h57 90 22) ∧ (h95 90 25) = (h57 90 25) ∧ (h95 90 26) = (h57 90 26) ∧ (h95 90 28) = (h57 90 28) ∧ (h95 90 29) = (h57 90 29) ∧ (h95 90 30) = (h57 90 30) ∧ (h95 90 34) = (h57 90 34) ∧ 0 < (h95 90 8) ∧ (h57 90 8) ≤ (h95 90 8) := f79
        clear f79
        have cf112 : h95 96 340 = h 96 340 := congrFun E101 340
        have cf113 : h95 96 341 = h 96 341 := congrFun E101 341
        have cf114 : h95 96 342 = h 96 342 := congrFun E101 342
        have cf115 : h95 96 349 = h 96 349 := congrFun E101 349
        have R116 : ov_RD (h 96) (h 97) (h 98) (h 90 13) (h95 96) (h95 97) (h95 98) (h 90 13) := by rw [show h95 96 = h 96 from E101, show h95 97 = h 97 from E102, show h95 98 = h 98 from E103]; exact ov_RD_refl _ _ _ _
        exact ov_retv (st := []) d_219_116 rfl ⟨rfl, I96, (by show (h95 90 2) = (h 90 2) ∧ (h95 90 13) = (h 90 13) ∧ (h95 90 20) = (h 90 20) ∧ (h95 90 22) = (h 90 22) ∧ (h95 90 25) = (h 90 25) ∧ (h95 90 26) = (h 90 26) ∧ (h95 90 28) = (h 90 28) ∧ (h95 90 29) = (h 90 29) ∧ (h95 90 30) = (h 90 30) ∧ (h95 90 34) = (h 90 34) ∧ (h 90 7) ≤ (h95 90 7) ∧ (h95 90 7) ≤ n ∧ (h 90 13) ≤ (h95 90 13) ∧ (h95 90 13) - (h 90 13) ≤ (h95 90 7) - (h 90 7) ∧ (h95 96 340) = (h 96 340) ∧ (h95 96 341) = (h 96 341) ∧ ((h95 90 8) = 0 → 1 ≤ (h 96 342) → 1 ≤ (h95 96 342)) ∧ (1 ≤ (h 96 349) → 1 ≤ (h95 96 349)); omega), E97, E98, E99, E100, E102, E103, E104, E105, E106, E107, E108, E109, E110, R116.1, R116.2.1, (fun _ w => by show ov_CS (h95 96) (h95 97) (h95 98) (h95 90 13); rw [show (h95 90 13) = h 90 13 by omega]; exact R116.2.2 w)⟩
  · skip
    refine ov_blk (ls2 := [(0, ov_r 90), (1, ov_i v5), (2, ov_i v41), (3, ov_i (350 + (4 * ((6 * v41) + v5))))]) (st2 := [ov_r 90]) (pc2 := 63) b_219_62_1 rfl rfl ?_
    refine ov_getf (v := ov_r 96) d_219_63 fl_Mo_81 (zb_90 I58) (zs_90 I58) (congrArg ov_r (rg_90_10 I58)) ?_
    refine ov_blk (ls2 := [(0, ov_r 90), (1, ov_i v5), (2, ov_i v41), (3, ov_i (350 + (4 * ((6 * v41) + v5))))]) (st2 := [ov_i (350 + (4 * ((6 * v41) + v5))), ov_r 96]) (pc2 := 67) b_219_66_1 rfl rfl ?_
    refine ov_iald d_219_67 (zb_96 I58) (zs_96 I58) (by omega) ?_
    rw [show h57 96 = h 96 from E63]
    have g117 := g96 I (350 + (4 * ((6 * v41) + v5)))
    refine ov_ifle (tgt := 86) d_219_68 (by decide) (by omega) (fun c118 => ?_) (fun c118 => ?_)
    · skip
      refine ov_blk (ls2 := [(0, ov_r 90), (1, ov_i v5), (2, ov_i v41), (3, ov_i (350 + (4 * ((6 * v41) + v5))))]) (st2 := [ov_r 90]) (pc2 := 87) b_219_86_1 rfl rfl ?_
      refine ov_getf (v := ov_i (h57 90 8)) d_219_87 fl_Mo_180 (zb_90 I58) (zs_90 I58) rfl ?_
      refine ov_ifle (tgt := 97) d_219_90 (by decide) (by omega) (fun c120 => ?_) (fun c120 => ?_)
      · skip
        refine ov_blk (ls2 := [(0, ov_r 90), (1, ov_i v5), (2, ov_i v41), (3, ov_i (350 + (4 * ((6 * v41) + v5))))]) (st2 := [ov_i 4, ov_i 13, ov_r 90]) (pc2 := 101) b_219_97_3 rfl rfl ?_
        have cf121 : h57 92 (n) = h 92 (n) := congrFun E59 (n)
        refine ov_cV (as := [ov_i 13, ov_i 4]) (st := []) (d2 := d - 1) d_219_101 lk_Mo_202 rfl (Nat.le_of_ble_eq_true rfl) (c := 1) (zb_90 I58) (zs_90 I58) ⟨by decide, rfl⟩ (by omega) (c_Mo_wordHere_90 n (d - 1) (by omega) U I58 13 4 (by omega) (by omega) (by show 0 ≤ n ∧ n ≤ 1000 ∧ (h57 92 (n)) = 0 ∧ (h57 90 7) ≤ n; omega) (by omega)) ?_
        rintro _ _ _ ⟨v123, rfl, rfl, rfl, f122⟩
        show ov_R u d ov_m219 104 [(0, ov_r 90), (1, ov_i v5), (2, ov_i v41), (3, ov_i (350 + (4 * ((6 * v41) + v5))))] [ov_i v123] z56 h57 (P_Mo_readLight_90 F z h n)
        have f124 : -1 ≤ v123 ∧ v123 < (4 : Int) ∧ (0 ≤ v123 → (h57 90 7) < n ∧ (h57 90 8) = 0) := f122
        clear f122
        refine ov_blk (ls2 := [(0, ov_r 90), (1, ov_i v5), (2, ov_i v41), (3, ov_i (350 + (4 * ((6 * v41) + v5)))), (4, ov_i v123)]) (st2 := [ov_i v123]) (pc2 := 108) b_219_104_2 rfl rfl ?_
        refine ov_ifge (tgt := 117) d_219_108 (by decide) (by omega) (fun c125 => ?_) (fun c125 => ?_)
        · skip
          refine ov_blk (ls2 := [(0, ov_r 90), (1, ov_i v5), (2, ov_i v41), (3, ov_i (350 + (4 * ((6 * v41) + v5)))), (4, ov_i v123)]) (st2 := [ov_r 90, ov_r 90]) (pc2 := 119) b_219_117_2 rfl rfl ?_
          refine ov_getf (v := ov_i (h57 90 7)) d_219_119 fl_Mo_177 (zb_90 I58) (zs_90 I58) rfl ?_
          have g126 := rg_90_7 I58
          refine ov_blk (ls2 := [(0, ov_r 90), (1, ov_i v5), (2, ov_i v41), (3, ov_i (350 + (4 * ((6 * v41) + v5)))), (4, ov_i v123)]) (st2 := [ov_i ((h57 90 7) + 1), ov_r 90]) (pc2 := 124) b_219_122_2 rfl rfl ?_
          refine ov_putf (x := ((h57 90 7) + 1)) d_219_124 fl_Mo_177 (zb_90 I58) (zs_90 I58) rfl nk_0 rfl ?_
          have I127 := up_90_7 (x := ((h57 90 7) + 1)) I58 (by omega)
          refine ov_blk (ls2 := [(0, ov_r 90), (1, ov_i v5), (2, ov_i v41), (3, ov_i (350 + (4 * ((6 * v41) + v5)))), (4, ov_i v123)]) (st2 := [ov_i 60, ov_i 1, ov_i 9, ov_r 90]) (pc2 := 133) b_219_127_4 rfl rfl ?_
          have cf128 : h57 92 (n) = h 92 (n) := congrFun E59 (n)
          refine ov_cV (as := [ov_i 9, ov_i 1, ov_i 60]) (st := []) (d2 := d - 1) d_219_133 lk_Mo_232 rfl (Nat.le_of_ble_eq_true rfl) (c := 1) (zb_90 I127) (zs_90 I127) ⟨by decide, rfl⟩ (by omega) (c_Mo_takeAfter_90 n (d - 1) (by omega) U I127 9 1 60 (by omega) (by omega) (by omega) (by show 0 ≤ n ∧ n ≤ 1000 ∧ (h57 92 (n)) = 0 ∧ ((h57 90 7) + 1) ≤ n; omega) (by omega)) ?_
          rintro _ z145 h146 ⟨v130, rfl, I147, f129, e131, e132, e133, e134, e135, e136, e137, e138, e139, e140, e141, e142, e143, e144⟩
          have E148 : h146 92 = h 92 := Eq.trans e131 E59
          have E149 : h146 93 = h 93 := Eq.trans e132 E60
          have E150 : h146 94 = h 94 := Eq.trans e133 E61
          have E151 : h146 95 = h 95 := Eq.trans e134 E62
          have E152 : h146 96 = h 96 := Eq.trans e135 E63
          have E153 : h146 97 = h 97 := Eq.trans e136 E64
          have E154 : h146 98 = h 98 := Eq.trans e137 E65
          have E155 : h146 99 = h 99 := Eq.trans e138 E66
          have E156 : h146 100 = h 100 := Eq.trans e139 E67
          have E157 : h146 103 = h 103 := Eq.trans e140 E68
          have E158 : h146 105 = h 105 := Eq.trans e141 E69
          have E159 : h146 106 = h 106 := Eq.trans e142 E70
          have E160 : h146 109 = h 109 := Eq.trans e143 E71
          have E161 : h146 114 = h 114 := Eq.trans e144 E72
          show ov_R u d ov_m219 136 [(0, ov_r 90), (1, ov_i v5), (2, ov_i v41), (3, ov_i (350 + (4 * ((6 * v41) + v5)))), (4, ov_i v123)] [ov_i v130] z145 h146 (P_Mo_readLight_90 F z h n)
          have f162 : (h146 90 2) = (h57 90 2) ∧ (h146 90 13) = (h57 90 13) ∧ (h146 90 20) = (h57 90 20) ∧ (h146 90 22) = (h57 90 22) ∧ (h146 90 25) = (h57 90 25) ∧ (h146 90 26) = (h57 90 26) ∧ (h146 90 28) = (h57 90 28) ∧ (h146 90 29) = (h57 90 29) ∧ (h146 90 30) = (h57 90 30) ∧ (h146 90 34) = (h57 90 34) ∧ ((h57 90 7) + 1) ≤ (h146 90 7) ∧ (h146 90 7) ≤ n ∧ (h57 90 8) ≤ (h146 90 8) ∧ ((h146 90 8) = 0 → (1 : Int) ≤ v130 ∧ v130 ≤ (60 : Int)) ∧ (0 < (h146 90 8) → v130 = 0) := f129
          clear f129
          refine ov_blk (ls2 := [(0, ov_r 90), (1, ov_i v5), (2, ov_i v41), (3, ov_i (350 + (4 * ((6 * v41) + v5)))), (4, ov_i v123), (5, ov_i v130)]) (st2 := []) (pc2 := 138) b_219_136_1 rfl rfl ?_
          have J163 : ∀ (j164 : Int) (q165 : 0 ≤ j164 ∧ j164 ≤ 72000 ∧ (1 ≤ (h 96 349) → (h146 90 8) = 0 → 1 ≤ j164) ∧ ((h146 90 8) = 0 → j164 % (h 96 349) = 0 ∧ (v123 < 2 → j164 % v130 = 0))), ov_R u d ov_m219 189 [(0, ov_r 90), (1, ov_i v5), (2, ov_i v41), (3, ov_i (350 + (4 * ((6 * v41) + v5)))), (4, ov_i v123), (5, ov_i v130), (6, ov_i j164)] [] z145 h146 (P_Mo_readLight_90 F z h n) := by
            intro j164 q165
            refine ov_blk (ls2 := [(0, ov_r 90), (1, ov_i v5), (2, ov_i v41), (3, ov_i (350 + (4 * ((6 * v41) + v5)))), (4, ov_i v123), (5, ov_i v130), (6, ov_i j164)]) (st2 := [ov_r 90]) (pc2 := 190) b_219_189_1 rfl rfl ?_
            refine ov_getf (v := ov_i (h146 90 8)) d_219_190 fl_Mo_180 (zb_90 I147) (zs_90 I147) rfl ?_
            have g166 := rg_90_8 I147
            refine ov_ifne (tgt := 219) d_219_193 (by decide) (by omega) (fun c167 => ?_) (fun c167 => ?_)
            · skip
              refine ov_blk (ls2 := [(0, ov_r 90), (1, ov_i v5), (2, ov_i v41), (3, ov_i (350 + (4 * ((6 * v41) + v5)))), (4, ov_i v123), (5, ov_i v130), (6, ov_i j164)]) (st2 := [ov_r 90]) (pc2 := 220) b_219_219_1 rfl rfl ?_
              refine ov_getf (v := ov_i (h146 90 8)) d_219_220 fl_Mo_180 (zb_90 I147) (zs_90 I147) rfl ?_
              refine ov_ifle (tgt := 227) d_219_223 (by decide) (by omega) (fun c169 => ?_) (fun c169 => ?_)
              · omega
              · skip
                have cf170 : h146 96 340 = h 96 340 := congrFun E152 340
                have cf171 : h146 96 341 = h 96 341 := congrFun E152 341
                have cf172 : h146 96 342 = h 96 342 := congrFun E152 342
                have cf173 : h146 96 349 = h 96 349 := congrFun E152 349
                have R174 : ov_RD (h 96) (h 97) (h 98) (h 90 13) (h146 96) (h146 97) (h146 98) (h 90 13) := by rw [show h146 96 = h 96 from E152, show h146 97 = h 97 from E153, show h146 98 = h 98 from E154]; exact ov_RD_refl _ _ _ _
                exact ov_retv (st := []) d_219_226 rfl ⟨rfl, I147, (by show (h146 90 2) = (h 90 2) ∧ (h146 90 13) = (h 90 13) ∧ (h146 90 20) = (h 90 20) ∧ (h146 90 22) = (h 90 22) ∧ (h146 90 25) = (h 90 25) ∧ (h146 90 26) = (h 90 26) ∧ (h146 90 28) = (h 90 28) ∧ (h146 90 29) = (h 90 29) ∧ (h146 90 30) = (h 90 30) ∧ (h146 90 34) = (h 90 34) ∧ (h 90 7) ≤ (h146 90 7) ∧ (h146 90 7) ≤ n ∧ (h 90 13) ≤ (h146 90 13) ∧ (h146 90 13) - (h 90 13) ≤ (h146 90 7) - (h 90 7) ∧ (h146 96 340) = (h 96 340) ∧ (h146 96 341) = (h 96 341) ∧ ((h146 90 8) = 0 → 1 ≤ (h 96 342) → 1 ≤ (h146 96 342)) ∧ (1 ≤ (h 96 349) → 1 ≤ (h146 96 349)); omega), E148, E149, E150, E151, E153, E154, E155, E156, E157, E158, E159, E160, E161, R174.1, R174.2.1, (fun _ w => by show ov_CS (h146 96) (h146 97) (h146 98) (h146 90 13); rw [show (h146 90 13) = h 90 13 by omega]; exact R174.2.2 w)⟩
            · skip
              refine ov_blk (ls2 := [(0, ov_r 90), (1, ov_i v5), (2, ov_i v41), (3, ov_i (350 + (4 * ((6 * v41) + v5)))), (4, ov_i v123), (5, ov_i v130), (6, ov_i j164)]) (st2 := [ov_i 1200, ov_i j164]) (pc2 := 201) b_219_196_2 rfl rfl ?_
              refine ov_icle (tgt := 219) d_219_201 (by decide) (by omega) (by omega) (fun c175 => ?_) (fun c175 => ?_)
              · skip
                refine ov_blk (ls2 := [(0, ov_r 90), (1, ov_i v5), (2, ov_i v41), (3, ov_i (350 + (4 * ((6 * v41) + v5)))), (4, ov_i v123), (5, ov_i v130), (6, ov_i j164)]) (st2 := [ov_r 90]) (pc2 := 220) b_219_219_1 rfl rfl ?_
                refine ov_getf (v := ov_i (h146 90 8)) d_219_220 fl_Mo_180 (zb_90 I147) (zs_90 I147) rfl ?_
                refine ov_ifle (tgt := 227) d_219_223 (by decide) (by omega) (fun c177 => ?_) (fun c177 => ?_)
                · skip
                  obtain ⟨ja, jb, jc, jd⟩ := q165
                  have j8 : h146 90 8 = 0 := by omega
                  have jl := fun u => jc u j8
                  have jm := (jd j8).1
                  have jn : Unit → v123 < 2 → j164 % v130 = 0 := fun _ => (jd j8).2
                  clear jc jd
                  have k178 : (h21 90 2) = (h 90 2) ∧ (h21 90 13) = (h 90 13) ∧ (h21 90 20) = (h 90 20) ∧ (h21 90 22) = (h 90 22) ∧ (h21 90 25) = (h 90 25) ∧ (h21 90 26) = (h 90 26) ∧ (h21 90 28) = (h 90 28) ∧ (h21 90 29) = (h 90 29) ∧ (h21 90 30) = (h 90 30) ∧ (h21 90 34) = (h 90 34) ∧ ((h 90 7) + 1) ≤ (h21 90 7) ∧ (h21 90 7) ≤ n ∧ (h 90 8) ≤ (h21 90 8) ∧ ((0 : Int) ≤ v5 ∧ v5 ≤ ((h 96 340) - 1)) ∧ ((h 90 7) + 1) < (h21 90 7) + (h21 90 8) := ⟨f37.1, f37.2.1, f37.2.2.1, f37.2.2.2.1, f37.2.2.2.2.1, f37.2.2.2.2.2.1, f37.2.2.2.2.2.2.1, f37.2.2.2.2.2.2.2.1, f37.2.2.2.2.2.2.2.2.1, f37.2.2.2.2.2.2.2.2.2.1, f37.2.2.2.2.2.2.2.2.2.2.1, f37.2.2.2.2.2.2.2.2.2.2.2.1, f37.2.2.2.2.2.2.2.2.2.2.2.2.1, f37.2.2.2.2.2.2.2.2.2.2.2.2.2.1 (by omega), f37.2.2.2.2.2.2.2.2.2.2.2.2.2.2.2⟩
                  clear f37
                  have k179 : (h57 90 2) = (h21 90 2) ∧ (h57 90 13) = (h21 90 13) ∧ (h57 90 20) = (h21 90 20) ∧ (h57 90 22) = (h21 90 22) ∧ (h57 90 25) = (h21 90 25) ∧ (h57 90 26) = (h21 90 26) ∧ (h57 90 28) = (h21 90 28) ∧ (h57 90 29) = (h21 90 29) ∧ (h57 90 30) = (h21 90 30) ∧ (h57 90 34) = (h21 90 34) ∧ (h21 90 7) ≤ (h57 90 7) ∧ (h57 90 7) ≤ n ∧ (h21 90 8) ≤ (h57 90 8) ∧ ((0 : Int) ≤ v41 ∧ v41 ≤ ((h 96 341) - 1)) ∧ (h21 90 7) < (h57 90 7) + (h57 90 8) := ⟨f73.1, f73.2.1, f73.2.2.1, f73.2.2.2.1, f73.2.2.2.2.1, f73.2.2.2.2.2.1, f73.2.2.2.2.2.2.1, f73.2.2.2.2.2.2.2.1, f73.2.2.2.2.2.2.2.2.1, f73.2.2.2.2.2.2.2.2.2.1, f73.2.2.2.2.2.2.2.2.2.2.1, f73.2.2.2.2.2.2.2.2.2.2.2.1, f73.2.2.2.2.2.2.2.2.2.2.2.2.1, f73.2.2.2.2.2.2.2.2.2.2.2.2.2.1 (by omega), f73.2.2.2.2.2.2.2.2.2.2.2.2.2.2.2⟩
                  clear f73
                  have k180 : -1 ≤ v123 ∧ v123 < (4 : Int) := ⟨f124.1, f124.2.1⟩
                  clear f124
                  have k181 : (h146 90 2) = (h57 90 2) ∧ (h146 90 13) = (h57 90 13) ∧ (h146 90 20) = (h57 90 20) ∧ (h146 90 22) = (h57 90 22) ∧ (h146 90 25) = (h57 90 25) ∧ (h146 90 26) = (h57 90 26) ∧ (h146 90 28) = (h57 90 28) ∧ (h146 90 29) = (h57 90 29) ∧ (h146 90 30) = (h57 90 30) ∧ (h146 90 34) = (h57 90 34) ∧ ((h57 90 7) + 1) ≤ (h146 90 7) ∧ (h146 90 7) ≤ n ∧ (h57 90 8) ≤ (h146 90 8) ∧ ((1 : Int) ≤ v130 ∧ v130 ≤ (60 : Int)) := ⟨f162.1, f162.2.1, f162.2.2.1, f162.2.2.2.1, f162.2.2.2.2.1, f162.2.2.2.2.2.1, f162.2.2.2.2.2.2.1, f162.2.2.2.2.2.2.2.1, f162.2.2.2.2.2.2.2.2.1, f162.2.2.2.2.2.2.2.2.2.1, f162.2.2.2.2.2.2.2.2.2.2.1, f162.2.2.2.2.2.2.2.2.2.2.2.1, f162.2.2.2.2.2.2.2.2.2.2.2.2.1, f162.2.2.2.2.2.2.2.2.2.2.2.2.2.1 (by omega)⟩
                  clear f162
                  refine ov_blk (ls2 := [(0, ov_r 90), (1, ov_i v5), (2, ov_i v41), (3, ov_i (350 + (4 * ((6 * v41) + v5)))), (4, ov_i v123), (5, ov_i v130), (6, ov_i j164)]) (st2 := [ov_r 90]) (pc2 := 228) b_219_227_1 rfl rfl ?_
                  refine ov_getf (v := ov_r 96) d_219_228 fl_Mo_81 (zb_90 I147) (zs_90 I147) (congrArg ov_r (rg_90_10 I147)) ?_
                  refine ov_blk (ls2 := [(0, ov_r 90), (1, ov_i v5), (2, ov_i v41), (3, ov_i (350 + (4 * ((6 * v41) + v5)))), (4, ov_i v123), (5, ov_i v130), (6, ov_i j164)]) (st2 := [ov_i j164, ov_i 349, ov_r 96]) (pc2 := 236) b_219_231_2 rfl rfl ?_
                  refine ov_iast d_219_236 (zb_96 I147) (zs_96 I147) (by omega) ?_
                  have I182 := ua_96 (k := 349) (x := j164) I147 (by refine ⟨?_, ?_, ?_, ?_, ?_, ?_, ?_, ?_, ?_, ?_, ?_, ?_, ?_, ?_, ?_, ?_, ?_, ?_, ?_, ?_, ?_, ?_, ?_, ?_, ?_, ?_, ?_, ?_, ?_⟩ <;> omega)
                  have R183 : ov_RD (h 96) (h 97) (h 98) (h 90 13) (h146 96) (h146 97) (h146 98) (h 90 13) := by rw [show h146 96 = h 96 from E152, show h146 97 = h 97 from E153, show h146 98 = h 98 from E154]; exact ov_RD_refl _ _ _ _
                  have R184 : ov_RD (h 96) (h 97) (h 98) (h 90 13) ((ov_up h146 96 349 j164) 96) ((ov_up h146 96 349 j164) 97) ((ov_up h146 96 349 j164) 98) (h 90 13) := by rw [ov_up_row]; exact ov_RD_c R183 (t96_348 I147).2 rfl (by rw [show h146 96 = h 96 from E152]; exact jm)
                  refine ov_blk (ls2 := [(0, ov_r 90), (1, ov_i v5), (2, ov_i v41), (3, ov_i (350 + (4 * ((6 * v41) + v5)))), (4, ov_i v123), (5, ov_i v130), (6, ov_i j164)]) (st2 := [ov_r 90]) (pc2 := 238) b_219_237_1 rfl rfl ?_
                  refine ov_getf (v := ov_r 96) d_219_238 fl_Mo_81 (zb_90 I182) (zs_90 I182) (congrArg ov_r (rg_90_10 I182)) ?_
                  refine ov_blk (ls2 := [(0, ov_r 90), (1, ov_i v5), (2, ov_i v41), (3, ov_i (350 + (4 * ((6 * v41) + v5)))), (4, ov_i v123), (5, ov_i v130), (6, ov_i j164)]) (st2 := [ov_i (1 + v123), ov_i (350 + (4 * ((6 * v41) + v5))), ov_r 96]) (pc2 := 246) b_219_241_4 rfl rfl ?_
                  refine ov_iast d_219_246 (zb_96 I182) (zs_96 I182) (by omega) ?_
                  have I185 := ua_96 (k := (350 + (4 * ((6 * v41) + v5)))) (x := (1 + v123)) I182 (by refine ⟨?_, ?_, ?_, ?_, ?_, ?_, ?_, ?_, ?_, ?_, ?_, ?_, ?_, ?_, ?_, ?_, ?_, ?_, ?_, ?_, ?_, ?_, ?_, ?_, ?_, ?_, ?_, ?_, ?_⟩ <;> omega)
                  refine ov_blk (ls2 := [(0, ov_r 90), (1, ov_i v5), (2, ov_i v41), (3, ov_i (350 + (4 * ((6 * v41) + v5)))), (4, ov_i v123), (5, ov_i v130), (6, ov_i j164)]) (st2 := [ov_r 90]) (pc2 := 248) b_219_247_1 rfl rfl ?_
                  refine ov_getf (v := ov_r 96) d_219_248 fl_Mo_81 (zb_90 I185) (zs_90 I185) (congrArg ov_r (rg_90_10 I185)) ?_
                  refine ov_blk (ls2 := [(0, ov_r 90), (1, ov_i v5), (2, ov_i v41), (3, ov_i (350 + (4 * ((6 * v41) + v5)))), (4, ov_i v123), (5, ov_i v130), (6, ov_i j164)]) (st2 := [ov_i v130, ov_i ((350 + (4 * ((6 * v41) + v5))) + 1), ov_r 96]) (pc2 := 256) b_219_251_4 rfl rfl ?_
                  refine ov_iast d_219_256 (zb_96 I185) (zs_96 I185) (by omega) ?_
                  have I186 := ua_96 (k := ((350 + (4 * ((6 * v41) + v5))) + 1)) (x := v130) I185 (by refine ⟨?_, ?_, ?_, ?_, ?_, ?_, ?_, ?_, ?_, ?_, ?_, ?_, ?_, ?_, ?_, ?_, ?_, ?_, ?_, ?_, ?_, ?_, ?_, ?_, ?_, ?_, ?_, ?_, ?_⟩ <;> omega)
                  have R187 : ov_RD (h 96) (h 97) (h 98) (h 90 13) ((ov_up (ov_up (ov_up h146 96 349 j164) 96 (350 + (4 * ((6 * v41) + v5))) (1 + v123)) 96 ((350 + (4 * ((6 * v41) + v5))) + 1) v130) 96) ((ov_up (ov_up (ov_up h146 96 349 j164) 96 (350 + (4 * ((6 * v41) + v5))) (1 + v123)) 96 ((350 + (4 * ((6 * v41) + v5))) + 1) v130) 97) ((ov_up (ov_up (ov_up h146 96 349 j164) 96 (350 + (4 * ((6 * v41) + v5))) (1 + v123)) 96 ((350 + (4 * ((6 * v41) + v5))) + 1) v130) 98) (h 90 13) := by rw [ov_up_row, ov_up_row]; exact ov_RD_k R184 (t96_348 I182).2 (e := 6 * v41 + v5) (by omega) (by omega) (by omega) (by omega) (fun q => by show j164 % v130 = 0; exact jn () (by omega))
                  refine ov_blk (ls2 := [(0, ov_r 90), (1, ov_i v5), (2, ov_i v41), (3, ov_i (350 + (4 * ((6 * v41) + v5)))), (4, ov_i v123), (5, ov_i v130), (6, ov_i j164)]) (st2 := [ov_r 90]) (pc2 := 258) b_219_257_1 rfl rfl ?_
                  refine ov_getf (v := ov_r 96) d_219_258 fl_Mo_81 (zb_90 I186) (zs_90 I186) (congrArg ov_r (rg_90_10 I186)) ?_
                  refine ov_blk (ls2 := [(0, ov_r 90), (1, ov_i v5), (2, ov_i v41), (3, ov_i (350 + (4 * ((6 * v41) + v5)))), (4, ov_i v123), (5, ov_i v130), (6, ov_i j164)]) (st2 := [ov_i (v130 - 1), ov_i 0, ov_i 10, ov_r 90, ov_i ((350 + (4 * ((6 * v41) + v5))) + 2), ov_r 96]) (pc2 := 272) b_219_261_9 rfl rfl ?_
                  have cf188 : h146 92 (n) = h 92 (n) := congrFun E148 (n)
                  refine ov_cV (as := [ov_i 10, ov_i 0, ov_i (v130 - 1)]) (st := [ov_i ((350 + (4 * ((6 * v41) + v5))) + 2), ov_r 96]) (d2 := d - 1) d_219_272 lk_Mo_232 rfl (Nat.le_of_ble_eq_true rfl) (c := 1) (zb_90 I186) (zs_90 I186) ⟨by decide, rfl⟩ (by omega) (c_Mo_takeAfter_90 n (d - 1) (by omega) U I186 10 0 (v130 - 1) (by omega) (by omega) (by omega) (by show 0 ≤ n ∧ n ≤ 1000 ∧ (h146 92 (n)) = 0 ∧ (h146 90 7) ≤ n; omega) (by omega)) ?_
                  rintro _ z205 h206 ⟨v190, rfl, I207, f189, e191, e192, e193, e194, e195, e196, e197, e198, e199, e200, e201, e202, e203, e204⟩
                  have E208 : h206 92 = h 92 := Eq.trans e191 E148
                  have E209 : h206 93 = h 93 := Eq.trans e192 E149
                  have E210 : h206 94 = h 94 := Eq.trans e193 E150
                  have E211 : h206 95 = h 95 := Eq.trans e194 E151
                  have E212 : h206 97 = h 97 := Eq.trans e196 E153
                  have E213 : h206 98 = h 98 := Eq.trans e197 E154
                  have E214 : h206 99 = h 99 := Eq.trans e198 E155
                  have E215 : h206 100 = h 100 := Eq.trans e199 E156
                  have E216 : h206 103 = h 103 := Eq.trans e200 E157
                  have E217 : h206 105 = h 105 := Eq.trans e201 E158
                  have E218 : h206 106 = h 106 := Eq.trans e202 E159
                  have E219 : h206 109 = h 109 := Eq.trans e203 E160
                  have E220 : h206 114 = h 114 := Eq.trans e204 E161
                  show ov_R u d ov_m219 275 [(0, ov_r 90), (1, ov_i v5), (2, ov_i v41), (3, ov_i (350 + (4 * ((6 * v41) + v5)))), (4, ov_i v123), (5, ov_i v130), (6, ov_i j164)] [ov_i v190, ov_i ((350 + (4 * ((6 * v41) + v5))) + 2), ov_r 96] z205 h206 (P_Mo_readLight_90 F z h n)
                  have f221 : (h206 90 2) = (h146 90 2) ∧ (h206 90 13) = (h146 90 13) ∧ (h206 90 20) = (h146 90 20) ∧ (h206 90 22) = (h146 90 22) ∧ (h206 90 25) = (h146 90 25) ∧ (h206 90 26) = (h146 90 26) ∧ (h206 90 28) = (h146 90 28) ∧ (h206 90 29) = (h146 90 29) ∧ (h206 90 30) = (h146 90 30) ∧ (h206 90 34) = (h146 90 34) ∧ (h146 90 7) ≤ (h206 90 7) ∧ (h206 90 7) ≤ n ∧ (h146 90 8) ≤ (h206 90 8) ∧ ((h206 90 8) = 0 → (0 : Int) ≤ v190 ∧ v190 ≤ (v130 - 1)) ∧ (0 < (h206 90 8) → v190 = 0) := f189
                  clear f189
                  have R222 : ov_RD (h 96) (h 97) (h 98) (h 90 13) (h206 96) (h206 97) (h206 98) (h 90 13) := by rw [e195, e196, e197]; exact R187
                  have lt223 : ((ov_up (ov_up (ov_up h146 96 349 j164) 96 (350 + (4 * ((6 * v41) + v5))) (1 + v123)) 96 ((350 + (4 * ((6 * v41) + v5))) + 1) v130) 96 340) = h146 96 340 := by try rw [ov_up_j (by omega)]; try rw [ov_up_j (by omega)]; try rw [ov_up_j (by omega)]; try rfl
                  have lt224 : h146 96 340 = h 96 340 := congrFun E152 340
                  have lt225 : ((ov_up (ov_up (ov_up h146 96 349 j164) 96 (350 + (4 * ((6 * v41) + v5))) (1 + v123)) 96 ((350 + (4 * ((6 * v41) + v5))) + 1) v130) 96 341) = h146 96 341 := by try rw [ov_up_j (by omega)]; try rw [ov_up_j (by omega)]; try rw [ov_up_j (by omega)]; try rfl
                  have lt226 : h146 96 341 = h 96 341 := congrFun E152 341
                  have lt227 : ((ov_up (ov_up (ov_up h146 96 349 j164) 96 (350 + (4 * ((6 * v41) + v5))) (1 + v123)) 96 ((350 + (4 * ((6 * v41) + v5))) + 1) v130) 96 342) = h146 96 342 := by try rw [ov_up_j (by omega)]; try rw [ov_up_j (by omega)]; try rw [ov_up_j (by omega)]; try rfl
                  have lt228 : h146 96 342 = h 96 342 := congrFun E152 342
                  have lt229 : ((ov_up (ov_up (ov_up h146 96 349 j164) 96 (350 + (4 * ((6 * v41) + v5))) (1 + v123)) 96 ((350 + (4 * ((6 * v41) + v5))) + 1) v130) 96 348) = h146 96 348 := by try rw [ov_up_j (by omega)]; try rw [ov_up_j (by omega)]; try rw [ov_up_j (by omega)]; try rfl
                  have lt230 : h146 96 348 = h 96 348 := congrFun E152 348
                  have lt231 : ((ov_up (ov_up (ov_up h146 96 349 j164) 96 (350 + (4 * ((6 * v41) + v5))) (1 + v123)) 96 ((350 + (4 * ((6 * v41) + v5))) + 1) v130) 96 349) = j164 := by try rw [ov_up_j (by omega)]; try rw [ov_up_j (by omega)]; try rw [ov_up_row, ov_rs_eq]; try rfl
                  have lt232 : h146 96 349 = h 96 349 := congrFun E152 349
                  have lt233 : h206 96 340 = ((ov_up (ov_up (ov_up h146 96 349 j164) 96 (350 + (4 * ((6 * v41) + v5))) (1 + v123)) 96 ((350 + (4 * ((6 * v41) + v5))) + 1) v130) 96 340) := congrFun e195 340
                  have lt234 : h206 96 341 = ((ov_up (ov_up (ov_up h146 96 349 j164) 96 (350 + (4 * ((6 * v41) + v5))) (1 + v123)) 96 ((350 + (4 * ((6 * v41) + v5))) + 1) v130) 96 341) := congrFun e195 341
                  have lt235 : h206 96 342 = ((ov_up (ov_up (ov_up h146 96 349 j164) 96 (350 + (4 * ((6 * v41) + v5))) (1 + v123)) 96 ((350 + (4 * ((6 * v41) + v5))) + 1) v130) 96 342) := congrFun e195 342
                  have lt236 : h206 96 348 = ((ov_up (ov_up (ov_up h146 96 349 j164) 96 (350 + (4 * ((6 * v41) + v5))) (1 + v123)) 96 ((350 + (4 * ((6 * v41) + v5))) + 1) v130) 96 348) := congrFun e195 348
                  have lt237 : h206 96 349 = ((ov_up (ov_up (ov_up h146 96 349 j164) 96 (350 + (4 * ((6 * v41) + v5))) (1 + v123)) 96 ((350 + (4 * ((6 * v41) + v5))) + 1) v130) 96 349) := congrFun e195 349
                  refine ov_iast d_219_275 (zb_96 I207) (zs_96 I207) (by omega) ?_
                  have I238 := ua_96 (k := ((350 + (4 * ((6 * v41) + v5))) + 2)) (x := v190) I207 (by refine ⟨?_, ?_, ?_, ?_, ?_, ?_, ?_, ?_, ?_, ?_, ?_, ?_, ?_, ?_, ?_, ?_, ?_, ?_, ?_, ?_, ?_, ?_, ?_, ?_, ?_, ?_, ?_, ?_, ?_⟩ <;> omega)
                  have R239 : ov_RD (h 96) (h 97) (h 98) (h 90 13) ((ov_up h206 96 ((350 + (4 * ((6 * v41) + v5))) + 2) v190) 96) ((ov_up h206 96 ((350 + (4 * ((6 * v41) + v5))) + 2) v190) 97) ((ov_up h206 96 ((350 + (4 * ((6 * v41) + v5))) + 2) v190) 98) (h 90 13) := by rw [ov_up_row]; exact ov_RD_l R222 (t96_348 I207).2 (e := 6 * v41 + v5) (i := 2) (by omega) (Or.inl rfl) (by omega)
                  refine ov_blk (ls2 := [(0, ov_r 90), (1, ov_i v5), (2, ov_i v41), (3, ov_i (350 + (4 * ((6 * v41) + v5)))), (4, ov_i v123), (5, ov_i v130), (6, ov_i j164)]) (st2 := [ov_r 90]) (pc2 := 277) b_219_276_1 rfl rfl ?_
                  refine ov_getf (v := ov_r 96) d_219_277 fl_Mo_81 (zb_90 I238) (zs_90 I238) (congrArg ov_r (rg_90_10 I238)) ?_
                  refine ov_blk (ls2 := [(0, ov_r 90), (1, ov_i v5), (2, ov_i v41), (3, ov_i (350 + (4 * ((6 * v41) + v5)))), (4, ov_i v123), (5, ov_i v130), (6, ov_i j164)]) (st2 := [ov_i v130, ov_i 0, ov_i 12, ov_r 90, ov_i ((350 + (4 * ((6 * v41) + v5))) + 3), ov_r 96]) (pc2 := 289) b_219_280_7 rfl rfl ?_
                  have cf240 : h206 92 (n) = h 92 (n) := congrFun E208 (n)
                  refine ov_cV (as := [ov_i 12, ov_i 0, ov_i v130]) (st := [ov_i ((350 + (4 * ((6 * v41) + v5))) + 3), ov_r 96]) (d2 := d - 1) d_219_289 lk_Mo_232 rfl (Nat.le_of_ble_eq_true rfl) (c := 1) (zb_90 I238) (zs_90 I238) ⟨by decide, rfl⟩ (by omega) (c_Mo_takeAfter_90 n (d - 1) (by omega) U I238 12 0 v130 (by omega) (by omega) (by omega) (by show 0 ≤ n ∧ n ≤ 1000 ∧ (h206 92 (n)) = 0 ∧ (h206 90 7) ≤ n; omega) (by omega)) ?_
                  rintro _ z257 h258 ⟨v242, rfl, I259, f241, e243, e244, e245, e246, e247, e248, e249, e250, e251, e252, e253, e254, e255, e256⟩
                  have E260 : h258 92 = h 92 := Eq.trans e243 E208
                  have E261 : h258 93 = h 93 := Eq.trans e244 E209
                  have E262 : h258 94 = h 94 := Eq.trans e245 E210
                  have E263 : h258 95 = h 95 := Eq.trans e246 E211
                  have E264 : h258 97 = h 97 := Eq.trans e248 E212
                  have E265 : h258 98 = h 98 := Eq.trans e249 E213
                  have E266 : h258 99 = h 99 := Eq.trans e250 E214
                  have E267 : h258 100 = h 100 := Eq.trans e251 E215
                  have E268 : h258 103 = h 103 := Eq.trans e252 E216
                  have E269 : h258 105 = h 105 := Eq.trans e253 E217
                  have E270 : h258 106 = h 106 := Eq.trans e254 E218
                  have E271 : h258 109 = h 109 := Eq.trans e255 E219
                  have E272 : h258 114 = h 114 := Eq.trans e256 E220
                  show ov_R u d ov_m219 292 [(0, ov_r 90), (1, ov_i v5), (2, ov_i v41), (3, ov_i (350 + (4 * ((6 * v41) + v5)))), (4, ov_i v123), (5, ov_i v130), (6, ov_i j164)] [ov_i v242, ov_i ((350 + (4 * ((6 * v41) + v5))) + 3), ov_r 96] z257 h258 (P_Mo_readLight_90 F z h n)
                  have f273 : (h258 90 2) = (h206 90 2) ∧ (h258 90 13) = (h206 90 13) ∧ (h258 90 20) = (h206 90 20) ∧ (h258 90 22) = (h206 90 22) ∧ (h258 90 25) = (h206 90 25) ∧ (h258 90 26) = (h206 90 26) ∧ (h258 90 28) = (h206 90 28) ∧ (h258 90 29) = (h206 90 29) ∧ (h258 90 30) = (h206 90 30) ∧ (h258 90 34) = (h206 90 34) ∧ (h206 90 7) ≤ (h258 90 7) ∧ (h258 90 7) ≤ n ∧ (h206 90 8) ≤ (h258 90 8) ∧ ((h258 90 8) = 0 → (0 : Int) ≤ v242 ∧ v242 ≤ v130) ∧ (0 < (h258 90 8) → v242 = 0) := f241
                  clear f241
                  have R274 : ov_RD (h 96) (h 97) (h 98) (h 90 13) (h258 96) (h258 97) (h258 98) (h 90 13) := by rw [e247, e248, e249]; exact R239
                  have lt275 : ((ov_up h206 96 ((350 + (4 * ((6 * v41) + v5))) + 2) v190) 96 340) = h206 96 340 := by try rw [ov_up_j (by omega)]; try rfl
                  have lt276 : ((ov_up h206 96 ((350 + (4 * ((6 * v41) + v5))) + 2) v190) 96 341) = h206 96 341 := by try rw [ov_up_j (by omega)]; try rfl
                  have lt277 : ((ov_up h206 96 ((350 + (4 * ((6 * v41) + v5))) + 2) v190) 96 342) = h206 96 342 := by try rw [ov_up_j (by omega)]; try rfl
                  have lt278 : ((ov_up h206 96 ((350 + (4 * ((6 * v41) + v5))) + 2) v190) 96 348) = h206 96 348 := by try rw [ov_up_j (by omega)]; try rfl
                  have lt279 : ((ov_up h206 96 ((350 + (4 * ((6 * v41) + v5))) + 2) v190) 96 349) = h206 96 349 := by try rw [ov_up_j (by omega)]; try rfl
                  have lt280 : h258 96 340 = ((ov_up h206 96 ((350 + (4 * ((6 * v41) + v5))) + 2) v190) 96 340) := congrFun e247 340
                  have lt281 : h258 96 341 = ((ov_up h206 96 ((350 + (4 * ((6 * v41) + v5))) + 2) v190) 96 341) := congrFun e247 341
                  have lt282 : h258 96 342 = ((ov_up h206 96 ((350 + (4 * ((6 * v41) + v5))) + 2) v190) 96 342) := congrFun e247 342
                  have lt283 : h258 96 348 = ((ov_up h206 96 ((350 + (4 * ((6 * v41) + v5))) + 2) v190) 96 348) := congrFun e247 348
                  have lt284 : h258 96 349 = ((ov_up h206 96 ((350 + (4 * ((6 * v41) + v5))) + 2) v190) 96 349) := congrFun e247 349
                  refine ov_iast d_219_292 (zb_96 I259) (zs_96 I259) (by omega) ?_
                  have I285 := ua_96 (k := ((350 + (4 * ((6 * v41) + v5))) + 3)) (x := v242) I259 (by refine ⟨?_, ?_, ?_, ?_, ?_, ?_, ?_, ?_, ?_, ?_, ?_, ?_, ?_, ?_, ?_, ?_, ?_, ?_, ?_, ?_, ?_, ?_, ?_, ?_, ?_, ?_, ?_, ?_, ?_⟩ <;> omega)
                  have R286 : ov_RD (h 96) (h 97) (h 98) (h 90 13) ((ov_up h258 96 ((350 + (4 * ((6 * v41) + v5))) + 3) v242) 96) ((ov_up h258 96 ((350 + (4 * ((6 * v41) + v5))) + 3) v242) 97) ((ov_up h258 96 ((350 + (4 * ((6 * v41) + v5))) + 3) v242) 98) (h 90 13) := by rw [ov_up_row]; exact ov_RD_l R274 (t96_348 I259).2 (e := 6 * v41 + v5) (i := 3) (by omega) (Or.inr rfl) (by omega)
                  refine ov_blk (ls2 := [(0, ov_r 90), (1, ov_i v5), (2, ov_i v41), (3, ov_i (350 + (4 * ((6 * v41) + v5)))), (4, ov_i v123), (5, ov_i v130), (6, ov_i j164)]) (st2 := [ov_r 90]) (pc2 := 294) b_219_293_1 rfl rfl ?_
                  refine ov_getf (v := ov_r 96) d_219_294 fl_Mo_81 (zb_90 I285) (zs_90 I285) (congrArg ov_r (rg_90_10 I285)) ?_
                  refine ov_blk (ls2 := [(0, ov_r 90), (1, ov_i v5), (2, ov_i v41), (3, ov_i (350 + (4 * ((6 * v41) + v5)))), (4, ov_i v123), (5, ov_i v130), (6, ov_i j164)]) (st2 := [ov_i 347, ov_r 96, ov_i 347, ov_r 96]) (pc2 := 301) b_219_297_2 rfl rfl ?_
                  refine ov_iald d_219_301 (zb_96 I285) (zs_96 I285) (by omega) ?_
                  show ov_R u d ov_m219 302 [(0, ov_r 90), (1, ov_i v5), (2, ov_i v41), (3, ov_i (350 + (4 * ((6 * v41) + v5)))), (4, ov_i v123), (5, ov_i v130), (6, ov_i j164)] [ov_i ((ov_up h258 96 ((350 + (4 * ((6 * v41) + v5))) + 3) v242) 96 347), ov_i 347, ov_r 96] z257 (ov_up h258 96 ((350 + (4 * ((6 * v41) + v5))) + 3) v242) (P_Mo_readLight_90 F z h n)
                  refine ov_blk (ls2 := [(0, ov_r 90), (1, ov_i v5), (2, ov_i v41), (3, ov_i (350 + (4 * ((6 * v41) + v5)))), (4, ov_i v123), (5, ov_i v130), (6, ov_i j164)]) (st2 := [ov_i (((ov_up h258 96 ((350 + (4 * ((6 * v41) + v5))) + 3) v242) 96 347) + 1), ov_i 347, ov_r 96]) (pc2 := 304) b_219_302_2 rfl rfl ?_
                  refine ov_hav (fun w287 gw287 => ?_)
                  refine ov_iast d_219_304 (zb_96 I285) (zs_96 I285) (by omega) ?_
                  have I288 := ua_96 (k := 347) (x := w287) I285 (by refine ⟨?_, ?_, ?_, ?_, ?_, ?_, ?_, ?_, ?_, ?_, ?_, ?_, ?_, ?_, ?_, ?_, ?_, ?_, ?_, ?_, ?_, ?_, ?_, ?_, ?_, ?_, ?_, ?_, ?_⟩ <;> omega)
                  have R289 : ov_RD (h 96) (h 97) (h 98) (h 90 13) ((ov_up (ov_up h258 96 ((350 + (4 * ((6 * v41) + v5))) + 3) v242) 96 347 w287) 96) ((ov_up (ov_up h258 96 ((350 + (4 * ((6 * v41) + v5))) + 3) v242) 96 347 w287) 97) ((ov_up (ov_up h258 96 ((350 + (4 * ((6 * v41) + v5))) + 3) v242) 96 347 w287) 98) (h 90 13) := by rw [ov_up_row]; exact ov_RD_w R286 (t96_348 I285).2 (by omega)
                  have lt290 : ((ov_up h258 96 ((350 + (4 * ((6 * v41) + v5))) + 3) v242) 96 340) = h258 96 340 := by try rw [ov_up_j (by omega)]; try rw [ov_up_j (by omega)]; try rfl
                  have lt291 : ((ov_up h258 96 ((350 + (4 * ((6 * v41) + v5))) + 3) v242) 96 341) = h258 96 341 := by try rw [ov_up_j (by omega)]; try rw [ov_up_j (by omega)]; try rfl
                  have lt292 : ((ov_up h258 96 ((350 + (4 * ((6 * v41) + v5))) + 3) v242) 96 342) = h258 96 342 := by try rw [ov_up_j (by omega)]; try rw [ov_up_j (by omega)]; try rfl
                  have lt293 : ((ov_up h258 96 ((350 + (4 * ((6 * v41) + v5))) + 3) v242) 96 348) = h258 96 348 := by try rw [ov_up_j (by omega)]; try rw [ov_up_j (by omega)]; try rfl
                  have lt294 : ((ov_up h258 96 ((350 + (4 * ((6 * v41) + v5))) + 3) v242) 96 349) = h258 96 349 := by try rw [ov_up_j (by omega)]; try rw [ov_up_j (by omega)]; try rfl
                  exact ov_retv (st := []) d_219_305 rfl ⟨rfl, I288, (by show (h258 90 2) = (h 90 2) ∧ (h258 90 13) = (h 90 13) ∧ (h258 90 20) = (h 90 20) ∧ (h258 90 22) = (h 90 22) ∧ (h258 90 25) = (h 90 25) ∧ (h258 90 26) = (h 90 26) ∧ (h258 90 28) = (h 90 28) ∧ (h258 90 29) = (h 90 29) ∧ (h258 90 30) = (h 90 30) ∧ (h258 90 34) = (h 90 34) ∧ (h 90 7) ≤ (h258 90 7) ∧ (h258 90 7) ≤ n ∧ (h 90 13) ≤ (h258 90 13) ∧ (h258 90 13) - (h 90 13) ≤ (h258 90 7) - (h 90 7) ∧ ((ov_up h258 96 ((350 + (4 * ((6 * v41) + v5))) + 3) v242) 96 340) = (h 96 340) ∧ ((ov_up h258 96 ((350 + (4 * ((6 * v41) + v5))) + 3) v242) 96 341) = (h 96 341) ∧ ((h258 90 8) = 0 → 1 ≤ (h 96 342) → 1 ≤ ((ov_up h258 96 ((350 + (4 * ((6 * v41) + v5))) + 3) v242) 96 342)) ∧ (1 ≤ (h 96 349) → 1 ≤ ((ov_up h258 96 ((350 + (4 * ((6 * v41) + v5))) + 3) v242) 96 349)); omega), E260, E261, E262, E263, E264, E265, E266, E267, E268, E269, E270, E271, E272, R289.1, R289.2.1, (fun _ w => by show ov_CS ((ov_up (ov_up h258 96 ((350 + (4 * ((6 * v41) + v5))) + 3) v242) 96 347 w287) 96) ((ov_up (ov_up h258 96 ((350 + (4 * ((6 * v41) + v5))) + 3) v242) 96 347 w287) 97) ((ov_up (ov_up h258 96 ((350 + (4 * ((6 * v41) + v5))) + 3) v242) 96 347 w287) 98) (h258 90 13); rw [show (h258 90 13) = h 90 13 by omega]; exact R289.2.2 w)⟩
                · omega
              · skip
                refine ov_blk (ls2 := [(0, ov_r 90), (1, ov_i v5), (2, ov_i v41), (3, ov_i (350 + (4 * ((6 * v41) + v5)))), (4, ov_i v123), (5, ov_i v130), (6, ov_i j164)]) (st2 := [ov_r 90, ov_r 90]) (pc2 := 206) b_219_204_2 rfl rfl ?_
                refine ov_getf (v := ov_i (h146 90 7)) d_219_206 fl_Mo_177 (zb_90 I147) (zs_90 I147) rfl ?_
                have g295 := rg_90_7 I147
                refine ov_blk (ls2 := [(0, ov_r 90), (1, ov_i v5), (2, ov_i v41), (3, ov_i (350 + (4 * ((6 * v41) + v5)))), (4, ov_i v123), (5, ov_i v130), (6, ov_i j164)]) (st2 := [ov_i ((h146 90 7) - 1), ov_r 90]) (pc2 := 211) b_219_209_2 rfl rfl ?_
                refine ov_putf (x := ((h146 90 7) - 1)) d_219_211 fl_Mo_177 (zb_90 I147) (zs_90 I147) rfl nk_0 rfl ?_
                have I296 := up_90_7 (x := ((h146 90 7) - 1)) I147 (by omega)
                refine ov_blk (ls2 := [(0, ov_r 90), (1, ov_i v5), (2, ov_i v41), (3, ov_i (350 + (4 * ((6 * v41) + v5)))), (4, ov_i v123), (5, ov_i v130), (6, ov_i j164)]) (st2 := [ov_i 4, ov_r 90]) (pc2 := 216) b_219_214_2 rfl rfl ?_
                refine ov_cV (as := [ov_i 4]) (st := []) (d2 := d - 1) d_219_216 lk_Mo_186 rfl (Nat.le_of_ble_eq_true rfl) (c := 1) (zb_90 I296) (zs_90 I296) ⟨by decide, rfl⟩ (by omega) (c_Mo_wrong_90 (d - 1) (by omega) U I296 4 (by omega) (by omega)) ?_
                rintro _ z312 h313 ⟨rfl, I314, f297, e298, e299, e300, e301, e302, e303, e304, e305, e306, e307, e308, e309, e310, e311⟩
                have E315 : h313 92 = h 92 := Eq.trans e298 E148
                have E316 : h313 93 = h 93 := Eq.trans e299 E149
                have E317 : h313 94 = h 94 := Eq.trans e300 E150
                have E318 : h313 95 = h 95 := Eq.trans e301 E151
                have E319 : h313 96 = h 96 := Eq.trans e302 E152
                have E320 : h313 97 = h 97 := Eq.trans e303 E153
                have E321 : h313 98 = h 98 := Eq.trans e304 E154
                have E322 : h313 99 = h 99 := Eq.trans e305 E155
                have E323 : h313 100 = h 100 := Eq.trans e306 E156
                have E324 : h313 103 = h 103 := Eq.trans e307 E157
                have E325 : h313 105 = h 105 := Eq.trans e308 E158
                have E326 : h313 106 = h 106 := Eq.trans e309 E159
                have E327 : h313 109 = h 109 := Eq.trans e310 E160
                have E328 : h313 114 = h 114 := Eq.trans e311 E161
                show ov_R u d ov_m219 219 [(0, ov_r 90), (1, ov_i v5), (2, ov_i v41), (3, ov_i (350 + (4 * ((6 * v41) + v5)))), (4, ov_i v123), (5, ov_i v130), (6, ov_i j164)] [] z312 h313 (P_Mo_readLight_90 F z h n)
                have f329 : (h313 90 2) = (h146 90 2) ∧ (h313 90 7) = ((h146 90 7) - 1) ∧ (h313 90 13) = (h146 90 13) ∧ (h313 90 20) = (h146 90 20) ∧ (h313 90 22) = (h146 90 22) ∧ (h313 90 25) = (h146 90 25) ∧ (h313 90 26) = (h146 90 26) ∧ (h313 90 28) = (h146 90 28) ∧ (h313 90 29) = (h146 90 29) ∧ (h313 90 30) = (h146 90 30) ∧ (h313 90 34) = (h146 90 34) ∧ 0 < (h313 90 8) ∧ (h146 90 8) ≤ (h313 90 8) := f297
                clear f297
                refine ov_blk (ls2 := [(0, ov_r 90), (1, ov_i v5), (2, ov_i v41), (3, ov_i (350 + (4 * ((6 * v41) + v5)))), (4, ov_i v123), (5, ov_i v130), (6, ov_i j164)]) (st2 := [ov_r 90]) (pc2 := 220) b_219_219_1 rfl rfl ?_
                refine ov_getf (v := ov_i (h313 90 8)) d_219_220 fl_Mo_180 (zb_90 I314) (zs_90 I314) rfl ?_
                have g330 := rg_90_8 I314
                refine ov_ifle (tgt := 227) d_219_223 (by decide) (by omega) (fun c331 => ?_) (fun c331 => ?_)
                · omega
                · skip
                  have cf332 : h313 96 340 = h 96 340 := congrFun E319 340
                  have cf333 : h313 96 341 = h 96 341 := congrFun E319 341
                  have cf334 : h313 96 342 = h 96 342 := congrFun E319 342
                  have cf335 : h313 96 349 = h 96 349 := congrFun E319 349
                  have R336 : ov_RD (h 96) (h 97) (h 98) (h 90 13) (h313 96) (h313 97) (h313 98) (h 90 13) := by rw [show h313 96 = h 96 from E319, show h313 97 = h 97 from E320, show h313 98 = h 98 from E321]; exact ov_RD_refl _ _ _ _
                  exact ov_retv (st := []) d_219_226 rfl ⟨rfl, I314, (by show (h313 90 2) = (h 90 2) ∧ (h313 90 13) = (h 90 13) ∧ (h313 90 20) = (h 90 20) ∧ (h313 90 22) = (h 90 22) ∧ (h313 90 25) = (h 90 25) ∧ (h313 90 26) = (h 90 26) ∧ (h313 90 28) = (h 90 28) ∧ (h313 90 29) = (h 90 29) ∧ (h313 90 30) = (h 90 30) ∧ (h313 90 34) = (h 90 34) ∧ (h 90 7) ≤ (h313 90 7) ∧ (h313 90 7) ≤ n ∧ (h 90 13) ≤ (h313 90 13) ∧ (h313 90 13) - (h 90 13) ≤ (h313 90 7) - (h 90 7) ∧ (h313 96 340) = (h 96 340) ∧ (h313 96 341) = (h 96 341) ∧ ((h313 90 8) = 0 → 1 ≤ (h 96 342) → 1 ≤ (h313 96 342)) ∧ (1 ≤ (h 96 349) → 1 ≤ (h313 96 349)); omega), E315, E316, E317, E318, E320, E321, E322, E323, E324, E325, E326, E327, E328, R336.1, R336.2.1, (fun _ w => by show ov_CS (h313 96) (h313 97) (h313 98) (h313 90 13); rw [show (h313 90 13) = h 90 13 by omega]; exact R336.2.2 w)⟩
          refine ov_blk (ls2 := [(0, ov_r 90), (1, ov_i v5), (2, ov_i v41), (3, ov_i (350 + (4 * ((6 * v41) + v5)))), (4, ov_i v123), (5, ov_i v130)]) (st2 := [ov_r 90]) (pc2 := 139) b_219_138_1 rfl rfl ?_
          refine ov_getf (v := ov_i (h146 90 8)) d_219_139 fl_Mo_180 (zb_90 I147) (zs_90 I147) rfl ?_
          have g337 := rg_90_8 I147
          refine ov_ifgt (tgt := 151) d_219_142 (by decide) (by omega) (fun c338 => ?_) (fun c338 => ?_)
          · skip
            refine ov_blk (ls2 := [(0, ov_r 90), (1, ov_i v5), (2, ov_i v41), (3, ov_i (350 + (4 * ((6 * v41) + v5)))), (4, ov_i v123), (5, ov_i v130)]) (st2 := [ov_r 90]) (pc2 := 152) b_219_151_1 rfl rfl ?_
            refine ov_getf (v := ov_r 96) d_219_152 fl_Mo_81 (zb_90 I147) (zs_90 I147) (congrArg ov_r (rg_90_10 I147)) ?_
            refine ov_blk (ls2 := [(0, ov_r 90), (1, ov_i v5), (2, ov_i v41), (3, ov_i (350 + (4 * ((6 * v41) + v5)))), (4, ov_i v123), (5, ov_i v130)]) (st2 := [ov_i 349, ov_r 96]) (pc2 := 158) b_219_155_1 rfl rfl ?_
            refine ov_iald d_219_158 (zb_96 I147) (zs_96 I147) (by omega) ?_
            rw [show h146 96 = h 96 from E152]
            have g339 := t96_349 I
            have em := Int.emod_self (a := (h 96 349))
            refine ov_goto (tgt := 187) d_219_159 (by decide) ?_
            refine ov_blk (ls2 := [(0, ov_r 90), (1, ov_i v5), (2, ov_i v41), (3, ov_i (350 + (4 * ((6 * v41) + v5)))), (4, ov_i v123), (5, ov_i v130), (6, ov_i (h 96 349))]) (st2 := []) (pc2 := 189) b_219_187_1 rfl rfl ?_
            exact J163 (h 96 349) (by show 0 ≤ (h 96 349) ∧ (h 96 349) ≤ 72000 ∧ (1 ≤ (h 96 349) → (h146 90 8) = 0 → 1 ≤ (h 96 349)) ∧ ((h146 90 8) = 0 → (h 96 349) % (h 96 349) = 0 ∧ (v123 < 2 → (h 96 349) % v130 = 0)); exact ⟨by omega, by omega, fun u1 u2 => by omega, fun e => ⟨by omega, fun u3 => by omega⟩⟩)
          · skip
            refine ov_blk (ls2 := [(0, ov_r 90), (1, ov_i v5), (2, ov_i v41), (3, ov_i (350 + (4 * ((6 * v41) + v5)))), (4, ov_i v123), (5, ov_i v130)]) (st2 := [ov_i 2, ov_i v123]) (pc2 := 148) b_219_145_2 rfl rfl ?_
            refine ov_iclt (tgt := 162) d_219_148 (by decide) (by omega) (by omega) (fun c340 => ?_) (fun c340 => ?_)
            · skip
              refine ov_blk (ls2 := [(0, ov_r 90), (1, ov_i v5), (2, ov_i v41), (3, ov_i (350 + (4 * ((6 * v41) + v5)))), (4, ov_i v123), (5, ov_i v130)]) (st2 := [ov_r 90]) (pc2 := 163) b_219_162_1 rfl rfl ?_
              refine ov_getf (v := ov_r 96) d_219_163 fl_Mo_81 (zb_90 I147) (zs_90 I147) (congrArg ov_r (rg_90_10 I147)) ?_
              refine ov_blk (ls2 := [(0, ov_r 90), (1, ov_i v5), (2, ov_i v41), (3, ov_i (350 + (4 * ((6 * v41) + v5)))), (4, ov_i v123), (5, ov_i v130)]) (st2 := [ov_i 349, ov_r 96]) (pc2 := 169) b_219_166_1 rfl rfl ?_
              refine ov_iald d_219_169 (zb_96 I147) (zs_96 I147) (by omega) ?_
              rw [show h146 96 = h 96 from E152]
              have g341 := t96_349 I
              refine ov_blk (ls2 := [(0, ov_r 90), (1, ov_i v5), (2, ov_i v41), (3, ov_i (350 + (4 * ((6 * v41) + v5)))), (4, ov_i v123), (5, ov_i v130)]) (st2 := [ov_r 90, ov_i (h 96 349)]) (pc2 := 171) b_219_170_1 rfl rfl ?_
              refine ov_getf (v := ov_r 96) d_219_171 fl_Mo_81 (zb_90 I147) (zs_90 I147) (congrArg ov_r (rg_90_10 I147)) ?_
              refine ov_blk (ls2 := [(0, ov_r 90), (1, ov_i v5), (2, ov_i v41), (3, ov_i (350 + (4 * ((6 * v41) + v5)))), (4, ov_i v123), (5, ov_i v130)]) (st2 := [ov_i 349, ov_r 96, ov_i (h 96 349)]) (pc2 := 177) b_219_174_1 rfl rfl ?_
              refine ov_iald d_219_177 (zb_96 I147) (zs_96 I147) (by omega) ?_
              rw [show h146 96 = h 96 from E152]
              refine ov_blk (ls2 := [(0, ov_r 90), (1, ov_i v5), (2, ov_i v41), (3, ov_i (350 + (4 * ((6 * v41) + v5)))), (4, ov_i v123), (5, ov_i v130)]) (st2 := [ov_i v130, ov_i (h 96 349), ov_i (h 96 349)]) (pc2 := 180) b_219_178_1 rfl rfl ?_
              refine ov_cS (as := [ov_i (h 96 349), ov_i v130]) (st := [ov_i (h 96 349)]) (d2 := d - 1) d_219_180 lk_Mo_236 rfl (Nat.le_of_ble_eq_true rfl) (by omega) (c_Mo_common (d - 1) (by omega) U I147 (h 96 349) v130 (by omega) (by omega) (by omega) (by omega)) ?_
              rintro _ _ _ ⟨v344, rfl, rfl, rfl, f343, y345⟩
              show ov_R u d ov_m219 183 [(0, ov_r 90), (1, ov_i v5), (2, ov_i v41), (3, ov_i (350 + (4 * ((6 * v41) + v5)))), (4, ov_i v123), (5, ov_i v130)] [ov_i v344, ov_i (h 96 349)] z145 h146 (P_Mo_readLight_90 F z h n)
              have f346 : 1 ≤ v344 ∧ v344 ≤ 1200 ∧ (1 ≤ (h 96 349) → v344 ≤ (h 96 349)) := f343
              clear f343
              have y345_ : (h 96 349) % v344 = 0 ∧ v130 % v344 = 0 := y345
              have gd := ov_tdp (a := (h 96 349)) (b := v344) (by omega) (by omega)
              refine ov_idiv d_219_183 (by omega) (by omega) (by omega) ?_
              have g347 := ov_tdl (a := (h 96 349)) (b := v344) (by omega) (by omega)
              refine ov_blk (ls2 := [(0, ov_r 90), (1, ov_i v5), (2, ov_i v41), (3, ov_i (350 + (4 * ((6 * v41) + v5)))), (4, ov_i v123), (5, ov_i v130)]) (st2 := [ov_i v130, ov_i (Int.tdiv (h 96 349) v344)]) (pc2 := 186) b_219_184_1 rfl rfl ?_
              have gq := ov_mulb (q := (Int.tdiv (h 96 349) v344)) (b := v130) (A := 1200) (B := 60) (by omega) (by omega) (by omega) (by omega)
              have gl := ov_lcmd (a := (h 96 349)) (b := v130) (g := v344) (by omega) y345_.1 y345_.2
              have gp : 1 ≤ (Int.tdiv (h 96 349) v344) → 1 ≤ v130 → 1 ≤ (Int.tdiv (h 96 349) v344) * v130 := fun u1 u2 => by have := Int.mul_le_mul u1 u2 (by decide) (by omega); omega
              refine ov_blk (ls2 := [(0, ov_r 90), (1, ov_i v5), (2, ov_i v41), (3, ov_i (350 + (4 * ((6 * v41) + v5)))), (4, ov_i v123), (5, ov_i v130), (6, ov_i ((Int.tdiv (h 96 349) v344) * v130))]) (st2 := []) (pc2 := 189) b_219_186_2 rfl rfl ?_
              exact J163 ((Int.tdiv (h 96 349) v344) * v130) (by show 0 ≤ ((Int.tdiv (h 96 349) v344) * v130) ∧ ((Int.tdiv (h 96 349) v344) * v130) ≤ 72000 ∧ (1 ≤ (h 96 349) → (h146 90 8) = 0 → 1 ≤ ((Int.tdiv (h 96 349) v344) * v130)) ∧ ((h146 90 8) = 0 → ((Int.tdiv (h 96 349) v344) * v130) % (h 96 349) = 0 ∧ (v123 < 2 → ((Int.tdiv (h 96 349) v344) * v130) % v130 = 0)); exact ⟨by omega, by omega, fun u1 u2 => by omega, fun e => ⟨by omega, fun u3 => by omega⟩⟩)
            · skip
              refine ov_blk (ls2 := [(0, ov_r 90), (1, ov_i v5), (2, ov_i v41), (3, ov_i (350 + (4 * ((6 * v41) + v5)))), (4, ov_i v123), (5, ov_i v130)]) (st2 := [ov_r 90]) (pc2 := 152) b_219_151_1 rfl rfl ?_
              refine ov_getf (v := ov_r 96) d_219_152 fl_Mo_81 (zb_90 I147) (zs_90 I147) (congrArg ov_r (rg_90_10 I147)) ?_
              refine ov_blk (ls2 := [(0, ov_r 90), (1, ov_i v5), (2, ov_i v41), (3, ov_i (350 + (4 * ((6 * v41) + v5)))), (4, ov_i v123), (5, ov_i v130)]) (st2 := [ov_i 349, ov_r 96]) (pc2 := 158) b_219_155_1 rfl rfl ?_
              refine ov_iald d_219_158 (zb_96 I147) (zs_96 I147) (by omega) ?_
              rw [show h146 96 = h 96 from E152]
              have g348 := t96_349 I
              have em := Int.emod_self (a := (h 96 349))
              refine ov_goto (tgt := 187) d_219_159 (by decide) ?_
              refine ov_blk (ls2 := [(0, ov_r 90), (1, ov_i v5), (2, ov_i v41), (3, ov_i (350 + (4 * ((6 * v41) + v5)))), (4, ov_i v123), (5, ov_i v130), (6, ov_i (h 96 349))]) (st2 := []) (pc2 := 189) b_219_187_1 rfl rfl ?_
              exact J163 (h 96 349) (by show 0 ≤ (h 96 349) ∧ (h 96 349) ≤ 72000 ∧ (1 ≤ (h 96 349) → (h146 90 8) = 0 → 1 ≤ (h 96 349)) ∧ ((h146 90 8) = 0 → (h 96 349) % (h 96 349) = 0 ∧ (v123 < 2 → (h 96 349) % v130 = 0)); exact ⟨by omega, by omega, fun u1 u2 => by omega, fun e => ⟨by omega, fun u3 => by omega⟩⟩)
        · skip
          refine ov_blk (ls2 := [(0, ov_r 90), (1, ov_i v5), (2, ov_i v41), (3, ov_i (350 + (4 * ((6 * v41) + v5)))), (4, ov_i v123)]) (st2 := [ov_i 1, ov_r 90]) (pc2 := 113) b_219_111_2 rfl rfl ?_
          refine ov_cV (as := [ov_i 1]) (st := []) (d2 := d - 1) d_219_113 lk_Mo_186 rfl (Nat.le_of_ble_eq_true rfl) (c := 1) (zb_90 I58) (zs_90 I58) ⟨by decide, rfl⟩ (by omega) (c_Mo_wrong_90 (d - 1) (by omega) U I58 1 (by omega) (by omega)) ?_
          rintro _ z364 h365 ⟨rfl, I366, f349, e350, e351, e352, e353, e354, e355, e356, e357, e358, e359, e360, e361, e362, e363⟩
          have E367 : h365 92 = h 92 := Eq.trans e350 E59
          have E368 : h365 93 = h 93 := Eq.trans e351 E60
          have E369 : h365 94 = h 94 := Eq.trans e352 E61
          have E370 : h365 95 = h 95 := Eq.trans e353 E62
          have E371 : h365 96 = h 96 := Eq.trans e354 E63
          have E372 : h365 97 = h 97 := Eq.trans e355 E64
          have E373 : h365 98 = h 98 := Eq.trans e356 E65
          have E374 : h365 99 = h 99 := Eq.trans e357 E66
          have E375 : h365 100 = h 100 := Eq.trans e358 E67
          have E376 : h365 103 = h 103 := Eq.trans e359 E68
          have E377 : h365 105 = h 105 := Eq.trans e360 E69
          have E378 : h365 106 = h 106 := Eq.trans e361 E70
          have E379 : h365 109 = h 109 := Eq.trans e362 E71
          have E380 : h365 114 = h 114 := Eq.trans e363 E72
          show ov_R u d ov_m219 116 [(0, ov_r 90), (1, ov_i v5), (2, ov_i v41), (3, ov_i (350 + (4 * ((6 * v41) + v5)))), (4, ov_i v123)] [] z364 h365 (P_Mo_readLight_90 F z h n)
          have f381 : (h365 90 2) = (h57 90 2) ∧ (h365 90 7) = (h57 90 7) ∧ (h365 90 13) = (h57 90 13) ∧ (h365 90 20) = (h57 90 20) ∧ (h365 90 22) = (h57 90 22) ∧ (h365 90 25) = (h57 90 25) ∧ (h365 90 26) = (h57 90 26) ∧ (h365 90 28) = (h57 90 28) ∧ (h365 90 29) = (h57 90 29) ∧ (h365 90 30) = (h57 90 30) ∧ (h365 90 34) = (h57 90 34) ∧ 0 < (h365 90 8) ∧ (h57 90 8) ≤ (h365 90 8) := f349
          clear f349
          have cf382 : h365 96 340 = h 96 340 := congrFun E371 340
          have cf383 : h365 96 341 = h 96 341 := congrFun E371 341
          have cf384 : h365 96 342 = h 96 342 := congrFun E371 342
          have cf385 : h365 96 349 = h 96 349 := congrFun E371 349
          have R386 : ov_RD (h 96) (h 97) (h 98) (h 90 13) (h365 96) (h365 97) (h365 98) (h 90 13) := by rw [show h365 96 = h 96 from E371, show h365 97 = h 97 from E372, show h365 98 = h 98 from E373]; exact ov_RD_refl _ _ _ _
          exact ov_retv (st := []) d_219_116 rfl ⟨rfl, I366, (by show (h365 90 2) = (h 90 2) ∧ (h365 90 13) = (h 90 13) ∧ (h365 90 20) = (h 90 20) ∧ (h365 90 22) = (h 90 22) ∧ (h365 90 25) = (h 90 25) ∧ (h365 90 26) = (h 90 26) ∧ (h365 90 28) = (h 90 28) ∧ (h365 90 29) = (h 90 29) ∧ (h365 90 30) = (h 90 30) ∧ (h365 90 34) = (h 90 34) ∧ (h 90 7) ≤ (h365 90 7) ∧ (h365 90 7) ≤ n ∧ (h 90 13) ≤ (h365 90 13) ∧ (h365 90 13) - (h 90 13) ≤ (h365 90 7) - (h 90 7) ∧ (h365 96 340) = (h 96 340) ∧ (h365 96 341) = (h 96 341) ∧ ((h365 90 8) = 0 → 1 ≤ (h 96 342) → 1 ≤ (h365 96 342)) ∧ (1 ≤ (h 96 349) → 1 ≤ (h365 96 349)); omega), E367, E368, E369, E370, E372, E373, E374, E375, E376, E377, E378, E379, E380, R386.1, R386.2.1, (fun _ w => by show ov_CS (h365 96) (h365 97) (h365 98) (h365 90 13); rw [show (h365 90 13) = h 90 13 by omega]; exact R386.2.2 w)⟩
      · omega
    · skip
      refine ov_blk (ls2 := [(0, ov_r 90), (1, ov_i v5), (2, ov_i v41), (3, ov_i (350 + (4 * ((6 * v41) + v5))))]) (st2 := [ov_r 90, ov_r 90]) (pc2 := 73) b_219_71_2 rfl rfl ?_
      refine ov_getf (v := ov_i (h57 90 7)) d_219_73 fl_Mo_177 (zb_90 I58) (zs_90 I58) rfl ?_
      have g387 := rg_90_7 I58
      refine ov_blk (ls2 := [(0, ov_r 90), (1, ov_i v5), (2, ov_i v41), (3, ov_i (350 + (4 * ((6 * v41) + v5))))]) (st2 := [ov_i ((h57 90 7) - 1), ov_r 90]) (pc2 := 78) b_219_76_2 rfl rfl ?_
      refine ov_putf (x := ((h57 90 7) - 1)) d_219_78 fl_Mo_177 (zb_90 I58) (zs_90 I58) rfl nk_0 rfl ?_
      have I388 := up_90_7 (x := ((h57 90 7) - 1)) I58 (by omega)
      refine ov_blk (ls2 := [(0, ov_r 90), (1, ov_i v5), (2, ov_i v41), (3, ov_i (350 + (4 * ((6 * v41) + v5))))]) (st2 := [ov_i 3, ov_r 90]) (pc2 := 83) b_219_81_2 rfl rfl ?_
      refine ov_cV (as := [ov_i 3]) (st := []) (d2 := d - 1) d_219_83 lk_Mo_186 rfl (Nat.le_of_ble_eq_true rfl) (c := 1) (zb_90 I388) (zs_90 I388) ⟨by decide, rfl⟩ (by omega) (c_Mo_wrong_90 (d - 1) (by omega) U I388 3 (by omega) (by omega)) ?_
      rintro _ z404 h405 ⟨rfl, I406, f389, e390, e391, e392, e393, e394, e395, e396, e397, e398, e399, e400, e401, e402, e403⟩
      have E407 : h405 92 = h 92 := Eq.trans e390 E59
      have E408 : h405 93 = h 93 := Eq.trans e391 E60
      have E409 : h405 94 = h 94 := Eq.trans e392 E61
      have E410 : h405 95 = h 95 := Eq.trans e393 E62
      have E411 : h405 96 = h 96 := Eq.trans e394 E63
      have E412 : h405 97 = h 97 := Eq.trans e395 E64
      have E413 : h405 98 = h 98 := Eq.trans e396 E65
      have E414 : h405 99 = h 99 := Eq.trans e397 E66
      have E415 : h405 100 = h 100 := Eq.trans e398 E67
      have E416 : h405 103 = h 103 := Eq.trans e399 E68
      have E417 : h405 105 = h 105 := Eq.trans e400 E69
      have E418 : h405 106 = h 106 := Eq.trans e401 E70
      have E419 : h405 109 = h 109 := Eq.trans e402 E71
      have E420 : h405 114 = h 114 := Eq.trans e403 E72
      show ov_R u d ov_m219 86 [(0, ov_r 90), (1, ov_i v5), (2, ov_i v41), (3, ov_i (350 + (4 * ((6 * v41) + v5))))] [] z404 h405 (P_Mo_readLight_90 F z h n)
      have f421 : (h405 90 2) = (h57 90 2) ∧ (h405 90 7) = ((h57 90 7) - 1) ∧ (h405 90 13) = (h57 90 13) ∧ (h405 90 20) = (h57 90 20) ∧ (h405 90 22) = (h57 90 22) ∧ (h405 90 25) = (h57 90 25) ∧ (h405 90 26) = (h57 90 26) ∧ (h405 90 28) = (h57 90 28) ∧ (h405 90 29) = (h57 90 29) ∧ (h405 90 30) = (h57 90 30) ∧ (h405 90 34) = (h57 90 34) ∧ 0 < (h405 90 8) ∧ (h57 90 8) ≤ (h405 90 8) := f389
      clear f389
      refine ov_blk (ls2 := [(0, ov_r 90), (1, ov_i v5), (2, ov_i v41), (3, ov_i (350 + (4 * ((6 * v41) + v5))))]) (st2 := [ov_r 90]) (pc2 := 87) b_219_86_1 rfl rfl ?_
      refine ov_getf (v := ov_i (h405 90 8)) d_219_87 fl_Mo_180 (zb_90 I406) (zs_90 I406) rfl ?_
      have g422 := rg_90_8 I406
      refine ov_ifle (tgt := 97) d_219_90 (by decide) (by omega) (fun c423 => ?_) (fun c423 => ?_)
      · omega
      · skip
        refine ov_blk (ls2 := [(0, ov_r 90), (1, ov_i v5), (2, ov_i v41), (3, ov_i (350 + (4 * ((6 * v41) + v5))))]) (st2 := [ov_i (-1)]) (pc2 := 94) b_219_93_1 rfl rfl ?_
        refine ov_goto (tgt := 104) d_219_94 (by decide) ?_
        refine ov_blk (ls2 := [(0, ov_r 90), (1, ov_i v5), (2, ov_i v41), (3, ov_i (350 + (4 * ((6 * v41) + v5)))), (4, ov_i (-1))]) (st2 := [ov_i (-1)]) (pc2 := 108) b_219_104_2 rfl rfl ?_
        refine ov_ifge (tgt := 117) d_219_108 (by decide) (by omega) (fun c424 => ?_) (fun c424 => ?_)
        · omega
        · skip
          refine ov_blk (ls2 := [(0, ov_r 90), (1, ov_i v5), (2, ov_i v41), (3, ov_i (350 + (4 * ((6 * v41) + v5)))), (4, ov_i (-1))]) (st2 := [ov_i 1, ov_r 90]) (pc2 := 113) b_219_111_2 rfl rfl ?_
          refine ov_cV (as := [ov_i 1]) (st := []) (d2 := d - 1) d_219_113 lk_Mo_186 rfl (Nat.le_of_ble_eq_true rfl) (c := 1) (zb_90 I406) (zs_90 I406) ⟨by decide, rfl⟩ (by omega) (c_Mo_wrong_90 (d - 1) (by omega) U I406 1 (by omega) (by omega)) ?_
          rintro _ z440 h441 ⟨rfl, I442, f425, e426, e427, e428, e429, e430, e431, e432, e433, e434, e435, e436, e437, e438, e439⟩
          have E443 : h441 92 = h 92 := Eq.trans e426 E407
          have E444 : h441 93 = h 93 := Eq.trans e427 E408
          have E445 : h441 94 = h 94 := Eq.trans e428 E409
          have E446 : h441 95 = h 95 := Eq.trans e429 E410
          have E447 : h441 96 = h 96 := Eq.trans e430 E411
          have E448 : h441 97 = h 97 := Eq.trans e431 E412
          have E449 : h441 98 = h 98 := Eq.trans e432 E413
          have E450 : h441 99 = h 99 := Eq.trans e433 E414
          have E451 : h441 100 = h 100 := Eq.trans e434 E415
          have E452 : h441 103 = h 103 := Eq.trans e435 E416
          have E453 : h441 105 = h 105 := Eq.trans e436 E417
          have E454 : h441 106 = h 106 := Eq.trans e437 E418
          have E455 : h441 109 = h 109 := Eq.trans e438 E419
          have E456 : h441 114 = h 114 := Eq.trans e439 E420
          show ov_R u d ov_m219 116 [(0, ov_r 90), (1, ov_i v5), (2, ov_i v41), (3, ov_i (350 + (4 * ((6 * v41) + v5)))), (4, ov_i (-1))] [] z440 h441 (P_Mo_readLight_90 F z h n)
          have f457 : (h441 90 2) = (h405 90 2) ∧ (h441 90 7) = (h405 90 7) ∧ (h441 90 13) = (h405 90 13) ∧ (h441 90 20) = (h405 90 20) ∧ (h441 90 22) = (h405 90 22) ∧ (h441 90 25) = (h405 90 25) ∧ (h441 90 26) = (h405 90 26) ∧ (h441 90 28) = (h405 90 28) ∧ (h441 90 29) = (h405 90 29) ∧ (h441 90 30) = (h405 90 30) ∧ (h441 90 34) = (h405 90 34) ∧ 0 < (h441 90 8) ∧ (h405 90 8) ≤ (h441 90 8) := f425
          clear f425
          have cf458 : h441 96 340 = h 96 340 := congrFun E447 340
          have cf459 : h441 96 341 = h 96 341 := congrFun E447 341
          have cf460 : h441 96 342 = h 96 342 := congrFun E447 342
          have cf461 : h441 96 349 = h 96 349 := congrFun E447 349
          have R462 : ov_RD (h 96) (h 97) (h 98) (h 90 13) (h441 96) (h441 97) (h441 98) (h 90 13) := by rw [show h441 96 = h 96 from E447, show h441 97 = h 97 from E448, show h441 98 = h 98 from E449]; exact ov_RD_refl _ _ _ _
          exact ov_retv (st := []) d_219_116 rfl ⟨rfl, I442, (by show (h441 90 2) = (h 90 2) ∧ (h441 90 13) = (h 90 13) ∧ (h441 90 20) = (h 90 20) ∧ (h441 90 22) = (h 90 22) ∧ (h441 90 25) = (h 90 25) ∧ (h441 90 26) = (h 90 26) ∧ (h441 90 28) = (h 90 28) ∧ (h441 90 29) = (h 90 29) ∧ (h441 90 30) = (h 90 30) ∧ (h441 90 34) = (h 90 34) ∧ (h 90 7) ≤ (h441 90 7) ∧ (h441 90 7) ≤ n ∧ (h 90 13) ≤ (h441 90 13) ∧ (h441 90 13) - (h 90 13) ≤ (h441 90 7) - (h 90 7) ∧ (h441 96 340) = (h 96 340) ∧ (h441 96 341) = (h 96 341) ∧ ((h441 90 8) = 0 → 1 ≤ (h 96 342) → 1 ≤ (h441 96 342)) ∧ (1 ≤ (h 96 349) → 1 ≤ (h441 96 349)); omega), E443, E444, E445, E446, E448, E449, E450, E451, E452, E453, E454, E455, E456, R462.1, R462.2.1, (fun _ w => by show ov_CS (h441 96) (h441 97) (h441 98) (h441 90 13); rw [show (h441 90 13) = h 90 13 by omega]; exact R462.2.2 w)⟩

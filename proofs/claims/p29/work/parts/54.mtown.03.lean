abbrev P_Mo_readLight_90 (F : ov_H × ov_Z) (z : ov_Z) (h : ov_H) (n : Int) : Option ov_V → ov_Z → ov_H → Prop := fun r0 z' h' => r0 = none ∧ ov_N F z' h' ∧ ((h' 90 2) = (h 90 2) ∧ (h' 90 13) = (h 90 13) ∧ (h' 90 20) = (h 90 20) ∧ (h' 90 22) = (h 90 22) ∧ (h' 90 25) = (h 90 25) ∧ (h' 90 26) = (h 90 26) ∧ (h' 90 28) = (h 90 28) ∧ (h' 90 29) = (h 90 29) ∧ (h' 90 30) = (h 90 30) ∧ (h' 90 34) = (h 90 34) ∧ (h 90 7) ≤ (h' 90 7) ∧ (h' 90 7) ≤ n ∧ (h 90 13) ≤ (h' 90 13) ∧ (h' 90 13) - (h 90 13) ≤ (h' 90 7) - (h 90 7) ∧ (h' 96 340) = (h 96 340) ∧ (h' 96 341) = (h 96 341) ∧ ((h' 90 8) = 0 → 1 ≤ (h 96 342) → 1 ≤ (h' 96 342)) ∧ (1 ≤ (h 96 349) → 1 ≤ (h' 96 349))) ∧ h' 91 = h 91 ∧ h' 92 = h 92 ∧ h' 93 = h 93 ∧ h' 94 = h 94 ∧ h' 95 = h 95 ∧ h' 97 = h 97 ∧ h' 98 = h 98 ∧ h' 99 = h 99 ∧ h' 100 = h 100 ∧ h' 103 = h 103 ∧ h' 104 = h 104 ∧ h' 105 = h 105 ∧ h' 106 = h 106 ∧ h' 109 = h 109 ∧ h' 114 = h 114 ∧ (ov_MK (h 96) (h 97) (h 98) (h' 96) (h' 97) (h' 98)) ∧ (ov_WS (h 96) → ov_WS (h' 96)) ∧ ((h' 90 8) = 0 → ov_CS (h 96) (h 97) (h 98) (h 90 13) → ov_CS (h' 96) (h' 97) (h' 98) (h' 90 13))
set_option maxHeartbeats 4000000 in
theorem c_Mo_readLight_90 {u : ov_U} {F : ov_H × ov_Z} (n : Int) {z : ov_Z} {h : ov_H} (d : Nat) (hd : 4 ≤ d) (U : ov_cap u) (I : ov_N F z h) (p0 : 0 ≤ n ∧ n ≤ 1000 ∧ (h 92 (n)) = 0 ∧ (h 90 7) ≤ n) (p1 : (h 90 13) ≤ (h 90 7)) (p2 : (h 90 8) = 0) (p3 : (h 90 7) < n) : ov_T u d ov_m219 [ov_r 90] z h (P_Mo_readLight_90 F z h n) := by
  refine ov_en rfl (Nat.le_of_ble_eq_true rfl) ?_
  show ov_R u d ov_m219 0 [(0, ov_r 90)] [] z h (P_Mo_readLight_90 F z h n)
  refine ov_blk (ls2 := [(0, ov_r 90)]) (st2 := [ov_r 90, ov_r 90]) (pc2 := 2) b_219_0_2 rfl rfl ?_
  refine ov_getf (v := ov_i (h 90 7)) d_219_2 fl_Mo_177 (zb_90 I) (zs_90 I) rfl ?_
  have g1 := rg_90_7 I
  refine ov_blk (ls2 := [(0, ov_r 90)]) (st2 := [ov_i ((h 90 7) + 1), ov_r 90]) (pc2 := 7) b_219_5_2 rfl rfl ?_
  refine ov_putf (x := ((h 90 7) + 1)) d_219_7 fl_Mo_177 (zb_90 I) (zs_90 I) rfl nk_0 rfl ?_
  have I2 := up_90_7 (x := ((h 90 7) + 1)) I (by omega)
  refine ov_blk (ls2 := [(0, ov_r 90)]) (st2 := [ov_r 90, ov_i 0, ov_r 90]) (pc2 := 13) b_219_10_3 rfl rfl ?_
  refine ov_getf (v := ov_r 96) d_219_13 fl_Mo_81 (zb_90 I2) (zs_90 I2) (congrArg ov_r (rg_90_10 I2)) ?_
  refine ov_blk (ls2 := [(0, ov_r 90)]) (st2 := [ov_i 340, ov_r 96, ov_i 0, ov_r 90]) (pc2 := 19) b_219_16_1 rfl rfl ?_
  refine ov_iald d_219_19 (zb_96 I2) (zs_96 I2) (by omega) ?_
  show ov_R u d ov_m219 20 [(0, ov_r 90)] [ov_i (h 96 340), ov_i 0, ov_r 90] z (ov_up h 90 7 ((h 90 7) + 1)) (P_Mo_readLight_90 F z h n)
  have g3 := t96_340 I
  refine ov_blk (ls2 := [(0, ov_r 90)]) (st2 := [ov_i ((h 96 340) - 1), ov_i 0, ov_r 90]) (pc2 := 22) b_219_20_2 rfl rfl ?_
  refine ov_cV (as := [ov_i 0, ov_i ((h 96 340) - 1)]) (st := []) (d2 := d - 1) d_219_22 lk_Mo_198 rfl (Nat.le_of_ble_eq_true rfl) (c := 1) (zb_90 I2) (zs_90 I2) ⟨by decide, rfl⟩ (by omega) (c_Mo_takeNumber_90 n (d - 1) (by omega) U I2 0 ((h 96 340) - 1) (by omega) (by omega) (by show 0 ≤ n ∧ n ≤ 1000 ∧ (h 92 (n)) = 0 ∧ ((h 90 7) + 1) ≤ n; omega)) ?_
  rintro _ z22 h23 ⟨v5, rfl, I24, f4, e6, e7, e8, e9, e10, e11, e12, e13, e14, e15, e16, e17, e18, e19, e20, e21⟩
  have E25 : h23 91 = h 91 := e6
  have E26 : h23 92 = h 92 := e7
  have E27 : h23 93 = h 93 := e8
  have E28 : h23 94 = h 94 := e9
  have E29 : h23 95 = h 95 := e10
  have E30 : h23 96 = h 96 := e11
  have E31 : h23 97 = h 97 := e12
  have E32 : h23 98 = h 98 := e13
  have E33 : h23 99 = h 99 := e14
  have E34 : h23 100 = h 100 := e15
  have E35 : h23 103 = h 103 := e16
  have E36 : h23 104 = h 104 := e17
  have E37 : h23 105 = h 105 := e18
  have E38 : h23 106 = h 106 := e19
  have E39 : h23 109 = h 109 := e20
  have E40 : h23 114 = h 114 := e21
  show ov_R u d ov_m219 25 [(0, ov_r 90)] [ov_i v5] z22 h23 (P_Mo_readLight_90 F z h n)
  have f41 : (h23 90 2) = (h 90 2) ∧ (h23 90 13) = (h 90 13) ∧ (h23 90 20) = (h 90 20) ∧ (h23 90 22) = (h 90 22) ∧ (h23 90 25) = (h 90 25) ∧ (h23 90 26) = (h 90 26) ∧ (h23 90 28) = (h 90 28) ∧ (h23 90 29) = (h 90 29) ∧ (h23 90 30) = (h 90 30) ∧ (h23 90 34) = (h 90 34) ∧ ((h 90 7) + 1) ≤ (h23 90 7) ∧ (h23 90 7) ≤ n ∧ (h 90 8) ≤ (h23 90 8) ∧ ((h23 90 8) = 0 → (0 : Int) ≤ v5 ∧ v5 ≤ ((h 96 340) - 1)) ∧ (0 < (h23 90 8) → v5 = 0) ∧ ((h 90 7) + 1) < (h23 90 7) + (h23 90 8) := f4
  clear f4
  refine ov_blk (ls2 := [(0, ov_r 90), (1, ov_i v5)]) (st2 := [ov_r 90, ov_i 0, ov_r 90]) (pc2 := 29) b_219_25_4 rfl rfl ?_
  refine ov_getf (v := ov_r 96) d_219_29 fl_Mo_81 (zb_90 I24) (zs_90 I24) (congrArg ov_r (rg_90_10 I24)) ?_
  refine ov_blk (ls2 := [(0, ov_r 90), (1, ov_i v5)]) (st2 := [ov_i 341, ov_r 96, ov_i 0, ov_r 90]) (pc2 := 35) b_219_32_1 rfl rfl ?_
  refine ov_iald d_219_35 (zb_96 I24) (zs_96 I24) (by omega) ?_
  rw [show h23 96 = h 96 from E30]
  have g42 := t96_341 I
  refine ov_blk (ls2 := [(0, ov_r 90), (1, ov_i v5)]) (st2 := [ov_i ((h 96 341) - 1), ov_i 0, ov_r 90]) (pc2 := 38) b_219_36_2 rfl rfl ?_
  have cf43 : h23 92 (n) = h 92 (n) := congrFun E26 (n)
  refine ov_cV (as := [ov_i 0, ov_i ((h 96 341) - 1)]) (st := []) (d2 := d - 1) d_219_38 lk_Mo_198 rfl (Nat.le_of_ble_eq_true rfl) (c := 1) (zb_90 I24) (zs_90 I24) ⟨by decide, rfl⟩ (by omega) (c_Mo_takeNumber_90 n (d - 1) (by omega) U I24 0 ((h 96 341) - 1) (by omega) (by omega) (by show 0 ≤ n ∧ n ≤ 1000 ∧ (h23 92 (n)) = 0 ∧ (h23 90 7) ≤ n; omega)) ?_
  rintro _ z62 h63 ⟨v45, rfl, I64, f44, e46, e47, e48, e49, e50, e51, e52, e53, e54, e55, e56, e57, e58, e59, e60, e61⟩
  have E65 : h63 91 = h 91 := Eq.trans e46 E25
  have E66 : h63 92 = h 92 := Eq.trans e47 E26
  have E67 : h63 93 = h 93 := Eq.trans e48 E27
  have E68 : h63 94 = h 94 := Eq.trans e49 E28
  have E69 : h63 95 = h 95 := Eq.trans e50 E29
  have E70 : h63 96 = h 96 := Eq.trans e51 E30
  have E71 : h63 97 = h 97 := Eq.trans e52 E31
  have E72 : h63 98 = h 98 := Eq.trans e53 E32
  have E73 : h63 99 = h 99 := Eq.trans e54 E33
  have E74 : h63 100 = h 100 := Eq.trans e55 E34
  have E75 : h63 103 = h 103 := Eq.trans e56 E35
  have E76 : h63 104 = h 104 := Eq.trans e57 E36
  have E77 : h63 105 = h 105 := Eq.trans e58 E37
  have E78 : h63 106 = h 106 := Eq.trans e59 E38
  have E79 : h63 109 = h 109 := Eq.trans e60 E39
  have E80 : h63 114 = h 114 := Eq.trans e61 E40
  show ov_R u d ov_m219 41 [(0, ov_r 90), (1, ov_i v5)] [ov_i v45] z62 h63 (P_Mo_readLight_90 F z h n)
  have f81 : (h63 90 2) = (h23 90 2) ∧ (h63 90 13) = (h23 90 13) ∧ (h63 90 20) = (h23 90 20) ∧ (h63 90 22) = (h23 90 22) ∧ (h63 90 25) = (h23 90 25) ∧ (h63 90 26) = (h23 90 26) ∧ (h63 90 28) = (h23 90 28) ∧ (h63 90 29) = (h23 90 29) ∧ (h63 90 30) = (h23 90 30) ∧ (h63 90 34) = (h23 90 34) ∧ (h23 90 7) ≤ (h63 90 7) ∧ (h63 90 7) ≤ n ∧ (h23 90 8) ≤ (h63 90 8) ∧ ((h63 90 8) = 0 → (0 : Int) ≤ v45 ∧ v45 ≤ ((h 96 341) - 1)) ∧ (0 < (h63 90 8) → v45 = 0) ∧ (h23 90 7) < (h63 90 7) + (h63 90 8) := f44
  clear f44
  refine ov_blk (ls2 := [(0, ov_r 90), (1, ov_i v5), (2, ov_i v45), (3, ov_i (350 + (4 * ((6 * v45) + v5))))]) (st2 := [ov_r 90]) (pc2 := 56) b_219_41_12 rfl rfl ?_
  refine ov_getf (v := ov_i (h63 90 8)) d_219_56 fl_Mo_180 (zb_90 I64) (zs_90 I64) rfl ?_
  have g82 := rg_90_8 I64
  refine ov_ifne (tgt := 86) d_219_59 (by decide) (by omega) (fun c83 => ?_) (fun c83 => ?_)
  · skip
    refine ov_blk (ls2 := [(0, ov_r 90), (1, ov_i v5), (2, ov_i v45), (3, ov_i (350 + (4 * ((6 * v45) + v5))))]) (st2 := [ov_r 90]) (pc2 := 87) b_219_86_1 rfl rfl ?_
    refine ov_getf (v := ov_i (h63 90 8)) d_219_87 fl_Mo_180 (zb_90 I64) (zs_90 I64) rfl ?_
    refine ov_ifle (tgt := 97) d_219_90 (by decide) (by omega) (fun c85 => ?_) (fun c85 => ?_)
    · omega
    · skip
      refine ov_blk (ls2 := [(0, ov_r 90), (1, ov_i v5), (2, ov_i v45), (3, ov_i (350 + (4 * ((6 * v45) + v5))))]) (st2 := [ov_i (-1)]) (pc2 := 94) b_219_93_1 rfl rfl ?_
      refine ov_goto (tgt := 104) d_219_94 (by decide) ?_
      refine ov_blk (ls2 := [(0, ov_r 90), (1, ov_i v5), (2, ov_i v45), (3, ov_i (350 + (4 * ((6 * v45) + v5)))), (4, ov_i (-1))]) (st2 := [ov_i (-1)]) (pc2 := 108) b_219_104_2 rfl rfl ?_
      refine ov_ifge (tgt := 117) d_219_108 (by decide) (by omega) (fun c86 => ?_) (fun c86 => ?_)
      · omega
      · skip
        refine ov_blk (ls2 := [(0, ov_r 90), (1, ov_i v5), (2, ov_i v45), (3, ov_i (350 + (4 * ((6 * v45) + v5)))), (4, ov_i (-1))]) (st2 := [ov_i 1, ov_r 90]) (pc2 := 113) b_219_111_2 rfl rfl ?_
        refine ov_cV (as := [ov_i 1]) (st := []) (d2 := d - 1) d_219_113 lk_Mo_186 rfl (Nat.le_of_ble_eq_true rfl) (c := 1) (zb_90 I64) (zs_90 I64) ⟨by decide, rfl⟩ (by omega) (c_Mo_wrong_90 (d - 1) (by omega) U I64 1 (by omega) (by omega)) ?_
        rintro _ z104 h105 ⟨rfl, I106, f87, e88, e89, e90, e91, e92, e93, e94, e95, e96, e97, e98, e99, e100, e101, e102, e103⟩
        have E107 : h105 91 = h 91 := Eq.trans e88 E65
        have E108 : h105 92 = h 92 := Eq.trans e89 E66
        have E109 : h105 93 = h 93 := Eq.trans e90 E67
        have E110 : h105 94 = h 94 := Eq.trans e91 E68
        have E111 : h105 95 = h 95 := Eq.trans e92 E69
        have E112 : h105 96 = h 96 := Eq.trans e93 E70
        have E113 : h105 97 = h 97 := Eq.trans e94 E71
        have E114 : h105 98 = h 98 := Eq.trans e95 E72
        have E115 : h105 99 = h 99 := Eq.trans e96 E73
        have E116 : h105 100 = h 100 := Eq.trans e97 E74
        have E117 : h105 103 = h 103 := Eq.trans e98 E75
        have E118 : h105 104 = h 104 := Eq.trans e99 E76
        have E119 : h105 105 = h 105 := Eq.trans e100 E77
        have E120 : h105 106 = h 106 := Eq.trans e101 E78
        have E121 : h105 109 = h 109 := Eq.trans e102 E79
        have E122 : h105 114 = h 114 := Eq.trans e103 E80
        show ov_R u d ov_m219 116 [(0, ov_r 90), (1, ov_i v5), (2, ov_i v45), (3, ov_i (350 + (4 * ((6 * v45) + v5)))), (4, ov_i (-1))] [] z104 h105 (P_Mo_readLight_90 F z h n)
        have f123 : (h105 90 2) = (h63 90 2) ∧ (h105 90 7) = (h63 90 7) ∧ (h105 90 13) = (h63 90 13) ∧ (h105 90 20) = (h63 90 20) ∧ (h105 90 22) = (h63 90 22) ∧ (h105 90 25) = (h63 90 25) ∧ (h105 90 26) = (h63 90 26) ∧ (h105 90 28) = (h63 90 28) ∧ (h105 90 29) = (h63 90 29) ∧ (h105 90 30) = (h63 90 30) ∧ (h105 90 34) = (h63 90 34) ∧ 0 < (h105 90 8) ∧ (h63 90 8) ≤ (h105 90 8) := f87
        clear f87
        have cf124 : h105 96 340 = h 96 340 := congrFun E112 340
        have cf125 : h105 96 341 = h 96 341 := congrFun E112 341
        have cf126 : h105 96 342 = h 96 342 := congrFun E112 342
        have cf127 : h105 96 349 = h 96 349 := congrFun E112 349
        have R128 : ov_RD (h 96) (h 97) (h 98) (h 90 13) (h105 96) (h105 97) (h105 98) (h 90 13) := by rw [show h105 96 = h 96 from E112, show h105 97 = h 97 from E113, show h105 98 = h 98 from E114]; exact ov_RD_refl _ _ _ _
        exact ov_retv (st := []) d_219_116 rfl ⟨rfl, I106, (by show (h105 90 2) = (h 90 2) ∧ (h105 90 13) = (h 90 13) ∧ (h105 90 20) = (h 90 20) ∧ (h105 90 22) = (h 90 22) ∧ (h105 90 25) = (h 90 25) ∧ (h105 90 26) = (h 90 26) ∧ (h105 90 28) = (h 90 28) ∧ (h105 90 29) = (h 90 29) ∧ (h105 90 30) = (h 90 30) ∧ (h105 90 34) = (h 90 34) ∧ (h 90 7) ≤ (h105 90 7) ∧ (h105 90 7) ≤ n ∧ (h 90 13) ≤ (h105 90 13) ∧ (h105 90 13) - (h 90 13) ≤ (h105 90 7) - (h 90 7) ∧ (h105 96 340) = (h 96 340) ∧ (h105 96 341) = (h 96 341) ∧ ((h105 90 8) = 0 → 1 ≤ (h 96 342) → 1 ≤ (h105 96 342)) ∧ (1 ≤ (h 96 349) → 1 ≤ (h105 96 349)); omega), E107, E108, E109, E110, E111, E113, E114, E115, E116, E117, E118, E119, E120, E121, E122, R128.1, R128.2.1, (fun _ w => by show ov_CS (h105 96) (h105 97) (h105 98) (h105 90 13); rw [show (h105 90 13) = h 90 13 by omega]; exact R128.2.2 w)⟩
  · skip
    refine ov_blk (ls2 := [(0, ov_r 90), (1, ov_i v5), (2, ov_i v45), (3, ov_i (350 + (4 * ((6 * v45) + v5))))]) (st2 := [ov_r 90]) (pc2 := 63) b_219_62_1 rfl rfl ?_
    refine ov_getf (v := ov_r 96) d_219_63 fl_Mo_81 (zb_90 I64) (zs_90 I64) (congrArg ov_r (rg_90_10 I64)) ?_
    refine ov_blk (ls2 := [(0, ov_r 90), (1, ov_i v5), (2, ov_i v45), (3, ov_i (350 + (4 * ((6 * v45) + v5))))]) (st2 := [ov_i (350 + (4 * ((6 * v45) + v5))), ov_r 96]) (pc2 := 67) b_219_66_1 rfl rfl ?_
    refine ov_iald d_219_67 (zb_96 I64) (zs_96 I64) (by omega) ?_
    rw [show h63 96 = h 96 from E70]
    have g129 := g96 I (350 + (4 * ((6 * v45) + v5)))
    refine ov_ifle (tgt := 86) d_219_68 (by decide) (by omega) (fun c130 => ?_) (fun c130 => ?_)
    · skip
      refine ov_blk (ls2 := [(0, ov_r 90), (1, ov_i v5), (2, ov_i v45), (3, ov_i (350 + (4 * ((6 * v45) + v5))))]) (st2 := [ov_r 90]) (pc2 := 87) b_219_86_1 rfl rfl ?_
      refine ov_getf (v := ov_i (h63 90 8)) d_219_87 fl_Mo_180 (zb_90 I64) (zs_90 I64) rfl ?_
      refine ov_ifle (tgt := 97) d_219_90 (by decide) (by omega) (fun c132 => ?_) (fun c132 => ?_)
      · skip
        refine ov_blk (ls2 := [(0, ov_r 90), (1, ov_i v5), (2, ov_i v45), (3, ov_i (350 + (4 * ((6 * v45) + v5))))]) (st2 := [ov_i 4, ov_i 13, ov_r 90]) (pc2 := 101) b_219_97_3 rfl rfl ?_
        have cf133 : h63 92 (n) = h 92 (n) := congrFun E66 (n)
        refine ov_cV (as := [ov_i 13, ov_i 4]) (st := []) (d2 := d - 1) d_219_101 lk_Mo_202 rfl (Nat.le_of_ble_eq_true rfl) (c := 1) (zb_90 I64) (zs_90 I64) ⟨by decide, rfl⟩ (by omega) (c_Mo_wordHere_90 n (d - 1) (by omega) U I64 13 4 (by omega) (by omega) (by show 0 ≤ n ∧ n ≤ 1000 ∧ (h63 92 (n)) = 0 ∧ (h63 90 7) ≤ n; omega) (by omega)) ?_
        rintro _ _ _ ⟨v135, rfl, rfl, rfl, f134⟩
        show ov_R u d ov_m219 104 [(0, ov_r 90), (1, ov_i v5), (2, ov_i v45), (3, ov_i (350 + (4 * ((6 * v45) + v5))))] [ov_i v135] z62 h63 (P_Mo_readLight_90 F z h n)
        have f136 : -1 ≤ v135 ∧ v135 < (4 : Int) ∧ (0 ≤ v135 → (h63 90 7) < n ∧ (h63 90 8) = 0) := f134
        clear f134
        refine ov_blk (ls2 := [(0, ov_r 90), (1, ov_i v5), (2, ov_i v45), (3, ov_i (350 + (4 * ((6 * v45) + v5)))), (4, ov_i v135)]) (st2 := [ov_i v135]) (pc2 := 108) b_219_104_2 rfl rfl ?_
        refine ov_ifge (tgt := 117) d_219_108 (by decide) (by omega) (fun c137 => ?_) (fun c137 => ?_)
        · skip
          refine ov_blk (ls2 := [(0, ov_r 90), (1, ov_i v5), (2, ov_i v45), (3, ov_i (350 + (4 * ((6 * v45) + v5)))), (4, ov_i v135)]) (st2 := [ov_r 90, ov_r 90]) (pc2 := 119) b_219_117_2 rfl rfl ?_
          refine ov_getf (v := ov_i (h63 90 7)) d_219_119 fl_Mo_177 (zb_90 I64) (zs_90 I64) rfl ?_
          have g138 := rg_90_7 I64
          refine ov_blk (ls2 := [(0, ov_r 90), (1, ov_i v5), (2, ov_i v45), (3, ov_i (350 + (4 * ((6 * v45) + v5)))), (4, ov_i v135)]) (st2 := [ov_i ((h63 90 7) + 1), ov_r 90]) (pc2 := 124) b_219_122_2 rfl rfl ?_
          refine ov_putf (x := ((h63 90 7) + 1)) d_219_124 fl_Mo_177 (zb_90 I64) (zs_90 I64) rfl nk_0 rfl ?_
          have I139 := up_90_7 (x := ((h63 90 7) + 1)) I64 (by omega)
          refine ov_blk (ls2 := [(0, ov_r 90), (1, ov_i v5), (2, ov_i v45), (3, ov_i (350 + (4 * ((6 * v45) + v5)))), (4, ov_i v135)]) (st2 := [ov_i 60, ov_i 1, ov_i 9, ov_r 90]) (pc2 := 133) b_219_127_4 rfl rfl ?_
          have cf140 : h63 92 (n) = h 92 (n) := congrFun E66 (n)
          refine ov_cV (as := [ov_i 9, ov_i 1, ov_i 60]) (st := []) (d2 := d - 1) d_219_133 lk_Mo_232 rfl (Nat.le_of_ble_eq_true rfl) (c := 1) (zb_90 I139) (zs_90 I139) ⟨by decide, rfl⟩ (by omega) (c_Mo_takeAfter_90 n (d - 1) (by omega) U I139 9 1 60 (by omega) (by omega) (by omega) (by show 0 ≤ n ∧ n ≤ 1000 ∧ (h63 92 (n)) = 0 ∧ ((h63 90 7) + 1) ≤ n; omega) (by omega)) ?_
          rintro _ z159 h160 ⟨v142, rfl, I161, f141, e143, e144, e145, e146, e147, e148, e149, e150, e151, e152, e153, e154, e155, e156, e157, e158⟩
          have E162 : h160 91 = h 91 := Eq.trans e143 E65
          have E163 : h160 92 = h 92 := Eq.trans e144 E66
          have E164 : h160 93 = h 93 := Eq.trans e145 E67
          have E165 : h160 94 = h 94 := Eq.trans e146 E68
          have E166 : h160 95 = h 95 := Eq.trans e147 E69
          have E167 : h160 96 = h 96 := Eq.trans e148 E70
          have E168 : h160 97 = h 97 := Eq.trans e149 E71
          have E169 : h160 98 = h 98 := Eq.trans e150 E72
          have E170 : h160 99 = h 99 := Eq.trans e151 E73
          have E171 : h160 100 = h 100 := Eq.trans e152 E74
          have E172 : h160 103 = h 103 := Eq.trans e153 E75
          have E173 : h160 104 = h 104 := Eq.trans e154 E76
          have E174 : h160 105 = h 105 := Eq.trans e155 E77
          have E175 : h160 106 = h 106 := Eq.trans e156 E78
          have E176 : h160 109 = h 109 := Eq.trans e157 E79
          have E177 : h160 114 = h 114 := Eq.trans e158 E80
          show ov_R u d ov_m219 136 [(0, ov_r 90), (1, ov_i v5), (2, ov_i v45), (3, ov_i (350 + (4 * ((6 * v45) + v5)))), (4, ov_i v135)] [ov_i v142] z159 h160 (P_Mo_readLight_90 F z h n)
          have f178 : (h160 90 2) = (h63 90 2) ∧ (h160 90 13) = (h63 90 13) ∧ (h160 90 20) = (h63 90 20) ∧ (h160 90 22) = (h63 90 22) ∧ (h160 90 25) = (h63 90 25) ∧ (h160 90 26) = (h63 90 26) ∧ (h160 90 28) = (h63 90 28) ∧ (h160 90 29) = (h63 90 29) ∧ (h160 90 30) = (h63 90 30) ∧ (h160 90 34) = (h63 90 34) ∧ ((h63 90 7) + 1) ≤ (h160 90 7) ∧ (h160 90 7) ≤ n ∧ (h63 90 8) ≤ (h160 90 8) ∧ ((h160 90 8) = 0 → (1 : Int) ≤ v142 ∧ v142 ≤ (60 : Int)) ∧ (0 < (h160 90 8) → v142 = 0) := f141
          clear f141
          refine ov_blk (ls2 := [(0, ov_r 90), (1, ov_i v5), (2, ov_i v45), (3, ov_i (350 + (4 * ((6 * v45) + v5)))), (4, ov_i v135), (5, ov_i v142)]) (st2 := []) (pc2 := 138) b_219_136_1 rfl rfl ?_
          have J179 : ∀ (j180 : Int) (q181 : 0 ≤ j180 ∧ j180 ≤ 72000 ∧ (1 ≤ (h 96 349) → (h160 90 8) = 0 → 1 ≤ j180) ∧ ((h160 90 8) = 0 → j180 % (h 96 349) = 0 ∧ (v135 < 2 → j180 % v142 = 0))), ov_R u d ov_m219 189 [(0, ov_r 90), (1, ov_i v5), (2, ov_i v45), (3, ov_i (350 + (4 * ((6 * v45) + v5)))), (4, ov_i v135), (5, ov_i v142), (6, ov_i j180)] [] z159 h160 (P_Mo_readLight_90 F z h n) := by
            intro j180 q181
            refine ov_blk (ls2 := [(0, ov_r 90), (1, ov_i v5), (2, ov_i v45), (3, ov_i (350 + (4 * ((6 * v45) + v5)))), (4, ov_i v135), (5, ov_i v142), (6, ov_i j180)]) (st2 := [ov_r 90]) (pc2 := 190) b_219_189_1 rfl rfl ?_
            refine ov_getf (v := ov_i (h160 90 8)) d_219_190 fl_Mo_180 (zb_90 I161) (zs_90 I161) rfl ?_
            have g182 := rg_90_8 I161
            refine ov_ifne (tgt := 219) d_219_193 (by decide) (by omega) (fun c183 => ?_) (fun c183 => ?_)
            · skip
              refine ov_blk (ls2 := [(0, ov_r 90), (1, ov_i v5), (2, ov_i v45), (3, ov_i (350 + (4 * ((6 * v45) + v5)))), (4, ov_i v135), (5, ov_i v142), (6, ov_i j180)]) (st2 := [ov_r 90]) (pc2 := 220) b_219_219_1 rfl rfl ?_
              refine ov_getf (v := ov_i (h160 90 8)) d_219_220 fl_Mo_180 (zb_90 I161) (zs_90 I161) rfl ?_
              refine ov_ifle (tgt := 227) d_219_223 (by decide) (by omega) (fun c185 => ?_) (fun c185 => ?_)
              · omega
              · skip
                have cf186 : h160 96 340 = h 96 340 := congrFun E167 340
                have cf187 : h160 96 341 = h 96 341 := congrFun E167 341
                have cf188 : h160 96 342 = h 96 342 := congrFun E167 342
                have cf189 : h160 96 349 = h 96 349 := congrFun E167 349
                have R190 : ov_RD (h 96) (h 97) (h 98) (h 90 13) (h160 96) (h160 97) (h160 98) (h 90 13) := by rw [show h160 96 = h 96 from E167, show h160 97 = h 97 from E168, show h160 98 = h 98 from E169]; exact ov_RD_refl _ _ _ _
                exact ov_retv (st := []) d_219_226 rfl ⟨rfl, I161, (by show (h160 90 2) = (h 90 2) ∧ (h160 90 13) = (h 90 13) ∧ (h160 90 20) = (h 90 20) ∧ (h160 90 22) = (h 90 22) ∧ (h160 90 25) = (h 90 25) ∧ (h160 90 26) = (h 90 26) ∧ (h160 90 28) = (h 90 28) ∧ (h160 90 29) = (h 90 29) ∧ (h160 90 30) = (h 90 30) ∧ (h160 90 34) = (h 90 34) ∧ (h 90 7) ≤ (h160 90 7) ∧ (h160 90 7) ≤ n ∧ (h 90 13) ≤ (h160 90 13) ∧ (h160 90 13) - (h 90 13) ≤ (h160 90 7) - (h 90 7) ∧ (h160 96 340) = (h 96 340) ∧ (h160 96 341) = (h 96 341) ∧ ((h160 90 8) = 0 → 1 ≤ (h 96 342) → 1 ≤ (h160 96 342)) ∧ (1 ≤ (h 96 349) → 1 ≤ (h160 96 349)); omega), E162, E163, E164, E165, E166, E168, E169, E170, E171, E172, E173, E174, E175, E176, E177, R190.1, R190.2.1, (fun _ w => by show ov_CS (h160 96) (h160 97) (h160 98) (h160 90 13); rw [show (h160 90 13) = h 90 13 by omega]; exact R190.2.2 w)⟩
            · skip
              refine ov_blk (ls2 := [(0, ov_r 90), (1, ov_i v5), (2, ov_i v45), (3, ov_i (350 + (4 * ((6 * v45) + v5)))), (4, ov_i v135), (5, ov_i v142), (6, ov_i j180)]) (st2 := [ov_i 1200, ov_i j180]) (pc2 := 201) b_219_196_2 rfl rfl ?_
              refine ov_icle (tgt := 219) d_219_201 (by decide) (by omega) (by omega) (fun c191 => ?_) (fun c191 => ?_)
              · skip
                refine ov_blk (ls2 := [(0, ov_r 90), (1, ov_i v5), (2, ov_i v45), (3, ov_i (350 + (4 * ((6 * v45) + v5)))), (4, ov_i v135), (5, ov_i v142), (6, ov_i j180)]) (st2 := [ov_r 90]) (pc2 := 220) b_219_219_1 rfl rfl ?_
                refine ov_getf (v := ov_i (h160 90 8)) d_219_220 fl_Mo_180 (zb_90 I161) (zs_90 I161) rfl ?_
                refine ov_ifle (tgt := 227) d_219_223 (by decide) (by omega) (fun c193 => ?_) (fun c193 => ?_)
                · skip
                  obtain ⟨ja, jb, jc, jd⟩ := q181
                  have j8 : h160 90 8 = 0 := by omega
                  have jl := fun u => jc u j8
                  have jm := (jd j8).1
                  have jn : Unit → v135 < 2 → j180 % v142 = 0 := fun _ => (jd j8).2
                  clear jc jd
                  have k194 : (h23 90 2) = (h 90 2) ∧ (h23 90 13) = (h 90 13) ∧ (h23 90 20) = (h 90 20) ∧ (h23 90 22) = (h 90 22) ∧ (h23 90 25) = (h 90 25) ∧ (h23 90 26) = (h 90 26) ∧ (h23 90 28) = (h 90 28) ∧ (h23 90 29) = (h 90 29) ∧ (h23 90 30) = (h 90 30) ∧ (h23 90 34) = (h 90 34) ∧ ((h 90 7) + 1) ≤ (h23 90 7) ∧ (h23 90 7) ≤ n ∧ (h 90 8) ≤ (h23 90 8) ∧ ((0 : Int) ≤ v5 ∧ v5 ≤ ((h 96 340) - 1)) ∧ ((h 90 7) + 1) < (h23 90 7) + (h23 90 8) := ⟨f41.1, f41.2.1, f41.2.2.1, f41.2.2.2.1, f41.2.2.2.2.1, f41.2.2.2.2.2.1, f41.2.2.2.2.2.2.1, f41.2.2.2.2.2.2.2.1, f41.2.2.2.2.2.2.2.2.1, f41.2.2.2.2.2.2.2.2.2.1, f41.2.2.2.2.2.2.2.2.2.2.1, f41.2.2.2.2.2.2.2.2.2.2.2.1, f41.2.2.2.2.2.2.2.2.2.2.2.2.1, f41.2.2.2.2.2.2.2.2.2.2.2.2.2.1 (by omega), f41.2.2.2.2.2.2.2.2.2.2.2.2.2.2.2⟩
                  clear f41
                  have k195 : (h63 90 2) = (h23 90 2) ∧ (h63 90 13) = (h23 90 13) ∧ (h63 90 20) = (h23 90 20) ∧ (h63 90 22) = (h23 90 22) ∧ (h63 90 25) = (h23 90 25) ∧ (h63 90 26) = (h23 90 26) ∧ (h63 90 28) = (h23 90 28) ∧ (h63 90 29) = (h23 90 29) ∧ (h63 90 30) = (h23 90 30) ∧ (h63 90 34) = (h23 90 34) ∧ (h23 90 7) ≤ (h63 90 7) ∧ (h63 90 7) ≤ n ∧ (h23 90 8) ≤ (h63 90 8) ∧ ((0 : Int) ≤ v45 ∧ v45 ≤ ((h 96 341) - 1)) ∧ (h23 90 7) < (h63 90 7) + (h63 90 8) := ⟨f81.1, f81.2.1, f81.2.2.1, f81.2.2.2.1, f81.2.2.2.2.1, f81.2.2.2.2.2.1, f81.2.2.2.2.2.2.1, f81.2.2.2.2.2.2.2.1, f81.2.2.2.2.2.2.2.2.1, f81.2.2.2.2.2.2.2.2.2.1, f81.2.2.2.2.2.2.2.2.2.2.1, f81.2.2.2.2.2.2.2.2.2.2.2.1, f81.2.2.2.2.2.2.2.2.2.2.2.2.1, f81.2.2.2.2.2.2.2.2.2.2.2.2.2.1 (by omega), f81.2.2.2.2.2.2.2.2.2.2.2.2.2.2.2⟩
                  clear f81
                  have k196 : -1 ≤ v135 ∧ v135 < (4 : Int) := ⟨f136.1, f136.2.1⟩
                  clear f136
                  have k197 : (h160 90 2) = (h63 90 2) ∧ (h160 90 13) = (h63 90 13) ∧ (h160 90 20) = (h63 90 20) ∧ (h160 90 22) = (h63 90 22) ∧ (h160 90 25) = (h63 90 25) ∧ (h160 90 26) = (h63 90 26) ∧ (h160 90 28) = (h63 90 28) ∧ (h160 90 29) = (h63 90 29) ∧ (h160 90 30) = (h63 90 30) ∧ (h160 90 34) = (h63 90 34) ∧ ((h63 90 7) + 1) ≤ (h160 90 7) ∧ (h160 90 7) ≤ n ∧ (h63 90 8) ≤ (h160 90 8) ∧ ((1 : Int) ≤ v142 ∧ v142 ≤ (60 : Int)) := ⟨f178.1, f178.2.1, f178.2.2.1, f178.2.2.2.1, f178.2.2.2.2.1, f178.2.2.2.2.2.1, f178.2.2.2.2.2.2.1, f178.2.2.2.2.2.2.2.1, f178.2.2.2.2.2.2.2.2.1, f178.2.2.2.2.2.2.2.2.2.1, f178.2.2.2.2.2.2.2.2.2.2.1, f178.2.2.2.2.2.2.2.2.2.2.2.1, f178.2.2.2.2.2.2.2.2.2.2.2.2.1, f178.2.2.2.2.2.2.2.2.2.2.2.2.2.1 (by omega)⟩
                  clear f178
                  refine ov_blk (ls2 := [(0, ov_r 90), (1, ov_i v5), (2, ov_i v45), (3, ov_i (350 + (4 * ((6 * v45) + v5)))), (4, ov_i v135), (5, ov_i v142), (6, ov_i j180)]) (st2 := [ov_r 90]) (pc2 := 228) b_219_227_1 rfl rfl ?_
                  refine ov_getf (v := ov_r 96) d_219_228 fl_Mo_81 (zb_90 I161) (zs_90 I161) (congrArg ov_r (rg_90_10 I161)) ?_
                  refine ov_blk (ls2 := [(0, ov_r 90), (1, ov_i v5), (2, ov_i v45), (3, ov_i (350 + (4 * ((6 * v45) + v5)))), (4, ov_i v135), (5, ov_i v142), (6, ov_i j180)]) (st2 := [ov_i j180, ov_i 349, ov_r 96]) (pc2 := 236) b_219_231_2 rfl rfl ?_
                  refine ov_iast d_219_236 (zb_96 I161) (zs_96 I161) (by omega) ?_
                  have I198 := ua_96 (k := 349) (x := j180) I161 (by refine ⟨?_, ?_, ?_, ?_, ?_, ?_, ?_, ?_, ?_, ?_, ?_, ?_, ?_, ?_, ?_, ?_, ?_, ?_, ?_, ?_, ?_, ?_, ?_, ?_, ?_, ?_, ?_, ?_, ?_⟩ <;> omega)
                  have R199 : ov_RD (h 96) (h 97) (h 98) (h 90 13) (h160 96) (h160 97) (h160 98) (h 90 13) := by rw [show h160 96 = h 96 from E167, show h160 97 = h 97 from E168, show h160 98 = h 98 from E169]; exact ov_RD_refl _ _ _ _
                  have R200 : ov_RD (h 96) (h 97) (h 98) (h 90 13) ((ov_up h160 96 349 j180) 96) ((ov_up h160 96 349 j180) 97) ((ov_up h160 96 349 j180) 98) (h 90 13) := by rw [ov_up_row]; exact ov_RD_c R199 (t96_348 I161).2 rfl (by rw [show h160 96 = h 96 from E167]; exact jm)
                  refine ov_blk (ls2 := [(0, ov_r 90), (1, ov_i v5), (2, ov_i v45), (3, ov_i (350 + (4 * ((6 * v45) + v5)))), (4, ov_i v135), (5, ov_i v142), (6, ov_i j180)]) (st2 := [ov_r 90]) (pc2 := 238) b_219_237_1 rfl rfl ?_
                  refine ov_getf (v := ov_r 96) d_219_238 fl_Mo_81 (zb_90 I198) (zs_90 I198) (congrArg ov_r (rg_90_10 I198)) ?_
                  refine ov_blk (ls2 := [(0, ov_r 90), (1, ov_i v5), (2, ov_i v45), (3, ov_i (350 + (4 * ((6 * v45) + v5)))), (4, ov_i v135), (5, ov_i v142), (6, ov_i j180)]) (st2 := [ov_i (1 + v135), ov_i (350 + (4 * ((6 * v45) + v5))), ov_r 96]) (pc2 := 246) b_219_241_4 rfl rfl ?_
                  refine ov_iast d_219_246 (zb_96 I198) (zs_96 I198) (by omega) ?_
                  have I201 := ua_96 (k := (350 + (4 * ((6 * v45) + v5)))) (x := (1 + v135)) I198 (by refine ⟨?_, ?_, ?_, ?_, ?_, ?_, ?_, ?_, ?_, ?_, ?_, ?_, ?_, ?_, ?_, ?_, ?_, ?_, ?_, ?_, ?_, ?_, ?_, ?_, ?_, ?_, ?_, ?_, ?_⟩ <;> omega)
                  refine ov_blk (ls2 := [(0, ov_r 90), (1, ov_i v5), (2, ov_i v45), (3, ov_i (350 + (4 * ((6 * v45) + v5)))), (4, ov_i v135), (5, ov_i v142), (6, ov_i j180)]) (st2 := [ov_r 90]) (pc2 := 248) b_219_247_1 rfl rfl ?_
                  refine ov_getf (v := ov_r 96) d_219_248 fl_Mo_81 (zb_90 I201) (zs_90 I201) (congrArg ov_r (rg_90_10 I201)) ?_
                  refine ov_blk (ls2 := [(0, ov_r 90), (1, ov_i v5), (2, ov_i v45), (3, ov_i (350 + (4 * ((6 * v45) + v5)))), (4, ov_i v135), (5, ov_i v142), (6, ov_i j180)]) (st2 := [ov_i v142, ov_i ((350 + (4 * ((6 * v45) + v5))) + 1), ov_r 96]) (pc2 := 256) b_219_251_4 rfl rfl ?_
                  refine ov_iast d_219_256 (zb_96 I201) (zs_96 I201) (by omega) ?_
                  have I202 := ua_96 (k := ((350 + (4 * ((6 * v45) + v5))) + 1)) (x := v142) I201 (by refine ⟨?_, ?_, ?_, ?_, ?_, ?_, ?_, ?_, ?_, ?_, ?_, ?_, ?_, ?_, ?_, ?_, ?_, ?_, ?_, ?_, ?_, ?_, ?_, ?_, ?_, ?_, ?_, ?_, ?_⟩ <;> omega)
                  have R203 : ov_RD (h 96) (h 97) (h 98) (h 90 13) ((ov_up (ov_up (ov_up h160 96 349 j180) 96 (350 + (4 * ((6 * v45) + v5))) (1 + v135)) 96 ((350 + (4 * ((6 * v45) + v5))) + 1) v142) 96) ((ov_up (ov_up (ov_up h160 96 349 j180) 96 (350 + (4 * ((6 * v45) + v5))) (1 + v135)) 96 ((350 + (4 * ((6 * v45) + v5))) + 1) v142) 97) ((ov_up (ov_up (ov_up h160 96 349 j180) 96 (350 + (4 * ((6 * v45) + v5))) (1 + v135)) 96 ((350 + (4 * ((6 * v45) + v5))) + 1) v142) 98) (h 90 13) := by rw [ov_up_row, ov_up_row]; exact ov_RD_k R200 (t96_348 I198).2 (e := 6 * v45 + v5) (by omega) (by omega) (by omega) (by omega) (fun q => by show j180 % v142 = 0; exact jn () (by omega))
                  refine ov_blk (ls2 := [(0, ov_r 90), (1, ov_i v5), (2, ov_i v45), (3, ov_i (350 + (4 * ((6 * v45) + v5)))), (4, ov_i v135), (5, ov_i v142), (6, ov_i j180)]) (st2 := [ov_r 90]) (pc2 := 258) b_219_257_1 rfl rfl ?_
                  refine ov_getf (v := ov_r 96) d_219_258 fl_Mo_81 (zb_90 I202) (zs_90 I202) (congrArg ov_r (rg_90_10 I202)) ?_
                  refine ov_blk (ls2 := [(0, ov_r 90), (1, ov_i v5), (2, ov_i v45), (3, ov_i (350 + (4 * ((6 * v45) + v5)))), (4, ov_i v135), (5, ov_i v142), (6, ov_i j180)]) (st2 := [ov_i (v142 - 1), ov_i 0, ov_i 10, ov_r 90, ov_i ((350 + (4 * ((6 * v45) + v5))) + 2), ov_r 96]) (pc2 := 272) b_219_261_9 rfl rfl ?_
                  have cf204 : h160 92 (n) = h 92 (n) := congrFun E163 (n)
                  refine ov_cV (as := [ov_i 10, ov_i 0, ov_i (v142 - 1)]) (st := [ov_i ((350 + (4 * ((6 * v45) + v5))) + 2), ov_r 96]) (d2 := d - 1) d_219_272 lk_Mo_232 rfl (Nat.le_of_ble_eq_true rfl) (c := 1) (zb_90 I202) (zs_90 I202) ⟨by decide, rfl⟩ (by omega) (c_Mo_takeAfter_90 n (d - 1) (by omega) U I202 10 0 (v142 - 1) (by omega) (by omega) (by omega) (by show 0 ≤ n ∧ n ≤ 1000 ∧ (h160 92 (n)) = 0 ∧ (h160 90 7) ≤ n; omega) (by omega)) ?_
                  rintro _ z223 h224 ⟨v206, rfl, I225, f205, e207, e208, e209, e210, e211, e212, e213, e214, e215, e216, e217, e218, e219, e220, e221, e222⟩
                  have E226 : h224 91 = h 91 := Eq.trans e207 E162
                  have E227 : h224 92 = h 92 := Eq.trans e208 E163
                  have E228 : h224 93 = h 93 := Eq.trans e209 E164
                  have E229 : h224 94 = h 94 := Eq.trans e210 E165
                  have E230 : h224 95 = h 95 := Eq.trans e211 E166
                  have E231 : h224 97 = h 97 := Eq.trans e213 E168
                  have E232 : h224 98 = h 98 := Eq.trans e214 E169
                  have E233 : h224 99 = h 99 := Eq.trans e215 E170
                  have E234 : h224 100 = h 100 := Eq.trans e216 E171
                  have E235 : h224 103 = h 103 := Eq.trans e217 E172
                  have E236 : h224 104 = h 104 := Eq.trans e218 E173
                  have E237 : h224 105 = h 105 := Eq.trans e219 E174
                  have E238 : h224 106 = h 106 := Eq.trans e220 E175
                  have E239 : h224 109 = h 109 := Eq.trans e221 E176
                  have E240 : h224 114 = h 114 := Eq.trans e222 E177
                  show ov_R u d ov_m219 275 [(0, ov_r 90), (1, ov_i v5), (2, ov_i v45), (3, ov_i (350 + (4 * ((6 * v45) + v5)))), (4, ov_i v135), (5, ov_i v142), (6, ov_i j180)] [ov_i v206, ov_i ((350 + (4 * ((6 * v45) + v5))) + 2), ov_r 96] z223 h224 (P_Mo_readLight_90 F z h n)
                  have f241 : (h224 90 2) = (h160 90 2) ∧ (h224 90 13) = (h160 90 13) ∧ (h224 90 20) = (h160 90 20) ∧ (h224 90 22) = (h160 90 22) ∧ (h224 90 25) = (h160 90 25) ∧ (h224 90 26) = (h160 90 26) ∧ (h224 90 28) = (h160 90 28) ∧ (h224 90 29) = (h160 90 29) ∧ (h224 90 30) = (h160 90 30) ∧ (h224 90 34) = (h160 90 34) ∧ (h160 90 7) ≤ (h224 90 7) ∧ (h224 90 7) ≤ n ∧ (h160 90 8) ≤ (h224 90 8) ∧ ((h224 90 8) = 0 → (0 : Int) ≤ v206 ∧ v206 ≤ (v142 - 1)) ∧ (0 < (h224 90 8) → v206 = 0) := f205
                  clear f205
                  have R242 : ov_RD (h 96) (h 97) (h 98) (h 90 13) (h224 96) (h224 97) (h224 98) (h 90 13) := by rw [e212, e213, e214]; exact R203
                  have lt243 : ((ov_up (ov_up (ov_up h160 96 349 j180) 96 (350 + (4 * ((6 * v45) + v5))) (1 + v135)) 96 ((350 + (4 * ((6 * v45) + v5))) + 1) v142) 96 340) = h160 96 340 := by try rw [ov_up_j (by omega)]; try rw [ov_up_j (by omega)]; try rw [ov_up_j (by omega)]; try rfl
                  have lt244 : h160 96 340 = h 96 340 := congrFun E167 340
                  have lt245 : ((ov_up (ov_up (ov_up h160 96 349 j180) 96 (350 + (4 * ((6 * v45) + v5))) (1 + v135)) 96 ((350 + (4 * ((6 * v45) + v5))) + 1) v142) 96 341) = h160 96 341 := by try rw [ov_up_j (by omega)]; try rw [ov_up_j (by omega)]; try rw [ov_up_j (by omega)]; try rfl
                  have lt246 : h160 96 341 = h 96 341 := congrFun E167 341
                  have lt247 : ((ov_up (ov_up (ov_up h160 96 349 j180) 96 (350 + (4 * ((6 * v45) + v5))) (1 + v135)) 96 ((350 + (4 * ((6 * v45) + v5))) + 1) v142) 96 342) = h160 96 342 := by try rw [ov_up_j (by omega)]; try rw [ov_up_j (by omega)]; try rw [ov_up_j (by omega)]; try rfl
                  have lt248 : h160 96 342 = h 96 342 := congrFun E167 342
                  have lt249 : ((ov_up (ov_up (ov_up h160 96 349 j180) 96 (350 + (4 * ((6 * v45) + v5))) (1 + v135)) 96 ((350 + (4 * ((6 * v45) + v5))) + 1) v142) 96 348) = h160 96 348 := by try rw [ov_up_j (by omega)]; try rw [ov_up_j (by omega)]; try rw [ov_up_j (by omega)]; try rfl
                  have lt250 : h160 96 348 = h 96 348 := congrFun E167 348
                  have lt251 : ((ov_up (ov_up (ov_up h160 96 349 j180) 96 (350 + (4 * ((6 * v45) + v5))) (1 + v135)) 96 ((350 + (4 * ((6 * v45) + v5))) + 1) v142) 96 349) = j180 := by try rw [ov_up_j (by omega)]; try rw [ov_up_j (by omega)]; try rw [ov_up_row, ov_rs_eq]; try rfl
                  have lt252 : h160 96 349 = h 96 349 := congrFun E167 349
                  have lt253 : h224 96 340 = ((ov_up (ov_up (ov_up h160 96 349 j180) 96 (350 + (4 * ((6 * v45) + v5))) (1 + v135)) 96 ((350 + (4 * ((6 * v45) + v5))) + 1) v142) 96 340) := congrFun e212 340
                  have lt254 : h224 96 341 = ((ov_up (ov_up (ov_up h160 96 349 j180) 96 (350 + (4 * ((6 * v45) + v5))) (1 + v135)) 96 ((350 + (4 * ((6 * v45) + v5))) + 1) v142) 96 341) := congrFun e212 341
                  have lt255 : h224 96 342 = ((ov_up (ov_up (ov_up h160 96 349 j180) 96 (350 + (4 * ((6 * v45) + v5))) (1 + v135)) 96 ((350 + (4 * ((6 * v45) + v5))) + 1) v142) 96 342) := congrFun e212 342
                  have lt256 : h224 96 348 = ((ov_up (ov_up (ov_up h160 96 349 j180) 96 (350 + (4 * ((6 * v45) + v5))) (1 + v135)) 96 ((350 + (4 * ((6 * v45) + v5))) + 1) v142) 96 348) := congrFun e212 348
                  have lt257 : h224 96 349 = ((ov_up (ov_up (ov_up h160 96 349 j180) 96 (350 + (4 * ((6 * v45) + v5))) (1 + v135)) 96 ((350 + (4 * ((6 * v45) + v5))) + 1) v142) 96 349) := congrFun e212 349
                  refine ov_iast d_219_275 (zb_96 I225) (zs_96 I225) (by omega) ?_
                  have I258 := ua_96 (k := ((350 + (4 * ((6 * v45) + v5))) + 2)) (x := v206) I225 (by refine ⟨?_, ?_, ?_, ?_, ?_, ?_, ?_, ?_, ?_, ?_, ?_, ?_, ?_, ?_, ?_, ?_, ?_, ?_, ?_, ?_, ?_, ?_, ?_, ?_, ?_, ?_, ?_, ?_, ?_⟩ <;> omega)
                  have R259 : ov_RD (h 96) (h 97) (h 98) (h 90 13) ((ov_up h224 96 ((350 + (4 * ((6 * v45) + v5))) + 2) v206) 96) ((ov_up h224 96 ((350 + (4 * ((6 * v45) + v5))) + 2) v206) 97) ((ov_up h224 96 ((350 + (4 * ((6 * v45) + v5))) + 2) v206) 98) (h 90 13) := by rw [ov_up_row]; exact ov_RD_l R242 (t96_348 I225).2 (e := 6 * v45 + v5) (i := 2) (by omega) (Or.inl rfl) (by omega)
                  refine ov_blk (ls2 := [(0, ov_r 90), (1, ov_i v5), (2, ov_i v45), (3, ov_i (350 + (4 * ((6 * v45) + v5)))), (4, ov_i v135), (5, ov_i v142), (6, ov_i j180)]) (st2 := [ov_r 90]) (pc2 := 277) b_219_276_1 rfl rfl ?_
                  refine ov_getf (v := ov_r 96) d_219_277 fl_Mo_81 (zb_90 I258) (zs_90 I258) (congrArg ov_r (rg_90_10 I258)) ?_
                  refine ov_blk (ls2 := [(0, ov_r 90), (1, ov_i v5), (2, ov_i v45), (3, ov_i (350 + (4 * ((6 * v45) + v5)))), (4, ov_i v135), (5, ov_i v142), (6, ov_i j180)]) (st2 := [ov_i v142, ov_i 0, ov_i 12, ov_r 90, ov_i ((350 + (4 * ((6 * v45) + v5))) + 3), ov_r 96]) (pc2 := 289) b_219_280_7 rfl rfl ?_
                  have cf260 : h224 92 (n) = h 92 (n) := congrFun E227 (n)
                  refine ov_cV (as := [ov_i 12, ov_i 0, ov_i v142]) (st := [ov_i ((350 + (4 * ((6 * v45) + v5))) + 3), ov_r 96]) (d2 := d - 1) d_219_289 lk_Mo_232 rfl (Nat.le_of_ble_eq_true rfl) (c := 1) (zb_90 I258) (zs_90 I258) ⟨by decide, rfl⟩ (by omega) (c_Mo_takeAfter_90 n (d - 1) (by omega) U I258 12 0 v142 (by omega) (by omega) (by omega) (by show 0 ≤ n ∧ n ≤ 1000 ∧ (h224 92 (n)) = 0 ∧ (h224 90 7) ≤ n; omega) (by omega)) ?_
                  rintro _ z279 h280 ⟨v262, rfl, I281, f261, e263, e264, e265, e266, e267, e268, e269, e270, e271, e272, e273, e274, e275, e276, e277, e278⟩
                  have E282 : h280 91 = h 91 := Eq.trans e263 E226
                  have E283 : h280 92 = h 92 := Eq.trans e264 E227
                  have E284 : h280 93 = h 93 := Eq.trans e265 E228
                  have E285 : h280 94 = h 94 := Eq.trans e266 E229
                  have E286 : h280 95 = h 95 := Eq.trans e267 E230
                  have E287 : h280 97 = h 97 := Eq.trans e269 E231
                  have E288 : h280 98 = h 98 := Eq.trans e270 E232
                  have E289 : h280 99 = h 99 := Eq.trans e271 E233
                  have E290 : h280 100 = h 100 := Eq.trans e272 E234
                  have E291 : h280 103 = h 103 := Eq.trans e273 E235
                  have E292 : h280 104 = h 104 := Eq.trans e274 E236
                  have E293 : h280 105 = h 105 := Eq.trans e275 E237
                  have E294 : h280 106 = h 106 := Eq.trans e276 E238
                  have E295 : h280 109 = h 109 := Eq.trans e277 E239
                  have E296 : h280 114 = h 114 := Eq.trans e278 E240
                  show ov_R u d ov_m219 292 [(0, ov_r 90), (1, ov_i v5), (2, ov_i v45), (3, ov_i (350 + (4 * ((6 * v45) + v5)))), (4, ov_i v135), (5, ov_i v142), (6, ov_i j180)] [ov_i v262, ov_i ((350 + (4 * ((6 * v45) + v5))) + 3), ov_r 96] z279 h280 (P_Mo_readLight_90 F z h n)
                  have f297 : (h280 90 2) = (h224 90 2) ∧ (h280 90 13) = (h224 90 13) ∧ (h280 90 20) = (h224 90 20) ∧ (h280 90 22) = (h224 90 22) ∧ (h280 90 25) = (h224 90 25) ∧ (h280 90 26) = (h224 90 26) ∧ (h280 90 28) = (h224 90 28) ∧ (h280 90 29) = (h224 90 29) ∧ (h280 90 30) = (h224 90 30) ∧ (h280 90 34) = (h224 90 34) ∧ (h224 90 7) ≤ (h280 90 7) ∧ (h280 90 7) ≤ n ∧ (h224 90 8) ≤ (h280 90 8) ∧ ((h280 90 8) = 0 → (0 : Int) ≤ v262 ∧ v262 ≤ v142) ∧ (0 < (h280 90 8) → v262 = 0) := f261
                  clear f261
                  have R298 : ov_RD (h 96) (h 97) (h 98) (h 90 13) (h280 96) (h280 97) (h280 98) (h 90 13) := by rw [e268, e269, e270]; exact R259
                  have lt299 : ((ov_up h224 96 ((350 + (4 * ((6 * v45) + v5))) + 2) v206) 96 340) = h224 96 340 := by try rw [ov_up_j (by omega)]; try rfl
                  have lt300 : ((ov_up h224 96 ((350 + (4 * ((6 * v45) + v5))) + 2) v206) 96 341) = h224 96 341 := by try rw [ov_up_j (by omega)]; try rfl
                  have lt301 : ((ov_up h224 96 ((350 + (4 * ((6 * v45) + v5))) + 2) v206) 96 342) = h224 96 342 := by try rw [ov_up_j (by omega)]; try rfl
                  have lt302 : ((ov_up h224 96 ((350 + (4 * ((6 * v45) + v5))) + 2) v206) 96 348) = h224 96 348 := by try rw [ov_up_j (by omega)]; try rfl
                  have lt303 : ((ov_up h224 96 ((350 + (4 * ((6 * v45) + v5))) + 2) v206) 96 349) = h224 96 349 := by try rw [ov_up_j (by omega)]; try rfl
                  have lt304 : h280 96 340 = ((ov_up h224 96 ((350 + (4 * ((6 * v45) + v5))) + 2) v206) 96 340) := congrFun e268 340
                  have lt305 : h280 96 341 = ((ov_up h224 96 ((350 + (4 * ((6 * v45) + v5))) + 2) v206) 96 341) := congrFun e268 341
                  have lt306 : h280 96 342 = ((ov_up h224 96 ((350 + (4 * ((6 * v45) + v5))) + 2) v206) 96 342) := congrFun e268 342
                  have lt307 : h280 96 348 = ((ov_up h224 96 ((350 + (4 * ((6 * v45) + v5))) + 2) v206) 96 348) := congrFun e268 348
                  have lt308 : h280 96 349 = ((ov_up h224 96 ((350 + (4 * ((6 * v45) + v5))) + 2) v206) 96 349) := congrFun e268 349
                  refine ov_iast d_219_292 (zb_96 I281) (zs_96 I281) (by omega) ?_
                  have I309 := ua_96 (k := ((350 + (4 * ((6 * v45) + v5))) + 3)) (x := v262) I281 (by refine ⟨?_, ?_, ?_, ?_, ?_, ?_, ?_, ?_, ?_, ?_, ?_, ?_, ?_, ?_, ?_, ?_, ?_, ?_, ?_, ?_, ?_, ?_, ?_, ?_, ?_, ?_, ?_, ?_, ?_⟩ <;> omega)
                  have R310 : ov_RD (h 96) (h 97) (h 98) (h 90 13) ((ov_up h280 96 ((350 + (4 * ((6 * v45) + v5))) + 3) v262) 96) ((ov_up h280 96 ((350 + (4 * ((6 * v45) + v5))) + 3) v262) 97) ((ov_up h280 96 ((350 + (4 * ((6 * v45) + v5))) + 3) v262) 98) (h 90 13) := by rw [ov_up_row]; exact ov_RD_l R298 (t96_348 I281).2 (e := 6 * v45 + v5) (i := 3) (by omega) (Or.inr rfl) (by omega)
                  refine ov_blk (ls2 := [(0, ov_r 90), (1, ov_i v5), (2, ov_i v45), (3, ov_i (350 + (4 * ((6 * v45) + v5)))), (4, ov_i v135), (5, ov_i v142), (6, ov_i j180)]) (st2 := [ov_r 90]) (pc2 := 294) b_219_293_1 rfl rfl ?_
                  refine ov_getf (v := ov_r 96) d_219_294 fl_Mo_81 (zb_90 I309) (zs_90 I309) (congrArg ov_r (rg_90_10 I309)) ?_
                  refine ov_blk (ls2 := [(0, ov_r 90), (1, ov_i v5), (2, ov_i v45), (3, ov_i (350 + (4 * ((6 * v45) + v5)))), (4, ov_i v135), (5, ov_i v142), (6, ov_i j180)]) (st2 := [ov_i 347, ov_r 96, ov_i 347, ov_r 96]) (pc2 := 301) b_219_297_2 rfl rfl ?_
                  refine ov_iald d_219_301 (zb_96 I309) (zs_96 I309) (by omega) ?_
                  show ov_R u d ov_m219 302 [(0, ov_r 90), (1, ov_i v5), (2, ov_i v45), (3, ov_i (350 + (4 * ((6 * v45) + v5)))), (4, ov_i v135), (5, ov_i v142), (6, ov_i j180)] [ov_i ((ov_up h280 96 ((350 + (4 * ((6 * v45) + v5))) + 3) v262) 96 347), ov_i 347, ov_r 96] z279 (ov_up h280 96 ((350 + (4 * ((6 * v45) + v5))) + 3) v262) (P_Mo_readLight_90 F z h n)
                  refine ov_blk (ls2 := [(0, ov_r 90), (1, ov_i v5), (2, ov_i v45), (3, ov_i (350 + (4 * ((6 * v45) + v5)))), (4, ov_i v135), (5, ov_i v142), (6, ov_i j180)]) (st2 := [ov_i (((ov_up h280 96 ((350 + (4 * ((6 * v45) + v5))) + 3) v262) 96 347) + 1), ov_i 347, ov_r 96]) (pc2 := 304) b_219_302_2 rfl rfl ?_
                  refine ov_hav (fun w311 gw311 => ?_)
                  refine ov_iast d_219_304 (zb_96 I309) (zs_96 I309) (by omega) ?_
                  have I312 := ua_96 (k := 347) (x := w311) I309 (by refine ⟨?_, ?_, ?_, ?_, ?_, ?_, ?_, ?_, ?_, ?_, ?_, ?_, ?_, ?_, ?_, ?_, ?_, ?_, ?_, ?_, ?_, ?_, ?_, ?_, ?_, ?_, ?_, ?_, ?_⟩ <;> omega)
                  have R313 : ov_RD (h 96) (h 97) (h 98) (h 90 13) ((ov_up (ov_up h280 96 ((350 + (4 * ((6 * v45) + v5))) + 3) v262) 96 347 w311) 96) ((ov_up (ov_up h280 96 ((350 + (4 * ((6 * v45) + v5))) + 3) v262) 96 347 w311) 97) ((ov_up (ov_up h280 96 ((350 + (4 * ((6 * v45) + v5))) + 3) v262) 96 347 w311) 98) (h 90 13) := by rw [ov_up_row]; exact ov_RD_w R310 (t96_348 I309).2 (by omega)
                  have lt314 : ((ov_up h280 96 ((350 + (4 * ((6 * v45) + v5))) + 3) v262) 96 340) = h280 96 340 := by try rw [ov_up_j (by omega)]; try rw [ov_up_j (by omega)]; try rfl
                  have lt315 : ((ov_up h280 96 ((350 + (4 * ((6 * v45) + v5))) + 3) v262) 96 341) = h280 96 341 := by try rw [ov_up_j (by omega)]; try rw [ov_up_j (by omega)]; try rfl
                  have lt316 : ((ov_up h280 96 ((350 + (4 * ((6 * v45) + v5))) + 3) v262) 96 342) = h280 96 342 := by try rw [ov_up_j (by omega)]; try rw [ov_up_j (by omega)]; try rfl
                  have lt317 : ((ov_up h280 96 ((350 + (4 * ((6 * v45) + v5))) + 3) v262) 96 348) = h280 96 348 := by try rw [ov_up_j (by omega)]; try rw [ov_up_j (by omega)]; try rfl
                  have lt318 : ((ov_up h280 96 ((350 + (4 * ((6 * v45) + v5))) + 3) v262) 96 349) = h280 96 349 := by try rw [ov_up_j (by omega)]; try rw [ov_up_j (by omega)]; try rfl
                  exact ov_retv (st := []) d_219_305 rfl ⟨rfl, I312, (by show (h280 90 2) = (h 90 2) ∧ (h280 90 13) = (h 90 13) ∧ (h280 90 20) = (h 90 20) ∧ (h280 90 22) = (h 90 22) ∧ (h280 90 25) = (h 90 25) ∧ (h280 90 26) = (h 90 26) ∧ (h280 90 28) = (h 90 28) ∧ (h280 90 29) = (h 90 29) ∧ (h280 90 30) = (h 90 30) ∧ (h280 90 34) = (h 90 34) ∧ (h 90 7) ≤ (h280 90 7) ∧ (h280 90 7) ≤ n ∧ (h 90 13) ≤ (h280 90 13) ∧ (h280 90 13) - (h 90 13) ≤ (h280 90 7) - (h 90 7) ∧ ((ov_up h280 96 ((350 + (4 * ((6 * v45) + v5))) + 3) v262) 96 340) = (h 96 340) ∧ ((ov_up h280 96 ((350 + (4 * ((6 * v45) + v5))) + 3) v262) 96 341) = (h 96 341) ∧ ((h280 90 8) = 0 → 1 ≤ (h 96 342) → 1 ≤ ((ov_up h280 96 ((350 + (4 * ((6 * v45) + v5))) + 3) v262) 96 342)) ∧ (1 ≤ (h 96 349) → 1 ≤ ((ov_up h280 96 ((350 + (4 * ((6 * v45) + v5))) + 3) v262) 96 349)); omega), E282, E283, E284, E285, E286, E287, E288, E289, E290, E291, E292, E293, E294, E295, E296, R313.1, R313.2.1, (fun _ w => by show ov_CS ((ov_up (ov_up h280 96 ((350 + (4 * ((6 * v45) + v5))) + 3) v262) 96 347 w311) 96) ((ov_up (ov_up h280 96 ((350 + (4 * ((6 * v45) + v5))) + 3) v262) 96 347 w311) 97) ((ov_up (ov_up h280 96 ((350 + (4 * ((6 * v45) + v5))) + 3) v262) 96 347 w311) 98) (h280 90 13); rw [show (h280 90 13) = h 90 13 by omega]; exact R313.2.2 w)⟩
                · omega
              · skip
                refine ov_blk (ls2 := [(0, ov_r 90), (1, ov_i v5), (2, ov_i v45), (3, ov_i (350 + (4 * ((6 * v45) + v5)))), (4, ov_i v135), (5, ov_i v142), (6, ov_i j180)]) (st2 := [ov_r 90, ov_r 90]) (pc2 := 206) b_219_204_2 rfl rfl ?_
                refine ov_getf (v := ov_i (h160 90 7)) d_219_206 fl_Mo_177 (zb_90 I161) (zs_90 I161) rfl ?_
                have g319 := rg_90_7 I161
                refine ov_blk (ls2 := [(0, ov_r 90), (1, ov_i v5), (2, ov_i v45), (3, ov_i (350 + (4 * ((6 * v45) + v5)))), (4, ov_i v135), (5, ov_i v142), (6, ov_i j180)]) (st2 := [ov_i ((h160 90 7) - 1), ov_r 90]) (pc2 := 211) b_219_209_2 rfl rfl ?_
                refine ov_putf (x := ((h160 90 7) - 1)) d_219_211 fl_Mo_177 (zb_90 I161) (zs_90 I161) rfl nk_0 rfl ?_
                have I320 := up_90_7 (x := ((h160 90 7) - 1)) I161 (by omega)
                refine ov_blk (ls2 := [(0, ov_r 90), (1, ov_i v5), (2, ov_i v45), (3, ov_i (350 + (4 * ((6 * v45) + v5)))), (4, ov_i v135), (5, ov_i v142), (6, ov_i j180)]) (st2 := [ov_i 4, ov_r 90]) (pc2 := 216) b_219_214_2 rfl rfl ?_
                refine ov_cV (as := [ov_i 4]) (st := []) (d2 := d - 1) d_219_216 lk_Mo_186 rfl (Nat.le_of_ble_eq_true rfl) (c := 1) (zb_90 I320) (zs_90 I320) ⟨by decide, rfl⟩ (by omega) (c_Mo_wrong_90 (d - 1) (by omega) U I320 4 (by omega) (by omega)) ?_
                rintro _ z338 h339 ⟨rfl, I340, f321, e322, e323, e324, e325, e326, e327, e328, e329, e330, e331, e332, e333, e334, e335, e336, e337⟩
                have E341 : h339 91 = h 91 := Eq.trans e322 E162
                have E342 : h339 92 = h 92 := Eq.trans e323 E163
                have E343 : h339 93 = h 93 := Eq.trans e324 E164
                have E344 : h339 94 = h 94 := Eq.trans e325 E165
                have E345 : h339 95 = h 95 := Eq.trans e326 E166
                have E346 : h339 96 = h 96 := Eq.trans e327 E167
                have E347 : h339 97 = h 97 := Eq.trans e328 E168
                have E348 : h339 98 = h 98 := Eq.trans e329 E169
                have E349 : h339 99 = h 99 := Eq.trans e330 E170
                have E350 : h339 100 = h 100 := Eq.trans e331 E171
                have E351 : h339 103 = h 103 := Eq.trans e332 E172
                have E352 : h339 104 = h 104 := Eq.trans e333 E173
                have E353 : h339 105 = h 105 := Eq.trans e334 E174
                have E354 : h339 106 = h 106 := Eq.trans e335 E175
                have E355 : h339 109 = h 109 := Eq.trans e336 E176
                have E356 : h339 114 = h 114 := Eq.trans e337 E177
                show ov_R u d ov_m219 219 [(0, ov_r 90), (1, ov_i v5), (2, ov_i v45), (3, ov_i (350 + (4 * ((6 * v45) + v5)))), (4, ov_i v135), (5, ov_i v142), (6, ov_i j180)] [] z338 h339 (P_Mo_readLight_90 F z h n)
                have f357 : (h339 90 2) = (h160 90 2) ∧ (h339 90 7) = ((h160 90 7) - 1) ∧ (h339 90 13) = (h160 90 13) ∧ (h339 90 20) = (h160 90 20) ∧ (h339 90 22) = (h160 90 22) ∧ (h339 90 25) = (h160 90 25) ∧ (h339 90 26) = (h160 90 26) ∧ (h339 90 28) = (h160 90 28) ∧ (h339 90 29) = (h160 90 29) ∧ (h339 90 30) = (h160 90 30) ∧ (h339 90 34) = (h160 90 34) ∧ 0 < (h339 90 8) ∧ (h160 90 8) ≤ (h339 90 8) := f321
                clear f321
                refine ov_blk (ls2 := [(0, ov_r 90), (1, ov_i v5), (2, ov_i v45), (3, ov_i (350 + (4 * ((6 * v45) + v5)))), (4, ov_i v135), (5, ov_i v142), (6, ov_i j180)]) (st2 := [ov_r 90]) (pc2 := 220) b_219_219_1 rfl rfl ?_
                refine ov_getf (v := ov_i (h339 90 8)) d_219_220 fl_Mo_180 (zb_90 I340) (zs_90 I340) rfl ?_
                have g358 := rg_90_8 I340
                refine ov_ifle (tgt := 227) d_219_223 (by decide) (by omega) (fun c359 => ?_) (fun c359 => ?_)
                · omega
                · skip
                  have cf360 : h339 96 340 = h 96 340 := congrFun E346 340
                  have cf361 : h339 96 341 = h 96 341 := congrFun E346 341
                  have cf362 : h339 96 342 = h 96 342 := congrFun E346 342
                  have cf363 : h339 96 349 = h 96 349 := congrFun E346 349
                  have R364 : ov_RD (h 96) (h 97) (h 98) (h 90 13) (h339 96) (h339 97) (h339 98) (h 90 13) := by rw [show h339 96 = h 96 from E346, show h339 97 = h 97 from E347, show h339 98 = h 98 from E348]; exact ov_RD_refl _ _ _ _
                  exact ov_retv (st := []) d_219_226 rfl ⟨rfl, I340, (by show (h339 90 2) = (h 90 2) ∧ (h339 90 13) = (h 90 13) ∧ (h339 90 20) = (h 90 20) ∧ (h339 90 22) = (h 90 22) ∧ (h339 90 25) = (h 90 25) ∧ (h339 90 26) = (h 90 26) ∧ (h339 90 28) = (h 90 28) ∧ (h339 90 29) = (h 90 29) ∧ (h339 90 30) = (h 90 30) ∧ (h339 90 34) = (h 90 34) ∧ (h 90 7) ≤ (h339 90 7) ∧ (h339 90 7) ≤ n ∧ (h 90 13) ≤ (h339 90 13) ∧ (h339 90 13) - (h 90 13) ≤ (h339 90 7) - (h 90 7) ∧ (h339 96 340) = (h 96 340) ∧ (h339 96 341) = (h 96 341) ∧ ((h339 90 8) = 0 → 1 ≤ (h 96 342) → 1 ≤ (h339 96 342)) ∧ (1 ≤ (h 96 349) → 1 ≤ (h339 96 349)); omega), E341, E342, E343, E344, E345, E347, E348, E349, E350, E351, E352, E353, E354, E355, E356, R364.1, R364.2.1, (fun _ w => by show ov_CS (h339 96) (h339 97) (h339 98) (h339 90 13); rw [show (h339 90 13) = h 90 13 by omega]; exact R364.2.2 w)⟩
          refine ov_blk (ls2 := [(0, ov_r 90), (1, ov_i v5), (2, ov_i v45), (3, ov_i (350 + (4 * ((6 * v45) + v5)))), (4, ov_i v135), (5, ov_i v142)]) (st2 := [ov_r 90]) (pc2 := 139) b_219_138_1 rfl rfl ?_
          refine ov_getf (v := ov_i (h160 90 8)) d_219_139 fl_Mo_180 (zb_90 I161) (zs_90 I161) rfl ?_
          have g365 := rg_90_8 I161
          refine ov_ifgt (tgt := 151) d_219_142 (by decide) (by omega) (fun c366 => ?_) (fun c366 => ?_)
          · skip
            refine ov_blk (ls2 := [(0, ov_r 90), (1, ov_i v5), (2, ov_i v45), (3, ov_i (350 + (4 * ((6 * v45) + v5)))), (4, ov_i v135), (5, ov_i v142)]) (st2 := [ov_r 90]) (pc2 := 152) b_219_151_1 rfl rfl ?_
            refine ov_getf (v := ov_r 96) d_219_152 fl_Mo_81 (zb_90 I161) (zs_90 I161) (congrArg ov_r (rg_90_10 I161)) ?_
            refine ov_blk (ls2 := [(0, ov_r 90), (1, ov_i v5), (2, ov_i v45), (3, ov_i (350 + (4 * ((6 * v45) + v5)))), (4, ov_i v135), (5, ov_i v142)]) (st2 := [ov_i 349, ov_r 96]) (pc2 := 158) b_219_155_1 rfl rfl ?_
            refine ov_iald d_219_158 (zb_96 I161) (zs_96 I161) (by omega) ?_
            rw [show h160 96 = h 96 from E167]
            have g367 := t96_349 I
            have em := Int.emod_self (a := (h 96 349))
            refine ov_goto (tgt := 187) d_219_159 (by decide) ?_
            refine ov_blk (ls2 := [(0, ov_r 90), (1, ov_i v5), (2, ov_i v45), (3, ov_i (350 + (4 * ((6 * v45) + v5)))), (4, ov_i v135), (5, ov_i v142), (6, ov_i (h 96 349))]) (st2 := []) (pc2 := 189) b_219_187_1 rfl rfl ?_
            exact J179 (h 96 349) (by show 0 ≤ (h 96 349) ∧ (h 96 349) ≤ 72000 ∧ (1 ≤ (h 96 349) → (h160 90 8) = 0 → 1 ≤ (h 96 349)) ∧ ((h160 90 8) = 0 → (h 96 349) % (h 96 349) = 0 ∧ (v135 < 2 → (h 96 349) % v142 = 0)); exact ⟨by omega, by omega, fun u1 u2 => by omega, fun e => ⟨by omega, fun u3 => by omega⟩⟩)
          · skip
            refine ov_blk (ls2 := [(0, ov_r 90), (1, ov_i v5), (2, ov_i v45), (3, ov_i (350 + (4 * ((6 * v45) + v5)))), (4, ov_i v135), (5, ov_i v142)]) (st2 := [ov_i 2, ov_i v135]) (pc2 := 148) b_219_145_2 rfl rfl ?_
            refine ov_iclt (tgt := 162) d_219_148 (by decide) (by omega) (by omega) (fun c368 => ?_) (fun c368 => ?_)
            · skip
              refine ov_blk (ls2 := [(0, ov_r 90), (1, ov_i v5), (2, ov_i v45), (3, ov_i (350 + (4 * ((6 * v45) + v5)))), (4, ov_i v135), (5, ov_i v142)]) (st2 := [ov_r 90]) (pc2 := 163) b_219_162_1 rfl rfl ?_
              refine ov_getf (v := ov_r 96) d_219_163 fl_Mo_81 (zb_90 I161) (zs_90 I161) (congrArg ov_r (rg_90_10 I161)) ?_
              refine ov_blk (ls2 := [(0, ov_r 90), (1, ov_i v5), (2, ov_i v45), (3, ov_i (350 + (4 * ((6 * v45) + v5)))), (4, ov_i v135), (5, ov_i v142)]) (st2 := [ov_i 349, ov_r 96]) (pc2 := 169) b_219_166_1 rfl rfl ?_
              refine ov_iald d_219_169 (zb_96 I161) (zs_96 I161) (by omega) ?_
              rw [show h160 96 = h 96 from E167]
              have g369 := t96_349 I
              refine ov_blk (ls2 := [(0, ov_r 90), (1, ov_i v5), (2, ov_i v45), (3, ov_i (350 + (4 * ((6 * v45) + v5)))), (4, ov_i v135), (5, ov_i v142)]) (st2 := [ov_r 90, ov_i (h 96 349)]) (pc2 := 171) b_219_170_1 rfl rfl ?_
              refine ov_getf (v := ov_r 96) d_219_171 fl_Mo_81 (zb_90 I161) (zs_90 I161) (congrArg ov_r (rg_90_10 I161)) ?_
              refine ov_blk (ls2 := [(0, ov_r 90), (1, ov_i v5), (2, ov_i v45), (3, ov_i (350 + (4 * ((6 * v45) + v5)))), (4, ov_i v135), (5, ov_i v142)]) (st2 := [ov_i 349, ov_r 96, ov_i (h 96 349)]) (pc2 := 177) b_219_174_1 rfl rfl ?_
              refine ov_iald d_219_177 (zb_96 I161) (zs_96 I161) (by omega) ?_
              rw [show h160 96 = h 96 from E167]
              refine ov_blk (ls2 := [(0, ov_r 90), (1, ov_i v5), (2, ov_i v45), (3, ov_i (350 + (4 * ((6 * v45) + v5)))), (4, ov_i v135), (5, ov_i v142)]) (st2 := [ov_i v142, ov_i (h 96 349), ov_i (h 96 349)]) (pc2 := 180) b_219_178_1 rfl rfl ?_
              refine ov_cS (as := [ov_i (h 96 349), ov_i v142]) (st := [ov_i (h 96 349)]) (d2 := d - 1) d_219_180 lk_Mo_236 rfl (Nat.le_of_ble_eq_true rfl) (by omega) (c_Mo_common (d - 1) (by omega) U I161 (h 96 349) v142 (by omega) (by omega) (by omega) (by omega)) ?_
              rintro _ _ _ ⟨v372, rfl, rfl, rfl, f371, y373⟩
              show ov_R u d ov_m219 183 [(0, ov_r 90), (1, ov_i v5), (2, ov_i v45), (3, ov_i (350 + (4 * ((6 * v45) + v5)))), (4, ov_i v135), (5, ov_i v142)] [ov_i v372, ov_i (h 96 349)] z159 h160 (P_Mo_readLight_90 F z h n)
              have f374 : 1 ≤ v372 ∧ v372 ≤ 1200 ∧ (1 ≤ (h 96 349) → v372 ≤ (h 96 349)) := f371
              clear f371
              have y373_ : (h 96 349) % v372 = 0 ∧ v142 % v372 = 0 := y373
              have gd := ov_tdp (a := (h 96 349)) (b := v372) (by omega) (by omega)
              refine ov_idiv d_219_183 (by omega) (by omega) (by omega) ?_
              have g375 := ov_tdl (a := (h 96 349)) (b := v372) (by omega) (by omega)
              refine ov_blk (ls2 := [(0, ov_r 90), (1, ov_i v5), (2, ov_i v45), (3, ov_i (350 + (4 * ((6 * v45) + v5)))), (4, ov_i v135), (5, ov_i v142)]) (st2 := [ov_i v142, ov_i (Int.tdiv (h 96 349) v372)]) (pc2 := 186) b_219_184_1 rfl rfl ?_
              have gq := ov_mulb (q := (Int.tdiv (h 96 349) v372)) (b := v142) (A := 1200) (B := 60) (by omega) (by omega) (by omega) (by omega)
              have gl := ov_lcmd (a := (h 96 349)) (b := v142) (g := v372) (by omega) y373_.1 y373_.2
              have gp : 1 ≤ (Int.tdiv (h 96 349) v372) → 1 ≤ v142 → 1 ≤ (Int.tdiv (h 96 349) v372) * v142 := fun u1 u2 => by have := Int.mul_le_mul u1 u2 (by decide) (by omega); omega
              refine ov_blk (ls2 := [(0, ov_r 90), (1, ov_i v5), (2, ov_i v45), (3, ov_i (350 + (4 * ((6 * v45) + v5)))), (4, ov_i v135), (5, ov_i v142), (6, ov_i ((Int.tdiv (h 96 349) v372) * v142))]) (st2 := []) (pc2 := 189) b_219_186_2 rfl rfl ?_
              exact J179 ((Int.tdiv (h 96 349) v372) * v142) (by show 0 ≤ ((Int.tdiv (h 96 349) v372) * v142) ∧ ((Int.tdiv (h 96 349) v372) * v142) ≤ 72000 ∧ (1 ≤ (h 96 349) → (h160 90 8) = 0 → 1 ≤ ((Int.tdiv (h 96 349) v372) * v142)) ∧ ((h160 90 8) = 0 → ((Int.tdiv (h 96 349) v372) * v142) % (h 96 349) = 0 ∧ (v135 < 2 → ((Int.tdiv (h 96 349) v372) * v142) % v142 = 0)); exact ⟨by omega, by omega, fun u1 u2 => by omega, fun e => ⟨by omega, fun u3 => by omega⟩⟩)
            · skip
              refine ov_blk (ls2 := [(0, ov_r 90), (1, ov_i v5), (2, ov_i v45), (3, ov_i (350 + (4 * ((6 * v45) + v5)))), (4, ov_i v135), (5, ov_i v142)]) (st2 := [ov_r 90]) (pc2 := 152) b_219_151_1 rfl rfl ?_
              refine ov_getf (v := ov_r 96) d_219_152 fl_Mo_81 (zb_90 I161) (zs_90 I161) (congrArg ov_r (rg_90_10 I161)) ?_
              refine ov_blk (ls2 := [(0, ov_r 90), (1, ov_i v5), (2, ov_i v45), (3, ov_i (350 + (4 * ((6 * v45) + v5)))), (4, ov_i v135), (5, ov_i v142)]) (st2 := [ov_i 349, ov_r 96]) (pc2 := 158) b_219_155_1 rfl rfl ?_
              refine ov_iald d_219_158 (zb_96 I161) (zs_96 I161) (by omega) ?_
              rw [show h160 96 = h 96 from E167]
              have g376 := t96_349 I
              have em := Int.emod_self (a := (h 96 349))
              refine ov_goto (tgt := 187) d_219_159 (by decide) ?_
              refine ov_blk (ls2 := [(0, ov_r 90), (1, ov_i v5), (2, ov_i v45), (3, ov_i (350 + (4 * ((6 * v45) + v5)))), (4, ov_i v135), (5, ov_i v142), (6, ov_i (h 96 349))]) (st2 := []) (pc2 := 189) b_219_187_1 rfl rfl ?_
              exact J179 (h 96 349) (by show 0 ≤ (h 96 349) ∧ (h 96 349) ≤ 72000 ∧ (1 ≤ (h 96 349) → (h160 90 8) = 0 → 1 ≤ (h 96 349)) ∧ ((h160 90 8) = 0 → (h 96 349) % (h 96 349) = 0 ∧ (v135 < 2 → (h 96 349) % v142 = 0)); exact ⟨by omega, by omega, fun u1 u2 => by omega, fun e => ⟨by omega, fun u3 => by omega⟩⟩)
        · skip
          refine ov_blk (ls2 := [(0, ov_r 90), (1, ov_i v5), (2, ov_i v45), (3, ov_i (350 + (4 * ((6 * v45) + v5)))), (4, ov_i v135)]) (st2 := [ov_i 1, ov_r 90]) (pc2 := 113) b_219_111_2 rfl rfl ?_
          refine ov_cV (as := [ov_i 1]) (st := []) (d2 := d - 1) d_219_113 lk_Mo_186 rfl (Nat.le_of_ble_eq_true rfl) (c := 1) (zb_90 I64) (zs_90 I64) ⟨by decide, rfl⟩ (by omega) (c_Mo_wrong_90 (d - 1) (by omega) U I64 1 (by omega) (by omega)) ?_
          rintro _ z394 h395 ⟨rfl, I396, f377, e378, e379, e380, e381, e382, e383, e384, e385, e386, e387, e388, e389, e390, e391, e392, e393⟩
          have E397 : h395 91 = h 91 := Eq.trans e378 E65
          have E398 : h395 92 = h 92 := Eq.trans e379 E66
          have E399 : h395 93 = h 93 := Eq.trans e380 E67
          have E400 : h395 94 = h 94 := Eq.trans e381 E68
          have E401 : h395 95 = h 95 := Eq.trans e382 E69
          have E402 : h395 96 = h 96 := Eq.trans e383 E70
          have E403 : h395 97 = h 97 := Eq.trans e384 E71
          have E404 : h395 98 = h 98 := Eq.trans e385 E72
          have E405 : h395 99 = h 99 := Eq.trans e386 E73
          have E406 : h395 100 = h 100 := Eq.trans e387 E74
          have E407 : h395 103 = h 103 := Eq.trans e388 E75
          have E408 : h395 104 = h 104 := Eq.trans e389 E76
          have E409 : h395 105 = h 105 := Eq.trans e390 E77
          have E410 : h395 106 = h 106 := Eq.trans e391 E78
          have E411 : h395 109 = h 109 := Eq.trans e392 E79
          have E412 : h395 114 = h 114 := Eq.trans e393 E80
          show ov_R u d ov_m219 116 [(0, ov_r 90), (1, ov_i v5), (2, ov_i v45), (3, ov_i (350 + (4 * ((6 * v45) + v5)))), (4, ov_i v135)] [] z394 h395 (P_Mo_readLight_90 F z h n)
          have f413 : (h395 90 2) = (h63 90 2) ∧ (h395 90 7) = (h63 90 7) ∧ (h395 90 13) = (h63 90 13) ∧ (h395 90 20) = (h63 90 20) ∧ (h395 90 22) = (h63 90 22) ∧ (h395 90 25) = (h63 90 25) ∧ (h395 90 26) = (h63 90 26) ∧ (h395 90 28) = (h63 90 28) ∧ (h395 90 29) = (h63 90 29) ∧ (h395 90 30) = (h63 90 30) ∧ (h395 90 34) = (h63 90 34) ∧ 0 < (h395 90 8) ∧ (h63 90 8) ≤ (h395 90 8) := f377
          clear f377
          have cf414 : h395 96 340 = h 96 340 := congrFun E402 340
          have cf415 : h395 96 341 = h 96 341 := congrFun E402 341
          have cf416 : h395 96 342 = h 96 342 := congrFun E402 342
          have cf417 : h395 96 349 = h 96 349 := congrFun E402 349
          have R418 : ov_RD (h 96) (h 97) (h 98) (h 90 13) (h395 96) (h395 97) (h395 98) (h 90 13) := by rw [show h395 96 = h 96 from E402, show h395 97 = h 97 from E403, show h395 98 = h 98 from E404]; exact ov_RD_refl _ _ _ _
          exact ov_retv (st := []) d_219_116 rfl ⟨rfl, I396, (by show (h395 90 2) = (h 90 2) ∧ (h395 90 13) = (h 90 13) ∧ (h395 90 20) = (h 90 20) ∧ (h395 90 22) = (h 90 22) ∧ (h395 90 25) = (h 90 25) ∧ (h395 90 26) = (h 90 26) ∧ (h395 90 28) = (h 90 28) ∧ (h395 90 29) = (h 90 29) ∧ (h395 90 30) = (h 90 30) ∧ (h395 90 34) = (h 90 34) ∧ (h 90 7) ≤ (h395 90 7) ∧ (h395 90 7) ≤ n ∧ (h 90 13) ≤ (h395 90 13) ∧ (h395 90 13) - (h 90 13) ≤ (h395 90 7) - (h 90 7) ∧ (h395 96 340) = (h 96 340) ∧ (h395 96 341) = (h 96 341) ∧ ((h395 90 8) = 0 → 1 ≤ (h 96 342) → 1 ≤ (h395 96 342)) ∧ (1 ≤ (h 96 349) → 1 ≤ (h395 96 349)); omega), E397, E398, E399, E400, E401, E403, E404, E405, E406, E407, E408, E409, E410, E411, E412, R418.1, R418.2.1, (fun _ w => by show ov_CS (h395 96) (h395 97) (h395 98) (h395 90 13); rw [show (h395 90 13) = h 90 13 by omega]; exact R418.2.2 w)⟩
      · omega
    · skip
      refine ov_blk (ls2 := [(0, ov_r 90), (1, ov_i v5), (2, ov_i v45), (3, ov_i (350 + (4 * ((6 * v45) + v5))))]) (st2 := [ov_r 90, ov_r 90]) (pc2 := 73) b_219_71_2 rfl rfl ?_
      refine ov_getf (v := ov_i (h63 90 7)) d_219_73 fl_Mo_177 (zb_90 I64) (zs_90 I64) rfl ?_
      have g419 := rg_90_7 I64
      refine ov_blk (ls2 := [(0, ov_r 90), (1, ov_i v5), (2, ov_i v45), (3, ov_i (350 + (4 * ((6 * v45) + v5))))]) (st2 := [ov_i ((h63 90 7) - 1), ov_r 90]) (pc2 := 78) b_219_76_2 rfl rfl ?_
      refine ov_putf (x := ((h63 90 7) - 1)) d_219_78 fl_Mo_177 (zb_90 I64) (zs_90 I64) rfl nk_0 rfl ?_
      have I420 := up_90_7 (x := ((h63 90 7) - 1)) I64 (by omega)
      refine ov_blk (ls2 := [(0, ov_r 90), (1, ov_i v5), (2, ov_i v45), (3, ov_i (350 + (4 * ((6 * v45) + v5))))]) (st2 := [ov_i 3, ov_r 90]) (pc2 := 83) b_219_81_2 rfl rfl ?_
      refine ov_cV (as := [ov_i 3]) (st := []) (d2 := d - 1) d_219_83 lk_Mo_186 rfl (Nat.le_of_ble_eq_true rfl) (c := 1) (zb_90 I420) (zs_90 I420) ⟨by decide, rfl⟩ (by omega) (c_Mo_wrong_90 (d - 1) (by omega) U I420 3 (by omega) (by omega)) ?_
      rintro _ z438 h439 ⟨rfl, I440, f421, e422, e423, e424, e425, e426, e427, e428, e429, e430, e431, e432, e433, e434, e435, e436, e437⟩
      have E441 : h439 91 = h 91 := Eq.trans e422 E65
      have E442 : h439 92 = h 92 := Eq.trans e423 E66
      have E443 : h439 93 = h 93 := Eq.trans e424 E67
      have E444 : h439 94 = h 94 := Eq.trans e425 E68
      have E445 : h439 95 = h 95 := Eq.trans e426 E69
      have E446 : h439 96 = h 96 := Eq.trans e427 E70
      have E447 : h439 97 = h 97 := Eq.trans e428 E71
      have E448 : h439 98 = h 98 := Eq.trans e429 E72
      have E449 : h439 99 = h 99 := Eq.trans e430 E73
      have E450 : h439 100 = h 100 := Eq.trans e431 E74
      have E451 : h439 103 = h 103 := Eq.trans e432 E75
      have E452 : h439 104 = h 104 := Eq.trans e433 E76
      have E453 : h439 105 = h 105 := Eq.trans e434 E77
      have E454 : h439 106 = h 106 := Eq.trans e435 E78
      have E455 : h439 109 = h 109 := Eq.trans e436 E79
      have E456 : h439 114 = h 114 := Eq.trans e437 E80
      show ov_R u d ov_m219 86 [(0, ov_r 90), (1, ov_i v5), (2, ov_i v45), (3, ov_i (350 + (4 * ((6 * v45) + v5))))] [] z438 h439 (P_Mo_readLight_90 F z h n)
      have f457 : (h439 90 2) = (h63 90 2) ∧ (h439 90 7) = ((h63 90 7) - 1) ∧ (h439 90 13) = (h63 90 13) ∧ (h439 90 20) = (h63 90 20) ∧ (h439 90 22) = (h63 90 22) ∧ (h439 90 25) = (h63 90 25) ∧ (h439 90 26) = (h63 90 26) ∧ (h439 90 28) = (h63 90 28) ∧ (h439 90 29) = (h63 90 29) ∧ (h439 90 30) = (h63 90 30) ∧ (h439 90 34) = (h63 90 34) ∧ 0 < (h439 90 8) ∧ (h63 90 8) ≤ (h439 90 8) := f421
      clear f421
      refine ov_blk (ls2 := [(0, ov_r 90), (1, ov_i v5), (2, ov_i v45), (3, ov_i (350 + (4 * ((6 * v45) + v5))))]) (st2 := [ov_r 90]) (pc2 := 87) b_219_86_1 rfl rfl ?_
      refine ov_getf (v := ov_i (h439 90 8)) d_219_87 fl_Mo_180 (zb_90 I440) (zs_90 I440) rfl ?_
      have g458 := rg_90_8 I440
      refine ov_ifle (tgt := 97) d_219_90 (by decide) (by omega) (fun c459 => ?_) (fun c459 => ?_)
      · omega
      · skip
        refine ov_blk (ls2 := [(0, ov_r 90), (1, ov_i v5), (2, ov_i v45), (3, ov_i (350 + (4 * ((6 * v45) + v5))))]) (st2 := [ov_i (-1)]) (pc2 := 94) b_219_93_1 rfl rfl ?_
        refine ov_goto (tgt := 104) d_219_94 (by decide) ?_
        refine ov_blk (ls2 := [(0, ov_r 90), (1, ov_i v5), (2, ov_i v45), (3, ov_i (350 + (4 * ((6 * v45) + v5)))), (4, ov_i (-1))]) (st2 := [ov_i (-1)]) (pc2 := 108) b_219_104_2 rfl rfl ?_
        refine ov_ifge (tgt := 117) d_219_108 (by decide) (by omega) (fun c460 => ?_) (fun c460 => ?_)
        · omega
        · skip
          refine ov_blk (ls2 := [(0, ov_r 90), (1, ov_i v5), (2, ov_i v45), (3, ov_i (350 + (4 * ((6 * v45) + v5)))), (4, ov_i (-1))]) (st2 := [ov_i 1, ov_r 90]) (pc2 := 113) b_219_111_2 rfl rfl ?_
          refine ov_cV (as := [ov_i 1]) (st := []) (d2 := d - 1) d_219_113 lk_Mo_186 rfl (Nat.le_of_ble_eq_true rfl) (c := 1) (zb_90 I440) (zs_90 I440) ⟨by decide, rfl⟩ (by omega) (c_Mo_wrong_90 (d - 1) (by omega) U I440 1 (by omega) (by omega)) ?_
          rintro _ z478 h479 ⟨rfl, I480, f461, e462, e463, e464, e465, e466, e467, e468, e469, e470, e471, e472, e473, e474, e475, e476, e477⟩
          have E481 : h479 91 = h 91 := Eq.trans e462 E441
          have E482 : h479 92 = h 92 := Eq.trans e463 E442
          have E483 : h479 93 = h 93 := Eq.trans e464 E443
          have E484 : h479 94 = h 94 := Eq.trans e465 E444
          have E485 : h479 95 = h 95 := Eq.trans e466 E445
          have E486 : h479 96 = h 96 := Eq.trans e467 E446
          have E487 : h479 97 = h 97 := Eq.trans e468 E447
          have E488 : h479 98 = h 98 := Eq.trans e469 E448
          have E489 : h479 99 = h 99 := Eq.trans e470 E449
          have E490 : h479 100 = h 100 := Eq.trans e471 E450
          have E491 : h479 103 = h 103 := Eq.trans e472 E451
          have E492 : h479 104 = h 104 := Eq.trans e473 E452
          have E493 : h479 105 = h 105 := Eq.trans e474 E453
          have E494 : h479 106 = h 106 := Eq.trans e475 E454
          have E495 : h479 109 = h 109 := Eq.trans e476 E455
          have E496 : h479 114 = h 114 := Eq.trans e477 E456
          show ov_R u d ov_m219 116 [(0, ov_r 90), (1, ov_i v5), (2, ov_i v45), (3, ov_i (350 + (4 * ((6 * v45) + v5)))), (4, ov_i (-1))] [] z478 h479 (P_Mo_readLight_90 F z h n)
          have f497 : (h479 90 2) = (h439 90 2) ∧ (h479 90 7) = (h439 90 7) ∧ (h479 90 13) = (h439 90 13) ∧ (h479 90 20) = (h439 90 20) ∧ (h479 90 22) = (h439 90 22) ∧ (h479 90 25) = (h439 90 25) ∧ (h479 90 26) = (h439 90 26) ∧ (h479 90 28) = (h439 90 28) ∧ (h479 90 29) = (h439 90 29) ∧ (h479 90 30) = (h439 90 30) ∧ (h479 90 34) = (h439 90 34) ∧ 0 < (h479 90 8) ∧ (h439 90 8) ≤ (h479 90 8) := f461
          clear f461
          have cf498 : h479 96 340 = h 96 340 := congrFun E486 340
          have cf499 : h479 96 341 = h 96 341 := congrFun E486 341
          have cf500 : h479 96 342 = h 96 342 := congrFun E486 342
          have cf501 : h479 96 349 = h 96 349 := congrFun E486 349
          have R502 : ov_RD (h 96) (h 97) (h 98) (h 90 13) (h479 96) (h479 97) (h479 98) (h 90 13) := by rw [show h479 96 = h 96 from E486, show h479 97 = h 97 from E487, show h479 98 = h 98 from E488]; exact ov_RD_refl _ _ _ _
          exact ov_retv (st := []) d_219_116 rfl ⟨rfl, I480, (by show (h479 90 2) = (h 90 2) ∧ (h479 90 13) = (h 90 13) ∧ (h479 90 20) = (h 90 20) ∧ (h479 90 22) = (h 90 22) ∧ (h479 90 25) = (h 90 25) ∧ (h479 90 26) = (h 90 26) ∧ (h479 90 28) = (h 90 28) ∧ (h479 90 29) = (h 90 29) ∧ (h479 90 30) = (h 90 30) ∧ (h479 90 34) = (h 90 34) ∧ (h 90 7) ≤ (h479 90 7) ∧ (h479 90 7) ≤ n ∧ (h 90 13) ≤ (h479 90 13) ∧ (h479 90 13) - (h 90 13) ≤ (h479 90 7) - (h 90 7) ∧ (h479 96 340) = (h 96 340) ∧ (h479 96 341) = (h 96 341) ∧ ((h479 90 8) = 0 → 1 ≤ (h 96 342) → 1 ≤ (h479 96 342)) ∧ (1 ≤ (h 96 349) → 1 ≤ (h479 96 349)); omega), E481, E482, E483, E484, E485, E487, E488, E489, E490, E491, E492, E493, E494, E495, E496, R502.1, R502.2.1, (fun _ w => by show ov_CS (h479 96) (h479 97) (h479 98) (h479 90 13); rw [show (h479 90 13) = h 90 13 by omega]; exact R502.2.2 w)⟩

abbrev P_Mo_readBar_90 (F : ov_H × ov_Z) (z : ov_Z) (h : ov_H) (n : Int) : Option ov_V → ov_Z → ov_H → Prop := fun r0 z' h' => r0 = none ∧ ov_N F z' h' ∧ ((h' 90 2) = (h 90 2) ∧ (h' 90 13) = (h 90 13) ∧ (h' 90 20) = (h 90 20) ∧ (h' 90 22) = (h 90 22) ∧ (h' 90 25) = (h 90 25) ∧ (h' 90 26) = (h 90 26) ∧ (h' 90 28) = (h 90 28) ∧ (h' 90 29) = (h 90 29) ∧ (h' 90 30) = (h 90 30) ∧ (h' 90 34) = (h 90 34) ∧ (h 90 7) ≤ (h' 90 7) ∧ (h' 90 7) ≤ n ∧ (h 90 13) ≤ (h' 90 13) ∧ (h' 90 13) - (h 90 13) ≤ (h' 90 7) - (h 90 7) ∧ (h' 96 340) = (h 96 340) ∧ (h' 96 341) = (h 96 341) ∧ ((h' 90 8) = 0 → 1 ≤ (h 96 342) → 1 ≤ (h' 96 342)) ∧ (1 ≤ (h 96 349) → 1 ≤ (h' 96 349))) ∧ h' 91 = h 91 ∧ h' 92 = h 92 ∧ h' 93 = h 93 ∧ h' 94 = h 94 ∧ h' 95 = h 95 ∧ h' 97 = h 97 ∧ h' 98 = h 98 ∧ h' 99 = h 99 ∧ h' 100 = h 100 ∧ h' 103 = h 103 ∧ h' 104 = h 104 ∧ h' 105 = h 105 ∧ h' 106 = h 106 ∧ h' 109 = h 109 ∧ h' 114 = h 114 ∧ (ov_MK (h 96) (h 97) (h 98) (h' 96) (h' 97) (h' 98)) ∧ (ov_WS (h 96) → ov_WS (h' 96)) ∧ ((h' 90 8) = 0 → ov_CS (h 96) (h 97) (h 98) (h 90 13) → ov_CS (h' 96) (h' 97) (h' 98) (h' 90 13))
set_option maxHeartbeats 4000000 in
theorem c_Mo_readBar_90 {u : ov_U} {F : ov_H × ov_Z} (n : Int) {z : ov_Z} {h : ov_H} (d : Nat) (hd : 2 ≤ d) (U : ov_cap u) (I : ov_N F z h) (p0 : 0 ≤ n ∧ n ≤ 1000 ∧ (h 92 (n)) = 0 ∧ (h 90 7) ≤ n) (p1 : (h 90 13) ≤ (h 90 7)) (p2 : (h 90 8) = 0) (p3 : (h 90 7) < n) : ov_T u d ov_m223 [ov_r 90] z h (P_Mo_readBar_90 F z h n) := by
  refine ov_en rfl (Nat.le_of_ble_eq_true rfl) ?_
  show ov_R u d ov_m223 0 [(0, ov_r 90)] [] z h (P_Mo_readBar_90 F z h n)
  refine ov_blk (ls2 := [(0, ov_r 90)]) (st2 := [ov_r 90, ov_r 90]) (pc2 := 2) b_223_0_2 rfl rfl ?_
  refine ov_getf (v := ov_i (h 90 7)) d_223_2 fl_Mo_177 (zb_90 I) (zs_90 I) rfl ?_
  have g1 := rg_90_7 I
  refine ov_blk (ls2 := [(0, ov_r 90)]) (st2 := [ov_i ((h 90 7) + 1), ov_r 90]) (pc2 := 7) b_223_5_2 rfl rfl ?_
  refine ov_putf (x := ((h 90 7) + 1)) d_223_7 fl_Mo_177 (zb_90 I) (zs_90 I) rfl nk_0 rfl ?_
  have I2 := up_90_7 (x := ((h 90 7) + 1)) I (by omega)
  refine ov_blk (ls2 := [(0, ov_r 90)]) (st2 := [ov_r 90, ov_i 0, ov_r 90]) (pc2 := 13) b_223_10_3 rfl rfl ?_
  refine ov_getf (v := ov_r 96) d_223_13 fl_Mo_81 (zb_90 I2) (zs_90 I2) (congrArg ov_r (rg_90_10 I2)) ?_
  refine ov_blk (ls2 := [(0, ov_r 90)]) (st2 := [ov_i 340, ov_r 96, ov_i 0, ov_r 90]) (pc2 := 19) b_223_16_1 rfl rfl ?_
  refine ov_iald d_223_19 (zb_96 I2) (zs_96 I2) (by omega) ?_
  show ov_R u d ov_m223 20 [(0, ov_r 90)] [ov_i (h 96 340), ov_i 0, ov_r 90] z (ov_up h 90 7 ((h 90 7) + 1)) (P_Mo_readBar_90 F z h n)
  have g3 := t96_340 I
  refine ov_blk (ls2 := [(0, ov_r 90)]) (st2 := [ov_i ((h 96 340) - 1), ov_i 0, ov_r 90]) (pc2 := 22) b_223_20_2 rfl rfl ?_
  refine ov_cV (as := [ov_i 0, ov_i ((h 96 340) - 1)]) (st := []) (d2 := d - 1) d_223_22 lk_Mo_198 rfl (Nat.le_of_ble_eq_true rfl) (c := 1) (zb_90 I2) (zs_90 I2) ⟨by decide, rfl⟩ (by omega) (c_Mo_takeNumber_90 n (d - 1) (by omega) U I2 0 ((h 96 340) - 1) (by omega) (by omega) (by show 0 ≤ n ∧ n ≤ 1000 ∧ (h 92 (n)) = 0 ∧ ((h 90 7) + 1) ≤ n; omega)) ?_
  rintro _ z22 h23 ⟨v5, rfl, I24, f4, e6, e7, e8, e9, e10, e11, e12, e13, e14, e15, e16, e17, e18, e19, e20, e21⟩
  have E25 : h23 91 = h 91 := e6
  have E26 : h23 92 = h 92 := e7
  have E27 : h23 93 = h 93 := e8
  have E28 : h23 94 = h 94 := e9
  have E29 : h23 95 = h 95 := e10
  have E30 : h23 96 = h 96 := e11
  have E31 : h23 97 = h 97 := e12
  have E32 : h23 98 = h 98 := e13
  have E33 : h23 99 = h 99 := e14
  have E34 : h23 100 = h 100 := e15
  have E35 : h23 103 = h 103 := e16
  have E36 : h23 104 = h 104 := e17
  have E37 : h23 105 = h 105 := e18
  have E38 : h23 106 = h 106 := e19
  have E39 : h23 109 = h 109 := e20
  have E40 : h23 114 = h 114 := e21
  show ov_R u d ov_m223 25 [(0, ov_r 90)] [ov_i v5] z22 h23 (P_Mo_readBar_90 F z h n)
  have f41 : (h23 90 2) = (h 90 2) ∧ (h23 90 13) = (h 90 13) ∧ (h23 90 20) = (h 90 20) ∧ (h23 90 22) = (h 90 22) ∧ (h23 90 25) = (h 90 25) ∧ (h23 90 26) = (h 90 26) ∧ (h23 90 28) = (h 90 28) ∧ (h23 90 29) = (h 90 29) ∧ (h23 90 30) = (h 90 30) ∧ (h23 90 34) = (h 90 34) ∧ ((h 90 7) + 1) ≤ (h23 90 7) ∧ (h23 90 7) ≤ n ∧ (h 90 8) ≤ (h23 90 8) ∧ ((h23 90 8) = 0 → (0 : Int) ≤ v5 ∧ v5 ≤ ((h 96 340) - 1)) ∧ (0 < (h23 90 8) → v5 = 0) ∧ ((h 90 7) + 1) < (h23 90 7) + (h23 90 8) := f4
  clear f4
  refine ov_blk (ls2 := [(0, ov_r 90), (1, ov_i v5)]) (st2 := [ov_r 90, ov_i 0, ov_r 90]) (pc2 := 29) b_223_25_4 rfl rfl ?_
  refine ov_getf (v := ov_r 96) d_223_29 fl_Mo_81 (zb_90 I24) (zs_90 I24) (congrArg ov_r (rg_90_10 I24)) ?_
  refine ov_blk (ls2 := [(0, ov_r 90), (1, ov_i v5)]) (st2 := [ov_i 341, ov_r 96, ov_i 0, ov_r 90]) (pc2 := 35) b_223_32_1 rfl rfl ?_
  refine ov_iald d_223_35 (zb_96 I24) (zs_96 I24) (by omega) ?_
  rw [show h23 96 = h 96 from E30]
  have g42 := t96_341 I
  refine ov_blk (ls2 := [(0, ov_r 90), (1, ov_i v5)]) (st2 := [ov_i ((h 96 341) - 1), ov_i 0, ov_r 90]) (pc2 := 38) b_223_36_2 rfl rfl ?_
  have cf43 : h23 92 (n) = h 92 (n) := congrFun E26 (n)
  refine ov_cV (as := [ov_i 0, ov_i ((h 96 341) - 1)]) (st := []) (d2 := d - 1) d_223_38 lk_Mo_198 rfl (Nat.le_of_ble_eq_true rfl) (c := 1) (zb_90 I24) (zs_90 I24) ⟨by decide, rfl⟩ (by omega) (c_Mo_takeNumber_90 n (d - 1) (by omega) U I24 0 ((h 96 341) - 1) (by omega) (by omega) (by show 0 ≤ n ∧ n ≤ 1000 ∧ (h23 92 (n)) = 0 ∧ (h23 90 7) ≤ n; omega)) ?_
  rintro _ z62 h63 ⟨v45, rfl, I64, f44, e46, e47, e48, e49, e50, e51, e52, e53, e54, e55, e56, e57, e58, e59, e60, e61⟩
  have E65 : h63 91 = h 91 := Eq.trans e46 E25
  have E66 : h63 92 = h 92 := Eq.trans e47 E26
  have E67 : h63 93 = h 93 := Eq.trans e48 E27
  have E68 : h63 94 = h 94 := Eq.trans e49 E28
  have E69 : h63 95 = h 95 := Eq.trans e50 E29
  have E70 : h63 96 = h 96 := Eq.trans e51 E30
  have E71 : h63 97 = h 97 := Eq.trans e52 E31
  have E72 : h63 98 = h 98 := Eq.trans e53 E32
  have E73 : h63 99 = h 99 := Eq.trans e54 E33
  have E74 : h63 100 = h 100 := Eq.trans e55 E34
  have E75 : h63 103 = h 103 := Eq.trans e56 E35
  have E76 : h63 104 = h 104 := Eq.trans e57 E36
  have E77 : h63 105 = h 105 := Eq.trans e58 E37
  have E78 : h63 106 = h 106 := Eq.trans e59 E38
  have E79 : h63 109 = h 109 := Eq.trans e60 E39
  have E80 : h63 114 = h 114 := Eq.trans e61 E40
  show ov_R u d ov_m223 41 [(0, ov_r 90), (1, ov_i v5)] [ov_i v45] z62 h63 (P_Mo_readBar_90 F z h n)
  have f81 : (h63 90 2) = (h23 90 2) ∧ (h63 90 13) = (h23 90 13) ∧ (h63 90 20) = (h23 90 20) ∧ (h63 90 22) = (h23 90 22) ∧ (h63 90 25) = (h23 90 25) ∧ (h63 90 26) = (h23 90 26) ∧ (h63 90 28) = (h23 90 28) ∧ (h63 90 29) = (h23 90 29) ∧ (h63 90 30) = (h23 90 30) ∧ (h63 90 34) = (h23 90 34) ∧ (h23 90 7) ≤ (h63 90 7) ∧ (h63 90 7) ≤ n ∧ (h23 90 8) ≤ (h63 90 8) ∧ ((h63 90 8) = 0 → (0 : Int) ≤ v45 ∧ v45 ≤ ((h 96 341) - 1)) ∧ (0 < (h63 90 8) → v45 = 0) ∧ (h23 90 7) < (h63 90 7) + (h63 90 8) := f44
  clear f44
  refine ov_blk (ls2 := [(0, ov_r 90), (1, ov_i v5), (2, ov_i v45)]) (st2 := [ov_r 90]) (pc2 := 43) b_223_41_2 rfl rfl ?_
  refine ov_getf (v := ov_i (h63 90 8)) d_223_43 fl_Mo_180 (zb_90 I64) (zs_90 I64) rfl ?_
  have g82 := rg_90_8 I64
  refine ov_ifle (tgt := 53) d_223_46 (by decide) (by omega) (fun c83 => ?_) (fun c83 => ?_)
  · skip
    refine ov_blk (ls2 := [(0, ov_r 90), (1, ov_i v5), (2, ov_i v45)]) (st2 := [ov_i 2, ov_i 10, ov_r 90]) (pc2 := 57) b_223_53_3 rfl rfl ?_
    have cf84 : h63 92 (n) = h 92 (n) := congrFun E66 (n)
    refine ov_cV (as := [ov_i 10, ov_i 2]) (st := []) (d2 := d - 1) d_223_57 lk_Mo_202 rfl (Nat.le_of_ble_eq_true rfl) (c := 1) (zb_90 I64) (zs_90 I64) ⟨by decide, rfl⟩ (by omega) (c_Mo_wordHere_90 n (d - 1) (by omega) U I64 10 2 (by omega) (by omega) (by show 0 ≤ n ∧ n ≤ 1000 ∧ (h63 92 (n)) = 0 ∧ (h63 90 7) ≤ n; omega) (by omega)) ?_
    rintro _ _ _ ⟨v86, rfl, rfl, rfl, f85⟩
    show ov_R u d ov_m223 60 [(0, ov_r 90), (1, ov_i v5), (2, ov_i v45)] [ov_i v86] z62 h63 (P_Mo_readBar_90 F z h n)
    have f87 : -1 ≤ v86 ∧ v86 < (2 : Int) ∧ (0 ≤ v86 → (h63 90 7) < n ∧ (h63 90 8) = 0) := f85
    clear f85
    refine ov_blk (ls2 := [(0, ov_r 90), (1, ov_i v5), (2, ov_i v45), (3, ov_i v86)]) (st2 := [ov_i v86]) (pc2 := 62) b_223_60_2 rfl rfl ?_
    refine ov_ifge (tgt := 71) d_223_62 (by decide) (by omega) (fun c88 => ?_) (fun c88 => ?_)
    · skip
      refine ov_blk (ls2 := [(0, ov_r 90), (1, ov_i v5), (2, ov_i v45), (3, ov_i v86), (4, ov_i ((566 + (6 * v45)) + v5))]) (st2 := [ov_r 90]) (pc2 := 84) b_223_71_9 rfl rfl ?_
      refine ov_getf (v := ov_r 96) d_223_84 fl_Mo_81 (zb_90 I64) (zs_90 I64) (congrArg ov_r (rg_90_10 I64)) ?_
      refine ov_blk (ls2 := [(0, ov_r 90), (1, ov_i v5), (2, ov_i v45), (3, ov_i v86), (4, ov_i ((566 + (6 * v45)) + v5))]) (st2 := [ov_i ((566 + (6 * v45)) + v5), ov_r 96]) (pc2 := 89) b_223_87_1 rfl rfl ?_
      refine ov_iald d_223_89 (zb_96 I64) (zs_96 I64) (by omega) ?_
      rw [show h63 96 = h 96 from E70]
      have g89 := g96 I ((566 + (6 * v45)) + v5)
      refine ov_blk (ls2 := [(0, ov_r 90), (1, ov_i v5), (2, ov_i v45), (3, ov_i v86), (4, ov_i ((566 + (6 * v45)) + v5))]) (st2 := [ov_i 1, ov_i (ov_and (ov_shr (h 96 ((566 + (6 * v45)) + v5)) v86) 1)]) (pc2 := 95) b_223_90_5 rfl rfl ?_
      have g90 := ov_shrg (h 96 ((566 + (6 * v45)) + v5)) v86
      have g91 := ov_andg (ov_shr (h 96 ((566 + (6 * v45)) + v5)) v86) 1
      have g92 := ov_and1 (ov_shr (h 96 ((566 + (6 * v45)) + v5)) v86)
      refine ov_icne (tgt := 104) d_223_95 (by decide) (by omega) (by omega) (fun c93 => ?_) (fun c93 => ?_)
      · skip
        refine ov_blk (ls2 := [(0, ov_r 90), (1, ov_i v5), (2, ov_i v45), (3, ov_i v86), (4, ov_i ((566 + (6 * v45)) + v5))]) (st2 := [ov_r 90, ov_r 90]) (pc2 := 106) b_223_104_2 rfl rfl ?_
        refine ov_getf (v := ov_i (h63 90 7)) d_223_106 fl_Mo_177 (zb_90 I64) (zs_90 I64) rfl ?_
        have g94 := rg_90_7 I64
        refine ov_blk (ls2 := [(0, ov_r 90), (1, ov_i v5), (2, ov_i v45), (3, ov_i v86), (4, ov_i ((566 + (6 * v45)) + v5))]) (st2 := [ov_i ((h63 90 7) + 1), ov_r 90]) (pc2 := 111) b_223_109_2 rfl rfl ?_
        refine ov_putf (x := ((h63 90 7) + 1)) d_223_111 fl_Mo_177 (zb_90 I64) (zs_90 I64) rfl nk_0 rfl ?_
        have I95 := up_90_7 (x := ((h63 90 7) + 1)) I64 (by omega)
        refine ov_blk (ls2 := [(0, ov_r 90), (1, ov_i v5), (2, ov_i v45), (3, ov_i v86), (4, ov_i ((566 + (6 * v45)) + v5))]) (st2 := [ov_r 90]) (pc2 := 115) b_223_114_1 rfl rfl ?_
        refine ov_getf (v := ov_r 96) d_223_115 fl_Mo_81 (zb_90 I95) (zs_90 I95) (congrArg ov_r (rg_90_10 I95)) ?_
        refine ov_blk (ls2 := [(0, ov_r 90), (1, ov_i v5), (2, ov_i v45), (3, ov_i v86), (4, ov_i ((566 + (6 * v45)) + v5))]) (st2 := [ov_i ((566 + (6 * v45)) + v5), ov_r 96, ov_i ((566 + (6 * v45)) + v5), ov_r 96]) (pc2 := 121) b_223_118_2 rfl rfl ?_
        refine ov_iald d_223_121 (zb_96 I95) (zs_96 I95) (by omega) ?_
        show ov_R u d ov_m223 122 [(0, ov_r 90), (1, ov_i v5), (2, ov_i v45), (3, ov_i v86), (4, ov_i ((566 + (6 * v45)) + v5))] [ov_i ((ov_up h63 90 7 ((h63 90 7) + 1)) 96 ((566 + (6 * v45)) + v5)), ov_i ((566 + (6 * v45)) + v5), ov_r 96] z62 (ov_up h63 90 7 ((h63 90 7) + 1)) (P_Mo_readBar_90 F z h n)
        rw [show (ov_up h63 90 7 ((h63 90 7) + 1)) 96 = h 96 from E70]
        refine ov_blk (ls2 := [(0, ov_r 90), (1, ov_i v5), (2, ov_i v45), (3, ov_i v86), (4, ov_i ((566 + (6 * v45)) + v5))]) (st2 := [ov_i (ov_or (h 96 ((566 + (6 * v45)) + v5)) (ov_shl 1 v86)), ov_i ((566 + (6 * v45)) + v5), ov_r 96]) (pc2 := 126) b_223_122_4 rfl rfl ?_
        have g97 := ov_shlg 1 v86
        have g98 := ov_org (h 96 ((566 + (6 * v45)) + v5)) (ov_shl 1 v86)
        refine ov_iast d_223_126 (zb_96 I95) (zs_96 I95) (by omega) ?_
        have I99 := ua_96 (k := ((566 + (6 * v45)) + v5)) (x := (ov_or (h 96 ((566 + (6 * v45)) + v5)) (ov_shl 1 v86))) I95 (by refine ⟨?_, ?_, ?_, ?_, ?_, ?_, ?_, ?_, ?_, ?_, ?_, ?_, ?_, ?_, ?_, ?_, ?_, ?_, ?_, ?_, ?_, ?_, ?_, ?_, ?_, ?_, ?_, ?_, ?_⟩ <;> omega)
        have R100 : ov_RD (h 96) (h 97) (h 98) (h 90 13) ((ov_up h63 90 7 ((h63 90 7) + 1)) 96) ((ov_up h63 90 7 ((h63 90 7) + 1)) 97) ((ov_up h63 90 7 ((h63 90 7) + 1)) 98) (h 90 13) := by rw [show (ov_up h63 90 7 ((h63 90 7) + 1)) 96 = h 96 from E70, show (ov_up h63 90 7 ((h63 90 7) + 1)) 97 = h 97 from E71, show (ov_up h63 90 7 ((h63 90 7) + 1)) 98 = h 98 from E72]; exact ov_RD_refl _ _ _ _
        have R101 : ov_RD (h 96) (h 97) (h 98) (h 90 13) ((ov_up (ov_up h63 90 7 ((h63 90 7) + 1)) 96 ((566 + (6 * v45)) + v5) (ov_or (h 96 ((566 + (6 * v45)) + v5)) (ov_shl 1 v86))) 96) ((ov_up (ov_up h63 90 7 ((h63 90 7) + 1)) 96 ((566 + (6 * v45)) + v5) (ov_or (h 96 ((566 + (6 * v45)) + v5)) (ov_shl 1 v86))) 97) ((ov_up (ov_up h63 90 7 ((h63 90 7) + 1)) 96 ((566 + (6 * v45)) + v5) (ov_or (h 96 ((566 + (6 * v45)) + v5)) (ov_shl 1 v86))) 98) (h 90 13) := by rw [ov_up_row]; exact ov_RD_w R100 (t96_348 I95).2 (by omega)
        have lt102 : ((ov_up (ov_up h63 90 7 ((h63 90 7) + 1)) 96 ((566 + (6 * v45)) + v5) (ov_or (h 96 ((566 + (6 * v45)) + v5)) (ov_shl 1 v86))) 96 340) = h63 96 340 := by try rw [ov_up_j (by omega)]; try show h63 96 340 = _; try rfl
        have lt103 : h63 96 340 = h 96 340 := congrFun E70 340
        have lt104 : ((ov_up (ov_up h63 90 7 ((h63 90 7) + 1)) 96 ((566 + (6 * v45)) + v5) (ov_or (h 96 ((566 + (6 * v45)) + v5)) (ov_shl 1 v86))) 96 341) = h63 96 341 := by try rw [ov_up_j (by omega)]; try show h63 96 341 = _; try rfl
        have lt105 : h63 96 341 = h 96 341 := congrFun E70 341
        have lt106 : ((ov_up (ov_up h63 90 7 ((h63 90 7) + 1)) 96 ((566 + (6 * v45)) + v5) (ov_or (h 96 ((566 + (6 * v45)) + v5)) (ov_shl 1 v86))) 96 342) = h63 96 342 := by try rw [ov_up_j (by omega)]; try show h63 96 342 = _; try rfl
        have lt107 : h63 96 342 = h 96 342 := congrFun E70 342
        have lt108 : ((ov_up (ov_up h63 90 7 ((h63 90 7) + 1)) 96 ((566 + (6 * v45)) + v5) (ov_or (h 96 ((566 + (6 * v45)) + v5)) (ov_shl 1 v86))) 96 348) = h63 96 348 := by try rw [ov_up_j (by omega)]; try show h63 96 348 = _; try rfl
        have lt109 : h63 96 348 = h 96 348 := congrFun E70 348
        have lt110 : ((ov_up (ov_up h63 90 7 ((h63 90 7) + 1)) 96 ((566 + (6 * v45)) + v5) (ov_or (h 96 ((566 + (6 * v45)) + v5)) (ov_shl 1 v86))) 96 349) = h63 96 349 := by try rw [ov_up_j (by omega)]; try show h63 96 349 = _; try rfl
        have lt111 : h63 96 349 = h 96 349 := congrFun E70 349
        have cf112 : h63 96 340 = h 96 340 := congrFun E70 340
        have cf113 : h63 96 341 = h 96 341 := congrFun E70 341
        have cf114 : h63 96 342 = h 96 342 := congrFun E70 342
        have cf115 : h63 96 349 = h 96 349 := congrFun E70 349
        exact ov_retv (st := []) d_223_127 rfl ⟨rfl, I99, (by show (h63 90 2) = (h 90 2) ∧ (h63 90 13) = (h 90 13) ∧ (h63 90 20) = (h 90 20) ∧ (h63 90 22) = (h 90 22) ∧ (h63 90 25) = (h 90 25) ∧ (h63 90 26) = (h 90 26) ∧ (h63 90 28) = (h 90 28) ∧ (h63 90 29) = (h 90 29) ∧ (h63 90 30) = (h 90 30) ∧ (h63 90 34) = (h 90 34) ∧ (h 90 7) ≤ ((h63 90 7) + 1) ∧ ((h63 90 7) + 1) ≤ n ∧ (h 90 13) ≤ (h63 90 13) ∧ (h63 90 13) - (h 90 13) ≤ ((h63 90 7) + 1) - (h 90 7) ∧ ((ov_up (ov_up h63 90 7 ((h63 90 7) + 1)) 96 ((566 + (6 * v45)) + v5) (ov_or (h 96 ((566 + (6 * v45)) + v5)) (ov_shl 1 v86))) 96 340) = (h 96 340) ∧ ((ov_up (ov_up h63 90 7 ((h63 90 7) + 1)) 96 ((566 + (6 * v45)) + v5) (ov_or (h 96 ((566 + (6 * v45)) + v5)) (ov_shl 1 v86))) 96 341) = (h 96 341) ∧ ((h63 90 8) = 0 → 1 ≤ (h 96 342) → 1 ≤ ((ov_up (ov_up h63 90 7 ((h63 90 7) + 1)) 96 ((566 + (6 * v45)) + v5) (ov_or (h 96 ((566 + (6 * v45)) + v5)) (ov_shl 1 v86))) 96 342)) ∧ (1 ≤ (h 96 349) → 1 ≤ ((ov_up (ov_up h63 90 7 ((h63 90 7) + 1)) 96 ((566 + (6 * v45)) + v5) (ov_or (h 96 ((566 + (6 * v45)) + v5)) (ov_shl 1 v86))) 96 349)); omega), E65, E66, E67, E68, E69, E71, E72, E73, E74, E75, E76, E77, E78, E79, E80, R101.1, R101.2.1, (fun _ w => by show ov_CS ((ov_up (ov_up h63 90 7 ((h63 90 7) + 1)) 96 ((566 + (6 * v45)) + v5) (ov_or (h 96 ((566 + (6 * v45)) + v5)) (ov_shl 1 v86))) 96) ((ov_up (ov_up h63 90 7 ((h63 90 7) + 1)) 96 ((566 + (6 * v45)) + v5) (ov_or (h 96 ((566 + (6 * v45)) + v5)) (ov_shl 1 v86))) 97) ((ov_up (ov_up h63 90 7 ((h63 90 7) + 1)) 96 ((566 + (6 * v45)) + v5) (ov_or (h 96 ((566 + (6 * v45)) + v5)) (ov_shl 1 v86))) 98) (h63 90 13); rw [show (h63 90 13) = h 90 13 by omega]; exact R101.2.2 w)⟩
      · skip
        refine ov_blk (ls2 := [(0, ov_r 90), (1, ov_i v5), (2, ov_i v45), (3, ov_i v86), (4, ov_i ((566 + (6 * v45)) + v5))]) (st2 := [ov_i 3, ov_r 90]) (pc2 := 100) b_223_98_2 rfl rfl ?_
        refine ov_cV (as := [ov_i 3]) (st := []) (d2 := d - 1) d_223_100 lk_Mo_186 rfl (Nat.le_of_ble_eq_true rfl) (c := 1) (zb_90 I64) (zs_90 I64) ⟨by decide, rfl⟩ (by omega) (c_Mo_wrong_90 (d - 1) (by omega) U I64 3 (by omega) (by omega)) ?_
        rintro _ z133 h134 ⟨rfl, I135, f116, e117, e118, e119, e120, e121, e122, e123, e124, e125, e126, e127, e128, e129, e130, e131, e132⟩
        have E136 : h134 91 = h 91 := Eq.trans e117 E65
        have E137 : h134 92 = h 92 := Eq.trans e118 E66
        have E138 : h134 93 = h 93 := Eq.trans e119 E67
        have E139 : h134 94 = h 94 := Eq.trans e120 E68
        have E140 : h134 95 = h 95 := Eq.trans e121 E69
        have E141 : h134 96 = h 96 := Eq.trans e122 E70
        have E142 : h134 97 = h 97 := Eq.trans e123 E71
        have E143 : h134 98 = h 98 := Eq.trans e124 E72
        have E144 : h134 99 = h 99 := Eq.trans e125 E73
        have E145 : h134 100 = h 100 := Eq.trans e126 E74
        have E146 : h134 103 = h 103 := Eq.trans e127 E75
        have E147 : h134 104 = h 104 := Eq.trans e128 E76
        have E148 : h134 105 = h 105 := Eq.trans e129 E77
        have E149 : h134 106 = h 106 := Eq.trans e130 E78
        have E150 : h134 109 = h 109 := Eq.trans e131 E79
        have E151 : h134 114 = h 114 := Eq.trans e132 E80
        show ov_R u d ov_m223 103 [(0, ov_r 90), (1, ov_i v5), (2, ov_i v45), (3, ov_i v86), (4, ov_i ((566 + (6 * v45)) + v5))] [] z133 h134 (P_Mo_readBar_90 F z h n)
        have f152 : (h134 90 2) = (h63 90 2) ∧ (h134 90 7) = (h63 90 7) ∧ (h134 90 13) = (h63 90 13) ∧ (h134 90 20) = (h63 90 20) ∧ (h134 90 22) = (h63 90 22) ∧ (h134 90 25) = (h63 90 25) ∧ (h134 90 26) = (h63 90 26) ∧ (h134 90 28) = (h63 90 28) ∧ (h134 90 29) = (h63 90 29) ∧ (h134 90 30) = (h63 90 30) ∧ (h134 90 34) = (h63 90 34) ∧ 0 < (h134 90 8) ∧ (h63 90 8) ≤ (h134 90 8) := f116
        clear f116
        have cf153 : h134 96 340 = h 96 340 := congrFun E141 340
        have cf154 : h134 96 341 = h 96 341 := congrFun E141 341
        have cf155 : h134 96 342 = h 96 342 := congrFun E141 342
        have cf156 : h134 96 349 = h 96 349 := congrFun E141 349
        have R157 : ov_RD (h 96) (h 97) (h 98) (h 90 13) (h134 96) (h134 97) (h134 98) (h 90 13) := by rw [show h134 96 = h 96 from E141, show h134 97 = h 97 from E142, show h134 98 = h 98 from E143]; exact ov_RD_refl _ _ _ _
        exact ov_retv (st := []) d_223_103 rfl ⟨rfl, I135, (by show (h134 90 2) = (h 90 2) ∧ (h134 90 13) = (h 90 13) ∧ (h134 90 20) = (h 90 20) ∧ (h134 90 22) = (h 90 22) ∧ (h134 90 25) = (h 90 25) ∧ (h134 90 26) = (h 90 26) ∧ (h134 90 28) = (h 90 28) ∧ (h134 90 29) = (h 90 29) ∧ (h134 90 30) = (h 90 30) ∧ (h134 90 34) = (h 90 34) ∧ (h 90 7) ≤ (h134 90 7) ∧ (h134 90 7) ≤ n ∧ (h 90 13) ≤ (h134 90 13) ∧ (h134 90 13) - (h 90 13) ≤ (h134 90 7) - (h 90 7) ∧ (h134 96 340) = (h 96 340) ∧ (h134 96 341) = (h 96 341) ∧ ((h134 90 8) = 0 → 1 ≤ (h 96 342) → 1 ≤ (h134 96 342)) ∧ (1 ≤ (h 96 349) → 1 ≤ (h134 96 349)); omega), E136, E137, E138, E139, E140, E142, E143, E144, E145, E146, E147, E148, E149, E150, E151, R157.1, R157.2.1, (fun _ w => by show ov_CS (h134 96) (h134 97) (h134 98) (h134 90 13); rw [show (h134 90 13) = h 90 13 by omega]; exact R157.2.2 w)⟩
    · skip
      refine ov_blk (ls2 := [(0, ov_r 90), (1, ov_i v5), (2, ov_i v45), (3, ov_i v86)]) (st2 := [ov_i 1, ov_r 90]) (pc2 := 67) b_223_65_2 rfl rfl ?_
      refine ov_cV (as := [ov_i 1]) (st := []) (d2 := d - 1) d_223_67 lk_Mo_186 rfl (Nat.le_of_ble_eq_true rfl) (c := 1) (zb_90 I64) (zs_90 I64) ⟨by decide, rfl⟩ (by omega) (c_Mo_wrong_90 (d - 1) (by omega) U I64 1 (by omega) (by omega)) ?_
      rintro _ z175 h176 ⟨rfl, I177, f158, e159, e160, e161, e162, e163, e164, e165, e166, e167, e168, e169, e170, e171, e172, e173, e174⟩
      have E178 : h176 91 = h 91 := Eq.trans e159 E65
      have E179 : h176 92 = h 92 := Eq.trans e160 E66
      have E180 : h176 93 = h 93 := Eq.trans e161 E67
      have E181 : h176 94 = h 94 := Eq.trans e162 E68
      have E182 : h176 95 = h 95 := Eq.trans e163 E69
      have E183 : h176 96 = h 96 := Eq.trans e164 E70
      have E184 : h176 97 = h 97 := Eq.trans e165 E71
      have E185 : h176 98 = h 98 := Eq.trans e166 E72
      have E186 : h176 99 = h 99 := Eq.trans e167 E73
      have E187 : h176 100 = h 100 := Eq.trans e168 E74
      have E188 : h176 103 = h 103 := Eq.trans e169 E75
      have E189 : h176 104 = h 104 := Eq.trans e170 E76
      have E190 : h176 105 = h 105 := Eq.trans e171 E77
      have E191 : h176 106 = h 106 := Eq.trans e172 E78
      have E192 : h176 109 = h 109 := Eq.trans e173 E79
      have E193 : h176 114 = h 114 := Eq.trans e174 E80
      show ov_R u d ov_m223 70 [(0, ov_r 90), (1, ov_i v5), (2, ov_i v45), (3, ov_i v86)] [] z175 h176 (P_Mo_readBar_90 F z h n)
      have f194 : (h176 90 2) = (h63 90 2) ∧ (h176 90 7) = (h63 90 7) ∧ (h176 90 13) = (h63 90 13) ∧ (h176 90 20) = (h63 90 20) ∧ (h176 90 22) = (h63 90 22) ∧ (h176 90 25) = (h63 90 25) ∧ (h176 90 26) = (h63 90 26) ∧ (h176 90 28) = (h63 90 28) ∧ (h176 90 29) = (h63 90 29) ∧ (h176 90 30) = (h63 90 30) ∧ (h176 90 34) = (h63 90 34) ∧ 0 < (h176 90 8) ∧ (h63 90 8) ≤ (h176 90 8) := f158
      clear f158
      have cf195 : h176 96 340 = h 96 340 := congrFun E183 340
      have cf196 : h176 96 341 = h 96 341 := congrFun E183 341
      have cf197 : h176 96 342 = h 96 342 := congrFun E183 342
      have cf198 : h176 96 349 = h 96 349 := congrFun E183 349
      have R199 : ov_RD (h 96) (h 97) (h 98) (h 90 13) (h176 96) (h176 97) (h176 98) (h 90 13) := by rw [show h176 96 = h 96 from E183, show h176 97 = h 97 from E184, show h176 98 = h 98 from E185]; exact ov_RD_refl _ _ _ _
      exact ov_retv (st := []) d_223_70 rfl ⟨rfl, I177, (by show (h176 90 2) = (h 90 2) ∧ (h176 90 13) = (h 90 13) ∧ (h176 90 20) = (h 90 20) ∧ (h176 90 22) = (h 90 22) ∧ (h176 90 25) = (h 90 25) ∧ (h176 90 26) = (h 90 26) ∧ (h176 90 28) = (h 90 28) ∧ (h176 90 29) = (h 90 29) ∧ (h176 90 30) = (h 90 30) ∧ (h176 90 34) = (h 90 34) ∧ (h 90 7) ≤ (h176 90 7) ∧ (h176 90 7) ≤ n ∧ (h 90 13) ≤ (h176 90 13) ∧ (h176 90 13) - (h 90 13) ≤ (h176 90 7) - (h 90 7) ∧ (h176 96 340) = (h 96 340) ∧ (h176 96 341) = (h 96 341) ∧ ((h176 90 8) = 0 → 1 ≤ (h 96 342) → 1 ≤ (h176 96 342)) ∧ (1 ≤ (h 96 349) → 1 ≤ (h176 96 349)); omega), E178, E179, E180, E181, E182, E184, E185, E186, E187, E188, E189, E190, E191, E192, E193, R199.1, R199.2.1, (fun _ w => by show ov_CS (h176 96) (h176 97) (h176 98) (h176 90 13); rw [show (h176 90 13) = h 90 13 by omega]; exact R199.2.2 w)⟩
  · skip
    refine ov_blk (ls2 := [(0, ov_r 90), (1, ov_i v5), (2, ov_i v45)]) (st2 := [ov_i (-1)]) (pc2 := 50) b_223_49_1 rfl rfl ?_
    refine ov_goto (tgt := 60) d_223_50 (by decide) ?_
    refine ov_blk (ls2 := [(0, ov_r 90), (1, ov_i v5), (2, ov_i v45), (3, ov_i (-1))]) (st2 := [ov_i (-1)]) (pc2 := 62) b_223_60_2 rfl rfl ?_
    refine ov_ifge (tgt := 71) d_223_62 (by decide) (by omega) (fun c200 => ?_) (fun c200 => ?_)
    · omega
    · skip
      refine ov_blk (ls2 := [(0, ov_r 90), (1, ov_i v5), (2, ov_i v45), (3, ov_i (-1))]) (st2 := [ov_i 1, ov_r 90]) (pc2 := 67) b_223_65_2 rfl rfl ?_
      refine ov_cV (as := [ov_i 1]) (st := []) (d2 := d - 1) d_223_67 lk_Mo_186 rfl (Nat.le_of_ble_eq_true rfl) (c := 1) (zb_90 I64) (zs_90 I64) ⟨by decide, rfl⟩ (by omega) (c_Mo_wrong_90 (d - 1) (by omega) U I64 1 (by omega) (by omega)) ?_
      rintro _ z218 h219 ⟨rfl, I220, f201, e202, e203, e204, e205, e206, e207, e208, e209, e210, e211, e212, e213, e214, e215, e216, e217⟩
      have E221 : h219 91 = h 91 := Eq.trans e202 E65
      have E222 : h219 92 = h 92 := Eq.trans e203 E66
      have E223 : h219 93 = h 93 := Eq.trans e204 E67
      have E224 : h219 94 = h 94 := Eq.trans e205 E68
      have E225 : h219 95 = h 95 := Eq.trans e206 E69
      have E226 : h219 96 = h 96 := Eq.trans e207 E70
      have E227 : h219 97 = h 97 := Eq.trans e208 E71
      have E228 : h219 98 = h 98 := Eq.trans e209 E72
      have E229 : h219 99 = h 99 := Eq.trans e210 E73
      have E230 : h219 100 = h 100 := Eq.trans e211 E74
      have E231 : h219 103 = h 103 := Eq.trans e212 E75
      have E232 : h219 104 = h 104 := Eq.trans e213 E76
      have E233 : h219 105 = h 105 := Eq.trans e214 E77
      have E234 : h219 106 = h 106 := Eq.trans e215 E78
      have E235 : h219 109 = h 109 := Eq.trans e216 E79
      have E236 : h219 114 = h 114 := Eq.trans e217 E80
      show ov_R u d ov_m223 70 [(0, ov_r 90), (1, ov_i v5), (2, ov_i v45), (3, ov_i (-1))] [] z218 h219 (P_Mo_readBar_90 F z h n)
      have f237 : (h219 90 2) = (h63 90 2) ∧ (h219 90 7) = (h63 90 7) ∧ (h219 90 13) = (h63 90 13) ∧ (h219 90 20) = (h63 90 20) ∧ (h219 90 22) = (h63 90 22) ∧ (h219 90 25) = (h63 90 25) ∧ (h219 90 26) = (h63 90 26) ∧ (h219 90 28) = (h63 90 28) ∧ (h219 90 29) = (h63 90 29) ∧ (h219 90 30) = (h63 90 30) ∧ (h219 90 34) = (h63 90 34) ∧ 0 < (h219 90 8) ∧ (h63 90 8) ≤ (h219 90 8) := f201
      clear f201
      have cf238 : h219 96 340 = h 96 340 := congrFun E226 340
      have cf239 : h219 96 341 = h 96 341 := congrFun E226 341
      have cf240 : h219 96 342 = h 96 342 := congrFun E226 342
      have cf241 : h219 96 349 = h 96 349 := congrFun E226 349
      have R242 : ov_RD (h 96) (h 97) (h 98) (h 90 13) (h219 96) (h219 97) (h219 98) (h 90 13) := by rw [show h219 96 = h 96 from E226, show h219 97 = h 97 from E227, show h219 98 = h 98 from E228]; exact ov_RD_refl _ _ _ _
      exact ov_retv (st := []) d_223_70 rfl ⟨rfl, I220, (by show (h219 90 2) = (h 90 2) ∧ (h219 90 13) = (h 90 13) ∧ (h219 90 20) = (h 90 20) ∧ (h219 90 22) = (h 90 22) ∧ (h219 90 25) = (h 90 25) ∧ (h219 90 26) = (h 90 26) ∧ (h219 90 28) = (h 90 28) ∧ (h219 90 29) = (h 90 29) ∧ (h219 90 30) = (h 90 30) ∧ (h219 90 34) = (h 90 34) ∧ (h 90 7) ≤ (h219 90 7) ∧ (h219 90 7) ≤ n ∧ (h 90 13) ≤ (h219 90 13) ∧ (h219 90 13) - (h 90 13) ≤ (h219 90 7) - (h 90 7) ∧ (h219 96 340) = (h 96 340) ∧ (h219 96 341) = (h 96 341) ∧ ((h219 90 8) = 0 → 1 ≤ (h 96 342) → 1 ≤ (h219 96 342)) ∧ (1 ≤ (h 96 349) → 1 ≤ (h219 96 349)); omega), E221, E222, E223, E224, E225, E227, E228, E229, E230, E231, E232, E233, E234, E235, E236, R242.1, R242.2.1, (fun _ w => by show ov_CS (h219 96) (h219 97) (h219 98) (h219 90 13); rw [show (h219 90 13) = h 90 13 by omega]; exact R242.2.2 w)⟩

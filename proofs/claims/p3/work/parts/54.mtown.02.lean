abbrev P_Mo_readBar_90 (F : ov_H × ov_Z) (z : ov_Z) (h : ov_H) (n : Int) : Option ov_V → ov_Z → ov_H → Prop := fun r0 z' h' => r0 = none ∧ ov_N F z' h' ∧ ((h' 90 2) = (h 90 2) ∧ (h' 90 13) = (h 90 13) ∧ (h' 90 20) = (h 90 20) ∧ (h' 90 22) = (h 90 22) ∧ (h' 90 25) = (h 90 25) ∧ (h' 90 26) = (h 90 26) ∧ (h' 90 28) = (h 90 28) ∧ (h' 90 29) = (h 90 29) ∧ (h' 90 30) = (h 90 30) ∧ (h' 90 34) = (h 90 34) ∧ (h 90 7) ≤ (h' 90 7) ∧ (h' 90 7) ≤ n ∧ (h 90 13) ≤ (h' 90 13) ∧ (h' 90 13) - (h 90 13) ≤ (h' 90 7) - (h 90 7) ∧ (h' 96 340) = (h 96 340) ∧ (h' 96 341) = (h 96 341) ∧ ((h' 90 8) = 0 → 1 ≤ (h 96 342) → 1 ≤ (h' 96 342)) ∧ (1 ≤ (h 96 349) → 1 ≤ (h' 96 349))) ∧ h' 92 = h 92 ∧ h' 93 = h 93 ∧ h' 94 = h 94 ∧ h' 95 = h 95 ∧ h' 97 = h 97 ∧ h' 98 = h 98 ∧ h' 99 = h 99 ∧ h' 100 = h 100 ∧ h' 103 = h 103 ∧ h' 105 = h 105 ∧ h' 106 = h 106 ∧ h' 109 = h 109 ∧ h' 114 = h 114 ∧ (ov_MK (h 96) (h 97) (h 98) (h' 96) (h' 97) (h' 98)) ∧ (ov_WS (h 96) → ov_WS (h' 96)) ∧ ((h' 90 8) = 0 → ov_CS (h 96) (h 97) (h 98) (h 90 13) → ov_CS (h' 96) (h' 97) (h' 98) (h' 90 13))
set_option maxHeartbeats 4000000 in
theorem c_Mo_readBar_90 {u : ov_U} {F : ov_H × ov_Z} (n : Int) {z : ov_Z} {h : ov_H} (d : Nat) (hd : 2 ≤ d) (U : ov_cap u) (I : ov_N F z h) (p0 : 0 ≤ n ∧ n ≤ 1000 ∧ (h 92 (n)) = 0 ∧ (h 90 7) ≤ n) (p1 : (h 90 13) ≤ (h 90 7)) (p2 : (h 90 8) = 0) (p3 : (h 90 7) < n) : ov_T u d ov_m223 [ov_r 90] z h (P_Mo_readBar_90 F z h n) := by
  refine ov_en rfl (Nat.le_of_ble_eq_true rfl) ?_
  show ov_R u d ov_m223 0 [(0, ov_r 90)] [] z h (P_Mo_readBar_90 F z h n)
  refine ov_blk (ls2 := [(0, ov_r 90)]) (st2 := [ov_r 90, ov_r 90]) (pc2 := 2) b_223_0_2 rfl rfl ?_
  refine ov_getf (v := ov_i (h 90 7)) d_223_2 fl_Mo_177 (zb_90 I) (zs_90 I) rfl ?_
  have g1 := rg_90_7 I
  refine ov_blk (ls2 := [(0, ov_r 90)]) (st2 := [ov_i ((h 90 7) + 1), ov_r 90]) (pc2 := 7) b_223_5_2 rfl rfl ?_
  refine ov_putf (x := ((h 90 7) + 1)) d_223_7 fl_Mo_177 (zb_90 I) (zs_90 I) rfl nk_0 rfl ?_
  have I2 := up_90_7 (x := ((h 90 7) + 1)) I (by omega)
  refine ov_blk (ls2 := [(0, ov_r 90)]) (st2 := [ov_r 90, ov_i 0, ov_r 90]) (pc2 := 13) b_223_10_3 rfl rfl ?_
  refine ov_getf (v := ov_r 96) d_223_13 fl_Mo_81 (zb_90 I2) (zs_90 I2) (congrArg ov_r (rg_90_10 I2)) ?_
  refine ov_blk (ls2 := [(0, ov_r 90)]) (st2 := [ov_i 340, ov_r 96, ov_i 0, ov_r 90]) (pc2 := 19) b_223_16_1 rfl rfl ?_
  refine ov_iald d_223_19 (zb_96 I2) (zs_96 I2) (by omega) ?_
  show ov_R u d ov_m223 20 [(0, ov_r 90)] [ov_i (h 96 340), ov_i 0, ov_r 90] z (ov_up h 90 7 ((h 90 7) + 1)) (P_Mo_readBar_90 F z h n)
  have g3 := t96_340 I
  refine ov_blk (ls2 := [(0, ov_r 90)]) (st2 := [ov_i ((h 96 340) - 1), ov_i 0, ov_r 90]) (pc2 := 22) b_223_20_2 rfl rfl ?_
  refine ov_cV (as := [ov_i 0, ov_i ((h 96 340) - 1)]) (st := []) (d2 := d - 1) d_223_22 lk_Mo_198 rfl (Nat.le_of_ble_eq_true rfl) (c := 1) (zb_90 I2) (zs_90 I2) ⟨by decide, rfl⟩ (by omega) (c_Mo_takeNumber_90 n (d - 1) (by omega) U I2 0 ((h 96 340) - 1) (by omega) (by omega) (by show 0 ≤ n ∧ n ≤ 1000 ∧ (h 92 (n)) = 0 ∧ ((h 90 7) + 1) ≤ n; omega)) ?_
  rintro _ z20 h21 ⟨v5, rfl, I22, f4, e6, e7, e8, e9, e10, e11, e12, e13, e14, e15, e16, e17, e18, e19⟩
  have E23 : h21 92 = h 92 := e6
  have E24 : h21 93 = h 93 := e7
  have E25 : h21 94 = h 94 := e8
  have E26 : h21 95 = h 95 := e9
  have E27 : h21 96 = h 96 := e10
  have E28 : h21 97 = h 97 := e11
  have E29 : h21 98 = h 98 := e12
  have E30 : h21 99 = h 99 := e13
  have E31 : h21 100 = h 100 := e14
  have E32 : h21 103 = h 103 := e15
  have E33 : h21 105 = h 105 := e16
  have E34 : h21 106 = h 106 := e17
  have E35 : h21 109 = h 109 := e18
  have E36 : h21 114 = h 114 := e19
  show ov_R u d ov_m223 25 [(0, ov_r 90)] [ov_i v5] z20 h21 (P_Mo_readBar_90 F z h n)
  have f37 : (h21 90 2) = (h 90 2) ∧ (h21 90 13) = (h 90 13) ∧ (h21 90 20) = (h 90 20) ∧ (h21 90 22) = (h 90 22) ∧ (h21 90 25) = (h 90 25) ∧ (h21 90 26) = (h 90 26) ∧ (h21 90 28) = (h 90 28) ∧ (h21 90 29) = (h 90 29) ∧ (h21 90 30) = (h 90 30) ∧ (h21 90 34) = (h 90 34) ∧ ((h 90 7) + 1) ≤ (h21 90 7) ∧ (h21 90 7) ≤ n ∧ (h 90 8) ≤ (h21 90 8) ∧ ((h21 90 8) = 0 → (0 : Int) ≤ v5 ∧ v5 ≤ ((h 96 340) - 1)) ∧ (0 < (h21 90 8) → v5 = 0) ∧ ((h 90 7) + 1) < (h21 90 7) + (h21 90 8) := f4
  clear f4
  refine ov_blk (ls2 := [(0, ov_r 90), (1, ov_i v5)]) (st2 := [ov_r 90, ov_i 0, ov_r 90]) (pc2 := 29) b_223_25_4 rfl rfl ?_
  refine ov_getf (v := ov_r 96) d_223_29 fl_Mo_81 (zb_90 I22) (zs_90 I22) (congrArg ov_r (rg_90_10 I22)) ?_
  refine ov_blk (ls2 := [(0, ov_r 90), (1, ov_i v5)]) (st2 := [ov_i 341, ov_r 96, ov_i 0, ov_r 90]) (pc2 := 35) b_223_32_1 rfl rfl ?_
  refine ov_iald d_223_35 (zb_96 I22) (zs_96 I22) (by omega) ?_
  rw [show h21 96 = h 96 from E27]
  have g38 := t96_341 I
  refine ov_blk (ls2 := [(0, ov_r 90), (1, ov_i v5)]) (st2 := [ov_i ((h 96 341) - 1), ov_i 0, ov_r 90]) (pc2 := 38) b_223_36_2 rfl rfl ?_
  have cf39 : h21 92 (n) = h 92 (n) := congrFun E23 (n)
  refine ov_cV (as := [ov_i 0, ov_i ((h 96 341) - 1)]) (st := []) (d2 := d - 1) d_223_38 lk_Mo_198 rfl (Nat.le_of_ble_eq_true rfl) (c := 1) (zb_90 I22) (zs_90 I22) ⟨by decide, rfl⟩ (by omega) (c_Mo_takeNumber_90 n (d - 1) (by omega) U I22 0 ((h 96 341) - 1) (by omega) (by omega) (by show 0 ≤ n ∧ n ≤ 1000 ∧ (h21 92 (n)) = 0 ∧ (h21 90 7) ≤ n; omega)) ?_
  rintro _ z56 h57 ⟨v41, rfl, I58, f40, e42, e43, e44, e45, e46, e47, e48, e49, e50, e51, e52, e53, e54, e55⟩
  have E59 : h57 92 = h 92 := Eq.trans e42 E23
  have E60 : h57 93 = h 93 := Eq.trans e43 E24
  have E61 : h57 94 = h 94 := Eq.trans e44 E25
  have E62 : h57 95 = h 95 := Eq.trans e45 E26
  have E63 : h57 96 = h 96 := Eq.trans e46 E27
  have E64 : h57 97 = h 97 := Eq.trans e47 E28
  have E65 : h57 98 = h 98 := Eq.trans e48 E29
  have E66 : h57 99 = h 99 := Eq.trans e49 E30
  have E67 : h57 100 = h 100 := Eq.trans e50 E31
  have E68 : h57 103 = h 103 := Eq.trans e51 E32
  have E69 : h57 105 = h 105 := Eq.trans e52 E33
  have E70 : h57 106 = h 106 := Eq.trans e53 E34
  have E71 : h57 109 = h 109 := Eq.trans e54 E35
  have E72 : h57 114 = h 114 := Eq.trans e55 E36
  show ov_R u d ov_m223 41 [(0, ov_r 90), (1, ov_i v5)] [ov_i v41] z56 h57 (P_Mo_readBar_90 F z h n)
  have f73 : (h57 90 2) = (h21 90 2) ∧ (h57 90 13) = (h21 90 13) ∧ (h57 90 20) = (h21 90 20) ∧ (h57 90 22) = (h21 90 22) ∧ (h57 90 25) = (h21 90 25) ∧ (h57 90 26) = (h21 90 26) ∧ (h57 90 28) = (h21 90 28) ∧ (h57 90 29) = (h21 90 29) ∧ (h57 90 30) = (h21 90 30) ∧ (h57 90 34) = (h21 90 34) ∧ (h21 90 7) ≤ (h57 90 7) ∧ (h57 90 7) ≤ n ∧ (h21 90 8) ≤ (h57 90 8) ∧ ((h57 90 8) = 0 → (0 : Int) ≤ v41 ∧ v41 ≤ ((h 96 341) - 1)) ∧ (0 < (h57 90 8) → v41 = 0) ∧ (h21 90 7) < (h57 90 7) + (h57 90 8) := f40
  clear f40
  refine ov_blk (ls2 := [(0, ov_r 90), (1, ov_i v5), (2, ov_i v41)]) (st2 := [ov_r 90]) (pc2 := 43) b_223_41_2 rfl rfl ?_
  refine ov_getf (v := ov_i (h57 90 8)) d_223_43 fl_Mo_180 (zb_90 I58) (zs_90 I58) rfl ?_
  have g74 := rg_90_8 I58
  refine ov_ifle (tgt := 53) d_223_46 (by decide) (by omega) (fun c75 => ?_) (fun c75 => ?_)
  · skip
    refine ov_blk (ls2 := [(0, ov_r 90), (1, ov_i v5), (2, ov_i v41)]) (st2 := [ov_i 2, ov_i 10, ov_r 90]) (pc2 := 57) b_223_53_3 rfl rfl ?_
    have cf76 : h57 92 (n) = h 92 (n) := congrFun E59 (n)
    refine ov_cV (as := [ov_i 10, ov_i 2]) (st := []) (d2 := d - 1) d_223_57 lk_Mo_202 rfl (Nat.le_of_ble_eq_true rfl) (c := 1) (zb_90 I58) (zs_90 I58) ⟨by decide, rfl⟩ (by omega) (c_Mo_wordHere_90 n (d - 1) (by omega) U I58 10 2 (by omega) (by omega) (by show 0 ≤ n ∧ n ≤ 1000 ∧ (h57 92 (n)) = 0 ∧ (h57 90 7) ≤ n; omega) (by omega)) ?_
    rintro _ _ _ ⟨v78, rfl, rfl, rfl, f77⟩
    show ov_R u d ov_m223 60 [(0, ov_r 90), (1, ov_i v5), (2, ov_i v41)] [ov_i v78] z56 h57 (P_Mo_readBar_90 F z h n)
    have f79 : -1 ≤ v78 ∧ v78 < (2 : Int) ∧ (0 ≤ v78 → (h57 90 7) < n ∧ (h57 90 8) = 0) := f77
    clear f77
    refine ov_blk (ls2 := [(0, ov_r 90), (1, ov_i v5), (2, ov_i v41), (3, ov_i v78)]) (st2 := [ov_i v78]) (pc2 := 62) b_223_60_2 rfl rfl ?_
    refine ov_ifge (tgt := 71) d_223_62 (by decide) (by omega) (fun c80 => ?_) (fun c80 => ?_)
    · skip
      refine ov_blk (ls2 := [(0, ov_r 90), (1, ov_i v5), (2, ov_i v41), (3, ov_i v78), (4, ov_i ((566 + (6 * v41)) + v5))]) (st2 := [ov_r 90]) (pc2 := 84) b_223_71_9 rfl rfl ?_
      refine ov_getf (v := ov_r 96) d_223_84 fl_Mo_81 (zb_90 I58) (zs_90 I58) (congrArg ov_r (rg_90_10 I58)) ?_
      refine ov_blk (ls2 := [(0, ov_r 90), (1, ov_i v5), (2, ov_i v41), (3, ov_i v78), (4, ov_i ((566 + (6 * v41)) + v5))]) (st2 := [ov_i ((566 + (6 * v41)) + v5), ov_r 96]) (pc2 := 89) b_223_87_1 rfl rfl ?_
      refine ov_iald d_223_89 (zb_96 I58) (zs_96 I58) (by omega) ?_
      rw [show h57 96 = h 96 from E63]
      have g81 := g96 I ((566 + (6 * v41)) + v5)
      refine ov_blk (ls2 := [(0, ov_r 90), (1, ov_i v5), (2, ov_i v41), (3, ov_i v78), (4, ov_i ((566 + (6 * v41)) + v5))]) (st2 := [ov_i 1, ov_i (ov_and (ov_shr (h 96 ((566 + (6 * v41)) + v5)) v78) 1)]) (pc2 := 95) b_223_90_5 rfl rfl ?_
      have g82 := ov_shrg (h 96 ((566 + (6 * v41)) + v5)) v78
      have g83 := ov_andg (ov_shr (h 96 ((566 + (6 * v41)) + v5)) v78) 1
      have g84 := ov_and1 (ov_shr (h 96 ((566 + (6 * v41)) + v5)) v78)
      refine ov_icne (tgt := 104) d_223_95 (by decide) (by omega) (by omega) (fun c85 => ?_) (fun c85 => ?_)
      · skip
        refine ov_blk (ls2 := [(0, ov_r 90), (1, ov_i v5), (2, ov_i v41), (3, ov_i v78), (4, ov_i ((566 + (6 * v41)) + v5))]) (st2 := [ov_r 90, ov_r 90]) (pc2 := 106) b_223_104_2 rfl rfl ?_
        refine ov_getf (v := ov_i (h57 90 7)) d_223_106 fl_Mo_177 (zb_90 I58) (zs_90 I58) rfl ?_
        have g86 := rg_90_7 I58
        refine ov_blk (ls2 := [(0, ov_r 90), (1, ov_i v5), (2, ov_i v41), (3, ov_i v78), (4, ov_i ((566 + (6 * v41)) + v5))]) (st2 := [ov_i ((h57 90 7) + 1), ov_r 90]) (pc2 := 111) b_223_109_2 rfl rfl ?_
        refine ov_putf (x := ((h57 90 7) + 1)) d_223_111 fl_Mo_177 (zb_90 I58) (zs_90 I58) rfl nk_0 rfl ?_
        have I87 := up_90_7 (x := ((h57 90 7) + 1)) I58 (by omega)
        refine ov_blk (ls2 := [(0, ov_r 90), (1, ov_i v5), (2, ov_i v41), (3, ov_i v78), (4, ov_i ((566 + (6 * v41)) + v5))]) (st2 := [ov_r 90]) (pc2 := 115) b_223_114_1 rfl rfl ?_
        refine ov_getf (v := ov_r 96) d_223_115 fl_Mo_81 (zb_90 I87) (zs_90 I87) (congrArg ov_r (rg_90_10 I87)) ?_
        refine ov_blk (ls2 := [(0, ov_r 90), (1, ov_i v5), (2, ov_i v41), (3, ov_i v78), (4, ov_i ((566 + (6 * v41)) + v5))]) (st2 := [ov_i ((566 + (6 * v41)) + v5), ov_r 96, ov_i ((566 + (6 * v41)) + v5), ov_r 96]) (pc2 := 121) b_223_118_2 rfl rfl ?_
        refine ov_iald d_223_121 (zb_96 I87) (zs_96 I87) (by omega) ?_
        show ov_R u d ov_m223 122 [(0, ov_r 90), (1, ov_i v5), (2, ov_i v41), (3, ov_i v78), (4, ov_i ((566 + (6 * v41)) + v5))] [ov_i ((ov_up h57 90 7 ((h57 90 7) + 1)) 96 ((566 + (6 * v41)) + v5)), ov_i ((566 + (6 * v41)) + v5), ov_r 96] z56 (ov_up h57 90 7 ((h57 90 7) + 1)) (P_Mo_readBar_90 F z h n)
        rw [show (ov_up h57 90 7 ((h57 90 7) + 1)) 96 = h 96 from E63]
        refine ov_blk (ls2 := [(0, ov_r 90), (1, ov_i v5), (2, ov_i v41), (3, ov_i v78), (4, ov_i ((566 + (6 * v41)) + v5))]) (st2 := [ov_i (ov_or (h 96 ((566 + (6 * v41)) + v5)) (ov_shl 1 v78)), ov_i ((566 + (6 * v41)) + v5), ov_r 96]) (pc2 := 126) b_223_122_4 rfl rfl ?_
        have g89 := ov_shlg 1 v78
        have g90 := ov_org (h 96 ((566 + (6 * v41)) + v5)) (ov_shl 1 v78)
        refine ov_iast d_223_126 (zb_96 I87) (zs_96 I87) (by omega) ?_
        have I91 := ua_96 (k := ((566 + (6 * v41)) + v5)) (x := (ov_or (h 96 ((566 + (6 * v41)) + v5)) (ov_shl 1 v78))) I87 (by refine ⟨?_, ?_, ?_, ?_, ?_, ?_, ?_, ?_, ?_, ?_, ?_, ?_, ?_, ?_, ?_, ?_, ?_, ?_, ?_, ?_, ?_, ?_, ?_, ?_, ?_, ?_, ?_, ?_, ?_⟩ <;> omega)
        have R92 : ov_RD (h 96) (h 97) (h 98) (h 90 13) ((ov_up h57 90 7 ((h57 90 7) + 1)) 96) ((ov_up h57 90 7 ((h57 90 7) + 1)) 97) ((ov_up h57 90 7 ((h57 90 7) + 1)) 98) (h 90 13) := by rw [show (ov_up h57 90 7 ((h57 90 7) + 1)) 96 = h 96 from E63, show (ov_up h57 90 7 ((h57 90 7) + 1)) 97 = h 97 from E64, show (ov_up h57 90 7 ((h57 90 7) + 1)) 98 = h 98 from E65]; exact ov_RD_refl _ _ _ _
        have R93 : ov_RD (h 96) (h 97) (h 98) (h 90 13) ((ov_up (ov_up h57 90 7 ((h57 90 7) + 1)) 96 ((566 + (6 * v41)) + v5) (ov_or (h 96 ((566 + (6 * v41)) + v5)) (ov_shl 1 v78))) 96) ((ov_up (ov_up h57 90 7 ((h57 90 7) + 1)) 96 ((566 + (6 * v41)) + v5) (ov_or (h 96 ((566 + (6 * v41)) + v5)) (ov_shl 1 v78))) 97) ((ov_up (ov_up h57 90 7 ((h57 90 7) + 1)) 96 ((566 + (6 * v41)) + v5) (ov_or (h 96 ((566 + (6 * v41)) + v5)) (ov_shl 1 v78))) 98) (h 90 13) := by rw [ov_up_row]; exact ov_RD_w R92 (t96_348 I87).2 (by omega)
        have lt94 : ((ov_up (ov_up h57 90 7 ((h57 90 7) + 1)) 96 ((566 + (6 * v41)) + v5) (ov_or (h 96 ((566 + (6 * v41)) + v5)) (ov_shl 1 v78))) 96 340) = h57 96 340 := by try rw [ov_up_j (by omega)]; try show h57 96 340 = _; try rfl
        have lt95 : h57 96 340 = h 96 340 := congrFun E63 340
        have lt96 : ((ov_up (ov_up h57 90 7 ((h57 90 7) + 1)) 96 ((566 + (6 * v41)) + v5) (ov_or (h 96 ((566 + (6 * v41)) + v5)) (ov_shl 1 v78))) 96 341) = h57 96 341 := by try rw [ov_up_j (by omega)]; try show h57 96 341 = _; try rfl
        have lt97 : h57 96 341 = h 96 341 := congrFun E63 341
        have lt98 : ((ov_up (ov_up h57 90 7 ((h57 90 7) + 1)) 96 ((566 + (6 * v41)) + v5) (ov_or (h 96 ((566 + (6 * v41)) + v5)) (ov_shl 1 v78))) 96 342) = h57 96 342 := by try rw [ov_up_j (by omega)]; try show h57 96 342 = _; try rfl
        have lt99 : h57 96 342 = h 96 342 := congrFun E63 342
        have lt100 : ((ov_up (ov_up h57 90 7 ((h57 90 7) + 1)) 96 ((566 + (6 * v41)) + v5) (ov_or (h 96 ((566 + (6 * v41)) + v5)) (ov_shl 1 v78))) 96 348) = h57 96 348 := by try rw [ov_up_j (by omega)]; try show h57 96 348 = _; try rfl
        have lt101 : h57 96 348 = h 96 348 := congrFun E63 348
        have lt102 : ((ov_up (ov_up h57 90 7 ((h57 90 7) + 1)) 96 ((566 + (6 * v41)) + v5) (ov_or (h 96 ((566 + (6 * v41)) + v5)) (ov_shl 1 v78))) 96 349) = h57 96 349 := by try rw [ov_up_j (by omega)]; try show h57 96 349 = _; try rfl
        have lt103 : h57 96 349 = h 96 349 := congrFun E63 349
        have cf104 : h57 96 340 = h 96 340 := congrFun E63 340
        have cf105 : h57 96 341 = h 96 341 := congrFun E63 341
        have cf106 : h57 96 342 = h 96 342 := congrFun E63 342
        have cf107 : h57 96 349 = h 96 349 := congrFun E63 349
        exact ov_retv (st := []) d_223_127 rfl ⟨rfl, I91, (by show (h57 90 2) = (h 90 2) ∧ (h57 90 13) = (h 90 13) ∧ (h57 90 20) = (h 90 20) ∧ (h57 90 22) = (h 90 22) ∧ (h57 90 25) = (h 90 25) ∧ (h57 90 26) = (h 90 26) ∧ (h57 90 28) = (h 90 28) ∧ (h57 90 29) = (h 90 29) ∧ (h57 90 30) = (h 90 30) ∧ (h57 90 34) = (h 90 34) ∧ (h 90 7) ≤ ((h57 90 7) + 1) ∧ ((h57 90 7) + 1) ≤ n ∧ (h 90 13) ≤ (h57 90 13) ∧ (h57 90 13) - (h 90 13) ≤ ((h57 90 7) + 1) - (h 90 7) ∧ ((ov_up (ov_up h57 90 7 ((h57 90 7) + 1)) 96 ((566 + (6 * v41)) + v5) (ov_or (h 96 ((566 + (6 * v41)) + v5)) (ov_shl 1 v78))) 96 340) = (h 96 340) ∧ ((ov_up (ov_up h57 90 7 ((h57 90 7) + 1)) 96 ((566 + (6 * v41)) + v5) (ov_or (h 96 ((566 + (6 * v41)) + v5)) (ov_shl 1 v78))) 96 341) = (h 96 341) ∧ ((h57 90 8) = 0 → 1 ≤ (h 96 342) → 1 ≤ ((ov_up (ov_up h57 90 7 ((h57 90 7) + 1)) 96 ((566 + (6 * v41)) + v5) (ov_or (h 96 ((566 + (6 * v41)) + v5)) (ov_shl 1 v78))) 96 342)) ∧ (1 ≤ (h 96 349) → 1 ≤ ((ov_up (ov_up h57 90 7 ((h57 90 7) + 1)) 96 ((566 + (6 * v41)) + v5) (ov_or (h 96 ((566 + (6 * v41)) + v5)) (ov_shl 1 v78))) 96 349)); omega), E59, E60, E61, E62, E64, E65, E66, E67, E68, E69, E70, E71, E72, R93.1, R93.2.1, (fun _ w => by show ov_CS ((ov_up (ov_up h57 90 7 ((h57 90 7) + 1)) 96 ((566 + (6 * v41)) + v5) (ov_or (h 96 ((566 + (6 * v41)) + v5)) (ov_shl 1 v78))) 96) ((ov_up (ov_up h57 90 7 ((h57 90 7) + 1)) 96 ((566 + (6 * v41)) + v5) (ov_or (h 96 ((566 + (6 * v41)) + v5)) (ov_shl 1 v78))) 97) ((ov_up (ov_up h57 90 7 ((h57 90 7) + 1)) 96 ((566 + (6 * v41)) + v5) (ov_or (h 96 ((566 + (6 * v41)) + v5)) (ov_shl 1 v78))) 98) (h57 90 13); rw [show (h57 90 13) = h 90 13 by omega]; exact R93.2.2 w)⟩
      · skip
        refine ov_blk (ls2 := [(0, ov_r 90), (1, ov_i v5), (2, ov_i v41), (3, ov_i v78), (4, ov_i ((566 + (6 * v41)) + v5))]) (st2 := [ov_i 3, ov_r 90]) (pc2 := 100) b_223_98_2 rfl rfl ?_
        refine ov_cV (as := [ov_i 3]) (st := []) (d2 := d - 1) d_223_100 lk_Mo_186 rfl (Nat.le_of_ble_eq_true rfl) (c := 1) (zb_90 I58) (zs_90 I58) ⟨by decide, rfl⟩ (by omega) (c_Mo_wrong_90 (d - 1) (by omega) U I58 3 (by omega) (by omega)) ?_
        rintro _ z123 h124 ⟨rfl, I125, f108, e109, e110, e111, e112, e113, e114, e115, e116, e117, e118, e119, e120, e121, e122⟩
        have E126 : h124 92 = h 92 := Eq.trans e109 E59
        have E127 : h124 93 = h 93 := Eq.trans e110 E60
        have E128 : h124 94 = h 94 := Eq.trans e111 E61
        have E129 : h124 95 = h 95 := Eq.trans e112 E62
        have E130 : h124 96 = h 96 := Eq.trans e113 E63
        have E131 : h124 97 = h 97 := Eq.trans e114 E64
        have E132 : h124 98 = h 98 := Eq.trans e115 E65
        have E133 : h124 99 = h 99 := Eq.trans e116 E66
        have E134 : h124 100 = h 100 := Eq.trans e117 E67
        have E135 : h124 103 = h 103 := Eq.trans e118 E68
        have E136 : h124 105 = h 105 := Eq.trans e119 E69
        have E137 : h124 106 = h 106 := Eq.trans e120 E70
        have E138 : h124 109 = h 109 := Eq.trans e121 E71
        have E139 : h124 114 = h 114 := Eq.trans e122 E72
        show ov_R u d ov_m223 103 [(0, ov_r 90), (1, ov_i v5), (2, ov_i v41), (3, ov_i v78), (4, ov_i ((566 + (6 * v41)) + v5))] [] z123 h124 (P_Mo_readBar_90 F z h n)
        have f140 : (h124 90 2) = (h57 90 2) ∧ (h124 90 7) = (h57 90 7) ∧ (h124 90 13) = (h57 90 13) ∧ (h124 90 20) = (h57 90 20) ∧ (h124 90 22) = (h57 90 22) ∧ (h124 90 25) = (h57 90 25) ∧ (h124 90 26) = (h57 90 26) ∧ (h124 90 28) = (h57 90 28) ∧ (h124 90 29) = (h57 90 29) ∧ (h124 90 30) = (h57 90 30) ∧ (h124 90 34) = (h57 90 34) ∧ 0 < (h124 90 8) ∧ (h57 90 8) ≤ (h124 90 8) := f108
        clear f108
        have cf141 : h124 96 340 = h 96 340 := congrFun E130 340
        have cf142 : h124 96 341 = h 96 341 := congrFun E130 341
        have cf143 : h124 96 342 = h 96 342 := congrFun E130 342
        have cf144 : h124 96 349 = h 96 349 := congrFun E130 349
        have R145 : ov_RD (h 96) (h 97) (h 98) (h 90 13) (h124 96) (h124 97) (h124 98) (h 90 13) := by rw [show h124 96 = h 96 from E130, show h124 97 = h 97 from E131, show h124 98 = h 98 from E132]; exact ov_RD_refl _ _ _ _
        exact ov_retv (st := []) d_223_103 rfl ⟨rfl, I125, (by show (h124 90 2) = (h 90 2) ∧ (h124 90 13) = (h 90 13) ∧ (h124 90 20) = (h 90 20) ∧ (h124 90 22) = (h 90 22) ∧ (h124 90 25) = (h 90 25) ∧ (h124 90 26) = (h 90 26) ∧ (h124 90 28) = (h 90 28) ∧ (h124 90 29) = (h 90 29) ∧ (h124 90 30) = (h 90 30) ∧ (h124 90 34) = (h 90 34) ∧ (h 90 7) ≤ (h124 90 7) ∧ (h124 90 7) ≤ n ∧ (h 90 13) ≤ (h124 90 13) ∧ (h124 90 13) - (h 90 13) ≤ (h124 90 7) - (h 90 7) ∧ (h124 96 340) = (h 96 340) ∧ (h124 96 341) = (h 96 341) ∧ ((h124 90 8) = 0 → 1 ≤ (h 96 342) → 1 ≤ (h124 96 342)) ∧ (1 ≤ (h 96 349) → 1 ≤ (h124 96 349)); omega), E126, E127, E128, E129, E131, E132, E133, E134, E135, E136, E137, E138, E139, R145.1, R145.2.1, (fun _ w => by show ov_CS (h124 96) (h124 97) (h124 98) (h124 90 13); rw [show (h124 90 13) = h 90 13 by omega]; exact R145.2.2 w)⟩
    · skip
      refine ov_blk (ls2 := [(0, ov_r 90), (1, ov_i v5), (2, ov_i v41), (3, ov_i v78)]) (st2 := [ov_i 1, ov_r 90]) (pc2 := 67) b_223_65_2 rfl rfl ?_
      refine ov_cV (as := [ov_i 1]) (st := []) (d2 := d - 1) d_223_67 lk_Mo_186 rfl (Nat.le_of_ble_eq_true rfl) (c := 1) (zb_90 I58) (zs_90 I58) ⟨by decide, rfl⟩ (by omega) (c_Mo_wrong_90 (d - 1) (by omega) U I58 1 (by omega) (by omega)) ?_
      rintro _ z161 h162 ⟨rfl, I163, f146, e147, e148, e149, e150, e151, e152, e153, e154, e155, e156, e157, e158, e159, e160⟩
      have E164 : h162 92 = h 92 := Eq.trans e147 E59
      have E165 : h162 93 = h 93 := Eq.trans e148 E60
      have E166 : h162 94 = h 94 := Eq.trans e149 E61
      have E167 : h162 95 = h 95 := Eq.trans e150 E62
      have E168 : h162 96 = h 96 := Eq.trans e151 E63
      have E169 : h162 97 = h 97 := Eq.trans e152 E64
      have E170 : h162 98 = h 98 := Eq.trans e153 E65
      have E171 : h162 99 = h 99 := Eq.trans e154 E66
      have E172 : h162 100 = h 100 := Eq.trans e155 E67
      have E173 : h162 103 = h 103 := Eq.trans e156 E68
      have E174 : h162 105 = h 105 := Eq.trans e157 E69
      have E175 : h162 106 = h 106 := Eq.trans e158 E70
      have E176 : h162 109 = h 109 := Eq.trans e159 E71
      have E177 : h162 114 = h 114 := Eq.trans e160 E72
      show ov_R u d ov_m223 70 [(0, ov_r 90), (1, ov_i v5), (2, ov_i v41), (3, ov_i v78)] [] z161 h162 (P_Mo_readBar_90 F z h n)
      have f178 : (h162 90 2) = (h57 90 2) ∧ (h162 90 7) = (h57 90 7) ∧ (h162 90 13) = (h57 90 13) ∧ (h162 90 20) = (h57 90 20) ∧ (h162 90 22) = (h57 90 22) ∧ (h162 90 25) = (h57 90 25) ∧ (h162 90 26) = (h57 90 26) ∧ (h162 90 28) = (h57 90 28) ∧ (h162 90 29) = (h57 90 29) ∧ (h162 90 30) = (h57 90 30) ∧ (h162 90 34) = (h57 90 34) ∧ 0 < (h162 90 8) ∧ (h57 90 8) ≤ (h162 90 8) := f146
      clear f146
      have cf179 : h162 96 340 = h 96 340 := congrFun E168 340
      have cf180 : h162 96 341 = h 96 341 := congrFun E168 341
      have cf181 : h162 96 342 = h 96 342 := congrFun E168 342
      have cf182 : h162 96 349 = h 96 349 := congrFun E168 349
      have R183 : ov_RD (h 96) (h 97) (h 98) (h 90 13) (h162 96) (h162 97) (h162 98) (h 90 13) := by rw [show h162 96 = h 96 from E168, show h162 97 = h 97 from E169, show h162 98 = h 98 from E170]; exact ov_RD_refl _ _ _ _
      exact ov_retv (st := []) d_223_70 rfl ⟨rfl, I163, (by show (h162 90 2) = (h 90 2) ∧ (h162 90 13) = (h 90 13) ∧ (h162 90 20) = (h 90 20) ∧ (h162 90 22) = (h 90 22) ∧ (h162 90 25) = (h 90 25) ∧ (h162 90 26) = (h 90 26) ∧ (h162 90 28) = (h 90 28) ∧ (h162 90 29) = (h 90 29) ∧ (h162 90 30) = (h 90 30) ∧ (h162 90 34) = (h 90 34) ∧ (h 90 7) ≤ (h162 90 7) ∧ (h162 90 7) ≤ n ∧ (h 90 13) ≤ (h162 90 13) ∧ (h162 90 13) - (h 90 13) ≤ (h162 90 7) - (h 90 7) ∧ (h162 96 340) = (h 96 340) ∧ (h162 96 341) = (h 96 341) ∧ ((h162 90 8) = 0 → 1 ≤ (h 96 342) → 1 ≤ (h162 96 342)) ∧ (1 ≤ (h 96 349) → 1 ≤ (h162 96 349)); omega), E164, E165, E166, E167, E169, E170, E171, E172, E173, E174, E175, E176, E177, R183.1, R183.2.1, (fun _ w => by show ov_CS (h162 96) (h162 97) (h162 98) (h162 90 13); rw [show (h162 90 13) = h 90 13 by omega]; exact R183.2.2 w)⟩
  · skip
    refine ov_blk (ls2 := [(0, ov_r 90), (1, ov_i v5), (2, ov_i v41)]) (st2 := [ov_i (-1)]) (pc2 := 50) b_223_49_1 rfl rfl ?_
    refine ov_goto (tgt := 60) d_223_50 (by decide) ?_
    refine ov_blk (ls2 := [(0, ov_r 90), (1, ov_i v5), (2, ov_i v41), (3, ov_i (-1))]) (st2 := [ov_i (-1)]) (pc2 := 62) b_223_60_2 rfl rfl ?_
    refine ov_ifge (tgt := 71) d_223_62 (by decide) (by omega) (fun c184 => ?_) (fun c184 => ?_)
    · omega
    · skip
      refine ov_blk (ls2 := [(0, ov_r 90), (1, ov_i v5), (2, ov_i v41), (3, ov_i (-1))]) (st2 := [ov_i 1, ov_r 90]) (pc2 := 67) b_223_65_2 rfl rfl ?_
      refine ov_cV (as := [ov_i 1]) (st := []) (d2 := d - 1) d_223_67 lk_Mo_186 rfl (Nat.le_of_ble_eq_true rfl) (c := 1) (zb_90 I58) (zs_90 I58) ⟨by decide, rfl⟩ (by omega) (c_Mo_wrong_90 (d - 1) (by omega) U I58 1 (by omega) (by omega)) ?_
      rintro _ z200 h201 ⟨rfl, I202, f185, e186, e187, e188, e189, e190, e191, e192, e193, e194, e195, e196, e197, e198, e199⟩
      have E203 : h201 92 = h 92 := Eq.trans e186 E59
      have E204 : h201 93 = h 93 := Eq.trans e187 E60
      have E205 : h201 94 = h 94 := Eq.trans e188 E61
      have E206 : h201 95 = h 95 := Eq.trans e189 E62
      have E207 : h201 96 = h 96 := Eq.trans e190 E63
      have E208 : h201 97 = h 97 := Eq.trans e191 E64
      have E209 : h201 98 = h 98 := Eq.trans e192 E65
      have E210 : h201 99 = h 99 := Eq.trans e193 E66
      have E211 : h201 100 = h 100 := Eq.trans e194 E67
      have E212 : h201 103 = h 103 := Eq.trans e195 E68
      have E213 : h201 105 = h 105 := Eq.trans e196 E69
      have E214 : h201 106 = h 106 := Eq.trans e197 E70
      have E215 : h201 109 = h 109 := Eq.trans e198 E71
      have E216 : h201 114 = h 114 := Eq.trans e199 E72
      show ov_R u d ov_m223 70 [(0, ov_r 90), (1, ov_i v5), (2, ov_i v41), (3, ov_i (-1))] [] z200 h201 (P_Mo_readBar_90 F z h n)
      have f217 : (h201 90 2) = (h57 90 2) ∧ (h201 90 7) = (h57 90 7) ∧ (h201 90 13) = (h57 90 13) ∧ (h201 90 20) = (h57 90 20) ∧ (h201 90 22) = (h57 90 22) ∧ (h201 90 25) = (h57 90 25) ∧ (h201 90 26) = (h57 90 26) ∧ (h201 90 28) = (h57 90 28) ∧ (h201 90 29) = (h57 90 29) ∧ (h201 90 30) = (h57 90 30) ∧ (h201 90 34) = (h57 90 34) ∧ 0 < (h201 90 8) ∧ (h57 90 8) ≤ (h201 90 8) := f185
      clear f185
      have cf218 : h201 96 340 = h 96 340 := congrFun E207 340
      have cf219 : h201 96 341 = h 96 341 := congrFun E207 341
      have cf220 : h201 96 342 = h 96 342 := congrFun E207 342
      have cf221 : h201 96 349 = h 96 349 := congrFun E207 349
      have R222 : ov_RD (h 96) (h 97) (h 98) (h 90 13) (h201 96) (h201 97) (h201 98) (h 90 13) := by rw [show h201 96 = h 96 from E207, show h201 97 = h 97 from E208, show h201 98 = h 98 from E209]; exact ov_RD_refl _ _ _ _
      exact ov_retv (st := []) d_223_70 rfl ⟨rfl, I202, (by show (h201 90 2) = (h 90 2) ∧ (h201 90 13) = (h 90 13) ∧ (h201 90 20) = (h 90 20) ∧ (h201 90 22) = (h 90 22) ∧ (h201 90 25) = (h 90 25) ∧ (h201 90 26) = (h 90 26) ∧ (h201 90 28) = (h 90 28) ∧ (h201 90 29) = (h 90 29) ∧ (h201 90 30) = (h 90 30) ∧ (h201 90 34) = (h 90 34) ∧ (h 90 7) ≤ (h201 90 7) ∧ (h201 90 7) ≤ n ∧ (h 90 13) ≤ (h201 90 13) ∧ (h201 90 13) - (h 90 13) ≤ (h201 90 7) - (h 90 7) ∧ (h201 96 340) = (h 96 340) ∧ (h201 96 341) = (h 96 341) ∧ ((h201 90 8) = 0 → 1 ≤ (h 96 342) → 1 ≤ (h201 96 342)) ∧ (1 ≤ (h 96 349) → 1 ≤ (h201 96 349)); omega), E203, E204, E205, E206, E208, E209, E210, E211, E212, E213, E214, E215, E216, R222.1, R222.2.1, (fun _ w => by show ov_CS (h201 96) (h201 97) (h201 98) (h201 90 13); rw [show (h201 90 13) = h 90 13 by omega]; exact R222.2.2 w)⟩

abbrev P_Mo_readBar_90 (F : ov_H × ov_Z) (z : ov_Z) (h : ov_H) (n : Int) : Option ov_V → ov_Z → ov_H → Prop := fun r0 z' h' => r0 = none ∧ ov_N F z' h' ∧ ((h' 90 2) = (h 90 2) ∧ (h' 90 13) = (h 90 13) ∧ (h' 90 20) = (h 90 20) ∧ (h' 90 22) = (h 90 22) ∧ (h' 90 25) = (h 90 25) ∧ (h' 90 26) = (h 90 26) ∧ (h' 90 28) = (h 90 28) ∧ (h' 90 29) = (h 90 29) ∧ (h' 90 30) = (h 90 30) ∧ (h' 90 34) = (h 90 34) ∧ (h 90 7) ≤ (h' 90 7) ∧ (h' 90 7) ≤ n ∧ (h 90 13) ≤ (h' 90 13) ∧ (h' 90 13) - (h 90 13) ≤ (h' 90 7) - (h 90 7) ∧ (h' 96 340) = (h 96 340) ∧ (h' 96 341) = (h 96 341) ∧ ((h' 90 8) = 0 → 1 ≤ (h 96 342) → 1 ≤ (h' 96 342)) ∧ (1 ≤ (h 96 349) → 1 ≤ (h' 96 349))) ∧ h' 91 = h 91 ∧ h' 92 = h 92 ∧ h' 93 = h 93 ∧ h' 94 = h 94 ∧ h' 95 = h 95 ∧ h' 97 = h 97 ∧ h' 98 = h 98 ∧ h' 99 = h 99 ∧ h' 100 = h 100 ∧ h' 103 = h 103 ∧ h' 105 = h 105 ∧ h' 106 = h 106 ∧ h' 109 = h 109 ∧ h' 114 = h 114 ∧ (ov_MK (h 96) (h 97) (h 98) (h' 96) (h' 97) (h' 98)) ∧ (ov_WS (h 96) → ov_WS (h' 96)) ∧ ((h' 90 8) = 0 → ov_CS (h 96) (h 97) (h 98) (h 90 13) → ov_CS (h' 96) (h' 97) (h' 98) (h' 90 13))
set_option maxHeartbeats 4000000 in
theorem c_Mo_readBar_90 {u : ov_U} {F : ov_H × ov_Z} (n : Int) {z : ov_Z} {h : ov_H} (d : Nat) (hd : 2 ≤ d) (U : ov_cap u) (I : ov_N F z h) (p0 : 0 ≤ n ∧ n ≤ 1000 ∧ (h 92 (n)) = 0 ∧ (h 90 7) ≤ n) (p1 : (h 90 13) ≤ (h 90 7)) (p2 : (h 90 8) = 0) (p3 : (h 90 7) < n) : ov_T u d ov_m223 [ov_r 90] z h (P_Mo_readBar_90 F z h n) := by
  refine ov_en rfl (Nat.le_of_ble_eq_true rfl) ?_
  show ov_R u d ov_m223 0 [(0, ov_r 90)] [] z h (P_Mo_readBar_90 F z h n)
  refine ov_blk (ls2 := [(0, ov_r 90)]) (st2 := [ov_r 90, ov_r 90]) (pc2 := 2) b_223_0_2 rfl rfl ?_
  refine ov_getf (v := ov_i (h 90 7)) d_223_2 fl_Mo_177 (zb_90 I) (zs_90 I) rfl ?_
  have g1 := rg_90_7 I
  refine ov_blk (ls2 := [(0, ov_r 90)]) (st2 := [ov_i ((h 90 7) + 1), ov_r 90]) (pc2 := 7) b_223_5_2 rfl rfl ?_
  refine ov_putf (x := ((h 90 7) + 1)) d_223_7 fl_Mo_177 (zb_90 I) (zs_90 I) rfl nk_0 rfl ?_
  have I2 := up_90_7 (x := ((h 90 7) + 1)) I (by omega)
  refine ov_blk (ls2 := [(0, ov_r 90)]) (st2 := [ov_r 90, ov_i 0, ov_r 90]) (pc2 := 13) b_223_10_3 rfl rfl ?_
  refine ov_getf (v := ov_r 96) d_223_13 fl_Mo_81 (zb_90 I2) (zs_90 I2) (congrArg ov_r (rg_90_10 I2)) ?_
  refine ov_blk (ls2 := [(0, ov_r 90)]) (st2 := [ov_i 340, ov_r 96, ov_i 0, ov_r 90]) (pc2 := 19) b_223_16_1 rfl rfl ?_
  refine ov_iald d_223_19 (zb_96 I2) (zs_96 I2) (by omega) ?_
  show ov_R u d ov_m223 20 [(0, ov_r 90)] [ov_i (h 96 340), ov_i 0, ov_r 90] z (ov_up h 90 7 ((h 90 7) + 1)) (P_Mo_readBar_90 F z h n)
  have g3 := t96_340 I
  refine ov_blk (ls2 := [(0, ov_r 90)]) (st2 := [ov_i ((h 96 340) - 1), ov_i 0, ov_r 90]) (pc2 := 22) b_223_20_2 rfl rfl ?_
  refine ov_cV (as := [ov_i 0, ov_i ((h 96 340) - 1)]) (st := []) (d2 := d - 1) d_223_22 lk_Mo_198 rfl (Nat.le_of_ble_eq_true rfl) (c := 1) (zb_90 I2) (zs_90 I2) ⟨by decide, rfl⟩ (by omega) (c_Mo_takeNumber_90 n (d - 1) (by omega) U I2 0 ((h 96 340) - 1) (by omega) (by omega) (by show 0 ≤ n ∧ n ≤ 1000 ∧ (h 92 (n)) = 0 ∧ ((h 90 7) + 1) ≤ n; omega)) ?_
  rintro _ z21 h22 ⟨v5, rfl, I23, f4, e6, e7, e8, e9, e10, e11, e12, e13, e14, e15, e16, e17, e18, e19, e20⟩
  have E24 : h22 91 = h 91 := e6
  have E25 : h22 92 = h 92 := e7
  have E26 : h22 93 = h 93 := e8
  have E27 : h22 94 = h 94 := e9
  have E28 : h22 95 = h 95 := e10
  have E29 : h22 96 = h 96 := e11
  have E30 : h22 97 = h 97 := e12
  have E31 : h22 98 = h 98 := e13
  have E32 : h22 99 = h 99 := e14
  have E33 : h22 100 = h 100 := e15
  have E34 : h22 103 = h 103 := e16
  have E35 : h22 105 = h 105 := e17
  have E36 : h22 106 = h 106 := e18
  have E37 : h22 109 = h 109 := e19
  have E38 : h22 114 = h 114 := e20
  show ov_R u d ov_m223 25 [(0, ov_r 90)] [ov_i v5] z21 h22 (P_Mo_readBar_90 F z h n)
  have f39 : (h22 90 2) = (h 90 2) ∧ (h22 90 13) = (h 90 13) ∧ (h22 90 20) = (h 90 20) ∧ (h22 90 22) = (h 90 22) ∧ (h22 90 25) = (h 90 25) ∧ (h22 90 26) = (h 90 26) ∧ (h22 90 28) = (h 90 28) ∧ (h22 90 29) = (h 90 29) ∧ (h22 90 30) = (h 90 30) ∧ (h22 90 34) = (h 90 34) ∧ ((h 90 7) + 1) ≤ (h22 90 7) ∧ (h22 90 7) ≤ n ∧ (h 90 8) ≤ (h22 90 8) ∧ ((h22 90 8) = 0 → (0 : Int) ≤ v5 ∧ v5 ≤ ((h 96 340) - 1)) ∧ (0 < (h22 90 8) → v5 = 0) ∧ ((h 90 7) + 1) < (h22 90 7) + (h22 90 8) := f4
  clear f4
  refine ov_blk (ls2 := [(0, ov_r 90), (1, ov_i v5)]) (st2 := [ov_r 90, ov_i 0, ov_r 90]) (pc2 := 29) b_223_25_4 rfl rfl ?_
  refine ov_getf (v := ov_r 96) d_223_29 fl_Mo_81 (zb_90 I23) (zs_90 I23) (congrArg ov_r (rg_90_10 I23)) ?_
  refine ov_blk (ls2 := [(0, ov_r 90), (1, ov_i v5)]) (st2 := [ov_i 341, ov_r 96, ov_i 0, ov_r 90]) (pc2 := 35) b_223_32_1 rfl rfl ?_
  refine ov_iald d_223_35 (zb_96 I23) (zs_96 I23) (by omega) ?_
  rw [show h22 96 = h 96 from E29]
  have g40 := t96_341 I
  refine ov_blk (ls2 := [(0, ov_r 90), (1, ov_i v5)]) (st2 := [ov_i ((h 96 341) - 1), ov_i 0, ov_r 90]) (pc2 := 38) b_223_36_2 rfl rfl ?_
  have cf41 : h22 92 (n) = h 92 (n) := congrFun E25 (n)
  refine ov_cV (as := [ov_i 0, ov_i ((h 96 341) - 1)]) (st := []) (d2 := d - 1) d_223_38 lk_Mo_198 rfl (Nat.le_of_ble_eq_true rfl) (c := 1) (zb_90 I23) (zs_90 I23) ⟨by decide, rfl⟩ (by omega) (c_Mo_takeNumber_90 n (d - 1) (by omega) U I23 0 ((h 96 341) - 1) (by omega) (by omega) (by show 0 ≤ n ∧ n ≤ 1000 ∧ (h22 92 (n)) = 0 ∧ (h22 90 7) ≤ n; omega)) ?_
  rintro _ z59 h60 ⟨v43, rfl, I61, f42, e44, e45, e46, e47, e48, e49, e50, e51, e52, e53, e54, e55, e56, e57, e58⟩
  have E62 : h60 91 = h 91 := Eq.trans e44 E24
  have E63 : h60 92 = h 92 := Eq.trans e45 E25
  have E64 : h60 93 = h 93 := Eq.trans e46 E26
  have E65 : h60 94 = h 94 := Eq.trans e47 E27
  have E66 : h60 95 = h 95 := Eq.trans e48 E28
  have E67 : h60 96 = h 96 := Eq.trans e49 E29
  have E68 : h60 97 = h 97 := Eq.trans e50 E30
  have E69 : h60 98 = h 98 := Eq.trans e51 E31
  have E70 : h60 99 = h 99 := Eq.trans e52 E32
  have E71 : h60 100 = h 100 := Eq.trans e53 E33
  have E72 : h60 103 = h 103 := Eq.trans e54 E34
  have E73 : h60 105 = h 105 := Eq.trans e55 E35
  have E74 : h60 106 = h 106 := Eq.trans e56 E36
  have E75 : h60 109 = h 109 := Eq.trans e57 E37
  have E76 : h60 114 = h 114 := Eq.trans e58 E38
  show ov_R u d ov_m223 41 [(0, ov_r 90), (1, ov_i v5)] [ov_i v43] z59 h60 (P_Mo_readBar_90 F z h n)
  have f77 : (h60 90 2) = (h22 90 2) ∧ (h60 90 13) = (h22 90 13) ∧ (h60 90 20) = (h22 90 20) ∧ (h60 90 22) = (h22 90 22) ∧ (h60 90 25) = (h22 90 25) ∧ (h60 90 26) = (h22 90 26) ∧ (h60 90 28) = (h22 90 28) ∧ (h60 90 29) = (h22 90 29) ∧ (h60 90 30) = (h22 90 30) ∧ (h60 90 34) = (h22 90 34) ∧ (h22 90 7) ≤ (h60 90 7) ∧ (h60 90 7) ≤ n ∧ (h22 90 8) ≤ (h60 90 8) ∧ ((h60 90 8) = 0 → (0 : Int) ≤ v43 ∧ v43 ≤ ((h 96 341) - 1)) ∧ (0 < (h60 90 8) → v43 = 0) ∧ (h22 90 7) < (h60 90 7) + (h60 90 8) := f42
  clear f42
  refine ov_blk (ls2 := [(0, ov_r 90), (1, ov_i v5), (2, ov_i v43)]) (st2 := [ov_r 90]) (pc2 := 43) b_223_41_2 rfl rfl ?_
  refine ov_getf (v := ov_i (h60 90 8)) d_223_43 fl_Mo_180 (zb_90 I61) (zs_90 I61) rfl ?_
  have g78 := rg_90_8 I61
  refine ov_ifle (tgt := 53) d_223_46 (by decide) (by omega) (fun c79 => ?_) (fun c79 => ?_)
  · skip
    refine ov_blk (ls2 := [(0, ov_r 90), (1, ov_i v5), (2, ov_i v43)]) (st2 := [ov_i 2, ov_i 10, ov_r 90]) (pc2 := 57) b_223_53_3 rfl rfl ?_
    have cf80 : h60 92 (n) = h 92 (n) := congrFun E63 (n)
    refine ov_cV (as := [ov_i 10, ov_i 2]) (st := []) (d2 := d - 1) d_223_57 lk_Mo_202 rfl (Nat.le_of_ble_eq_true rfl) (c := 1) (zb_90 I61) (zs_90 I61) ⟨by decide, rfl⟩ (by omega) (c_Mo_wordHere_90 n (d - 1) (by omega) U I61 10 2 (by omega) (by omega) (by show 0 ≤ n ∧ n ≤ 1000 ∧ (h60 92 (n)) = 0 ∧ (h60 90 7) ≤ n; omega) (by omega)) ?_
    rintro _ _ _ ⟨v82, rfl, rfl, rfl, f81⟩
    show ov_R u d ov_m223 60 [(0, ov_r 90), (1, ov_i v5), (2, ov_i v43)] [ov_i v82] z59 h60 (P_Mo_readBar_90 F z h n)
    have f83 : -1 ≤ v82 ∧ v82 < (2 : Int) ∧ (0 ≤ v82 → (h60 90 7) < n ∧ (h60 90 8) = 0) := f81
    clear f81
    refine ov_blk (ls2 := [(0, ov_r 90), (1, ov_i v5), (2, ov_i v43), (3, ov_i v82)]) (st2 := [ov_i v82]) (pc2 := 62) b_223_60_2 rfl rfl ?_
    refine ov_ifge (tgt := 71) d_223_62 (by decide) (by omega) (fun c84 => ?_) (fun c84 => ?_)
    · skip
      refine ov_blk (ls2 := [(0, ov_r 90), (1, ov_i v5), (2, ov_i v43), (3, ov_i v82), (4, ov_i ((566 + (6 * v43)) + v5))]) (st2 := [ov_r 90]) (pc2 := 84) b_223_71_9 rfl rfl ?_
      refine ov_getf (v := ov_r 96) d_223_84 fl_Mo_81 (zb_90 I61) (zs_90 I61) (congrArg ov_r (rg_90_10 I61)) ?_
      refine ov_blk (ls2 := [(0, ov_r 90), (1, ov_i v5), (2, ov_i v43), (3, ov_i v82), (4, ov_i ((566 + (6 * v43)) + v5))]) (st2 := [ov_i ((566 + (6 * v43)) + v5), ov_r 96]) (pc2 := 89) b_223_87_1 rfl rfl ?_
      refine ov_iald d_223_89 (zb_96 I61) (zs_96 I61) (by omega) ?_
      rw [show h60 96 = h 96 from E67]
      have g85 := g96 I ((566 + (6 * v43)) + v5)
      refine ov_blk (ls2 := [(0, ov_r 90), (1, ov_i v5), (2, ov_i v43), (3, ov_i v82), (4, ov_i ((566 + (6 * v43)) + v5))]) (st2 := [ov_i 1, ov_i (ov_and (ov_shr (h 96 ((566 + (6 * v43)) + v5)) v82) 1)]) (pc2 := 95) b_223_90_5 rfl rfl ?_
      have g86 := ov_shrg (h 96 ((566 + (6 * v43)) + v5)) v82
      have g87 := ov_andg (ov_shr (h 96 ((566 + (6 * v43)) + v5)) v82) 1
      have g88 := ov_and1 (ov_shr (h 96 ((566 + (6 * v43)) + v5)) v82)
      refine ov_icne (tgt := 104) d_223_95 (by decide) (by omega) (by omega) (fun c89 => ?_) (fun c89 => ?_)
      · skip
        refine ov_blk (ls2 := [(0, ov_r 90), (1, ov_i v5), (2, ov_i v43), (3, ov_i v82), (4, ov_i ((566 + (6 * v43)) + v5))]) (st2 := [ov_r 90, ov_r 90]) (pc2 := 106) b_223_104_2 rfl rfl ?_
        refine ov_getf (v := ov_i (h60 90 7)) d_223_106 fl_Mo_177 (zb_90 I61) (zs_90 I61) rfl ?_
        have g90 := rg_90_7 I61
        refine ov_blk (ls2 := [(0, ov_r 90), (1, ov_i v5), (2, ov_i v43), (3, ov_i v82), (4, ov_i ((566 + (6 * v43)) + v5))]) (st2 := [ov_i ((h60 90 7) + 1), ov_r 90]) (pc2 := 111) b_223_109_2 rfl rfl ?_
        refine ov_putf (x := ((h60 90 7) + 1)) d_223_111 fl_Mo_177 (zb_90 I61) (zs_90 I61) rfl nk_0 rfl ?_
        have I91 := up_90_7 (x := ((h60 90 7) + 1)) I61 (by omega)
        refine ov_blk (ls2 := [(0, ov_r 90), (1, ov_i v5), (2, ov_i v43), (3, ov_i v82), (4, ov_i ((566 + (6 * v43)) + v5))]) (st2 := [ov_r 90]) (pc2 := 115) b_223_114_1 rfl rfl ?_
        refine ov_getf (v := ov_r 96) d_223_115 fl_Mo_81 (zb_90 I91) (zs_90 I91) (congrArg ov_r (rg_90_10 I91)) ?_
        refine ov_blk (ls2 := [(0, ov_r 90), (1, ov_i v5), (2, ov_i v43), (3, ov_i v82), (4, ov_i ((566 + (6 * v43)) + v5))]) (st2 := [ov_i ((566 + (6 * v43)) + v5), ov_r 96, ov_i ((566 + (6 * v43)) + v5), ov_r 96]) (pc2 := 121) b_223_118_2 rfl rfl ?_
        refine ov_iald d_223_121 (zb_96 I91) (zs_96 I91) (by omega) ?_
        show ov_R u d ov_m223 122 [(0, ov_r 90), (1, ov_i v5), (2, ov_i v43), (3, ov_i v82), (4, ov_i ((566 + (6 * v43)) + v5))] [ov_i ((ov_up h60 90 7 ((h60 90 7) + 1)) 96 ((566 + (6 * v43)) + v5)), ov_i ((566 + (6 * v43)) + v5), ov_r 96] z59 (ov_up h60 90 7 ((h60 90 7) + 1)) (P_Mo_readBar_90 F z h n)
        rw [show (ov_up h60 90 7 ((h60 90 7) + 1)) 96 = h 96 from E67]
        refine ov_blk (ls2 := [(0, ov_r 90), (1, ov_i v5), (2, ov_i v43), (3, ov_i v82), (4, ov_i ((566 + (6 * v43)) + v5))]) (st2 := [ov_i (ov_or (h 96 ((566 + (6 * v43)) + v5)) (ov_shl 1 v82)), ov_i ((566 + (6 * v43)) + v5), ov_r 96]) (pc2 := 126) b_223_122_4 rfl rfl ?_
        have g93 := ov_shlg 1 v82
        have g94 := ov_org (h 96 ((566 + (6 * v43)) + v5)) (ov_shl 1 v82)
        refine ov_iast d_223_126 (zb_96 I91) (zs_96 I91) (by omega) ?_
        have I95 := ua_96 (k := ((566 + (6 * v43)) + v5)) (x := (ov_or (h 96 ((566 + (6 * v43)) + v5)) (ov_shl 1 v82))) I91 (by refine ⟨?_, ?_, ?_, ?_, ?_, ?_, ?_, ?_, ?_, ?_, ?_, ?_, ?_, ?_, ?_, ?_, ?_, ?_, ?_, ?_, ?_, ?_, ?_, ?_, ?_, ?_, ?_, ?_, ?_⟩ <;> omega)
        have R96 : ov_RD (h 96) (h 97) (h 98) (h 90 13) ((ov_up h60 90 7 ((h60 90 7) + 1)) 96) ((ov_up h60 90 7 ((h60 90 7) + 1)) 97) ((ov_up h60 90 7 ((h60 90 7) + 1)) 98) (h 90 13) := by rw [show (ov_up h60 90 7 ((h60 90 7) + 1)) 96 = h 96 from E67, show (ov_up h60 90 7 ((h60 90 7) + 1)) 97 = h 97 from E68, show (ov_up h60 90 7 ((h60 90 7) + 1)) 98 = h 98 from E69]; exact ov_RD_refl _ _ _ _
        have R97 : ov_RD (h 96) (h 97) (h 98) (h 90 13) ((ov_up (ov_up h60 90 7 ((h60 90 7) + 1)) 96 ((566 + (6 * v43)) + v5) (ov_or (h 96 ((566 + (6 * v43)) + v5)) (ov_shl 1 v82))) 96) ((ov_up (ov_up h60 90 7 ((h60 90 7) + 1)) 96 ((566 + (6 * v43)) + v5) (ov_or (h 96 ((566 + (6 * v43)) + v5)) (ov_shl 1 v82))) 97) ((ov_up (ov_up h60 90 7 ((h60 90 7) + 1)) 96 ((566 + (6 * v43)) + v5) (ov_or (h 96 ((566 + (6 * v43)) + v5)) (ov_shl 1 v82))) 98) (h 90 13) := by rw [ov_up_row]; exact ov_RD_w R96 (t96_348 I91).2 (by omega)
        have lt98 : ((ov_up (ov_up h60 90 7 ((h60 90 7) + 1)) 96 ((566 + (6 * v43)) + v5) (ov_or (h 96 ((566 + (6 * v43)) + v5)) (ov_shl 1 v82))) 96 340) = h60 96 340 := by try rw [ov_up_j (by omega)]; try show h60 96 340 = _; try rfl
        have lt99 : h60 96 340 = h 96 340 := congrFun E67 340
        have lt100 : ((ov_up (ov_up h60 90 7 ((h60 90 7) + 1)) 96 ((566 + (6 * v43)) + v5) (ov_or (h 96 ((566 + (6 * v43)) + v5)) (ov_shl 1 v82))) 96 341) = h60 96 341 := by try rw [ov_up_j (by omega)]; try show h60 96 341 = _; try rfl
        have lt101 : h60 96 341 = h 96 341 := congrFun E67 341
        have lt102 : ((ov_up (ov_up h60 90 7 ((h60 90 7) + 1)) 96 ((566 + (6 * v43)) + v5) (ov_or (h 96 ((566 + (6 * v43)) + v5)) (ov_shl 1 v82))) 96 342) = h60 96 342 := by try rw [ov_up_j (by omega)]; try show h60 96 342 = _; try rfl
        have lt103 : h60 96 342 = h 96 342 := congrFun E67 342
        have lt104 : ((ov_up (ov_up h60 90 7 ((h60 90 7) + 1)) 96 ((566 + (6 * v43)) + v5) (ov_or (h 96 ((566 + (6 * v43)) + v5)) (ov_shl 1 v82))) 96 348) = h60 96 348 := by try rw [ov_up_j (by omega)]; try show h60 96 348 = _; try rfl
        have lt105 : h60 96 348 = h 96 348 := congrFun E67 348
        have lt106 : ((ov_up (ov_up h60 90 7 ((h60 90 7) + 1)) 96 ((566 + (6 * v43)) + v5) (ov_or (h 96 ((566 + (6 * v43)) + v5)) (ov_shl 1 v82))) 96 349) = h60 96 349 := by try rw [ov_up_j (by omega)]; try show h60 96 349 = _; try rfl
        have lt107 : h60 96 349 = h 96 349 := congrFun E67 349
        have cf108 : h60 96 340 = h 96 340 := congrFun E67 340
        have cf109 : h60 96 341 = h 96 341 := congrFun E67 341
        have cf110 : h60 96 342 = h 96 342 := congrFun E67 342
        have cf111 : h60 96 349 = h 96 349 := congrFun E67 349
        exact ov_retv (st := []) d_223_127 rfl ⟨rfl, I95, (by show (h60 90 2) = (h 90 2) ∧ (h60 90 13) = (h 90 13) ∧ (h60 90 20) = (h 90 20) ∧ (h60 90 22) = (h 90 22) ∧ (h60 90 25) = (h 90 25) ∧ (h60 90 26) = (h 90 26) ∧ (h60 90 28) = (h 90 28) ∧ (h60 90 29) = (h 90 29) ∧ (h60 90 30) = (h 90 30) ∧ (h60 90 34) = (h 90 34) ∧ (h 90 7) ≤ ((h60 90 7) + 1) ∧ ((h60 90 7) + 1) ≤ n ∧ (h 90 13) ≤ (h60 90 13) ∧ (h60 90 13) - (h 90 13) ≤ ((h60 90 7) + 1) - (h 90 7) ∧ ((ov_up (ov_up h60 90 7 ((h60 90 7) + 1)) 96 ((566 + (6 * v43)) + v5) (ov_or (h 96 ((566 + (6 * v43)) + v5)) (ov_shl 1 v82))) 96 340) = (h 96 340) ∧ ((ov_up (ov_up h60 90 7 ((h60 90 7) + 1)) 96 ((566 + (6 * v43)) + v5) (ov_or (h 96 ((566 + (6 * v43)) + v5)) (ov_shl 1 v82))) 96 341) = (h 96 341) ∧ ((h60 90 8) = 0 → 1 ≤ (h 96 342) → 1 ≤ ((ov_up (ov_up h60 90 7 ((h60 90 7) + 1)) 96 ((566 + (6 * v43)) + v5) (ov_or (h 96 ((566 + (6 * v43)) + v5)) (ov_shl 1 v82))) 96 342)) ∧ (1 ≤ (h 96 349) → 1 ≤ ((ov_up (ov_up h60 90 7 ((h60 90 7) + 1)) 96 ((566 + (6 * v43)) + v5) (ov_or (h 96 ((566 + (6 * v43)) + v5)) (ov_shl 1 v82))) 96 349)); omega), E62, E63, E64, E65, E66, E68, E69, E70, E71, E72, E73, E74, E75, E76, R97.1, R97.2.1, (fun _ w => by show ov_CS ((ov_up (ov_up h60 90 7 ((h60 90 7) + 1)) 96 ((566 + (6 * v43)) + v5) (ov_or (h 96 ((566 + (6 * v43)) + v5)) (ov_shl 1 v82))) 96) ((ov_up (ov_up h60 90 7 ((h60 90 7) + 1)) 96 ((566 + (6 * v43)) + v5) (ov_or (h 96 ((566 + (6 * v43)) + v5)) (ov_shl 1 v82))) 97) ((ov_up (ov_up h60 90 7 ((h60 90 7) + 1)) 96 ((566 + (6 * v43)) + v5) (ov_or (h 96 ((566 + (6 * v43)) + v5)) (ov_shl 1 v82))) 98) (h60 90 13); rw [show (h60 90 13) = h 90 13 by omega]; exact R97.2.2 w)⟩
      · skip
        refine ov_blk (ls2 := [(0, ov_r 90), (1, ov_i v5), (2, ov_i v43), (3, ov_i v82), (4, ov_i ((566 + (6 * v43)) + v5))]) (st2 := [ov_i 3, ov_r 90]) (pc2 := 100) b_223_98_2 rfl rfl ?_
        refine ov_cV (as := [ov_i 3]) (st := []) (d2 := d - 1) d_223_100 lk_Mo_186 rfl (Nat.le_of_ble_eq_true rfl) (c := 1) (zb_90 I61) (zs_90 I61) ⟨by decide, rfl⟩ (by omega) (c_Mo_wrong_90 (d - 1) (by omega) U I61 3 (by omega) (by omega)) ?_
        rintro _ z128 h129 ⟨rfl, I130, f112, e113, e114, e115, e116, e117, e118, e119, e120, e121, e122, e123, e124, e125, e126, e127⟩
        have E131 : h129 91 = h 91 := Eq.trans e113 E62
        have E132 : h129 92 = h 92 := Eq.trans e114 E63
        have E133 : h129 93 = h 93 := Eq.trans e115 E64
        have E134 : h129 94 = h 94 := Eq.trans e116 E65
        have E135 : h129 95 = h 95 := Eq.trans e117 E66
        have E136 : h129 96 = h 96 := Eq.trans e118 E67
        have E137 : h129 97 = h 97 := Eq.trans e119 E68
        have E138 : h129 98 = h 98 := Eq.trans e120 E69
        have E139 : h129 99 = h 99 := Eq.trans e121 E70
        have E140 : h129 100 = h 100 := Eq.trans e122 E71
        have E141 : h129 103 = h 103 := Eq.trans e123 E72
        have E142 : h129 105 = h 105 := Eq.trans e124 E73
        have E143 : h129 106 = h 106 := Eq.trans e125 E74
        have E144 : h129 109 = h 109 := Eq.trans e126 E75
        have E145 : h129 114 = h 114 := Eq.trans e127 E76
        show ov_R u d ov_m223 103 [(0, ov_r 90), (1, ov_i v5), (2, ov_i v43), (3, ov_i v82), (4, ov_i ((566 + (6 * v43)) + v5))] [] z128 h129 (P_Mo_readBar_90 F z h n)
        have f146 : (h129 90 2) = (h60 90 2) ∧ (h129 90 7) = (h60 90 7) ∧ (h129 90 13) = (h60 90 13) ∧ (h129 90 20) = (h60 90 20) ∧ (h129 90 22) = (h60 90 22) ∧ (h129 90 25) = (h60 90 25) ∧ (h129 90 26) = (h60 90 26) ∧ (h129 90 28) = (h60 90 28) ∧ (h129 90 29) = (h60 90 29) ∧ (h129 90 30) = (h60 90 30) ∧ (h129 90 34) = (h60 90 34) ∧ 0 < (h129 90 8) ∧ (h60 90 8) ≤ (h129 90 8) := f112
        clear f112
        have cf147 : h129 96 340 = h 96 340 := congrFun E136 340
        have cf148 : h129 96 341 = h 96 341 := congrFun E136 341
        have cf149 : h129 96 342 = h 96 342 := congrFun E136 342
        have cf150 : h129 96 349 = h 96 349 := congrFun E136 349
        have R151 : ov_RD (h 96) (h 97) (h 98) (h 90 13) (h129 96) (h129 97) (h129 98) (h 90 13) := by rw [show h129 96 = h 96 from E136, show h129 97 = h 97 from E137, show h129 98 = h 98 from E138]; exact ov_RD_refl _ _ _ _
        exact ov_retv (st := []) d_223_103 rfl ⟨rfl, I130, (by show (h129 90 2) = (h 90 2) ∧ (h129 90 13) = (h 90 13) ∧ (h129 90 20) = (h 90 20) ∧ (h129 90 22) = (h 90 22) ∧ (h129 90 25) = (h 90 25) ∧ (h129 90 26) = (h 90 26) ∧ (h129 90 28) = (h 90 28) ∧ (h129 90 29) = (h 90 29) ∧ (h129 90 30) = (h 90 30) ∧ (h129 90 34) = (h 90 34) ∧ (h 90 7) ≤ (h129 90 7) ∧ (h129 90 7) ≤ n ∧ (h 90 13) ≤ (h129 90 13) ∧ (h129 90 13) - (h 90 13) ≤ (h129 90 7) - (h 90 7) ∧ (h129 96 340) = (h 96 340) ∧ (h129 96 341) = (h 96 341) ∧ ((h129 90 8) = 0 → 1 ≤ (h 96 342) → 1 ≤ (h129 96 342)) ∧ (1 ≤ (h 96 349) → 1 ≤ (h129 96 349)); omega), E131, E132, E133, E134, E135, E137, E138, E139, E140, E141, E142, E143, E144, E145, R151.1, R151.2.1, (fun _ w => by show ov_CS (h129 96) (h129 97) (h129 98) (h129 90 13); rw [show (h129 90 13) = h 90 13 by omega]; exact R151.2.2 w)⟩
    · skip
      refine ov_blk (ls2 := [(0, ov_r 90), (1, ov_i v5), (2, ov_i v43), (3, ov_i v82)]) (st2 := [ov_i 1, ov_r 90]) (pc2 := 67) b_223_65_2 rfl rfl ?_
      refine ov_cV (as := [ov_i 1]) (st := []) (d2 := d - 1) d_223_67 lk_Mo_186 rfl (Nat.le_of_ble_eq_true rfl) (c := 1) (zb_90 I61) (zs_90 I61) ⟨by decide, rfl⟩ (by omega) (c_Mo_wrong_90 (d - 1) (by omega) U I61 1 (by omega) (by omega)) ?_
      rintro _ z168 h169 ⟨rfl, I170, f152, e153, e154, e155, e156, e157, e158, e159, e160, e161, e162, e163, e164, e165, e166, e167⟩
      have E171 : h169 91 = h 91 := Eq.trans e153 E62
      have E172 : h169 92 = h 92 := Eq.trans e154 E63
      have E173 : h169 93 = h 93 := Eq.trans e155 E64
      have E174 : h169 94 = h 94 := Eq.trans e156 E65
      have E175 : h169 95 = h 95 := Eq.trans e157 E66
      have E176 : h169 96 = h 96 := Eq.trans e158 E67
      have E177 : h169 97 = h 97 := Eq.trans e159 E68
      have E178 : h169 98 = h 98 := Eq.trans e160 E69
      have E179 : h169 99 = h 99 := Eq.trans e161 E70
      have E180 : h169 100 = h 100 := Eq.trans e162 E71
      have E181 : h169 103 = h 103 := Eq.trans e163 E72
      have E182 : h169 105 = h 105 := Eq.trans e164 E73
      have E183 : h169 106 = h 106 := Eq.trans e165 E74
      have E184 : h169 109 = h 109 := Eq.trans e166 E75
      have E185 : h169 114 = h 114 := Eq.trans e167 E76
      show ov_R u d ov_m223 70 [(0, ov_r 90), (1, ov_i v5), (2, ov_i v43), (3, ov_i v82)] [] z168 h169 (P_Mo_readBar_90 F z h n)
      have f186 : (h169 90 2) = (h60 90 2) ∧ (h169 90 7) = (h60 90 7) ∧ (h169 90 13) = (h60 90 13) ∧ (h169 90 20) = (h60 90 20) ∧ (h169 90 22) = (h60 90 22) ∧ (h169 90 25) = (h60 90 25) ∧ (h169 90 26) = (h60 90 26) ∧ (h169 90 28) = (h60 90 28) ∧ (h169 90 29) = (h60 90 29) ∧ (h169 90 30) = (h60 90 30) ∧ (h169 90 34) = (h60 90 34) ∧ 0 < (h169 90 8) ∧ (h60 90 8) ≤ (h169 90 8) := f152
      clear f152
      have cf187 : h169 96 340 = h 96 340 := congrFun E176 340
      have cf188 : h169 96 341 = h 96 341 := congrFun E176 341
      have cf189 : h169 96 342 = h 96 342 := congrFun E176 342
      have cf190 : h169 96 349 = h 96 349 := congrFun E176 349
      have R191 : ov_RD (h 96) (h 97) (h 98) (h 90 13) (h169 96) (h169 97) (h169 98) (h 90 13) := by rw [show h169 96 = h 96 from E176, show h169 97 = h 97 from E177, show h169 98 = h 98 from E178]; exact ov_RD_refl _ _ _ _
      exact ov_retv (st := []) d_223_70 rfl ⟨rfl, I170, (by show (h169 90 2) = (h 90 2) ∧ (h169 90 13) = (h 90 13) ∧ (h169 90 20) = (h 90 20) ∧ (h169 90 22) = (h 90 22) ∧ (h169 90 25) = (h 90 25) ∧ (h169 90 26) = (h 90 26) ∧ (h169 90 28) = (h 90 28) ∧ (h169 90 29) = (h 90 29) ∧ (h169 90 30) = (h 90 30) ∧ (h169 90 34) = (h 90 34) ∧ (h 90 7) ≤ (h169 90 7) ∧ (h169 90 7) ≤ n ∧ (h 90 13) ≤ (h169 90 13) ∧ (h169 90 13) - (h 90 13) ≤ (h169 90 7) - (h 90 7) ∧ (h169 96 340) = (h 96 340) ∧ (h169 96 341) = (h 96 341) ∧ ((h169 90 8) = 0 → 1 ≤ (h 96 342) → 1 ≤ (h169 96 342)) ∧ (1 ≤ (h 96 349) → 1 ≤ (h169 96 349)); omega), E171, E172, E173, E174, E175, E177, E178, E179, E180, E181, E182, E183, E184, E185, R191.1, R191.2.1, (fun _ w => by show ov_CS (h169 96) (h169 97) (h169 98) (h169 90 13); rw [show (h169 90 13) = h 90 13 by omega]; exact R191.2.2 w)⟩
  · skip
    refine ov_blk (ls2 := [(0, ov_r 90), (1, ov_i v5), (2, ov_i v43)]) (st2 := [ov_i (-1)]) (pc2 := 50) b_223_49_1 rfl rfl ?_
    refine ov_goto (tgt := 60) d_223_50 (by decide) ?_
    refine ov_blk (ls2 := [(0, ov_r 90), (1, ov_i v5), (2, ov_i v43), (3, ov_i (-1))]) (st2 := [ov_i (-1)]) (pc2 := 62) b_223_60_2 rfl rfl ?_
    refine ov_ifge (tgt := 71) d_223_62 (by decide) (by omega) (fun c192 => ?_) (fun c192 => ?_)
    · omega
    · skip
      refine ov_blk (ls2 := [(0, ov_r 90), (1, ov_i v5), (2, ov_i v43), (3, ov_i (-1))]) (st2 := [ov_i 1, ov_r 90]) (pc2 := 67) b_223_65_2 rfl rfl ?_
      refine ov_cV (as := [ov_i 1]) (st := []) (d2 := d - 1) d_223_67 lk_Mo_186 rfl (Nat.le_of_ble_eq_true rfl) (c := 1) (zb_90 I61) (zs_90 I61) ⟨by decide, rfl⟩ (by omega) (c_Mo_wrong_90 (d - 1) (by omega) U I61 1 (by omega) (by omega)) ?_
      rintro _ z209 h210 ⟨rfl, I211, f193, e194, e195, e196, e197, e198, e199, e200, e201, e202, e203, e204, e205, e206, e207, e208⟩
      have E212 : h210 91 = h 91 := Eq.trans e194 E62
      have E213 : h210 92 = h 92 := Eq.trans e195 E63
      have E214 : h210 93 = h 93 := Eq.trans e196 E64
      have E215 : h210 94 = h 94 := Eq.trans e197 E65
      have E216 : h210 95 = h 95 := Eq.trans e198 E66
      have E217 : h210 96 = h 96 := Eq.trans e199 E67
      have E218 : h210 97 = h 97 := Eq.trans e200 E68
      have E219 : h210 98 = h 98 := Eq.trans e201 E69
      have E220 : h210 99 = h 99 := Eq.trans e202 E70
      have E221 : h210 100 = h 100 := Eq.trans e203 E71
      have E222 : h210 103 = h 103 := Eq.trans e204 E72
      have E223 : h210 105 = h 105 := Eq.trans e205 E73
      have E224 : h210 106 = h 106 := Eq.trans e206 E74
      have E225 : h210 109 = h 109 := Eq.trans e207 E75
      have E226 : h210 114 = h 114 := Eq.trans e208 E76
      show ov_R u d ov_m223 70 [(0, ov_r 90), (1, ov_i v5), (2, ov_i v43), (3, ov_i (-1))] [] z209 h210 (P_Mo_readBar_90 F z h n)
      have f227 : (h210 90 2) = (h60 90 2) ∧ (h210 90 7) = (h60 90 7) ∧ (h210 90 13) = (h60 90 13) ∧ (h210 90 20) = (h60 90 20) ∧ (h210 90 22) = (h60 90 22) ∧ (h210 90 25) = (h60 90 25) ∧ (h210 90 26) = (h60 90 26) ∧ (h210 90 28) = (h60 90 28) ∧ (h210 90 29) = (h60 90 29) ∧ (h210 90 30) = (h60 90 30) ∧ (h210 90 34) = (h60 90 34) ∧ 0 < (h210 90 8) ∧ (h60 90 8) ≤ (h210 90 8) := f193
      clear f193
      have cf228 : h210 96 340 = h 96 340 := congrFun E217 340
      have cf229 : h210 96 341 = h 96 341 := congrFun E217 341
      have cf230 : h210 96 342 = h 96 342 := congrFun E217 342
      have cf231 : h210 96 349 = h 96 349 := congrFun E217 349
      have R232 : ov_RD (h 96) (h 97) (h 98) (h 90 13) (h210 96) (h210 97) (h210 98) (h 90 13) := by rw [show h210 96 = h 96 from E217, show h210 97 = h 97 from E218, show h210 98 = h 98 from E219]; exact ov_RD_refl _ _ _ _
      exact ov_retv (st := []) d_223_70 rfl ⟨rfl, I211, (by show (h210 90 2) = (h 90 2) ∧ (h210 90 13) = (h 90 13) ∧ (h210 90 20) = (h 90 20) ∧ (h210 90 22) = (h 90 22) ∧ (h210 90 25) = (h 90 25) ∧ (h210 90 26) = (h 90 26) ∧ (h210 90 28) = (h 90 28) ∧ (h210 90 29) = (h 90 29) ∧ (h210 90 30) = (h 90 30) ∧ (h210 90 34) = (h 90 34) ∧ (h 90 7) ≤ (h210 90 7) ∧ (h210 90 7) ≤ n ∧ (h 90 13) ≤ (h210 90 13) ∧ (h210 90 13) - (h 90 13) ≤ (h210 90 7) - (h 90 7) ∧ (h210 96 340) = (h 96 340) ∧ (h210 96 341) = (h 96 341) ∧ ((h210 90 8) = 0 → 1 ≤ (h 96 342) → 1 ≤ (h210 96 342)) ∧ (1 ≤ (h 96 349) → 1 ≤ (h210 96 349)); omega), E212, E213, E214, E215, E216, E218, E219, E220, E221, E222, E223, E224, E225, E226, R232.1, R232.2.1, (fun _ w => by show ov_CS (h210 96) (h210 97) (h210 98) (h210 90 13); rw [show (h210 90 13) = h 90 13 by omega]; exact R232.2.2 w)⟩

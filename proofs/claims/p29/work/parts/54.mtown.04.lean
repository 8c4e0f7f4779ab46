abbrev P_Mo_readRule_90 (F : ov_H × ov_Z) (z : ov_Z) (h : ov_H) (n : Int) : Option ov_V → ov_Z → ov_H → Prop := fun r0 z' h' => r0 = none ∧ ov_N F z' h' ∧ ((h' 90 2) = (h 90 2) ∧ (h' 90 20) = (h 90 20) ∧ (h' 90 22) = (h 90 22) ∧ (h' 90 25) = (h 90 25) ∧ (h' 90 26) = (h 90 26) ∧ (h' 90 28) = (h 90 28) ∧ (h' 90 29) = (h 90 29) ∧ (h' 90 30) = (h 90 30) ∧ (h' 90 34) = (h 90 34) ∧ (h 90 7) ≤ (h' 90 7) ∧ (h' 90 7) ≤ n ∧ (h 90 13) ≤ (h' 90 13) ∧ (h' 90 13) - (h 90 13) ≤ (h' 90 7) - (h 90 7) ∧ (h' 96 340) = (h 96 340) ∧ (h' 96 341) = (h 96 341) ∧ ((h' 90 8) = 0 → 1 ≤ (h 96 342) → 1 ≤ (h' 96 342)) ∧ (1 ≤ (h 96 349) → 1 ≤ (h' 96 349))) ∧ h' 91 = h 91 ∧ h' 92 = h 92 ∧ h' 93 = h 93 ∧ h' 94 = h 94 ∧ h' 95 = h 95 ∧ h' 100 = h 100 ∧ h' 103 = h 103 ∧ h' 104 = h 104 ∧ h' 105 = h 105 ∧ h' 106 = h 106 ∧ h' 109 = h 109 ∧ h' 114 = h 114 ∧ (ov_MK (h 96) (h 97) (h 98) (h' 96) (h' 97) (h' 98)) ∧ (ov_WS (h 96) → ov_WS (h' 96)) ∧ ((h' 90 8) = 0 → ov_CS (h 96) (h 97) (h 98) (h 90 13) → ov_CS (h' 96) (h' 97) (h' 98) (h' 90 13))
set_option maxHeartbeats 4000000 in
theorem c_Mo_readRule_90 {u : ov_U} {F : ov_H × ov_Z} (n : Int) {z : ov_Z} {h : ov_H} (d : Nat) (hd : 50 ≤ d) (U : ov_cap u) (I : ov_N F z h) (p0 : 0 ≤ n ∧ n ≤ 1000 ∧ (h 92 (n)) = 0 ∧ (h 90 7) ≤ n) (p1 : (h 90 13) ≤ (h 90 7)) (p2 : (h 90 8) = 0) (p3 : (h 90 7) < n) : ov_T u d ov_m224 [ov_r 90] z h (P_Mo_readRule_90 F z h n) := by
  refine ov_en rfl (Nat.le_of_ble_eq_true rfl) ?_
  show ov_R u d ov_m224 0 [(0, ov_r 90)] [] z h (P_Mo_readRule_90 F z h n)
  refine ov_blk (ls2 := [(0, ov_r 90)]) (st2 := [ov_r 90]) (pc2 := 1) b_224_0_1 rfl rfl ?_
  refine ov_getf (v := ov_r 96) d_224_1 fl_Mo_81 (zb_90 I) (zs_90 I) (congrArg ov_r (rg_90_10 I)) ?_
  refine ov_blk (ls2 := [(0, ov_r 90)]) (st2 := [ov_i 348, ov_r 96]) (pc2 := 7) b_224_4_1 rfl rfl ?_
  refine ov_iald d_224_7 (zb_96 I) (zs_96 I) (by omega) ?_
  have g1 := t96_348 I
  refine ov_blk (ls2 := [(0, ov_r 90), (1, ov_i (h 96 348))]) (st2 := [ov_i 4, ov_i (h 96 348)]) (pc2 := 11) b_224_8_3 rfl rfl ?_
  refine ov_icne (tgt := 20) d_224_11 (by decide) (by omega) (by omega) (fun c2 => ?_) (fun c2 => ?_)
  · skip
    refine ov_blk (ls2 := [(0, ov_r 90), (1, ov_i (h 96 348))]) (st2 := [ov_r 90, ov_r 90]) (pc2 := 22) b_224_20_2 rfl rfl ?_
    refine ov_getf (v := ov_i (h 90 7)) d_224_22 fl_Mo_177 (zb_90 I) (zs_90 I) rfl ?_
    have g3 := rg_90_7 I
    refine ov_blk (ls2 := [(0, ov_r 90), (1, ov_i (h 96 348))]) (st2 := [ov_i ((h 90 7) + 1), ov_r 90]) (pc2 := 27) b_224_25_2 rfl rfl ?_
    refine ov_putf (x := ((h 90 7) + 1)) d_224_27 fl_Mo_177 (zb_90 I) (zs_90 I) rfl nk_0 rfl ?_
    have I4 := up_90_7 (x := ((h 90 7) + 1)) I (by omega)
    refine ov_blk (ls2 := [(0, ov_r 90), (1, ov_i (h 96 348)), (2, ov_i 0), (3, ov_i 0)]) (st2 := []) (pc2 := 34) b_224_30_4 rfl rfl ?_
    have L8 : ∀ (n5 : Nat) (x2 : Int) (x3 : Int) (q7 : (x2 = 0 ∨ x2 = 1) ∧ 0 ≤ x3 ∧ x3 ≤ 4), 4 - x3 < (n5 : Int) → ov_R u d ov_m224 34 [(0, ov_r 90), (1, ov_i (h 96 348)), (2, ov_i x2), (3, ov_i x3)] [] z (ov_up h 90 7 ((h 90 7) + 1)) (P_Mo_readRule_90 F z h n) := by
      intro n5
      induction n5 with
      | zero =>
        intro x2 x3 q7 hn9
        exact absurd hn9 (by omega)
      | succ n5 ih6 =>
        intro x2 x3 q7 hn9
        refine ov_blk (ls2 := [(0, ov_r 90), (1, ov_i (h 96 348)), (2, ov_i x2), (3, ov_i x3)]) (st2 := [ov_i (h 96 348), ov_i x3]) (pc2 := 36) b_224_34_2 rfl rfl ?_
        refine ov_icge (tgt := 81) d_224_36 (by decide) (by omega) (by omega) (fun c10 => ?_) (fun c10 => ?_)
        · skip
          refine ov_blk (ls2 := [(0, ov_r 90), (1, ov_i (h 96 348)), (2, ov_i x2), (3, ov_i x3)]) (st2 := [ov_r 90]) (pc2 := 82) b_224_81_1 rfl rfl ?_
          refine ov_cV (as := []) (st := []) (d2 := d - 1) d_224_82 lk_Mo_239 rfl (Nat.le_of_ble_eq_true rfl) (c := 1) (zb_90 I4) (zs_90 I4) ⟨by decide, rfl⟩ (by omega) (c_Mo_isName_90 n (d - 1) (by omega) U I4 (by show 0 ≤ n ∧ n ≤ 1000 ∧ (h 92 (n)) = 0 ∧ ((h 90 7) + 1) ≤ n; omega)) ?_
          rintro _ _ _ ⟨v12, rfl, rfl, rfl, f11⟩
          show ov_R u d ov_m224 85 [(0, ov_r 90), (1, ov_i (h 96 348)), (2, ov_i x2), (3, ov_i x3)] [ov_i v12] z (ov_up h 90 7 ((h 90 7) + 1)) (P_Mo_readRule_90 F z h n)
          have f13 : (v12 = 0 ∨ v12 = 1) ∧ (v12 = 1 → ((h 90 7) + 1) < n) := f11
          clear f11
          refine ov_ifne (tgt := 96) d_224_85 (by decide) (by omega) (fun c14 => ?_) (fun c14 => ?_)
          · skip
            have f13_ : v12 = 1 := by omega
            have f15 : ((h 90 7) + 1) < n := f13.2 (by omega)
            clear f13
            refine ov_blk (ls2 := [(0, ov_r 90), (1, ov_i (h 96 348)), (2, ov_i x2), (3, ov_i x3)]) (st2 := [ov_i x2]) (pc2 := 97) b_224_96_1 rfl rfl ?_
            refine ov_ifeq (tgt := 105) d_224_97 (by decide) (by omega) (fun c16 => ?_) (fun c16 => ?_)
            · skip
              refine ov_blk (ls2 := [(0, ov_r 90), (1, ov_i (h 96 348)), (2, ov_i x2), (3, ov_i x3)]) (st2 := [ov_r 90]) (pc2 := 106) b_224_105_1 rfl rfl ?_
              refine ov_getf (v := ov_i (h 90 8)) d_224_106 fl_Mo_180 (zb_90 I4) (zs_90 I4) rfl ?_
              have g17 := rg_90_8 I
              refine ov_ifle (tgt := 113) d_224_109 (by decide) (by omega) (fun c18 => ?_) (fun c18 => ?_)
              · skip
                refine ov_blk (ls2 := [(0, ov_r 90), (1, ov_i (h 96 348)), (2, ov_i x2), (3, ov_i x3)]) (st2 := [ov_r 90]) (pc2 := 114) b_224_113_1 rfl rfl ?_
                refine ov_getf (v := ov_r 99) d_224_114 fl_Mo_90 (zb_90 I4) (zs_90 I4) (congrArg ov_r (rg_90_14 I4)) ?_
                refine ov_blk (ls2 := [(0, ov_r 90), (1, ov_i (h 96 348)), (2, ov_i x2), (3, ov_i x3)]) (st2 := [ov_r 90, ov_i (h 96 348), ov_r 99]) (pc2 := 119) b_224_117_2 rfl rfl ?_
                refine ov_getf (v := ov_r 94) d_224_119 fl_Mo_30 (zb_90 I4) (zs_90 I4) (congrArg ov_r (rg_90_6 I4)) ?_
                refine ov_blk (ls2 := [(0, ov_r 90), (1, ov_i (h 96 348)), (2, ov_i x2), (3, ov_i x3)]) (st2 := [ov_r 90, ov_r 94, ov_i (h 96 348), ov_r 99]) (pc2 := 123) b_224_122_1 rfl rfl ?_
                refine ov_getf (v := ov_i ((h 90 7) + 1)) d_224_123 fl_Mo_177 (zb_90 I4) (zs_90 I4) rfl ?_
                refine ov_lald d_224_126 (zb_94 I4) (zs_94 I4) (by omega) ?_
                show ov_R u d ov_m224 127 [(0, ov_r 90), (1, ov_i (h 96 348)), (2, ov_i x2), (3, ov_i x3)] [ov_l (h 94 ((h 90 7) + 1)), ov_i (h 96 348), ov_r 99] z (ov_up h 90 7 ((h 90 7) + 1)) (P_Mo_readRule_90 F z h n)
                have g19 := ra_94 I ((h 90 7) + 1)
                refine ov_last d_224_127 (zb_99 I4) (zs_99 I4) (by omega) ?_
                have I20 := ua_99 (k := (h 96 348)) (x := (h 94 ((h 90 7) + 1))) I4
                refine ov_blk (ls2 := [(0, ov_r 90), (1, ov_i (h 96 348)), (2, ov_i x2), (3, ov_i x3)]) (st2 := [ov_r 90, ov_r 90]) (pc2 := 130) b_224_128_2 rfl rfl ?_
                refine ov_getf (v := ov_i ((h 90 7) + 1)) d_224_130 fl_Mo_177 (zb_90 I20) (zs_90 I20) rfl ?_
                refine ov_blk (ls2 := [(0, ov_r 90), (1, ov_i (h 96 348)), (2, ov_i x2), (3, ov_i x3)]) (st2 := [ov_i (((h 90 7) + 1) + 1), ov_r 90]) (pc2 := 135) b_224_133_2 rfl rfl ?_
                refine ov_putf (x := (((h 90 7) + 1) + 1)) d_224_135 fl_Mo_177 (zb_90 I20) (zs_90 I20) rfl nk_0 rfl ?_
                have I21 := up_90_7 (x := (((h 90 7) + 1) + 1)) I20 (by omega)
                refine ov_blk (ls2 := [(0, ov_r 90), (1, ov_i (h 96 348)), (2, ov_i x2), (3, ov_i x3)]) (st2 := [ov_r 90]) (pc2 := 139) b_224_138_1 rfl rfl ?_
                refine ov_getf (v := ov_r 96) d_224_139 fl_Mo_81 (zb_90 I21) (zs_90 I21) (congrArg ov_r (rg_90_10 I21)) ?_
                refine ov_blk (ls2 := [(0, ov_r 90), (1, ov_i (h 96 348)), (2, ov_i x2), (3, ov_i x3)]) (st2 := [ov_r 90, ov_i (620 + (h 96 348)), ov_r 96]) (pc2 := 148) b_224_142_4 rfl rfl ?_
                refine ov_getf (v := ov_i (h 90 13)) d_224_148 fl_Mo_208 (zb_90 I21) (zs_90 I21) rfl ?_
                have g22 := rg_90_13 I
                refine ov_iast d_224_151 (zb_96 I21) (zs_96 I21) (by omega) ?_
                have I23 := ua_96 (k := (620 + (h 96 348))) (x := (h 90 13)) I21 (by refine ⟨?_, ?_, ?_, ?_, ?_, ?_, ?_, ?_, ?_, ?_, ?_, ?_, ?_, ?_, ?_, ?_, ?_, ?_, ?_, ?_, ?_, ?_, ?_, ?_, ?_, ?_, ?_, ?_, ?_⟩ <;> omega)
                refine ov_blk (ls2 := [(0, ov_r 90), (1, ov_i (h 96 348)), (2, ov_i x2), (3, ov_i x3)]) (st2 := [ov_i 0, ov_r 90]) (pc2 := 154) b_224_152_2 rfl rfl ?_
                refine ov_cV (as := [ov_i 0]) (st := []) (d2 := d - 1) d_224_154 lk_Mo_243 rfl (Nat.le_of_ble_eq_true rfl) (c := 1) (zb_90 I23) (zs_90 I23) ⟨by decide, rfl⟩ (by omega) (c_Mo_all_90_all n 5 (d - 1) (by omega) U I23 0 (by omega) (by show 0 ≤ n ∧ n ≤ 1000 ∧ (h 92 (n)) = 0 ∧ (((h 90 7) + 1) + 1) ≤ n; omega) (by omega) (by show (h 90 13) ≤ (((h 90 7) + 1) + 1); omega)) ?_
                rintro _ z41 h42 ⟨rfl, I43, f24, e25, e26, e27, e28, e29, e30, e31, e32, e33, e34, e35, e36, e37, e38, y39, y40⟩
                have E44 : h42 91 = h 91 := e25
                have E45 : h42 92 = h 92 := e26
                have E46 : h42 93 = h 93 := e27
                have E47 : h42 94 = h 94 := e28
                have E48 : h42 95 = h 95 := e29
                have E49 : h42 100 = h 100 := e32
                have E50 : h42 103 = h 103 := e33
                have E51 : h42 104 = h 104 := e34
                have E52 : h42 105 = h 105 := e35
                have E53 : h42 106 = h 106 := e36
                have E54 : h42 109 = h 109 := e37
                have E55 : h42 114 = h 114 := e38
                show ov_R u d ov_m224 157 [(0, ov_r 90), (1, ov_i (h 96 348)), (2, ov_i x2), (3, ov_i x3)] [] z41 h42 (P_Mo_readRule_90 F z h n)
                have f56 : (h42 90 2) = (h 90 2) ∧ (h42 90 20) = (h 90 20) ∧ (h42 90 22) = (h 90 22) ∧ (h42 90 25) = (h 90 25) ∧ (h42 90 26) = (h 90 26) ∧ (h42 90 28) = (h 90 28) ∧ (h42 90 29) = (h 90 29) ∧ (h42 90 30) = (h 90 30) ∧ (h42 90 34) = (h 90 34) ∧ (((h 90 7) + 1) + 1) ≤ (h42 90 7) ∧ (h42 90 7) ≤ n ∧ (h 90 8) ≤ (h42 90 8) ∧ (h 90 13) ≤ (h42 90 13) ∧ (h42 90 13) - (h 90 13) ≤ (h42 90 7) - (((h 90 7) + 1) + 1) := f24
                clear f24
                have y39_ : ∀ j : Int, j < 1100 + (h 90 13) → (h42 97) j = (h 97) j ∧ (h42 98) j = (h 98) j := y39
                have y40_ : (h42 90 8) = 0 → ov_sg (h42 97) (h42 98) (h 90 13) (h42 90 13) := y40
                refine ov_blk (ls2 := [(0, ov_r 90), (1, ov_i (h 96 348)), (2, ov_i x2), (3, ov_i x3)]) (st2 := [ov_i 0, ov_i 0, ov_r 90]) (pc2 := 160) b_224_157_3 rfl rfl ?_
                refine ov_cV (as := [ov_i 0, ov_i 0]) (st := []) (d2 := d - 1) d_224_160 lk_Mo_246 rfl (Nat.le_of_ble_eq_true rfl) (c := 1) (zb_90 I43) (zs_90 I43) ⟨by decide, rfl⟩ (by omega) (c_Mo_emit_90 (d - 1) (by omega) U I43 0 0 (by omega) (by omega) (by omega) (by show (h42 90 13) ≤ 999; omega)) ?_
                rintro _ z74 h75 ⟨rfl, I76, f57, e58, e59, e60, e61, e62, e63, e64, e65, e66, e67, e68, e69, e70, e71, y72, y73⟩
                have E77 : h75 91 = h 91 := Eq.trans e58 E44
                have E78 : h75 92 = h 92 := Eq.trans e59 E45
                have E79 : h75 93 = h 93 := Eq.trans e60 E46
                have E80 : h75 94 = h 94 := Eq.trans e61 E47
                have E81 : h75 95 = h 95 := Eq.trans e62 E48
                have E82 : h75 96 = h42 96 := e63
                have E83 : h75 99 = h42 99 := e64
                have E84 : h75 100 = h 100 := Eq.trans e65 E49
                have E85 : h75 103 = h 103 := Eq.trans e66 E50
                have E86 : h75 104 = h 104 := Eq.trans e67 E51
                have E87 : h75 105 = h 105 := Eq.trans e68 E52
                have E88 : h75 106 = h 106 := Eq.trans e69 E53
                have E89 : h75 109 = h 109 := Eq.trans e70 E54
                have E90 : h75 114 = h 114 := Eq.trans e71 E55
                show ov_R u d ov_m224 163 [(0, ov_r 90), (1, ov_i (h 96 348)), (2, ov_i x2), (3, ov_i x3)] [] z74 h75 (P_Mo_readRule_90 F z h n)
                have f91 : (h75 90 2) = (h42 90 2) ∧ (h75 90 7) = (h42 90 7) ∧ (h75 90 8) = (h42 90 8) ∧ (h75 90 20) = (h42 90 20) ∧ (h75 90 22) = (h42 90 22) ∧ (h75 90 25) = (h42 90 25) ∧ (h75 90 26) = (h42 90 26) ∧ (h75 90 28) = (h42 90 28) ∧ (h75 90 29) = (h42 90 29) ∧ (h75 90 30) = (h42 90 30) ∧ (h75 90 34) = (h42 90 34) ∧ (h75 90 13) = (h42 90 13) + 1 := f57
                clear f57
                have y72_ : (h75 97) = ov_rs (h42 97) (1100 + (h42 90 13)) (0 : Int) := y72
                have y73_ : (h75 98) = ov_rs (h42 98) (1100 + (h42 90 13)) (0 : Int) := y73
                have q1 : (ov_up (ov_up (ov_up (ov_up h 90 7 ((h 90 7) + 1)) 99 (h 96 348) (h 94 ((h 90 7) + 1))) 90 7 (((h 90 7) + 1) + 1)) 96 (620 + (h 96 348)) (h 90 13)) 96 = ov_rs (h 96) (620 + (h 96 348)) (h 90 13) := by rw [ov_up_row]; rfl
                have q3 : h42 96 = ov_rs (h 96) (620 + (h 96 348)) (h 90 13) := by rw [e30, q1]
                have q4 := t96_348 I
                have l340 : h42 96 340 = h 96 340 := by rw [q3, ov_rs_ne (by omega)]
                have l341 : h42 96 341 = h 96 341 := by rw [q3, ov_rs_ne (by omega)]
                have l342 : h42 96 342 = h 96 342 := by rw [q3, ov_rs_ne (by omega)]
                have l348 : h42 96 348 = h 96 348 := by rw [q3, ov_rs_ne (by omega)]
                have l349 : h42 96 349 = h 96 349 := by rw [q3, ov_rs_ne (by omega)]
                refine ov_blk (ls2 := [(0, ov_r 90), (1, ov_i (h 96 348)), (2, ov_i x2), (3, ov_i x3)]) (st2 := [ov_r 90]) (pc2 := 164) b_224_163_1 rfl rfl ?_
                refine ov_getf (v := ov_r 96) d_224_164 fl_Mo_81 (zb_90 I76) (zs_90 I76) (congrArg ov_r (rg_90_10 I76)) ?_
                refine ov_blk (ls2 := [(0, ov_r 90), (1, ov_i (h 96 348)), (2, ov_i x2), (3, ov_i x3)]) (st2 := [ov_i 348, ov_r 96, ov_i 348, ov_r 96]) (pc2 := 171) b_224_167_2 rfl rfl ?_
                refine ov_iald d_224_171 (zb_96 I76) (zs_96 I76) (by omega) ?_
                rw [show h75 96 = h42 96 from E82]
                have g92 := t96_348 I43
                refine ov_blk (ls2 := [(0, ov_r 90), (1, ov_i (h 96 348)), (2, ov_i x2), (3, ov_i x3)]) (st2 := [ov_i ((h42 96 348) + 1), ov_i 348, ov_r 96]) (pc2 := 174) b_224_172_2 rfl rfl ?_
                refine ov_iast d_224_174 (zb_96 I76) (zs_96 I76) (by omega) ?_
                have I93 := ua_96 (k := 348) (x := ((h42 96 348) + 1)) I76 (by refine ⟨?_, ?_, ?_, ?_, ?_, ?_, ?_, ?_, ?_, ?_, ?_, ?_, ?_, ?_, ?_, ?_, ?_, ?_, ?_, ?_, ?_, ?_, ?_, ?_, ?_, ?_, ?_, ?_, ?_⟩ <;> omega)
                have q2 : (ov_up h75 96 348 ((h42 96 348) + 1)) 96 = ov_rs (ov_rs (h 96) (620 + (h 96 348)) (h 90 13)) 348 ((h42 96 348) + 1) := by rw [ov_up_row, e63, e30, q1]
                have k1 : ∀ j : Int, j < 1100 + (h 90 13) → h42 97 j = h 97 j ∧ h42 98 j = h 98 j := fun j hj => y39_ j (by omega)
                have cf94 : h75 96 340 = h42 96 340 := congrFun E82 340
                have cf95 : h75 96 341 = h42 96 341 := congrFun E82 341
                have cf96 : h75 96 342 = h42 96 342 := congrFun E82 342
                have cf97 : h75 96 349 = h42 96 349 := congrFun E82 349
                exact ov_retv (st := []) d_224_175 rfl ⟨rfl, I93, (by show (h75 90 2) = (h 90 2) ∧ (h75 90 20) = (h 90 20) ∧ (h75 90 22) = (h 90 22) ∧ (h75 90 25) = (h 90 25) ∧ (h75 90 26) = (h 90 26) ∧ (h75 90 28) = (h 90 28) ∧ (h75 90 29) = (h 90 29) ∧ (h75 90 30) = (h 90 30) ∧ (h75 90 34) = (h 90 34) ∧ (h 90 7) ≤ (h75 90 7) ∧ (h75 90 7) ≤ n ∧ (h 90 13) ≤ (h75 90 13) ∧ (h75 90 13) - (h 90 13) ≤ (h75 90 7) - (h 90 7) ∧ (h75 96 340) = (h 96 340) ∧ (h75 96 341) = (h 96 341) ∧ ((h75 90 8) = 0 → 1 ≤ (h 96 342) → 1 ≤ (h75 96 342)) ∧ (1 ≤ (h 96 349) → 1 ≤ (h75 96 349)); omega), E77, E78, E79, E80, E81, E84, E85, E86, E87, E88, E89, E90, (by show ov_MK (h 96) (h 97) (h 98) ((ov_up h75 96 348 ((h42 96 348) + 1)) 96) (h75 97) (h75 98); rw [q2]; exact ⟨(ov_MK_1 (k := 348) (ov_MK_1 (ov_MK_refl (h 96) (h 97) (h 98)) (by omega)) (by decide)).1, fun j hj => (ov_kpe k1 y72_ y73_ (by omega) j (by omega)).1, fun j hj => (ov_kpe k1 y72_ y73_ (by omega) j (by omega)).2⟩), (fun w => by show ov_WS ((ov_up h75 96 348 ((h42 96 348) + 1)) 96); rw [q2]; exact ov_WS_o (ov_WS_o w (by omega)) (by decide)), (fun e w => by have e0 : (h75 90 8) = 0 := e; have s2 := y40_ (by omega); rw [show (h 90 13) = h 90 13 by omega] at s2; show ov_CS ((ov_up h75 96 348 ((h42 96 348) + 1)) 96) (h75 97) (h75 98) (h75 90 13); rw [show (h75 90 13) = h42 90 13 + 1 by omega, q2]; exact ov_CS_r w (by omega) (by omega) (by rw [ov_rs_ne (by omega), show 620 + h 96 348 = 620 + (h 96 348) by omega, ov_rs_eq]) (fun r a b => by rw [ov_rs_ne (by omega), ov_rs_ne (by omega)]) (by rw [ov_rs_eq]; omega) k1 s2 y72_ y73_)⟩
              · skip
                have R98 : ov_RD (h 96) (h 97) (h 98) (h 90 13) ((ov_up h 90 7 ((h 90 7) + 1)) 96) ((ov_up h 90 7 ((h 90 7) + 1)) 97) ((ov_up h 90 7 ((h 90 7) + 1)) 98) (h 90 13) := by exact ov_RD_refl _ _ _ _
                exact ov_retv (st := []) d_224_112 rfl ⟨rfl, I4, ⟨rfl, rfl, rfl, rfl, rfl, rfl, rfl, rfl, rfl, (by show (h 90 7) ≤ ((h 90 7) + 1) ∧ ((h 90 7) + 1) ≤ n ∧ (h 90 13) ≤ (h 90 13) ∧ (h 90 13) - (h 90 13) ≤ ((h 90 7) + 1) - (h 90 7) ∧ (h 96 340) = (h 96 340) ∧ (h 96 341) = (h 96 341) ∧ ((h 90 8) = 0 → 1 ≤ (h 96 342) → 1 ≤ (h 96 342)) ∧ (1 ≤ (h 96 349) → 1 ≤ (h 96 349)); omega)⟩, rfl, rfl, rfl, rfl, rfl, rfl, rfl, rfl, rfl, rfl, rfl, rfl, R98.1, R98.2.1, (fun _ w => by show ov_CS ((ov_up h 90 7 ((h 90 7) + 1)) 96) ((ov_up h 90 7 ((h 90 7) + 1)) 97) ((ov_up h 90 7 ((h 90 7) + 1)) 98) (h 90 13); rw [show (h 90 13) = h 90 13 by omega]; exact R98.2.2 w)⟩
            · skip
              refine ov_blk (ls2 := [(0, ov_r 90), (1, ov_i (h 96 348)), (2, ov_i x2), (3, ov_i x3)]) (st2 := [ov_i 3, ov_r 90]) (pc2 := 102) b_224_100_2 rfl rfl ?_
              refine ov_cV (as := [ov_i 3]) (st := []) (d2 := d - 1) d_224_102 lk_Mo_186 rfl (Nat.le_of_ble_eq_true rfl) (c := 1) (zb_90 I4) (zs_90 I4) ⟨by decide, rfl⟩ (by omega) (c_Mo_wrong_90 (d - 1) (by omega) U I4 3 (by omega) (by omega)) ?_
              rintro _ z116 h117 ⟨rfl, I118, f99, e100, e101, e102, e103, e104, e105, e106, e107, e108, e109, e110, e111, e112, e113, e114, e115⟩
              have E119 : h117 91 = h 91 := e100
              have E120 : h117 92 = h 92 := e101
              have E121 : h117 93 = h 93 := e102
              have E122 : h117 94 = h 94 := e103
              have E123 : h117 95 = h 95 := e104
              have E124 : h117 96 = h 96 := e105
              have E125 : h117 97 = h 97 := e106
              have E126 : h117 98 = h 98 := e107
              have E127 : h117 99 = h 99 := e108
              have E128 : h117 100 = h 100 := e109
              have E129 : h117 103 = h 103 := e110
              have E130 : h117 104 = h 104 := e111
              have E131 : h117 105 = h 105 := e112
              have E132 : h117 106 = h 106 := e113
              have E133 : h117 109 = h 109 := e114
              have E134 : h117 114 = h 114 := e115
              show ov_R u d ov_m224 105 [(0, ov_r 90), (1, ov_i (h 96 348)), (2, ov_i x2), (3, ov_i x3)] [] z116 h117 (P_Mo_readRule_90 F z h n)
              have f135 : (h117 90 2) = (h 90 2) ∧ (h117 90 7) = ((h 90 7) + 1) ∧ (h117 90 13) = (h 90 13) ∧ (h117 90 20) = (h 90 20) ∧ (h117 90 22) = (h 90 22) ∧ (h117 90 25) = (h 90 25) ∧ (h117 90 26) = (h 90 26) ∧ (h117 90 28) = (h 90 28) ∧ (h117 90 29) = (h 90 29) ∧ (h117 90 30) = (h 90 30) ∧ (h117 90 34) = (h 90 34) ∧ 0 < (h117 90 8) ∧ (h 90 8) ≤ (h117 90 8) := f99
              clear f99
              refine ov_blk (ls2 := [(0, ov_r 90), (1, ov_i (h 96 348)), (2, ov_i x2), (3, ov_i x3)]) (st2 := [ov_r 90]) (pc2 := 106) b_224_105_1 rfl rfl ?_
              refine ov_getf (v := ov_i (h117 90 8)) d_224_106 fl_Mo_180 (zb_90 I118) (zs_90 I118) rfl ?_
              have g136 := rg_90_8 I118
              refine ov_ifle (tgt := 113) d_224_109 (by decide) (by omega) (fun c137 => ?_) (fun c137 => ?_)
              · omega
              · skip
                have cf138 : h117 96 340 = h 96 340 := congrFun E124 340
                have cf139 : h117 96 341 = h 96 341 := congrFun E124 341
                have cf140 : h117 96 342 = h 96 342 := congrFun E124 342
                have cf141 : h117 96 349 = h 96 349 := congrFun E124 349
                have R142 : ov_RD (h 96) (h 97) (h 98) (h 90 13) (h117 96) (h117 97) (h117 98) (h 90 13) := by rw [show h117 96 = h 96 from E124, show h117 97 = h 97 from E125, show h117 98 = h 98 from E126]; exact ov_RD_refl _ _ _ _
                exact ov_retv (st := []) d_224_112 rfl ⟨rfl, I118, (by show (h117 90 2) = (h 90 2) ∧ (h117 90 20) = (h 90 20) ∧ (h117 90 22) = (h 90 22) ∧ (h117 90 25) = (h 90 25) ∧ (h117 90 26) = (h 90 26) ∧ (h117 90 28) = (h 90 28) ∧ (h117 90 29) = (h 90 29) ∧ (h117 90 30) = (h 90 30) ∧ (h117 90 34) = (h 90 34) ∧ (h 90 7) ≤ (h117 90 7) ∧ (h117 90 7) ≤ n ∧ (h 90 13) ≤ (h117 90 13) ∧ (h117 90 13) - (h 90 13) ≤ (h117 90 7) - (h 90 7) ∧ (h117 96 340) = (h 96 340) ∧ (h117 96 341) = (h 96 341) ∧ ((h117 90 8) = 0 → 1 ≤ (h 96 342) → 1 ≤ (h117 96 342)) ∧ (1 ≤ (h 96 349) → 1 ≤ (h117 96 349)); omega), E119, E120, E121, E122, E123, E128, E129, E130, E131, E132, E133, E134, R142.1, R142.2.1, (fun _ w => by show ov_CS (h117 96) (h117 97) (h117 98) (h117 90 13); rw [show (h117 90 13) = h 90 13 by omega]; exact R142.2.2 w)⟩
          · skip
            have f13_ : v12 = 0 := by omega
            clear f13
            refine ov_blk (ls2 := [(0, ov_r 90), (1, ov_i (h 96 348)), (2, ov_i x2), (3, ov_i x3)]) (st2 := [ov_i 1, ov_r 90]) (pc2 := 90) b_224_88_2 rfl rfl ?_
            refine ov_cV (as := [ov_i 1]) (st := []) (d2 := d - 1) d_224_90 lk_Mo_186 rfl (Nat.le_of_ble_eq_true rfl) (c := 1) (zb_90 I4) (zs_90 I4) ⟨by decide, rfl⟩ (by omega) (c_Mo_wrong_90 (d - 1) (by omega) U I4 1 (by omega) (by omega)) ?_
            rintro _ z160 h161 ⟨rfl, I162, f143, e144, e145, e146, e147, e148, e149, e150, e151, e152, e153, e154, e155, e156, e157, e158, e159⟩
            have E163 : h161 91 = h 91 := e144
            have E164 : h161 92 = h 92 := e145
            have E165 : h161 93 = h 93 := e146
            have E166 : h161 94 = h 94 := e147
            have E167 : h161 95 = h 95 := e148
            have E168 : h161 96 = h 96 := e149
            have E169 : h161 97 = h 97 := e150
            have E170 : h161 98 = h 98 := e151
            have E171 : h161 99 = h 99 := e152
            have E172 : h161 100 = h 100 := e153
            have E173 : h161 103 = h 103 := e154
            have E174 : h161 104 = h 104 := e155
            have E175 : h161 105 = h 105 := e156
            have E176 : h161 106 = h 106 := e157
            have E177 : h161 109 = h 109 := e158
            have E178 : h161 114 = h 114 := e159
            show ov_R u d ov_m224 93 [(0, ov_r 90), (1, ov_i (h 96 348)), (2, ov_i x2), (3, ov_i x3)] [] z160 h161 (P_Mo_readRule_90 F z h n)
            have f179 : (h161 90 2) = (h 90 2) ∧ (h161 90 7) = ((h 90 7) + 1) ∧ (h161 90 13) = (h 90 13) ∧ (h161 90 20) = (h 90 20) ∧ (h161 90 22) = (h 90 22) ∧ (h161 90 25) = (h 90 25) ∧ (h161 90 26) = (h 90 26) ∧ (h161 90 28) = (h 90 28) ∧ (h161 90 29) = (h 90 29) ∧ (h161 90 30) = (h 90 30) ∧ (h161 90 34) = (h 90 34) ∧ 0 < (h161 90 8) ∧ (h 90 8) ≤ (h161 90 8) := f143
            clear f143
            refine ov_goto (tgt := 105) d_224_93 (by decide) ?_
            refine ov_blk (ls2 := [(0, ov_r 90), (1, ov_i (h 96 348)), (2, ov_i x2), (3, ov_i x3)]) (st2 := [ov_r 90]) (pc2 := 106) b_224_105_1 rfl rfl ?_
            refine ov_getf (v := ov_i (h161 90 8)) d_224_106 fl_Mo_180 (zb_90 I162) (zs_90 I162) rfl ?_
            have g180 := rg_90_8 I162
            refine ov_ifle (tgt := 113) d_224_109 (by decide) (by omega) (fun c181 => ?_) (fun c181 => ?_)
            · omega
            · skip
              have cf182 : h161 96 340 = h 96 340 := congrFun E168 340
              have cf183 : h161 96 341 = h 96 341 := congrFun E168 341
              have cf184 : h161 96 342 = h 96 342 := congrFun E168 342
              have cf185 : h161 96 349 = h 96 349 := congrFun E168 349
              have R186 : ov_RD (h 96) (h 97) (h 98) (h 90 13) (h161 96) (h161 97) (h161 98) (h 90 13) := by rw [show h161 96 = h 96 from E168, show h161 97 = h 97 from E169, show h161 98 = h 98 from E170]; exact ov_RD_refl _ _ _ _
              exact ov_retv (st := []) d_224_112 rfl ⟨rfl, I162, (by show (h161 90 2) = (h 90 2) ∧ (h161 90 20) = (h 90 20) ∧ (h161 90 22) = (h 90 22) ∧ (h161 90 25) = (h 90 25) ∧ (h161 90 26) = (h 90 26) ∧ (h161 90 28) = (h 90 28) ∧ (h161 90 29) = (h 90 29) ∧ (h161 90 30) = (h 90 30) ∧ (h161 90 34) = (h 90 34) ∧ (h 90 7) ≤ (h161 90 7) ∧ (h161 90 7) ≤ n ∧ (h 90 13) ≤ (h161 90 13) ∧ (h161 90 13) - (h 90 13) ≤ (h161 90 7) - (h 90 7) ∧ (h161 96 340) = (h 96 340) ∧ (h161 96 341) = (h 96 341) ∧ ((h161 90 8) = 0 → 1 ≤ (h 96 342) → 1 ≤ (h161 96 342)) ∧ (1 ≤ (h 96 349) → 1 ≤ (h161 96 349)); omega), E163, E164, E165, E166, E167, E172, E173, E174, E175, E176, E177, E178, R186.1, R186.2.1, (fun _ w => by show ov_CS (h161 96) (h161 97) (h161 98) (h161 90 13); rw [show (h161 90 13) = h 90 13 by omega]; exact R186.2.2 w)⟩
        · skip
          refine ov_blk (ls2 := [(0, ov_r 90), (1, ov_i (h 96 348)), (2, ov_i x2), (3, ov_i x3)]) (st2 := [ov_r 90]) (pc2 := 40) b_224_39_1 rfl rfl ?_
          refine ov_getf (v := ov_i (h 90 8)) d_224_40 fl_Mo_180 (zb_90 I4) (zs_90 I4) rfl ?_
          have g187 := rg_90_8 I
          refine ov_ifne (tgt := 81) d_224_43 (by decide) (by omega) (fun c188 => ?_) (fun c188 => ?_)
          · skip
            refine ov_blk (ls2 := [(0, ov_r 90), (1, ov_i (h 96 348)), (2, ov_i x2), (3, ov_i x3)]) (st2 := [ov_r 90]) (pc2 := 82) b_224_81_1 rfl rfl ?_
            refine ov_cV (as := []) (st := []) (d2 := d - 1) d_224_82 lk_Mo_239 rfl (Nat.le_of_ble_eq_true rfl) (c := 1) (zb_90 I4) (zs_90 I4) ⟨by decide, rfl⟩ (by omega) (c_Mo_isName_90 n (d - 1) (by omega) U I4 (by show 0 ≤ n ∧ n ≤ 1000 ∧ (h 92 (n)) = 0 ∧ ((h 90 7) + 1) ≤ n; omega)) ?_
            rintro _ _ _ ⟨v190, rfl, rfl, rfl, f189⟩
            show ov_R u d ov_m224 85 [(0, ov_r 90), (1, ov_i (h 96 348)), (2, ov_i x2), (3, ov_i x3)] [ov_i v190] z (ov_up h 90 7 ((h 90 7) + 1)) (P_Mo_readRule_90 F z h n)
            have f191 : (v190 = 0 ∨ v190 = 1) ∧ (v190 = 1 → ((h 90 7) + 1) < n) := f189
            clear f189
            refine ov_ifne (tgt := 96) d_224_85 (by decide) (by omega) (fun c192 => ?_) (fun c192 => ?_)
            · skip
              have f191_ : v190 = 1 := by omega
              have f193 : ((h 90 7) + 1) < n := f191.2 (by omega)
              clear f191
              refine ov_blk (ls2 := [(0, ov_r 90), (1, ov_i (h 96 348)), (2, ov_i x2), (3, ov_i x3)]) (st2 := [ov_i x2]) (pc2 := 97) b_224_96_1 rfl rfl ?_
              refine ov_ifeq (tgt := 105) d_224_97 (by decide) (by omega) (fun c194 => ?_) (fun c194 => ?_)
              · skip
                refine ov_blk (ls2 := [(0, ov_r 90), (1, ov_i (h 96 348)), (2, ov_i x2), (3, ov_i x3)]) (st2 := [ov_r 90]) (pc2 := 106) b_224_105_1 rfl rfl ?_
                refine ov_getf (v := ov_i (h 90 8)) d_224_106 fl_Mo_180 (zb_90 I4) (zs_90 I4) rfl ?_
                refine ov_ifle (tgt := 113) d_224_109 (by decide) (by omega) (fun c196 => ?_) (fun c196 => ?_)
                · omega
                · skip
                  have R197 : ov_RD (h 96) (h 97) (h 98) (h 90 13) ((ov_up h 90 7 ((h 90 7) + 1)) 96) ((ov_up h 90 7 ((h 90 7) + 1)) 97) ((ov_up h 90 7 ((h 90 7) + 1)) 98) (h 90 13) := by exact ov_RD_refl _ _ _ _
                  exact ov_retv (st := []) d_224_112 rfl ⟨rfl, I4, ⟨rfl, rfl, rfl, rfl, rfl, rfl, rfl, rfl, rfl, (by show (h 90 7) ≤ ((h 90 7) + 1) ∧ ((h 90 7) + 1) ≤ n ∧ (h 90 13) ≤ (h 90 13) ∧ (h 90 13) - (h 90 13) ≤ ((h 90 7) + 1) - (h 90 7) ∧ (h 96 340) = (h 96 340) ∧ (h 96 341) = (h 96 341) ∧ ((h 90 8) = 0 → 1 ≤ (h 96 342) → 1 ≤ (h 96 342)) ∧ (1 ≤ (h 96 349) → 1 ≤ (h 96 349)); omega)⟩, rfl, rfl, rfl, rfl, rfl, rfl, rfl, rfl, rfl, rfl, rfl, rfl, R197.1, R197.2.1, (fun _ w => by show ov_CS ((ov_up h 90 7 ((h 90 7) + 1)) 96) ((ov_up h 90 7 ((h 90 7) + 1)) 97) ((ov_up h 90 7 ((h 90 7) + 1)) 98) (h 90 13); rw [show (h 90 13) = h 90 13 by omega]; exact R197.2.2 w)⟩
              · skip
                refine ov_blk (ls2 := [(0, ov_r 90), (1, ov_i (h 96 348)), (2, ov_i x2), (3, ov_i x3)]) (st2 := [ov_i 3, ov_r 90]) (pc2 := 102) b_224_100_2 rfl rfl ?_
                refine ov_cV (as := [ov_i 3]) (st := []) (d2 := d - 1) d_224_102 lk_Mo_186 rfl (Nat.le_of_ble_eq_true rfl) (c := 1) (zb_90 I4) (zs_90 I4) ⟨by decide, rfl⟩ (by omega) (c_Mo_wrong_90 (d - 1) (by omega) U I4 3 (by omega) (by omega)) ?_
                rintro _ z215 h216 ⟨rfl, I217, f198, e199, e200, e201, e202, e203, e204, e205, e206, e207, e208, e209, e210, e211, e212, e213, e214⟩
                have E218 : h216 91 = h 91 := e199
                have E219 : h216 92 = h 92 := e200
                have E220 : h216 93 = h 93 := e201
                have E221 : h216 94 = h 94 := e202
                have E222 : h216 95 = h 95 := e203
                have E223 : h216 96 = h 96 := e204
                have E224 : h216 97 = h 97 := e205
                have E225 : h216 98 = h 98 := e206
                have E226 : h216 99 = h 99 := e207
                have E227 : h216 100 = h 100 := e208
                have E228 : h216 103 = h 103 := e209
                have E229 : h216 104 = h 104 := e210
                have E230 : h216 105 = h 105 := e211
                have E231 : h216 106 = h 106 := e212
                have E232 : h216 109 = h 109 := e213
                have E233 : h216 114 = h 114 := e214
                show ov_R u d ov_m224 105 [(0, ov_r 90), (1, ov_i (h 96 348)), (2, ov_i x2), (3, ov_i x3)] [] z215 h216 (P_Mo_readRule_90 F z h n)
                have f234 : (h216 90 2) = (h 90 2) ∧ (h216 90 7) = ((h 90 7) + 1) ∧ (h216 90 13) = (h 90 13) ∧ (h216 90 20) = (h 90 20) ∧ (h216 90 22) = (h 90 22) ∧ (h216 90 25) = (h 90 25) ∧ (h216 90 26) = (h 90 26) ∧ (h216 90 28) = (h 90 28) ∧ (h216 90 29) = (h 90 29) ∧ (h216 90 30) = (h 90 30) ∧ (h216 90 34) = (h 90 34) ∧ 0 < (h216 90 8) ∧ (h 90 8) ≤ (h216 90 8) := f198
                clear f198
                refine ov_blk (ls2 := [(0, ov_r 90), (1, ov_i (h 96 348)), (2, ov_i x2), (3, ov_i x3)]) (st2 := [ov_r 90]) (pc2 := 106) b_224_105_1 rfl rfl ?_
                refine ov_getf (v := ov_i (h216 90 8)) d_224_106 fl_Mo_180 (zb_90 I217) (zs_90 I217) rfl ?_
                have g235 := rg_90_8 I217
                refine ov_ifle (tgt := 113) d_224_109 (by decide) (by omega) (fun c236 => ?_) (fun c236 => ?_)
                · omega
                · skip
                  have cf237 : h216 96 340 = h 96 340 := congrFun E223 340
                  have cf238 : h216 96 341 = h 96 341 := congrFun E223 341
                  have cf239 : h216 96 342 = h 96 342 := congrFun E223 342
                  have cf240 : h216 96 349 = h 96 349 := congrFun E223 349
                  have R241 : ov_RD (h 96) (h 97) (h 98) (h 90 13) (h216 96) (h216 97) (h216 98) (h 90 13) := by rw [show h216 96 = h 96 from E223, show h216 97 = h 97 from E224, show h216 98 = h 98 from E225]; exact ov_RD_refl _ _ _ _
                  exact ov_retv (st := []) d_224_112 rfl ⟨rfl, I217, (by show (h216 90 2) = (h 90 2) ∧ (h216 90 20) = (h 90 20) ∧ (h216 90 22) = (h 90 22) ∧ (h216 90 25) = (h 90 25) ∧ (h216 90 26) = (h 90 26) ∧ (h216 90 28) = (h 90 28) ∧ (h216 90 29) = (h 90 29) ∧ (h216 90 30) = (h 90 30) ∧ (h216 90 34) = (h 90 34) ∧ (h 90 7) ≤ (h216 90 7) ∧ (h216 90 7) ≤ n ∧ (h 90 13) ≤ (h216 90 13) ∧ (h216 90 13) - (h 90 13) ≤ (h216 90 7) - (h 90 7) ∧ (h216 96 340) = (h 96 340) ∧ (h216 96 341) = (h 96 341) ∧ ((h216 90 8) = 0 → 1 ≤ (h 96 342) → 1 ≤ (h216 96 342)) ∧ (1 ≤ (h 96 349) → 1 ≤ (h216 96 349)); omega), E218, E219, E220, E221, E222, E227, E228, E229, E230, E231, E232, E233, R241.1, R241.2.1, (fun _ w => by show ov_CS (h216 96) (h216 97) (h216 98) (h216 90 13); rw [show (h216 90 13) = h 90 13 by omega]; exact R241.2.2 w)⟩
            · skip
              have f191_ : v190 = 0 := by omega
              clear f191
              refine ov_blk (ls2 := [(0, ov_r 90), (1, ov_i (h 96 348)), (2, ov_i x2), (3, ov_i x3)]) (st2 := [ov_i 1, ov_r 90]) (pc2 := 90) b_224_88_2 rfl rfl ?_
              refine ov_cV (as := [ov_i 1]) (st := []) (d2 := d - 1) d_224_90 lk_Mo_186 rfl (Nat.le_of_ble_eq_true rfl) (c := 1) (zb_90 I4) (zs_90 I4) ⟨by decide, rfl⟩ (by omega) (c_Mo_wrong_90 (d - 1) (by omega) U I4 1 (by omega) (by omega)) ?_
              rintro _ z259 h260 ⟨rfl, I261, f242, e243, e244, e245, e246, e247, e248, e249, e250, e251, e252, e253, e254, e255, e256, e257, e258⟩
              have E262 : h260 91 = h 91 := e243
              have E263 : h260 92 = h 92 := e244
              have E264 : h260 93 = h 93 := e245
              have E265 : h260 94 = h 94 := e246
              have E266 : h260 95 = h 95 := e247
              have E267 : h260 96 = h 96 := e248
              have E268 : h260 97 = h 97 := e249
              have E269 : h260 98 = h 98 := e250
              have E270 : h260 99 = h 99 := e251
              have E271 : h260 100 = h 100 := e252
              have E272 : h260 103 = h 103 := e253
              have E273 : h260 104 = h 104 := e254
              have E274 : h260 105 = h 105 := e255
              have E275 : h260 106 = h 106 := e256
              have E276 : h260 109 = h 109 := e257
              have E277 : h260 114 = h 114 := e258
              show ov_R u d ov_m224 93 [(0, ov_r 90), (1, ov_i (h 96 348)), (2, ov_i x2), (3, ov_i x3)] [] z259 h260 (P_Mo_readRule_90 F z h n)
              have f278 : (h260 90 2) = (h 90 2) ∧ (h260 90 7) = ((h 90 7) + 1) ∧ (h260 90 13) = (h 90 13) ∧ (h260 90 20) = (h 90 20) ∧ (h260 90 22) = (h 90 22) ∧ (h260 90 25) = (h 90 25) ∧ (h260 90 26) = (h 90 26) ∧ (h260 90 28) = (h 90 28) ∧ (h260 90 29) = (h 90 29) ∧ (h260 90 30) = (h 90 30) ∧ (h260 90 34) = (h 90 34) ∧ 0 < (h260 90 8) ∧ (h 90 8) ≤ (h260 90 8) := f242
              clear f242
              refine ov_goto (tgt := 105) d_224_93 (by decide) ?_
              refine ov_blk (ls2 := [(0, ov_r 90), (1, ov_i (h 96 348)), (2, ov_i x2), (3, ov_i x3)]) (st2 := [ov_r 90]) (pc2 := 106) b_224_105_1 rfl rfl ?_
              refine ov_getf (v := ov_i (h260 90 8)) d_224_106 fl_Mo_180 (zb_90 I261) (zs_90 I261) rfl ?_
              have g279 := rg_90_8 I261
              refine ov_ifle (tgt := 113) d_224_109 (by decide) (by omega) (fun c280 => ?_) (fun c280 => ?_)
              · omega
              · skip
                have cf281 : h260 96 340 = h 96 340 := congrFun E267 340
                have cf282 : h260 96 341 = h 96 341 := congrFun E267 341
                have cf283 : h260 96 342 = h 96 342 := congrFun E267 342
                have cf284 : h260 96 349 = h 96 349 := congrFun E267 349
                have R285 : ov_RD (h 96) (h 97) (h 98) (h 90 13) (h260 96) (h260 97) (h260 98) (h 90 13) := by rw [show h260 96 = h 96 from E267, show h260 97 = h 97 from E268, show h260 98 = h 98 from E269]; exact ov_RD_refl _ _ _ _
                exact ov_retv (st := []) d_224_112 rfl ⟨rfl, I261, (by show (h260 90 2) = (h 90 2) ∧ (h260 90 20) = (h 90 20) ∧ (h260 90 22) = (h 90 22) ∧ (h260 90 25) = (h 90 25) ∧ (h260 90 26) = (h 90 26) ∧ (h260 90 28) = (h 90 28) ∧ (h260 90 29) = (h 90 29) ∧ (h260 90 30) = (h 90 30) ∧ (h260 90 34) = (h 90 34) ∧ (h 90 7) ≤ (h260 90 7) ∧ (h260 90 7) ≤ n ∧ (h 90 13) ≤ (h260 90 13) ∧ (h260 90 13) - (h 90 13) ≤ (h260 90 7) - (h 90 7) ∧ (h260 96 340) = (h 96 340) ∧ (h260 96 341) = (h 96 341) ∧ ((h260 90 8) = 0 → 1 ≤ (h 96 342) → 1 ≤ (h260 96 342)) ∧ (1 ≤ (h 96 349) → 1 ≤ (h260 96 349)); omega), E262, E263, E264, E265, E266, E271, E272, E273, E274, E275, E276, E277, R285.1, R285.2.1, (fun _ w => by show ov_CS (h260 96) (h260 97) (h260 98) (h260 90 13); rw [show (h260 90 13) = h 90 13 by omega]; exact R285.2.2 w)⟩
          · skip
            refine ov_blk (ls2 := [(0, ov_r 90), (1, ov_i (h 96 348)), (2, ov_i x2), (3, ov_i x3)]) (st2 := [ov_i x2]) (pc2 := 47) b_224_46_1 rfl rfl ?_
            refine ov_ifne (tgt := 69) d_224_47 (by decide) (by omega) (fun c286 => ?_) (fun c286 => ?_)
            · skip
              refine ov_blk (ls2 := [(0, ov_r 90), (1, ov_i (h 96 348)), (2, ov_i x2), (3, ov_i x3)]) (st2 := [ov_i 1]) (pc2 := 70) b_224_69_1 rfl rfl ?_
              refine ov_goto (tgt := 74) d_224_70 (by decide) ?_
              refine ov_blk (ls2 := [(0, ov_r 90), (1, ov_i (h 96 348)), (2, ov_i 1), (3, ov_i (x3 + 1))]) (st2 := []) (pc2 := 78) b_224_74_2 rfl rfl ?_
              refine ov_goto (tgt := 34) d_224_78 (by decide) ?_
              exact ih6 1 (x3 + 1) (by show (1 = 0 ∨ 1 = 1) ∧ 0 ≤ (x3 + 1) ∧ (x3 + 1) ≤ 4; omega) (by omega)
            · skip
              refine ov_blk (ls2 := [(0, ov_r 90), (1, ov_i (h 96 348)), (2, ov_i x2), (3, ov_i x3)]) (st2 := [ov_r 90]) (pc2 := 51) b_224_50_1 rfl rfl ?_
              refine ov_getf (v := ov_r 99) d_224_51 fl_Mo_90 (zb_90 I4) (zs_90 I4) (congrArg ov_r (rg_90_14 I4)) ?_
              refine ov_blk (ls2 := [(0, ov_r 90), (1, ov_i (h 96 348)), (2, ov_i x2), (3, ov_i x3)]) (st2 := [ov_i x3, ov_r 99]) (pc2 := 55) b_224_54_1 rfl rfl ?_
              refine ov_lald d_224_55 (zb_99 I4) (zs_99 I4) (by omega) ?_
              show ov_R u d ov_m224 56 [(0, ov_r 90), (1, ov_i (h 96 348)), (2, ov_i x2), (3, ov_i x3)] [ov_l (h 99 x3)] z (ov_up h 90 7 ((h 90 7) + 1)) (P_Mo_readRule_90 F z h n)
              refine ov_blk (ls2 := [(0, ov_r 90), (1, ov_i (h 96 348)), (2, ov_i x2), (3, ov_i x3)]) (st2 := [ov_r 90, ov_l (h 99 x3)]) (pc2 := 57) b_224_56_1 rfl rfl ?_
              refine ov_getf (v := ov_r 94) d_224_57 fl_Mo_30 (zb_90 I4) (zs_90 I4) (congrArg ov_r (rg_90_6 I4)) ?_
              refine ov_blk (ls2 := [(0, ov_r 90), (1, ov_i (h 96 348)), (2, ov_i x2), (3, ov_i x3)]) (st2 := [ov_r 90, ov_r 94, ov_l (h 99 x3)]) (pc2 := 61) b_224_60_1 rfl rfl ?_
              refine ov_getf (v := ov_i ((h 90 7) + 1)) d_224_61 fl_Mo_177 (zb_90 I4) (zs_90 I4) rfl ?_
              refine ov_lald d_224_64 (zb_94 I4) (zs_94 I4) (by omega) ?_
              show ov_R u d ov_m224 65 [(0, ov_r 90), (1, ov_i (h 96 348)), (2, ov_i x2), (3, ov_i x3)] [ov_l (h 94 ((h 90 7) + 1)), ov_l (h 99 x3)] z (ov_up h 90 7 ((h 90 7) + 1)) (P_Mo_readRule_90 F z h n)
              have g287 := ra_94 I ((h 90 7) + 1)
              refine ov_blk (ls2 := [(0, ov_r 90), (1, ov_i (h 96 348)), (2, ov_i x2), (3, ov_i x3)]) (st2 := [ov_i (ov_lcmp (h 99 x3) (h 94 ((h 90 7) + 1)))]) (pc2 := 66) b_224_65_1 rfl rfl ?_
              have g288 := ov_lcg (h 99 x3) (h 94 ((h 90 7) + 1))
              refine ov_ifne (tgt := 73) d_224_66 (by decide) (by omega) (fun c289 => ?_) (fun c289 => ?_)
              · skip
                refine ov_blk (ls2 := [(0, ov_r 90), (1, ov_i (h 96 348)), (2, ov_i 0), (3, ov_i (x3 + 1))]) (st2 := []) (pc2 := 78) b_224_73_3 rfl rfl ?_
                refine ov_goto (tgt := 34) d_224_78 (by decide) ?_
                exact ih6 0 (x3 + 1) (by show (0 = 0 ∨ 0 = 1) ∧ 0 ≤ (x3 + 1) ∧ (x3 + 1) ≤ 4; omega) (by omega)
              · skip
                refine ov_blk (ls2 := [(0, ov_r 90), (1, ov_i (h 96 348)), (2, ov_i x2), (3, ov_i x3)]) (st2 := [ov_i 1]) (pc2 := 70) b_224_69_1 rfl rfl ?_
                refine ov_goto (tgt := 74) d_224_70 (by decide) ?_
                refine ov_blk (ls2 := [(0, ov_r 90), (1, ov_i (h 96 348)), (2, ov_i 1), (3, ov_i (x3 + 1))]) (st2 := []) (pc2 := 78) b_224_74_2 rfl rfl ?_
                refine ov_goto (tgt := 34) d_224_78 (by decide) ?_
                exact ih6 1 (x3 + 1) (by show (1 = 0 ∨ 1 = 1) ∧ 0 ≤ (x3 + 1) ∧ (x3 + 1) ≤ 4; omega) (by omega)
    exact L8 5 0 0 (by show (0 = 0 ∨ 0 = 1) ∧ 0 ≤ 0 ∧ 0 ≤ 4; omega) (by omega)
  · skip
    refine ov_blk (ls2 := [(0, ov_r 90), (1, ov_i (h 96 348))]) (st2 := [ov_i 5, ov_r 90]) (pc2 := 16) b_224_14_2 rfl rfl ?_
    refine ov_cV (as := [ov_i 5]) (st := []) (d2 := d - 1) d_224_16 lk_Mo_186 rfl (Nat.le_of_ble_eq_true rfl) (c := 1) (zb_90 I) (zs_90 I) ⟨by decide, rfl⟩ (by omega) (c_Mo_wrong_90 (d - 1) (by omega) U I 5 (by omega) (by omega)) ?_
    rintro _ z307 h308 ⟨rfl, I309, f290, e291, e292, e293, e294, e295, e296, e297, e298, e299, e300, e301, e302, e303, e304, e305, e306⟩
    have E310 : h308 91 = h 91 := e291
    have E311 : h308 92 = h 92 := e292
    have E312 : h308 93 = h 93 := e293
    have E313 : h308 94 = h 94 := e294
    have E314 : h308 95 = h 95 := e295
    have E315 : h308 96 = h 96 := e296
    have E316 : h308 97 = h 97 := e297
    have E317 : h308 98 = h 98 := e298
    have E318 : h308 99 = h 99 := e299
    have E319 : h308 100 = h 100 := e300
    have E320 : h308 103 = h 103 := e301
    have E321 : h308 104 = h 104 := e302
    have E322 : h308 105 = h 105 := e303
    have E323 : h308 106 = h 106 := e304
    have E324 : h308 109 = h 109 := e305
    have E325 : h308 114 = h 114 := e306
    show ov_R u d ov_m224 19 [(0, ov_r 90), (1, ov_i (h 96 348))] [] z307 h308 (P_Mo_readRule_90 F z h n)
    have f326 : (h308 90 2) = (h 90 2) ∧ (h308 90 7) = (h 90 7) ∧ (h308 90 13) = (h 90 13) ∧ (h308 90 20) = (h 90 20) ∧ (h308 90 22) = (h 90 22) ∧ (h308 90 25) = (h 90 25) ∧ (h308 90 26) = (h 90 26) ∧ (h308 90 28) = (h 90 28) ∧ (h308 90 29) = (h 90 29) ∧ (h308 90 30) = (h 90 30) ∧ (h308 90 34) = (h 90 34) ∧ 0 < (h308 90 8) ∧ (h 90 8) ≤ (h308 90 8) := f290
    clear f290
    have cf327 : h308 96 340 = h 96 340 := congrFun E315 340
    have cf328 : h308 96 341 = h 96 341 := congrFun E315 341
    have cf329 : h308 96 342 = h 96 342 := congrFun E315 342
    have cf330 : h308 96 349 = h 96 349 := congrFun E315 349
    have R331 : ov_RD (h 96) (h 97) (h 98) (h 90 13) (h308 96) (h308 97) (h308 98) (h 90 13) := by rw [show h308 96 = h 96 from E315, show h308 97 = h 97 from E316, show h308 98 = h 98 from E317]; exact ov_RD_refl _ _ _ _
    exact ov_retv (st := []) d_224_19 rfl ⟨rfl, I309, (by show (h308 90 2) = (h 90 2) ∧ (h308 90 20) = (h 90 20) ∧ (h308 90 22) = (h 90 22) ∧ (h308 90 25) = (h 90 25) ∧ (h308 90 26) = (h 90 26) ∧ (h308 90 28) = (h 90 28) ∧ (h308 90 29) = (h 90 29) ∧ (h308 90 30) = (h 90 30) ∧ (h308 90 34) = (h 90 34) ∧ (h 90 7) ≤ (h308 90 7) ∧ (h308 90 7) ≤ n ∧ (h 90 13) ≤ (h308 90 13) ∧ (h308 90 13) - (h 90 13) ≤ (h308 90 7) - (h 90 7) ∧ (h308 96 340) = (h 96 340) ∧ (h308 96 341) = (h 96 341) ∧ ((h308 90 8) = 0 → 1 ≤ (h 96 342) → 1 ≤ (h308 96 342)) ∧ (1 ≤ (h 96 349) → 1 ≤ (h308 96 349)); omega), E310, E311, E312, E313, E314, E319, E320, E321, E322, E323, E324, E325, R331.1, R331.2.1, (fun _ w => by show ov_CS (h308 96) (h308 97) (h308 98) (h308 90 13); rw [show (h308 90 13) = h 90 13 by omega]; exact R331.2.2 w)⟩

abbrev P_Mo_readRule_90 (F : ov_H × ov_Z) (z : ov_Z) (h : ov_H) (n : Int) : Option ov_V → ov_Z → ov_H → Prop := fun r0 z' h' => r0 = none ∧ ov_N F z' h' ∧ ((h' 90 2) = (h 90 2) ∧ (h' 90 20) = (h 90 20) ∧ (h' 90 22) = (h 90 22) ∧ (h' 90 25) = (h 90 25) ∧ (h' 90 26) = (h 90 26) ∧ (h' 90 28) = (h 90 28) ∧ (h' 90 29) = (h 90 29) ∧ (h' 90 30) = (h 90 30) ∧ (h' 90 34) = (h 90 34) ∧ (h 90 7) ≤ (h' 90 7) ∧ (h' 90 7) ≤ n ∧ (h 90 13) ≤ (h' 90 13) ∧ (h' 90 13) - (h 90 13) ≤ (h' 90 7) - (h 90 7) ∧ (h' 96 340) = (h 96 340) ∧ (h' 96 341) = (h 96 341) ∧ ((h' 90 8) = 0 → 1 ≤ (h 96 342) → 1 ≤ (h' 96 342)) ∧ (1 ≤ (h 96 349) → 1 ≤ (h' 96 349))) ∧ h' 91 = h 91 ∧ h' 92 = h 92 ∧ h' 93 = h 93 ∧ h' 94 = h 94 ∧ h' 95 = h 95 ∧ h' 100 = h 100 ∧ h' 103 = h 103 ∧ h' 105 = h 105 ∧ h' 106 = h 106 ∧ h' 109 = h 109 ∧ h' 114 = h 114 ∧ (ov_MK (h 96) (h 97) (h 98) (h' 96) (h' 97) (h' 98)) ∧ (ov_WS (h 96) → ov_WS (h' 96)) ∧ ((h' 90 8) = 0 → ov_CS (h 96) (h 97) (h 98) (h 90 13) → ov_CS (h' 96) (h' 97) (h' 98) (h' 90 13))
set_option maxHeartbeats 4000000 in
theorem c_Mo_readRule_90 {u : ov_U} {F : ov_H × ov_Z} (n : Int) {z : ov_Z} {h : ov_H} (d : Nat) (hd : 50 ≤ d) (U : ov_cap u) (I : ov_N F z h) (p0 : 0 ≤ n ∧ n ≤ 1000 ∧ (h 92 (n)) = 0 ∧ (h 90 7) ≤ n) (p1 : (h 90 13) ≤ (h 90 7)) (p2 : (h 90 8) = 0) (p3 : (h 90 7) < n) : ov_T u d ov_m224 [ov_r 90] z h (P_Mo_readRule_90 F z h n) := by
  refine ov_en rfl (Nat.le_of_ble_eq_true rfl) ?_
  show ov_R u d ov_m224 0 [(0, ov_r 90)] [] z h (P_Mo_readRule_90 F z h n)
  refine ov_blk (ls2 := [(0, ov_r 90)]) (st2 := [ov_r 90]) (pc2 := 1) b_224_0_1 rfl rfl ?_
  refine ov_getf (v := ov_r 96) d_224_1 fl_Mo_81 (zb_90 I) (zs_90 I) (congrArg ov_r (rg_90_10 I)) ?_
  refine ov_blk (ls2 := [(0, ov_r 90)]) (st2 := [ov_i 348, ov_r 96]) (pc2 := 7) b_224_4_1 rfl rfl ?_
  refine ov_iald d_224_7 (zb_96 I) (zs_96 I) (by omega) ?_
  have g1 := t96_348 I
  refine ov_blk (ls2 := [(0, ov_r 90), (1, ov_i (h 96 348))]) (st2 := [ov_i 4, ov_i (h 96 348)]) (pc2 := 11) b_224_8_3 rfl rfl ?_
  refine ov_icne (tgt := 20) d_224_11 (by decide) (by omega) (by omega) (fun c2 => ?_) (fun c2 => ?_)
  · skip
    refine ov_blk (ls2 := [(0, ov_r 90), (1, ov_i (h 96 348))]) (st2 := [ov_r 90, ov_r 90]) (pc2 := 22) b_224_20_2 rfl rfl ?_
    refine ov_getf (v := ov_i (h 90 7)) d_224_22 fl_Mo_177 (zb_90 I) (zs_90 I) rfl ?_
    have g3 := rg_90_7 I
    refine ov_blk (ls2 := [(0, ov_r 90), (1, ov_i (h 96 348))]) (st2 := [ov_i ((h 90 7) + 1), ov_r 90]) (pc2 := 27) b_224_25_2 rfl rfl ?_
    refine ov_putf (x := ((h 90 7) + 1)) d_224_27 fl_Mo_177 (zb_90 I) (zs_90 I) rfl nk_0 rfl ?_
    have I4 := up_90_7 (x := ((h 90 7) + 1)) I (by omega)
    refine ov_blk (ls2 := [(0, ov_r 90), (1, ov_i (h 96 348)), (2, ov_i 0), (3, ov_i 0)]) (st2 := []) (pc2 := 34) b_224_30_4 rfl rfl ?_
    have L8 : ∀ (n5 : Nat) (x2 : Int) (x3 : Int) (q7 : (x2 = 0 ∨ x2 = 1) ∧ 0 ≤ x3 ∧ x3 ≤ 4), 4 - x3 < (n5 : Int) → ov_R u d ov_m224 34 [(0, ov_r 90), (1, ov_i (h 96 348)), (2, ov_i x2), (3, ov_i x3)] [] z (ov_up h 90 7 ((h 90 7) + 1)) (P_Mo_readRule_90 F z h n) := by
      intro n5
      induction n5 with
      | zero =>
        intro x2 x3 q7 hn9
        exact absurd hn9 (by omega)
      | succ n5 ih6 =>
        intro x2 x3 q7 hn9
        refine ov_blk (ls2 := [(0, ov_r 90), (1, ov_i (h 96 348)), (2, ov_i x2), (3, ov_i x3)]) (st2 := [ov_i (h 96 348), ov_i x3]) (pc2 := 36) b_224_34_2 rfl rfl ?_
        refine ov_icge (tgt := 81) d_224_36 (by decide) (by omega) (by omega) (fun c10 => ?_) (fun c10 => ?_)
        · skip
          refine ov_blk (ls2 := [(0, ov_r 90), (1, ov_i (h 96 348)), (2, ov_i x2), (3, ov_i x3)]) (st2 := [ov_r 90]) (pc2 := 82) b_224_81_1 rfl rfl ?_
          refine ov_cV (as := []) (st := []) (d2 := d - 1) d_224_82 lk_Mo_239 rfl (Nat.le_of_ble_eq_true rfl) (c := 1) (zb_90 I4) (zs_90 I4) ⟨by decide, rfl⟩ (by omega) (c_Mo_isName_90 n (d - 1) (by omega) U I4 (by show 0 ≤ n ∧ n ≤ 1000 ∧ (h 92 (n)) = 0 ∧ ((h 90 7) + 1) ≤ n; omega)) ?_
          rintro _ _ _ ⟨v12, rfl, rfl, rfl, f11⟩
          show ov_R u d ov_m224 85 [(0, ov_r 90), (1, ov_i (h 96 348)), (2, ov_i x2), (3, ov_i x3)] [ov_i v12] z (ov_up h 90 7 ((h 90 7) + 1)) (P_Mo_readRule_90 F z h n)
          have f13 : (v12 = 0 ∨ v12 = 1) ∧ (v12 = 1 → ((h 90 7) + 1) < n) := f11
          clear f11
          refine ov_ifne (tgt := 96) d_224_85 (by decide) (by omega) (fun c14 => ?_) (fun c14 => ?_)
          · skip
            have f13_ : v12 = 1 := by omega
            have f15 : ((h 90 7) + 1) < n := f13.2 (by omega)
            clear f13
            refine ov_blk (ls2 := [(0, ov_r 90), (1, ov_i (h 96 348)), (2, ov_i x2), (3, ov_i x3)]) (st2 := [ov_i x2]) (pc2 := 97) b_224_96_1 rfl rfl ?_
            refine ov_ifeq (tgt := 105) d_224_97 (by decide) (by omega) (fun c16 => ?_) (fun c16 => ?_)
            · skip
              refine ov_blk (ls2 := [(0, ov_r 90), (1, ov_i (h 96 348)), (2, ov_i x2), (3, ov_i x3)]) (st2 := [ov_r 90]) (pc2 := 106) b_224_105_1 rfl rfl ?_
              refine ov_getf (v := ov_i (h 90 8)) d_224_106 fl_Mo_180 (zb_90 I4) (zs_90 I4) rfl ?_
              have g17 := rg_90_8 I
              refine ov_ifle (tgt := 113) d_224_109 (by decide) (by omega) (fun c18 => ?_) (fun c18 => ?_)
              · skip
                refine ov_blk (ls2 := [(0, ov_r 90), (1, ov_i (h 96 348)), (2, ov_i x2), (3, ov_i x3)]) (st2 := [ov_r 90]) (pc2 := 114) b_224_113_1 rfl rfl ?_
                refine ov_getf (v := ov_r 99) d_224_114 fl_Mo_90 (zb_90 I4) (zs_90 I4) (congrArg ov_r (rg_90_14 I4)) ?_
                refine ov_blk (ls2 := [(0, ov_r 90), (1, ov_i (h 96 348)), (2, ov_i x2), (3, ov_i x3)]) (st2 := [ov_r 90, ov_i (h 96 348), ov_r 99]) (pc2 := 119) b_224_117_2 rfl rfl ?_
                refine ov_getf (v := ov_r 94) d_224_119 fl_Mo_30 (zb_90 I4) (zs_90 I4) (congrArg ov_r (rg_90_6 I4)) ?_
                refine ov_blk (ls2 := [(0, ov_r 90), (1, ov_i (h 96 348)), (2, ov_i x2), (3, ov_i x3)]) (st2 := [ov_r 90, ov_r 94, ov_i (h 96 348), ov_r 99]) (pc2 := 123) b_224_122_1 rfl rfl ?_
                refine ov_getf (v := ov_i ((h 90 7) + 1)) d_224_123 fl_Mo_177 (zb_90 I4) (zs_90 I4) rfl ?_
                refine ov_lald d_224_126 (zb_94 I4) (zs_94 I4) (by omega) ?_
                show ov_R u d ov_m224 127 [(0, ov_r 90), (1, ov_i (h 96 348)), (2, ov_i x2), (3, ov_i x3)] [ov_l (h 94 ((h 90 7) + 1)), ov_i (h 96 348), ov_r 99] z (ov_up h 90 7 ((h 90 7) + 1)) (P_Mo_readRule_90 F z h n)
                have g19 := ra_94 I ((h 90 7) + 1)
                refine ov_last d_224_127 (zb_99 I4) (zs_99 I4) (by omega) ?_
                have I20 := ua_99 (k := (h 96 348)) (x := (h 94 ((h 90 7) + 1))) I4
                refine ov_blk (ls2 := [(0, ov_r 90), (1, ov_i (h 96 348)), (2, ov_i x2), (3, ov_i x3)]) (st2 := [ov_r 90, ov_r 90]) (pc2 := 130) b_224_128_2 rfl rfl ?_
                refine ov_getf (v := ov_i ((h 90 7) + 1)) d_224_130 fl_Mo_177 (zb_90 I20) (zs_90 I20) rfl ?_
                refine ov_blk (ls2 := [(0, ov_r 90), (1, ov_i (h 96 348)), (2, ov_i x2), (3, ov_i x3)]) (st2 := [ov_i (((h 90 7) + 1) + 1), ov_r 90]) (pc2 := 135) b_224_133_2 rfl rfl ?_
                refine ov_putf (x := (((h 90 7) + 1) + 1)) d_224_135 fl_Mo_177 (zb_90 I20) (zs_90 I20) rfl nk_0 rfl ?_
                have I21 := up_90_7 (x := (((h 90 7) + 1) + 1)) I20 (by omega)
                refine ov_blk (ls2 := [(0, ov_r 90), (1, ov_i (h 96 348)), (2, ov_i x2), (3, ov_i x3)]) (st2 := [ov_r 90]) (pc2 := 139) b_224_138_1 rfl rfl ?_
                refine ov_getf (v := ov_r 96) d_224_139 fl_Mo_81 (zb_90 I21) (zs_90 I21) (congrArg ov_r (rg_90_10 I21)) ?_
                refine ov_blk (ls2 := [(0, ov_r 90), (1, ov_i (h 96 348)), (2, ov_i x2), (3, ov_i x3)]) (st2 := [ov_r 90, ov_i (620 + (h 96 348)), ov_r 96]) (pc2 := 148) b_224_142_4 rfl rfl ?_
                refine ov_getf (v := ov_i (h 90 13)) d_224_148 fl_Mo_208 (zb_90 I21) (zs_90 I21) rfl ?_
                have g22 := rg_90_13 I
                refine ov_iast d_224_151 (zb_96 I21) (zs_96 I21) (by omega) ?_
                have I23 := ua_96 (k := (620 + (h 96 348))) (x := (h 90 13)) I21 (by refine ⟨?_, ?_, ?_, ?_, ?_, ?_, ?_, ?_, ?_, ?_, ?_, ?_, ?_, ?_, ?_, ?_, ?_, ?_, ?_, ?_, ?_, ?_, ?_, ?_, ?_, ?_, ?_, ?_, ?_⟩ <;> omega)
                refine ov_blk (ls2 := [(0, ov_r 90), (1, ov_i (h 96 348)), (2, ov_i x2), (3, ov_i x3)]) (st2 := [ov_i 0, ov_r 90]) (pc2 := 154) b_224_152_2 rfl rfl ?_
                refine ov_cV (as := [ov_i 0]) (st := []) (d2 := d - 1) d_224_154 lk_Mo_243 rfl (Nat.le_of_ble_eq_true rfl) (c := 1) (zb_90 I23) (zs_90 I23) ⟨by decide, rfl⟩ (by omega) (c_Mo_all_90_all n 5 (d - 1) (by omega) U I23 0 (by omega) (by show 0 ≤ n ∧ n ≤ 1000 ∧ (h 92 (n)) = 0 ∧ (((h 90 7) + 1) + 1) ≤ n; omega) (by omega) (by show (h 90 13) ≤ (((h 90 7) + 1) + 1); omega)) ?_
                rintro _ z40 h41 ⟨rfl, I42, f24, e25, e26, e27, e28, e29, e30, e31, e32, e33, e34, e35, e36, e37, y38, y39⟩
                have E43 : h41 91 = h 91 := e25
                have E44 : h41 92 = h 92 := e26
                have E45 : h41 93 = h 93 := e27
                have E46 : h41 94 = h 94 := e28
                have E47 : h41 95 = h 95 := e29
                have E48 : h41 100 = h 100 := e32
                have E49 : h41 103 = h 103 := e33
                have E50 : h41 105 = h 105 := e34
                have E51 : h41 106 = h 106 := e35
                have E52 : h41 109 = h 109 := e36
                have E53 : h41 114 = h 114 := e37
                show ov_R u d ov_m224 157 [(0, ov_r 90), (1, ov_i (h 96 348)), (2, ov_i x2), (3, ov_i x3)] [] z40 h41 (P_Mo_readRule_90 F z h n)
                have f54 : (h41 90 2) = (h 90 2) ∧ (h41 90 20) = (h 90 20) ∧ (h41 90 22) = (h 90 22) ∧ (h41 90 25) = (h 90 25) ∧ (h41 90 26) = (h 90 26) ∧ (h41 90 28) = (h 90 28) ∧ (h41 90 29) = (h 90 29) ∧ (h41 90 30) = (h 90 30) ∧ (h41 90 34) = (h 90 34) ∧ (((h 90 7) + 1) + 1) ≤ (h41 90 7) ∧ (h41 90 7) ≤ n ∧ (h 90 8) ≤ (h41 90 8) ∧ (h 90 13) ≤ (h41 90 13) ∧ (h41 90 13) - (h 90 13) ≤ (h41 90 7) - (((h 90 7) + 1) + 1) := f24
                clear f24
                have y38_ : ∀ j : Int, j < 1100 + (h 90 13) → (h41 97) j = (h 97) j ∧ (h41 98) j = (h 98) j := y38
                have y39_ : (h41 90 8) = 0 → ov_sg (h41 97) (h41 98) (h 90 13) (h41 90 13) := y39
                refine ov_blk (ls2 := [(0, ov_r 90), (1, ov_i (h 96 348)), (2, ov_i x2), (3, ov_i x3)]) (st2 := [ov_i 0, ov_i 0, ov_r 90]) (pc2 := 160) b_224_157_3 rfl rfl ?_
                refine ov_cV (as := [ov_i 0, ov_i 0]) (st := []) (d2 := d - 1) d_224_160 lk_Mo_246 rfl (Nat.le_of_ble_eq_true rfl) (c := 1) (zb_90 I42) (zs_90 I42) ⟨by decide, rfl⟩ (by omega) (c_Mo_emit_90 (d - 1) (by omega) U I42 0 0 (by omega) (by omega) (by omega) (by show (h41 90 13) ≤ 999; omega)) ?_
                rintro _ z71 h72 ⟨rfl, I73, f55, e56, e57, e58, e59, e60, e61, e62, e63, e64, e65, e66, e67, e68, y69, y70⟩
                have E74 : h72 91 = h 91 := Eq.trans e56 E43
                have E75 : h72 92 = h 92 := Eq.trans e57 E44
                have E76 : h72 93 = h 93 := Eq.trans e58 E45
                have E77 : h72 94 = h 94 := Eq.trans e59 E46
                have E78 : h72 95 = h 95 := Eq.trans e60 E47
                have E79 : h72 96 = h41 96 := e61
                have E80 : h72 99 = h41 99 := e62
                have E81 : h72 100 = h 100 := Eq.trans e63 E48
                have E82 : h72 103 = h 103 := Eq.trans e64 E49
                have E83 : h72 105 = h 105 := Eq.trans e65 E50
                have E84 : h72 106 = h 106 := Eq.trans e66 E51
                have E85 : h72 109 = h 109 := Eq.trans e67 E52
                have E86 : h72 114 = h 114 := Eq.trans e68 E53
                show ov_R u d ov_m224 163 [(0, ov_r 90), (1, ov_i (h 96 348)), (2, ov_i x2), (3, ov_i x3)] [] z71 h72 (P_Mo_readRule_90 F z h n)
                have f87 : (h72 90 2) = (h41 90 2) ∧ (h72 90 7) = (h41 90 7) ∧ (h72 90 8) = (h41 90 8) ∧ (h72 90 20) = (h41 90 20) ∧ (h72 90 22) = (h41 90 22) ∧ (h72 90 25) = (h41 90 25) ∧ (h72 90 26) = (h41 90 26) ∧ (h72 90 28) = (h41 90 28) ∧ (h72 90 29) = (h41 90 29) ∧ (h72 90 30) = (h41 90 30) ∧ (h72 90 34) = (h41 90 34) ∧ (h72 90 13) = (h41 90 13) + 1 := f55
                clear f55
                have y69_ : (h72 97) = ov_rs (h41 97) (1100 + (h41 90 13)) (0 : Int) := y69
                have y70_ : (h72 98) = ov_rs (h41 98) (1100 + (h41 90 13)) (0 : Int) := y70
                have q1 : (ov_up (ov_up (ov_up (ov_up h 90 7 ((h 90 7) + 1)) 99 (h 96 348) (h 94 ((h 90 7) + 1))) 90 7 (((h 90 7) + 1) + 1)) 96 (620 + (h 96 348)) (h 90 13)) 96 = ov_rs (h 96) (620 + (h 96 348)) (h 90 13) := by rw [ov_up_row]; rfl
                have q3 : h41 96 = ov_rs (h 96) (620 + (h 96 348)) (h 90 13) := by rw [e30, q1]
                have q4 := t96_348 I
                have l340 : h41 96 340 = h 96 340 := by rw [q3, ov_rs_ne (by omega)]
                have l341 : h41 96 341 = h 96 341 := by rw [q3, ov_rs_ne (by omega)]
                have l342 : h41 96 342 = h 96 342 := by rw [q3, ov_rs_ne (by omega)]
                have l348 : h41 96 348 = h 96 348 := by rw [q3, ov_rs_ne (by omega)]
                have l349 : h41 96 349 = h 96 349 := by rw [q3, ov_rs_ne (by omega)]
                refine ov_blk (ls2 := [(0, ov_r 90), (1, ov_i (h 96 348)), (2, ov_i x2), (3, ov_i x3)]) (st2 := [ov_r 90]) (pc2 := 164) b_224_163_1 rfl rfl ?_
                refine ov_getf (v := ov_r 96) d_224_164 fl_Mo_81 (zb_90 I73) (zs_90 I73) (congrArg ov_r (rg_90_10 I73)) ?_
                refine ov_blk (ls2 := [(0, ov_r 90), (1, ov_i (h 96 348)), (2, ov_i x2), (3, ov_i x3)]) (st2 := [ov_i 348, ov_r 96, ov_i 348, ov_r 96]) (pc2 := 171) b_224_167_2 rfl rfl ?_
                refine ov_iald d_224_171 (zb_96 I73) (zs_96 I73) (by omega) ?_
                rw [show h72 96 = h41 96 from E79]
                have g88 := t96_348 I42
                refine ov_blk (ls2 := [(0, ov_r 90), (1, ov_i (h 96 348)), (2, ov_i x2), (3, ov_i x3)]) (st2 := [ov_i ((h41 96 348) + 1), ov_i 348, ov_r 96]) (pc2 := 174) b_224_172_2 rfl rfl ?_
                refine ov_iast d_224_174 (zb_96 I73) (zs_96 I73) (by omega) ?_
                have I89 := ua_96 (k := 348) (x := ((h41 96 348) + 1)) I73 (by refine ⟨?_, ?_, ?_, ?_, ?_, ?_, ?_, ?_, ?_, ?_, ?_, ?_, ?_, ?_, ?_, ?_, ?_, ?_, ?_, ?_, ?_, ?_, ?_, ?_, ?_, ?_, ?_, ?_, ?_⟩ <;> omega)
                have q2 : (ov_up h72 96 348 ((h41 96 348) + 1)) 96 = ov_rs (ov_rs (h 96) (620 + (h 96 348)) (h 90 13)) 348 ((h41 96 348) + 1) := by rw [ov_up_row, e61, e30, q1]
                have k1 : ∀ j : Int, j < 1100 + (h 90 13) → h41 97 j = h 97 j ∧ h41 98 j = h 98 j := fun j hj => y38_ j (by omega)
                have cf90 : h72 96 340 = h41 96 340 := congrFun E79 340
                have cf91 : h72 96 341 = h41 96 341 := congrFun E79 341
                have cf92 : h72 96 342 = h41 96 342 := congrFun E79 342
                have cf93 : h72 96 349 = h41 96 349 := congrFun E79 349
                exact ov_retv (st := []) d_224_175 rfl ⟨rfl, I89, (by show (h72 90 2) = (h 90 2) ∧ (h72 90 20) = (h 90 20) ∧ (h72 90 22) = (h 90 22) ∧ (h72 90 25) = (h 90 25) ∧ (h72 90 26) = (h 90 26) ∧ (h72 90 28) = (h 90 28) ∧ (h72 90 29) = (h 90 29) ∧ (h72 90 30) = (h 90 30) ∧ (h72 90 34) = (h 90 34) ∧ (h 90 7) ≤ (h72 90 7) ∧ (h72 90 7) ≤ n ∧ (h 90 13) ≤ (h72 90 13) ∧ (h72 90 13) - (h 90 13) ≤ (h72 90 7) - (h 90 7) ∧ (h72 96 340) = (h 96 340) ∧ (h72 96 341) = (h 96 341) ∧ ((h72 90 8) = 0 → 1 ≤ (h 96 342) → 1 ≤ (h72 96 342)) ∧ (1 ≤ (h 96 349) → 1 ≤ (h72 96 349)); omega), E74, E75, E76, E77, E78, E81, E82, E83, E84, E85, E86, (by show ov_MK (h 96) (h 97) (h 98) ((ov_up h72 96 348 ((h41 96 348) + 1)) 96) (h72 97) (h72 98); rw [q2]; exact ⟨(ov_MK_1 (k := 348) (ov_MK_1 (ov_MK_refl (h 96) (h 97) (h 98)) (by omega)) (by decide)).1, fun j hj => (ov_kpe k1 y69_ y70_ (by omega) j (by omega)).1, fun j hj => (ov_kpe k1 y69_ y70_ (by omega) j (by omega)).2⟩), (fun w => by show ov_WS ((ov_up h72 96 348 ((h41 96 348) + 1)) 96); rw [q2]; exact ov_WS_o (ov_WS_o w (by omega)) (by decide)), (fun e w => by have e0 : (h72 90 8) = 0 := e; have s2 := y39_ (by omega); rw [show (h 90 13) = h 90 13 by omega] at s2; show ov_CS ((ov_up h72 96 348 ((h41 96 348) + 1)) 96) (h72 97) (h72 98) (h72 90 13); rw [show (h72 90 13) = h41 90 13 + 1 by omega, q2]; exact ov_CS_r w (by omega) (by omega) (by rw [ov_rs_ne (by omega), show 620 + h 96 348 = 620 + (h 96 348) by omega, ov_rs_eq]) (fun r a b => by rw [ov_rs_ne (by omega), ov_rs_ne (by omega)]) (by rw [ov_rs_eq]; omega) k1 s2 y69_ y70_)⟩
              · skip
                have R94 : ov_RD (h 96) (h 97) (h 98) (h 90 13) ((ov_up h 90 7 ((h 90 7) + 1)) 96) ((ov_up h 90 7 ((h 90 7) + 1)) 97) ((ov_up h 90 7 ((h 90 7) + 1)) 98) (h 90 13) := by exact ov_RD_refl _ _ _ _
                exact ov_retv (st := []) d_224_112 rfl ⟨rfl, I4, ⟨rfl, rfl, rfl, rfl, rfl, rfl, rfl, rfl, rfl, (by show (h 90 7) ≤ ((h 90 7) + 1) ∧ ((h 90 7) + 1) ≤ n ∧ (h 90 13) ≤ (h 90 13) ∧ (h 90 13) - (h 90 13) ≤ ((h 90 7) + 1) - (h 90 7) ∧ (h 96 340) = (h 96 340) ∧ (h 96 341) = (h 96 341) ∧ ((h 90 8) = 0 → 1 ≤ (h 96 342) → 1 ≤ (h 96 342)) ∧ (1 ≤ (h 96 349) → 1 ≤ (h 96 349)); omega)⟩, rfl, rfl, rfl, rfl, rfl, rfl, rfl, rfl, rfl, rfl, rfl, R94.1, R94.2.1, (fun _ w => by show ov_CS ((ov_up h 90 7 ((h 90 7) + 1)) 96) ((ov_up h 90 7 ((h 90 7) + 1)) 97) ((ov_up h 90 7 ((h 90 7) + 1)) 98) (h 90 13); rw [show (h 90 13) = h 90 13 by omega]; exact R94.2.2 w)⟩
            · skip
              refine ov_blk (ls2 := [(0, ov_r 90), (1, ov_i (h 96 348)), (2, ov_i x2), (3, ov_i x3)]) (st2 := [ov_i 3, ov_r 90]) (pc2 := 102) b_224_100_2 rfl rfl ?_
              refine ov_cV (as := [ov_i 3]) (st := []) (d2 := d - 1) d_224_102 lk_Mo_186 rfl (Nat.le_of_ble_eq_true rfl) (c := 1) (zb_90 I4) (zs_90 I4) ⟨by decide, rfl⟩ (by omega) (c_Mo_wrong_90 (d - 1) (by omega) U I4 3 (by omega) (by omega)) ?_
              rintro _ z111 h112 ⟨rfl, I113, f95, e96, e97, e98, e99, e100, e101, e102, e103, e104, e105, e106, e107, e108, e109, e110⟩
              have E114 : h112 91 = h 91 := e96
              have E115 : h112 92 = h 92 := e97
              have E116 : h112 93 = h 93 := e98
              have E117 : h112 94 = h 94 := e99
              have E118 : h112 95 = h 95 := e100
              have E119 : h112 96 = h 96 := e101
              have E120 : h112 97 = h 97 := e102
              have E121 : h112 98 = h 98 := e103
              have E122 : h112 99 = h 99 := e104
              have E123 : h112 100 = h 100 := e105
              have E124 : h112 103 = h 103 := e106
              have E125 : h112 105 = h 105 := e107
              have E126 : h112 106 = h 106 := e108
              have E127 : h112 109 = h 109 := e109
              have E128 : h112 114 = h 114 := e110
              show ov_R u d ov_m224 105 [(0, ov_r 90), (1, ov_i (h 96 348)), (2, ov_i x2), (3, ov_i x3)] [] z111 h112 (P_Mo_readRule_90 F z h n)
              have f129 : (h112 90 2) = (h 90 2) ∧ (h112 90 7) = ((h 90 7) + 1) ∧ (h112 90 13) = (h 90 13) ∧ (h112 90 20) = (h 90 20) ∧ (h112 90 22) = (h 90 22) ∧ (h112 90 25) = (h 90 25) ∧ (h112 90 26) = (h 90 26) ∧ (h112 90 28) = (h 90 28) ∧ (h112 90 29) = (h 90 29) ∧ (h112 90 30) = (h 90 30) ∧ (h112 90 34) = (h 90 34) ∧ 0 < (h112 90 8) ∧ (h 90 8) ≤ (h112 90 8) := f95
              clear f95
              refine ov_blk (ls2 := [(0, ov_r 90), (1, ov_i (h 96 348)), (2, ov_i x2), (3, ov_i x3)]) (st2 := [ov_r 90]) (pc2 := 106) b_224_105_1 rfl rfl ?_
              refine ov_getf (v := ov_i (h112 90 8)) d_224_106 fl_Mo_180 (zb_90 I113) (zs_90 I113) rfl ?_
              have g130 := rg_90_8 I113
              refine ov_ifle (tgt := 113) d_224_109 (by decide) (by omega) (fun c131 => ?_) (fun c131 => ?_)
              · omega
              · skip
                have cf132 : h112 96 340 = h 96 340 := congrFun E119 340
                have cf133 : h112 96 341 = h 96 341 := congrFun E119 341
                have cf134 : h112 96 342 = h 96 342 := congrFun E119 342
                have cf135 : h112 96 349 = h 96 349 := congrFun E119 349
                have R136 : ov_RD (h 96) (h 97) (h 98) (h 90 13) (h112 96) (h112 97) (h112 98) (h 90 13) := by rw [show h112 96 = h 96 from E119, show h112 97 = h 97 from E120, show h112 98 = h 98 from E121]; exact ov_RD_refl _ _ _ _
                exact ov_retv (st := []) d_224_112 rfl ⟨rfl, I113, (by show (h112 90 2) = (h 90 2) ∧ (h112 90 20) = (h 90 20) ∧ (h112 90 22) = (h 90 22) ∧ (h112 90 25) = (h 90 25) ∧ (h112 90 26) = (h 90 26) ∧ (h112 90 28) = (h 90 28) ∧ (h112 90 29) = (h 90 29) ∧ (h112 90 30) = (h 90 30) ∧ (h112 90 34) = (h 90 34) ∧ (h 90 7) ≤ (h112 90 7) ∧ (h112 90 7) ≤ n ∧ (h 90 13) ≤ (h112 90 13) ∧ (h112 90 13) - (h 90 13) ≤ (h112 90 7) - (h 90 7) ∧ (h112 96 340) = (h 96 340) ∧ (h112 96 341) = (h 96 341) ∧ ((h112 90 8) = 0 → 1 ≤ (h 96 342) → 1 ≤ (h112 96 342)) ∧ (1 ≤ (h 96 349) → 1 ≤ (h112 96 349)); omega), E114, E115, E116, E117, E118, E123, E124, E125, E126, E127, E128, R136.1, R136.2.1, (fun _ w => by show ov_CS (h112 96) (h112 97) (h112 98) (h112 90 13); rw [show (h112 90 13) = h 90 13 by omega]; exact R136.2.2 w)⟩
          · skip
            have f13_ : v12 = 0 := by omega
            clear f13
            refine ov_blk (ls2 := [(0, ov_r 90), (1, ov_i (h 96 348)), (2, ov_i x2), (3, ov_i x3)]) (st2 := [ov_i 1, ov_r 90]) (pc2 := 90) b_224_88_2 rfl rfl ?_
            refine ov_cV (as := [ov_i 1]) (st := []) (d2 := d - 1) d_224_90 lk_Mo_186 rfl (Nat.le_of_ble_eq_true rfl) (c := 1) (zb_90 I4) (zs_90 I4) ⟨by decide, rfl⟩ (by omega) (c_Mo_wrong_90 (d - 1) (by omega) U I4 1 (by omega) (by omega)) ?_
            rintro _ z153 h154 ⟨rfl, I155, f137, e138, e139, e140, e141, e142, e143, e144, e145, e146, e147, e148, e149, e150, e151, e152⟩
            have E156 : h154 91 = h 91 := e138
            have E157 : h154 92 = h 92 := e139
            have E158 : h154 93 = h 93 := e140
            have E159 : h154 94 = h 94 := e141
            have E160 : h154 95 = h 95 := e142
            have E161 : h154 96 = h 96 := e143
            have E162 : h154 97 = h 97 := e144
            have E163 : h154 98 = h 98 := e145
            have E164 : h154 99 = h 99 := e146
            have E165 : h154 100 = h 100 := e147
            have E166 : h154 103 = h 103 := e148
            have E167 : h154 105 = h 105 := e149
            have E168 : h154 106 = h 106 := e150
            have E169 : h154 109 = h 109 := e151
            have E170 : h154 114 = h 114 := e152
            show ov_R u d ov_m224 93 [(0, ov_r 90), (1, ov_i (h 96 348)), (2, ov_i x2), (3, ov_i x3)] [] z153 h154 (P_Mo_readRule_90 F z h n)
            have f171 : (h154 90 2) = (h 90 2) ∧ (h154 90 7) = ((h 90 7) + 1) ∧ (h154 90 13) = (h 90 13) ∧ (h154 90 20) = (h 90 20) ∧ (h154 90 22) = (h 90 22) ∧ (h154 90 25) = (h 90 25) ∧ (h154 90 26) = (h 90 26) ∧ (h154 90 28) = (h 90 28) ∧ (h154 90 29) = (h 90 29) ∧ (h154 90 30) = (h 90 30) ∧ (h154 90 34) = (h 90 34) ∧ 0 < (h154 90 8) ∧ (h 90 8) ≤ (h154 90 8) := f137
            clear f137
            refine ov_goto (tgt := 105) d_224_93 (by decide) ?_
            refine ov_blk (ls2 := [(0, ov_r 90), (1, ov_i (h 96 348)), (2, ov_i x2), (3, ov_i x3)]) (st2 := [ov_r 90]) (pc2 := 106) b_224_105_1 rfl rfl ?_
            refine ov_getf (v := ov_i (h154 90 8)) d_224_106 fl_Mo_180 (zb_90 I155) (zs_90 I155) rfl ?_
            have g172 := rg_90_8 I155
            refine ov_ifle (tgt := 113) d_224_109 (by decide) (by omega) (fun c173 => ?_) (fun c173 => ?_)
            · omega
            · skip
              have cf174 : h154 96 340 = h 96 340 := congrFun E161 340
              have cf175 : h154 96 341 = h 96 341 := congrFun E161 341
              have cf176 : h154 96 342 = h 96 342 := congrFun E161 342
              have cf177 : h154 96 349 = h 96 349 := congrFun E161 349
              have R178 : ov_RD (h 96) (h 97) (h 98) (h 90 13) (h154 96) (h154 97) (h154 98) (h 90 13) := by rw [show h154 96 = h 96 from E161, show h154 97 = h 97 from E162, show h154 98 = h 98 from E163]; exact ov_RD_refl _ _ _ _
              exact ov_retv (st := []) d_224_112 rfl ⟨rfl, I155, (by show (h154 90 2) = (h 90 2) ∧ (h154 90 20) = (h 90 20) ∧ (h154 90 22) = (h 90 22) ∧ (h154 90 25) = (h 90 25) ∧ (h154 90 26) = (h 90 26) ∧ (h154 90 28) = (h 90 28) ∧ (h154 90 29) = (h 90 29) ∧ (h154 90 30) = (h 90 30) ∧ (h154 90 34) = (h 90 34) ∧ (h 90 7) ≤ (h154 90 7) ∧ (h154 90 7) ≤ n ∧ (h 90 13) ≤ (h154 90 13) ∧ (h154 90 13) - (h 90 13) ≤ (h154 90 7) - (h 90 7) ∧ (h154 96 340) = (h 96 340) ∧ (h154 96 341) = (h 96 341) ∧ ((h154 90 8) = 0 → 1 ≤ (h 96 342) → 1 ≤ (h154 96 342)) ∧ (1 ≤ (h 96 349) → 1 ≤ (h154 96 349)); omega), E156, E157, E158, E159, E160, E165, E166, E167, E168, E169, E170, R178.1, R178.2.1, (fun _ w => by show ov_CS (h154 96) (h154 97) (h154 98) (h154 90 13); rw [show (h154 90 13) = h 90 13 by omega]; exact R178.2.2 w)⟩
        · skip
          refine ov_blk (ls2 := [(0, ov_r 90), (1, ov_i (h 96 348)), (2, ov_i x2), (3, ov_i x3)]) (st2 := [ov_r 90]) (pc2 := 40) b_224_39_1 rfl rfl ?_
          refine ov_getf (v := ov_i (h 90 8)) d_224_40 fl_Mo_180 (zb_90 I4) (zs_90 I4) rfl ?_
          have g179 := rg_90_8 I
          refine ov_ifne (tgt := 81) d_224_43 (by decide) (by omega) (fun c180 => ?_) (fun c180 => ?_)
          · skip
            refine ov_blk (ls2 := [(0, ov_r 90), (1, ov_i (h 96 348)), (2, ov_i x2), (3, ov_i x3)]) (st2 := [ov_r 90]) (pc2 := 82) b_224_81_1 rfl rfl ?_
            refine ov_cV (as := []) (st := []) (d2 := d - 1) d_224_82 lk_Mo_239 rfl (Nat.le_of_ble_eq_true rfl) (c := 1) (zb_90 I4) (zs_90 I4) ⟨by decide, rfl⟩ (by omega) (c_Mo_isName_90 n (d - 1) (by omega) U I4 (by show 0 ≤ n ∧ n ≤ 1000 ∧ (h 92 (n)) = 0 ∧ ((h 90 7) + 1) ≤ n; omega)) ?_
            rintro _ _ _ ⟨v182, rfl, rfl, rfl, f181⟩
            show ov_R u d ov_m224 85 [(0, ov_r 90), (1, ov_i (h 96 348)), (2, ov_i x2), (3, ov_i x3)] [ov_i v182] z (ov_up h 90 7 ((h 90 7) + 1)) (P_Mo_readRule_90 F z h n)
            have f183 : (v182 = 0 ∨ v182 = 1) ∧ (v182 = 1 → ((h 90 7) + 1) < n) := f181
            clear f181
            refine ov_ifne (tgt := 96) d_224_85 (by decide) (by omega) (fun c184 => ?_) (fun c184 => ?_)
            · skip
              have f183_ : v182 = 1 := by omega
              have f185 : ((h 90 7) + 1) < n := f183.2 (by omega)
              clear f183
              refine ov_blk (ls2 := [(0, ov_r 90), (1, ov_i (h 96 348)), (2, ov_i x2), (3, ov_i x3)]) (st2 := [ov_i x2]) (pc2 := 97) b_224_96_1 rfl rfl ?_
              refine ov_ifeq (tgt := 105) d_224_97 (by decide) (by omega) (fun c186 => ?_) (fun c186 => ?_)
              · skip
                refine ov_blk (ls2 := [(0, ov_r 90), (1, ov_i (h 96 348)), (2, ov_i x2), (3, ov_i x3)]) (st2 := [ov_r 90]) (pc2 := 106) b_224_105_1 rfl rfl ?_
                refine ov_getf (v := ov_i (h 90 8)) d_224_106 fl_Mo_180 (zb_90 I4) (zs_90 I4) rfl ?_
                refine ov_ifle (tgt := 113) d_224_109 (by decide) (by omega) (fun c188 => ?_) (fun c188 => ?_)
                · omega
                · skip
                  have R189 : ov_RD (h 96) (h 97) (h 98) (h 90 13) ((ov_up h 90 7 ((h 90 7) + 1)) 96) ((ov_up h 90 7 ((h 90 7) + 1)) 97) ((ov_up h 90 7 ((h 90 7) + 1)) 98) (h 90 13) := by exact ov_RD_refl _ _ _ _
                  exact ov_retv (st := []) d_224_112 rfl ⟨rfl, I4, ⟨rfl, rfl, rfl, rfl, rfl, rfl, rfl, rfl, rfl, (by show (h 90 7) ≤ ((h 90 7) + 1) ∧ ((h 90 7) + 1) ≤ n ∧ (h 90 13) ≤ (h 90 13) ∧ (h 90 13) - (h 90 13) ≤ ((h 90 7) + 1) - (h 90 7) ∧ (h 96 340) = (h 96 340) ∧ (h 96 341) = (h 96 341) ∧ ((h 90 8) = 0 → 1 ≤ (h 96 342) → 1 ≤ (h 96 342)) ∧ (1 ≤ (h 96 349) → 1 ≤ (h 96 349)); omega)⟩, rfl, rfl, rfl, rfl, rfl, rfl, rfl, rfl, rfl, rfl, rfl, R189.1, R189.2.1, (fun _ w => by show ov_CS ((ov_up h 90 7 ((h 90 7) + 1)) 96) ((ov_up h 90 7 ((h 90 7) + 1)) 97) ((ov_up h 90 7 ((h 90 7) + 1)) 98) (h 90 13); rw [show (h 90 13) = h 90 13 by omega]; exact R189.2.2 w)⟩
              · skip
                refine ov_blk (ls2 := [(0, ov_r 90), (1, ov_i (h 96 348)), (2, ov_i x2), (3, ov_i x3)]) (st2 := [ov_i 3, ov_r 90]) (pc2 := 102) b_224_100_2 rfl rfl ?_
                refine ov_cV (as := [ov_i 3]) (st := []) (d2 := d - 1) d_224_102 lk_Mo_186 rfl (Nat.le_of_ble_eq_true rfl) (c := 1) (zb_90 I4) (zs_90 I4) ⟨by decide, rfl⟩ (by omega) (c_Mo_wrong_90 (d - 1) (by omega) U I4 3 (by omega) (by omega)) ?_
                rintro _ z206 h207 ⟨rfl, I208, f190, e191, e192, e193, e194, e195, e196, e197, e198, e199, e200, e201, e202, e203, e204, e205⟩
                have E209 : h207 91 = h 91 := e191
                have E210 : h207 92 = h 92 := e192
                have E211 : h207 93 = h 93 := e193
                have E212 : h207 94 = h 94 := e194
                have E213 : h207 95 = h 95 := e195
                have E214 : h207 96 = h 96 := e196
                have E215 : h207 97 = h 97 := e197
                have E216 : h207 98 = h 98 := e198
                have E217 : h207 99 = h 99 := e199
                have E218 : h207 100 = h 100 := e200
                have E219 : h207 103 = h 103 := e201
                have E220 : h207 105 = h 105 := e202
                have E221 : h207 106 = h 106 := e203
                have E222 : h207 109 = h 109 := e204
                have E223 : h207 114 = h 114 := e205
                show ov_R u d ov_m224 105 [(0, ov_r 90), (1, ov_i (h 96 348)), (2, ov_i x2), (3, ov_i x3)] [] z206 h207 (P_Mo_readRule_90 F z h n)
                have f224 : (h207 90 2) = (h 90 2) ∧ (h207 90 7) = ((h 90 7) + 1) ∧ (h207 90 13) = (h 90 13) ∧ (h207 90 20) = (h 90 20) ∧ (h207 90 22) = (h 90 22) ∧ (h207 90 25) = (h 90 25) ∧ (h207 90 26) = (h 90 26) ∧ (h207 90 28) = (h 90 28) ∧ (h207 90 29) = (h 90 29) ∧ (h207 90 30) = (h 90 30) ∧ (h207 90 34) = (h 90 34) ∧ 0 < (h207 90 8) ∧ (h 90 8) ≤ (h207 90 8) := f190
                clear f190
                refine ov_blk (ls2 := [(0, ov_r 90), (1, ov_i (h 96 348)), (2, ov_i x2), (3, ov_i x3)]) (st2 := [ov_r 90]) (pc2 := 106) b_224_105_1 rfl rfl ?_
                refine ov_getf (v := ov_i (h207 90 8)) d_224_106 fl_Mo_180 (zb_90 I208) (zs_90 I208) rfl ?_
                have g225 := rg_90_8 I208
                refine ov_ifle (tgt := 113) d_224_109 (by decide) (by omega) (fun c226 => ?_) (fun c226 => ?_)
                · omega
                · skip
                  have cf227 : h207 96 340 = h 96 340 := congrFun E214 340
                  have cf228 : h207 96 341 = h 96 341 := congrFun E214 341
                  have cf229 : h207 96 342 = h 96 342 := congrFun E214 342
                  have cf230 : h207 96 349 = h 96 349 := congrFun E214 349
                  have R231 : ov_RD (h 96) (h 97) (h 98) (h 90 13) (h207 96) (h207 97) (h207 98) (h 90 13) := by rw [show h207 96 = h 96 from E214, show h207 97 = h 97 from E215, show h207 98 = h 98 from E216]; exact ov_RD_refl _ _ _ _
                  exact ov_retv (st := []) d_224_112 rfl ⟨rfl, I208, (by show (h207 90 2) = (h 90 2) ∧ (h207 90 20) = (h 90 20) ∧ (h207 90 22) = (h 90 22) ∧ (h207 90 25) = (h 90 25) ∧ (h207 90 26) = (h 90 26) ∧ (h207 90 28) = (h 90 28) ∧ (h207 90 29) = (h 90 29) ∧ (h207 90 30) = (h 90 30) ∧ (h207 90 34) = (h 90 34) ∧ (h 90 7) ≤ (h207 90 7) ∧ (h207 90 7) ≤ n ∧ (h 90 13) ≤ (h207 90 13) ∧ (h207 90 13) - (h 90 13) ≤ (h207 90 7) - (h 90 7) ∧ (h207 96 340) = (h 96 340) ∧ (h207 96 341) = (h 96 341) ∧ ((h207 90 8) = 0 → 1 ≤ (h 96 342) → 1 ≤ (h207 96 342)) ∧ (1 ≤ (h 96 349) → 1 ≤ (h207 96 349)); omega), E209, E210, E211, E212, E213, E218, E219, E220, E221, E222, E223, R231.1, R231.2.1, (fun _ w => by show ov_CS (h207 96) (h207 97) (h207 98) (h207 90 13); rw [show (h207 90 13) = h 90 13 by omega]; exact R231.2.2 w)⟩
            · skip
              have f183_ : v182 = 0 := by omega
              clear f183
              refine ov_blk (ls2 := [(0, ov_r 90), (1, ov_i (h 96 348)), (2, ov_i x2), (3, ov_i x3)]) (st2 := [ov_i 1, ov_r 90]) (pc2 := 90) b_224_88_2 rfl rfl ?_
              refine ov_cV (as := [ov_i 1]) (st := []) (d2 := d - 1) d_224_90 lk_Mo_186 rfl (Nat.le_of_ble_eq_true rfl) (c := 1) (zb_90 I4) (zs_90 I4) ⟨by decide, rfl⟩ (by omega) (c_Mo_wrong_90 (d - 1) (by omega) U I4 1 (by omega) (by omega)) ?_
              rintro _ z248 h249 ⟨rfl, I250, f232, e233, e234, e235, e236, e237, e238, e239, e240, e241, e242, e243, e244, e245, e246, e247⟩
              have E251 : h249 91 = h 91 := e233
              have E252 : h249 92 = h 92 := e234
              have E253 : h249 93 = h 93 := e235
              have E254 : h249 94 = h 94 := e236
              have E255 : h249 95 = h 95 := e237
              have E256 : h249 96 = h 96 := e238
              have E257 : h249 97 = h 97 := e239
              have E258 : h249 98 = h 98 := e240
              have E259 : h249 99 = h 99 := e241
              have E260 : h249 100 = h 100 := e242
              have E261 : h249 103 = h 103 := e243
              have E262 : h249 105 = h 105 := e244
              have E263 : h249 106 = h 106 := e245
              have E264 : h249 109 = h 109 := e246
              have E265 : h249 114 = h 114 := e247
              show ov_R u d ov_m224 93 [(0, ov_r 90), (1, ov_i (h 96 348)), (2, ov_i x2), (3, ov_i x3)] [] z248 h249 (P_Mo_readRule_90 F z h n)
              have f266 : (h249 90 2) = (h 90 2) ∧ (h249 90 7) = ((h 90 7) + 1) ∧ (h249 90 13) = (h 90 13) ∧ (h249 90 20) = (h 90 20) ∧ (h249 90 22) = (h 90 22) ∧ (h249 90 25) = (h 90 25) ∧ (h249 90 26) = (h 90 26) ∧ (h249 90 28) = (h 90 28) ∧ (h249 90 29) = (h 90 29) ∧ (h249 90 30) = (h 90 30) ∧ (h249 90 34) = (h 90 34) ∧ 0 < (h249 90 8) ∧ (h 90 8) ≤ (h249 90 8) := f232
              clear f232
              refine ov_goto (tgt := 105) d_224_93 (by decide) ?_
              refine ov_blk (ls2 := [(0, ov_r 90), (1, ov_i (h 96 348)), (2, ov_i x2), (3, ov_i x3)]) (st2 := [ov_r 90]) (pc2 := 106) b_224_105_1 rfl rfl ?_
              refine ov_getf (v := ov_i (h249 90 8)) d_224_106 fl_Mo_180 (zb_90 I250) (zs_90 I250) rfl ?_
              have g267 := rg_90_8 I250
              refine ov_ifle (tgt := 113) d_224_109 (by decide) (by omega) (fun c268 => ?_) (fun c268 => ?_)
              · omega
              · skip
                have cf269 : h249 96 340 = h 96 340 := congrFun E256 340
                have cf270 : h249 96 341 = h 96 341 := congrFun E256 341
                have cf271 : h249 96 342 = h 96 342 := congrFun E256 342
                have cf272 : h249 96 349 = h 96 349 := congrFun E256 349
                have R273 : ov_RD (h 96) (h 97) (h 98) (h 90 13) (h249 96) (h249 97) (h249 98) (h 90 13) := by rw [show h249 96 = h 96 from E256, show h249 97 = h 97 from E257, show h249 98 = h 98 from E258]; exact ov_RD_refl _ _ _ _
                exact ov_retv (st := []) d_224_112 rfl ⟨rfl, I250, (by show (h249 90 2) = (h 90 2) ∧ (h249 90 20) = (h 90 20) ∧ (h249 90 22) = (h 90 22) ∧ (h249 90 25) = (h 90 25) ∧ (h249 90 26) = (h 90 26) ∧ (h249 90 28) = (h 90 28) ∧ (h249 90 29) = (h 90 29) ∧ (h249 90 30) = (h 90 30) ∧ (h249 90 34) = (h 90 34) ∧ (h 90 7) ≤ (h249 90 7) ∧ (h249 90 7) ≤ n ∧ (h 90 13) ≤ (h249 90 13) ∧ (h249 90 13) - (h 90 13) ≤ (h249 90 7) - (h 90 7) ∧ (h249 96 340) = (h 96 340) ∧ (h249 96 341) = (h 96 341) ∧ ((h249 90 8) = 0 → 1 ≤ (h 96 342) → 1 ≤ (h249 96 342)) ∧ (1 ≤ (h 96 349) → 1 ≤ (h249 96 349)); omega), E251, E252, E253, E254, E255, E260, E261, E262, E263, E264, E265, R273.1, R273.2.1, (fun _ w => by show ov_CS (h249 96) (h249 97) (h249 98) (h249 90 13); rw [show (h249 90 13) = h 90 13 by omega]; exact R273.2.2 w)⟩
          · skip
            refine ov_blk (ls2 := [(0, ov_r 90), (1, ov_i (h 96 348)), (2, ov_i x2), (3, ov_i x3)]) (st2 := [ov_i x2]) (pc2 := 47) b_224_46_1 rfl rfl ?_
            refine ov_ifne (tgt := 69) d_224_47 (by decide) (by omega) (fun c274 => ?_) (fun c274 => ?_)
            · skip
              refine ov_blk (ls2 := [(0, ov_r 90), (1, ov_i (h 96 348)), (2, ov_i x2), (3, ov_i x3)]) (st2 := [ov_i 1]) (pc2 := 70) b_224_69_1 rfl rfl ?_
              refine ov_goto (tgt := 74) d_224_70 (by decide) ?_
              refine ov_blk (ls2 := [(0, ov_r 90), (1, ov_i (h 96 348)), (2, ov_i 1), (3, ov_i (x3 + 1))]) (st2 := []) (pc2 := 78) b_224_74_2 rfl rfl ?_
              refine ov_goto (tgt := 34) d_224_78 (by decide) ?_
              exact ih6 1 (x3 + 1) (by show (1 = 0 ∨ 1 = 1) ∧ 0 ≤ (x3 + 1) ∧ (x3 + 1) ≤ 4; omega) (by omega)
            · skip
              refine ov_blk (ls2 := [(0, ov_r 90), (1, ov_i (h 96 348)), (2, ov_i x2), (3, ov_i x3)]) (st2 := [ov_r 90]) (pc2 := 51) b_224_50_1 rfl rfl ?_
              refine ov_getf (v := ov_r 99) d_224_51 fl_Mo_90 (zb_90 I4) (zs_90 I4) (congrArg ov_r (rg_90_14 I4)) ?_
              refine ov_blk (ls2 := [(0, ov_r 90), (1, ov_i (h 96 348)), (2, ov_i x2), (3, ov_i x3)]) (st2 := [ov_i x3, ov_r 99]) (pc2 := 55) b_224_54_1 rfl rfl ?_
              refine ov_lald d_224_55 (zb_99 I4) (zs_99 I4) (by omega) ?_
              show ov_R u d ov_m224 56 [(0, ov_r 90), (1, ov_i (h 96 348)), (2, ov_i x2), (3, ov_i x3)] [ov_l (h 99 x3)] z (ov_up h 90 7 ((h 90 7) + 1)) (P_Mo_readRule_90 F z h n)
              refine ov_blk (ls2 := [(0, ov_r 90), (1, ov_i (h 96 348)), (2, ov_i x2), (3, ov_i x3)]) (st2 := [ov_r 90, ov_l (h 99 x3)]) (pc2 := 57) b_224_56_1 rfl rfl ?_
              refine ov_getf (v := ov_r 94) d_224_57 fl_Mo_30 (zb_90 I4) (zs_90 I4) (congrArg ov_r (rg_90_6 I4)) ?_
              refine ov_blk (ls2 := [(0, ov_r 90), (1, ov_i (h 96 348)), (2, ov_i x2), (3, ov_i x3)]) (st2 := [ov_r 90, ov_r 94, ov_l (h 99 x3)]) (pc2 := 61) b_224_60_1 rfl rfl ?_
              refine ov_getf (v := ov_i ((h 90 7) + 1)) d_224_61 fl_Mo_177 (zb_90 I4) (zs_90 I4) rfl ?_
              refine ov_lald d_224_64 (zb_94 I4) (zs_94 I4) (by omega) ?_
              show ov_R u d ov_m224 65 [(0, ov_r 90), (1, ov_i (h 96 348)), (2, ov_i x2), (3, ov_i x3)] [ov_l (h 94 ((h 90 7) + 1)), ov_l (h 99 x3)] z (ov_up h 90 7 ((h 90 7) + 1)) (P_Mo_readRule_90 F z h n)
              have g275 := ra_94 I ((h 90 7) + 1)
              refine ov_blk (ls2 := [(0, ov_r 90), (1, ov_i (h 96 348)), (2, ov_i x2), (3, ov_i x3)]) (st2 := [ov_i (ov_lcmp (h 99 x3) (h 94 ((h 90 7) + 1)))]) (pc2 := 66) b_224_65_1 rfl rfl ?_
              have g276 := ov_lcg (h 99 x3) (h 94 ((h 90 7) + 1))
              refine ov_ifne (tgt := 73) d_224_66 (by decide) (by omega) (fun c277 => ?_) (fun c277 => ?_)
              · skip
                refine ov_blk (ls2 := [(0, ov_r 90), (1, ov_i (h 96 348)), (2, ov_i 0), (3, ov_i (x3 + 1))]) (st2 := []) (pc2 := 78) b_224_73_3 rfl rfl ?_
                refine ov_goto (tgt := 34) d_224_78 (by decide) ?_
                exact ih6 0 (x3 + 1) (by show (0 = 0 ∨ 0 = 1) ∧ 0 ≤ (x3 + 1) ∧ (x3 + 1) ≤ 4; omega) (by omega)
              · skip
                refine ov_blk (ls2 := [(0, ov_r 90), (1, ov_i (h 96 348)), (2, ov_i x2), (3, ov_i x3)]) (st2 := [ov_i 1]) (pc2 := 70) b_224_69_1 rfl rfl ?_
                refine ov_goto (tgt := 74) d_224_70 (by decide) ?_
                refine ov_blk (ls2 := [(0, ov_r 90), (1, ov_i (h 96 348)), (2, ov_i 1), (3, ov_i (x3 + 1))]) (st2 := []) (pc2 := 78) b_224_74_2 rfl rfl ?_
                refine ov_goto (tgt := 34) d_224_78 (by decide) ?_
                exact ih6 1 (x3 + 1) (by show (1 = 0 ∨ 1 = 1) ∧ 0 ≤ (x3 + 1) ∧ (x3 + 1) ≤ 4; omega) (by omega)
    exact L8 5 0 0 (by show (0 = 0 ∨ 0 = 1) ∧ 0 ≤ 0 ∧ 0 ≤ 4; omega) (by omega)
  · skip
    refine ov_blk (ls2 := [(0, ov_r 90), (1, ov_i (h 96 348))]) (st2 := [ov_i 5, ov_r 90]) (pc2 := 16) b_224_14_2 rfl rfl ?_
    refine ov_cV (as := [ov_i 5]) (st := []) (d2 := d - 1) d_224_16 lk_Mo_186 rfl (Nat.le_of_ble_eq_true rfl) (c := 1) (zb_90 I) (zs_90 I) ⟨by decide, rfl⟩ (by omega) (c_Mo_wrong_90 (d - 1) (by omega) U I 5 (by omega) (by omega)) ?_
    rintro _ z294 h295 ⟨rfl, I296, f278, e279, e280, e281, e282, e283, e284, e285, e286, e287, e288, e289, e290, e291, e292, e293⟩
    have E297 : h295 91 = h 91 := e279
    have E298 : h295 92 = h 92 := e280
    have E299 : h295 93 = h 93 := e281
    have E300 : h295 94 = h 94 := e282
    have E301 : h295 95 = h 95 := e283
    have E302 : h295 96 = h 96 := e284
    have E303 : h295 97 = h 97 := e285
    have E304 : h295 98 = h 98 := e286
    have E305 : h295 99 = h 99 := e287
    have E306 : h295 100 = h 100 := e288
    have E307 : h295 103 = h 103 := e289
    have E308 : h295 105 = h 105 := e290
    have E309 : h295 106 = h 106 := e291
    have E310 : h295 109 = h 109 := e292
    have E311 : h295 114 = h 114 := e293
    show ov_R u d ov_m224 19 [(0, ov_r 90), (1, ov_i (h 96 348))] [] z294 h295 (P_Mo_readRule_90 F z h n)
    have f312 : (h295 90 2) = (h 90 2) ∧ (h295 90 7) = (h 90 7) ∧ (h295 90 13) = (h 90 13) ∧ (h295 90 20) = (h 90 20) ∧ (h295 90 22) = (h 90 22) ∧ (h295 90 25) = (h 90 25) ∧ (h295 90 26) = (h 90 26) ∧ (h295 90 28) = (h 90 28) ∧ (h295 90 29) = (h 90 29) ∧ (h295 90 30) = (h 90 30) ∧ (h295 90 34) = (h 90 34) ∧ 0 < (h295 90 8) ∧ (h 90 8) ≤ (h295 90 8) := f278
    clear f278
    have cf313 : h295 96 340 = h 96 340 := congrFun E302 340
    have cf314 : h295 96 341 = h 96 341 := congrFun E302 341
    have cf315 : h295 96 342 = h 96 342 := congrFun E302 342
    have cf316 : h295 96 349 = h 96 349 := congrFun E302 349
    have R317 : ov_RD (h 96) (h 97) (h 98) (h 90 13) (h295 96) (h295 97) (h295 98) (h 90 13) := by rw [show h295 96 = h 96 from E302, show h295 97 = h 97 from E303, show h295 98 = h 98 from E304]; exact ov_RD_refl _ _ _ _
    exact ov_retv (st := []) d_224_19 rfl ⟨rfl, I296, (by show (h295 90 2) = (h 90 2) ∧ (h295 90 20) = (h 90 20) ∧ (h295 90 22) = (h 90 22) ∧ (h295 90 25) = (h 90 25) ∧ (h295 90 26) = (h 90 26) ∧ (h295 90 28) = (h 90 28) ∧ (h295 90 29) = (h 90 29) ∧ (h295 90 30) = (h 90 30) ∧ (h295 90 34) = (h 90 34) ∧ (h 90 7) ≤ (h295 90 7) ∧ (h295 90 7) ≤ n ∧ (h 90 13) ≤ (h295 90 13) ∧ (h295 90 13) - (h 90 13) ≤ (h295 90 7) - (h 90 7) ∧ (h295 96 340) = (h 96 340) ∧ (h295 96 341) = (h 96 341) ∧ ((h295 90 8) = 0 → 1 ≤ (h 96 342) → 1 ≤ (h295 96 342)) ∧ (1 ≤ (h 96 349) → 1 ≤ (h295 96 349)); omega), E297, E298, E299, E300, E301, E306, E307, E308, E309, E310, E311, R317.1, R317.2.1, (fun _ w => by show ov_CS (h295 96) (h295 97) (h295 98) (h295 90 13); rw [show (h295 90 13) = h 90 13 by omega]; exact R317.2.2 w)⟩

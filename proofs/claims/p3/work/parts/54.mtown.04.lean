abbrev P_Mo_readRule_90 (F : ov_H × ov_Z) (z : ov_Z) (h : ov_H) (n : Int) : Option ov_V → ov_Z → ov_H → Prop := fun r0 z' h' => r0 = none ∧ ov_N F z' h' ∧ ((h' 90 2) = (h 90 2) ∧ (h' 90 20) = (h 90 20) ∧ (h' 90 22) = (h 90 22) ∧ (h' 90 25) = (h 90 25) ∧ (h' 90 26) = (h 90 26) ∧ (h' 90 28) = (h 90 28) ∧ (h' 90 29) = (h 90 29) ∧ (h' 90 30) = (h 90 30) ∧ (h' 90 34) = (h 90 34) ∧ (h 90 7) ≤ (h' 90 7) ∧ (h' 90 7) ≤ n ∧ (h 90 13) ≤ (h' 90 13) ∧ (h' 90 13) - (h 90 13) ≤ (h' 90 7) - (h 90 7) ∧ (h' 96 340) = (h 96 340) ∧ (h' 96 341) = (h 96 341) ∧ ((h' 90 8) = 0 → 1 ≤ (h 96 342) → 1 ≤ (h' 96 342)) ∧ (1 ≤ (h 96 349) → 1 ≤ (h' 96 349))) ∧ h' 92 = h 92 ∧ h' 93 = h 93 ∧ h' 94 = h 94 ∧ h' 95 = h 95 ∧ h' 100 = h 100 ∧ h' 103 = h 103 ∧ h' 105 = h 105 ∧ h' 106 = h 106 ∧ h' 109 = h 109 ∧ h' 114 = h 114 ∧ (ov_MK (h 96) (h 97) (h 98) (h' 96) (h' 97) (h' 98)) ∧ (ov_WS (h 96) → ov_WS (h' 96)) ∧ ((h' 90 8) = 0 → ov_CS (h 96) (h 97) (h 98) (h 90 13) → ov_CS (h' 96) (h' 97) (h' 98) (h' 90 13))
set_option maxHeartbeats 4000000 in
theorem c_Mo_readRule_90 {u : ov_U} {F : ov_H × ov_Z} (n : Int) {z : ov_Z} {h : ov_H} (d : Nat) (hd : 50 ≤ d) (U : ov_cap u) (I : ov_N F z h) (p0 : 0 ≤ n ∧ n ≤ 1000 ∧ (h 92 (n)) = 0 ∧ (h 90 7) ≤ n) (p1 : (h 90 13) ≤ (h 90 7)) (p2 : (h 90 8) = 0) (p3 : (h 90 7) < n) : ov_T u d ov_m224 [ov_r 90] z h (P_Mo_readRule_90 F z h n) := by
  refine ov_en rfl (Nat.le_of_ble_eq_true rfl) ?_
  show ov_R u d ov_m224 0 [(0, ov_r 90)] [] z h (P_Mo_readRule_90 F z h n)
  refine ov_blk (ls2 := [(0, ov_r 90)]) (st2 := [ov_r 90]) (pc2 := 1) b_224_0_1 rfl rfl ?_
  refine ov_getf (v := ov_r 96) d_224_1 fl_Mo_81 (zb_90 I) (zs_90 I) (congrArg ov_r (rg_90_10 I)) ?_
  refine ov_blk (ls2 := [(0, ov_r 90)]) (st2 := [ov_i 348, ov_r 96]) (pc2 := 7) b_224_4_1 rfl rfl ?_
  refine ov_iald d_224_7 (zb_96 I) (zs_96 I) (by omega) ?_
  have g1 := t96_348 I
  refine ov_blk (ls2 := [(0, ov_r 90), (1, ov_i (h 96 348))]) (st2 := [ov_i 4, ov_i (h 96 348)]) (pc2 := 11) b_224_8_3 rfl rfl ?_
  refine ov_icne (tgt := 20) d_224_11 (by decide) (by omega) (by omega) (fun c2 => ?_) (fun c2 => ?_)
  · skip
    refine ov_blk (ls2 := [(0, ov_r 90), (1, ov_i (h 96 348))]) (st2 := [ov_r 90, ov_r 90]) (pc2 := 22) b_224_20_2 rfl rfl ?_
    refine ov_getf (v := ov_i (h 90 7)) d_224_22 fl_Mo_177 (zb_90 I) (zs_90 I) rfl ?_
    have g3 := rg_90_7 I
    refine ov_blk (ls2 := [(0, ov_r 90), (1, ov_i (h 96 348))]) (st2 := [ov_i ((h 90 7) + 1), ov_r 90]) (pc2 := 27) b_224_25_2 rfl rfl ?_
    refine ov_putf (x := ((h 90 7) + 1)) d_224_27 fl_Mo_177 (zb_90 I) (zs_90 I) rfl nk_0 rfl ?_
    have I4 := up_90_7 (x := ((h 90 7) + 1)) I (by omega)
    refine ov_blk (ls2 := [(0, ov_r 90), (1, ov_i (h 96 348)), (2, ov_i 0), (3, ov_i 0)]) (st2 := []) (pc2 := 34) b_224_30_4 rfl rfl ?_
    have L8 : ∀ (n5 : Nat) (x2 : Int) (x3 : Int) (q7 : (x2 = 0 ∨ x2 = 1) ∧ 0 ≤ x3 ∧ x3 ≤ 4), 4 - x3 < (n5 : Int) → ov_R u d ov_m224 34 [(0, ov_r 90), (1, ov_i (h 96 348)), (2, ov_i x2), (3, ov_i x3)] [] z (ov_up h 90 7 ((h 90 7) + 1)) (P_Mo_readRule_90 F z h n) := by
      intro n5
      induction n5 with
      | zero =>
        intro x2 x3 q7 hn9
        exact absurd hn9 (by omega)
      | succ n5 ih6 =>
        intro x2 x3 q7 hn9
        refine ov_blk (ls2 := [(0, ov_r 90), (1, ov_i (h 96 348)), (2, ov_i x2), (3, ov_i x3)]) (st2 := [ov_i (h 96 348), ov_i x3]) (pc2 := 36) b_224_34_2 rfl rfl ?_
        refine ov_icge (tgt := 81) d_224_36 (by decide) (by omega) (by omega) (fun c10 => ?_) (fun c10 => ?_)
        · skip
          refine ov_blk (ls2 := [(0, ov_r 90), (1, ov_i (h 96 348)), (2, ov_i x2), (3, ov_i x3)]) (st2 := [ov_r 90]) (pc2 := 82) b_224_81_1 rfl rfl ?_
          refine ov_cV (as := []) (st := []) (d2 := d - 1) d_224_82 lk_Mo_239 rfl (Nat.le_of_ble_eq_true rfl) (c := 1) (zb_90 I4) (zs_90 I4) ⟨by decide, rfl⟩ (by omega) (c_Mo_isName_90 n (d - 1) (by omega) U I4 (by show 0 ≤ n ∧ n ≤ 1000 ∧ (h 92 (n)) = 0 ∧ ((h 90 7) + 1) ≤ n; omega)) ?_
          rintro _ _ _ ⟨v12, rfl, rfl, rfl, f11⟩
          show ov_R u d ov_m224 85 [(0, ov_r 90), (1, ov_i (h 96 348)), (2, ov_i x2), (3, ov_i x3)] [ov_i v12] z (ov_up h 90 7 ((h 90 7) + 1)) (P_Mo_readRule_90 F z h n)
          have f13 : (v12 = 0 ∨ v12 = 1) ∧ (v12 = 1 → ((h 90 7) + 1) < n) := f11
          clear f11
          refine ov_ifne (tgt := 96) d_224_85 (by decide) (by omega) (fun c14 => ?_) (fun c14 => ?_)
          · skip
            have f13_ : v12 = 1 := by omega
            have f15 : ((h 90 7) + 1) < n := f13.2 (by omega)
            clear f13
            refine ov_blk (ls2 := [(0, ov_r 90), (1, ov_i (h 96 348)), (2, ov_i x2), (3, ov_i x3)]) (st2 := [ov_i x2]) (pc2 := 97) b_224_96_1 rfl rfl ?_
            refine ov_ifeq (tgt := 105) d_224_97 (by decide) (by omega) (fun c16 => ?_) (fun c16 => ?_)
            · skip
              refine ov_blk (ls2 := [(0, ov_r 90), (1, ov_i (h 96 348)), (2, ov_i x2), (3, ov_i x3)]) (st2 := [ov_r 90]) (pc2 := 106) b_224_105_1 rfl rfl ?_
              refine ov_getf (v := ov_i (h 90 8)) d_224_106 fl_Mo_180 (zb_90 I4) (zs_90 I4) rfl ?_
              have g17 := rg_90_8 I
              refine ov_ifle (tgt := 113) d_224_109 (by decide) (by omega) (fun c18 => ?_) (fun c18 => ?_)
              · skip
                refine ov_blk (ls2 := [(0, ov_r 90), (1, ov_i (h 96 348)), (2, ov_i x2), (3, ov_i x3)]) (st2 := [ov_r 90]) (pc2 := 114) b_224_113_1 rfl rfl ?_
                refine ov_getf (v := ov_r 99) d_224_114 fl_Mo_90 (zb_90 I4) (zs_90 I4) (congrArg ov_r (rg_90_14 I4)) ?_
                refine ov_blk (ls2 := [(0, ov_r 90), (1, ov_i (h 96 348)), (2, ov_i x2), (3, ov_i x3)]) (st2 := [ov_r 90, ov_i (h 96 348), ov_r 99]) (pc2 := 119) b_224_117_2 rfl rfl ?_
                refine ov_getf (v := ov_r 94) d_224_119 fl_Mo_30 (zb_90 I4) (zs_90 I4) (congrArg ov_r (rg_90_6 I4)) ?_
                refine ov_blk (ls2 := [(0, ov_r 90), (1, ov_i (h 96 348)), (2, ov_i x2), (3, ov_i x3)]) (st2 := [ov_r 90, ov_r 94, ov_i (h 96 348), ov_r 99]) (pc2 := 123) b_224_122_1 rfl rfl ?_
                refine ov_getf (v := ov_i ((h 90 7) + 1)) d_224_123 fl_Mo_177 (zb_90 I4) (zs_90 I4) rfl ?_
                refine ov_lald d_224_126 (zb_94 I4) (zs_94 I4) (by omega) ?_
                show ov_R u d ov_m224 127 [(0, ov_r 90), (1, ov_i (h 96 348)), (2, ov_i x2), (3, ov_i x3)] [ov_l (h 94 ((h 90 7) + 1)), ov_i (h 96 348), ov_r 99] z (ov_up h 90 7 ((h 90 7) + 1)) (P_Mo_readRule_90 F z h n)
                have g19 := ra_94 I ((h 90 7) + 1)
                refine ov_last d_224_127 (zb_99 I4) (zs_99 I4) (by omega) ?_
                have I20 := ua_99 (k := (h 96 348)) (x := (h 94 ((h 90 7) + 1))) I4
                refine ov_blk (ls2 := [(0, ov_r 90), (1, ov_i (h 96 348)), (2, ov_i x2), (3, ov_i x3)]) (st2 := [ov_r 90, ov_r 90]) (pc2 := 130) b_224_128_2 rfl rfl ?_
                refine ov_getf (v := ov_i ((h 90 7) + 1)) d_224_130 fl_Mo_177 (zb_90 I20) (zs_90 I20) rfl ?_
                refine ov_blk (ls2 := [(0, ov_r 90), (1, ov_i (h 96 348)), (2, ov_i x2), (3, ov_i x3)]) (st2 := [ov_i (((h 90 7) + 1) + 1), ov_r 90]) (pc2 := 135) b_224_133_2 rfl rfl ?_
                refine ov_putf (x := (((h 90 7) + 1) + 1)) d_224_135 fl_Mo_177 (zb_90 I20) (zs_90 I20) rfl nk_0 rfl ?_
                have I21 := up_90_7 (x := (((h 90 7) + 1) + 1)) I20 (by omega)
                refine ov_blk (ls2 := [(0, ov_r 90), (1, ov_i (h 96 348)), (2, ov_i x2), (3, ov_i x3)]) (st2 := [ov_r 90]) (pc2 := 139) b_224_138_1 rfl rfl ?_
                refine ov_getf (v := ov_r 96) d_224_139 fl_Mo_81 (zb_90 I21) (zs_90 I21) (congrArg ov_r (rg_90_10 I21)) ?_
                refine ov_blk (ls2 := [(0, ov_r 90), (1, ov_i (h 96 348)), (2, ov_i x2), (3, ov_i x3)]) (st2 := [ov_r 90, ov_i (620 + (h 96 348)), ov_r 96]) (pc2 := 148) b_224_142_4 rfl rfl ?_
                refine ov_getf (v := ov_i (h 90 13)) d_224_148 fl_Mo_208 (zb_90 I21) (zs_90 I21) rfl ?_
                have g22 := rg_90_13 I
                refine ov_iast d_224_151 (zb_96 I21) (zs_96 I21) (by omega) ?_
                have I23 := ua_96 (k := (620 + (h 96 348))) (x := (h 90 13)) I21 (by refine ⟨?_, ?_, ?_, ?_, ?_, ?_, ?_, ?_, ?_, ?_, ?_, ?_, ?_, ?_, ?_, ?_, ?_, ?_, ?_, ?_, ?_, ?_, ?_, ?_, ?_, ?_, ?_, ?_, ?_⟩ <;> omega)
                refine ov_blk (ls2 := [(0, ov_r 90), (1, ov_i (h 96 348)), (2, ov_i x2), (3, ov_i x3)]) (st2 := [ov_i 0, ov_r 90]) (pc2 := 154) b_224_152_2 rfl rfl ?_
                refine ov_cV (as := [ov_i 0]) (st := []) (d2 := d - 1) d_224_154 lk_Mo_243 rfl (Nat.le_of_ble_eq_true rfl) (c := 1) (zb_90 I23) (zs_90 I23) ⟨by decide, rfl⟩ (by omega) (c_Mo_all_90_all n 5 (d - 1) (by omega) U I23 0 (by omega) (by show 0 ≤ n ∧ n ≤ 1000 ∧ (h 92 (n)) = 0 ∧ (((h 90 7) + 1) + 1) ≤ n; omega) (by omega) (by show (h 90 13) ≤ (((h 90 7) + 1) + 1); omega)) ?_
                rintro _ z39 h40 ⟨rfl, I41, f24, e25, e26, e27, e28, e29, e30, e31, e32, e33, e34, e35, e36, y37, y38⟩
                have E42 : h40 92 = h 92 := e25
                have E43 : h40 93 = h 93 := e26
                have E44 : h40 94 = h 94 := e27
                have E45 : h40 95 = h 95 := e28
                have E46 : h40 100 = h 100 := e31
                have E47 : h40 103 = h 103 := e32
                have E48 : h40 105 = h 105 := e33
                have E49 : h40 106 = h 106 := e34
                have E50 : h40 109 = h 109 := e35
                have E51 : h40 114 = h 114 := e36
                show ov_R u d ov_m224 157 [(0, ov_r 90), (1, ov_i (h 96 348)), (2, ov_i x2), (3, ov_i x3)] [] z39 h40 (P_Mo_readRule_90 F z h n)
                have f52 : (h40 90 2) = (h 90 2) ∧ (h40 90 20) = (h 90 20) ∧ (h40 90 22) = (h 90 22) ∧ (h40 90 25) = (h 90 25) ∧ (h40 90 26) = (h 90 26) ∧ (h40 90 28) = (h 90 28) ∧ (h40 90 29) = (h 90 29) ∧ (h40 90 30) = (h 90 30) ∧ (h40 90 34) = (h 90 34) ∧ (((h 90 7) + 1) + 1) ≤ (h40 90 7) ∧ (h40 90 7) ≤ n ∧ (h 90 8) ≤ (h40 90 8) ∧ (h 90 13) ≤ (h40 90 13) ∧ (h40 90 13) - (h 90 13) ≤ (h40 90 7) - (((h 90 7) + 1) + 1) := f24
                clear f24
                have y37_ : ∀ j : Int, j < 1100 + (h 90 13) → (h40 97) j = (h 97) j ∧ (h40 98) j = (h 98) j := y37
                have y38_ : (h40 90 8) = 0 → ov_sg (h40 97) (h40 98) (h 90 13) (h40 90 13) := y38
                refine ov_blk (ls2 := [(0, ov_r 90), (1, ov_i (h 96 348)), (2, ov_i x2), (3, ov_i x3)]) (st2 := [ov_i 0, ov_i 0, ov_r 90]) (pc2 := 160) b_224_157_3 rfl rfl ?_
                refine ov_cV (as := [ov_i 0, ov_i 0]) (st := []) (d2 := d - 1) d_224_160 lk_Mo_246 rfl (Nat.le_of_ble_eq_true rfl) (c := 1) (zb_90 I41) (zs_90 I41) ⟨by decide, rfl⟩ (by omega) (c_Mo_emit_90 (d - 1) (by omega) U I41 0 0 (by omega) (by omega) (by omega) (by show (h40 90 13) ≤ 999; omega)) ?_
                rintro _ z68 h69 ⟨rfl, I70, f53, e54, e55, e56, e57, e58, e59, e60, e61, e62, e63, e64, e65, y66, y67⟩
                have E71 : h69 92 = h 92 := Eq.trans e54 E42
                have E72 : h69 93 = h 93 := Eq.trans e55 E43
                have E73 : h69 94 = h 94 := Eq.trans e56 E44
                have E74 : h69 95 = h 95 := Eq.trans e57 E45
                have E75 : h69 96 = h40 96 := e58
                have E76 : h69 99 = h40 99 := e59
                have E77 : h69 100 = h 100 := Eq.trans e60 E46
                have E78 : h69 103 = h 103 := Eq.trans e61 E47
                have E79 : h69 105 = h 105 := Eq.trans e62 E48
                have E80 : h69 106 = h 106 := Eq.trans e63 E49
                have E81 : h69 109 = h 109 := Eq.trans e64 E50
                have E82 : h69 114 = h 114 := Eq.trans e65 E51
                show ov_R u d ov_m224 163 [(0, ov_r 90), (1, ov_i (h 96 348)), (2, ov_i x2), (3, ov_i x3)] [] z68 h69 (P_Mo_readRule_90 F z h n)
                have f83 : (h69 90 2) = (h40 90 2) ∧ (h69 90 7) = (h40 90 7) ∧ (h69 90 8) = (h40 90 8) ∧ (h69 90 20) = (h40 90 20) ∧ (h69 90 22) = (h40 90 22) ∧ (h69 90 25) = (h40 90 25) ∧ (h69 90 26) = (h40 90 26) ∧ (h69 90 28) = (h40 90 28) ∧ (h69 90 29) = (h40 90 29) ∧ (h69 90 30) = (h40 90 30) ∧ (h69 90 34) = (h40 90 34) ∧ (h69 90 13) = (h40 90 13) + 1 := f53
                clear f53
                have y66_ : (h69 97) = ov_rs (h40 97) (1100 + (h40 90 13)) (0 : Int) := y66
                have y67_ : (h69 98) = ov_rs (h40 98) (1100 + (h40 90 13)) (0 : Int) := y67
                have q1 : (ov_up (ov_up (ov_up (ov_up h 90 7 ((h 90 7) + 1)) 99 (h 96 348) (h 94 ((h 90 7) + 1))) 90 7 (((h 90 7) + 1) + 1)) 96 (620 + (h 96 348)) (h 90 13)) 96 = ov_rs (h 96) (620 + (h 96 348)) (h 90 13) := by rw [ov_up_row]; rfl
                have q3 : h40 96 = ov_rs (h 96) (620 + (h 96 348)) (h 90 13) := by rw [e29, q1]
                have q4 := t96_348 I
                have l340 : h40 96 340 = h 96 340 := by rw [q3, ov_rs_ne (by omega)]
                have l341 : h40 96 341 = h 96 341 := by rw [q3, ov_rs_ne (by omega)]
                have l342 : h40 96 342 = h 96 342 := by rw [q3, ov_rs_ne (by omega)]
                have l348 : h40 96 348 = h 96 348 := by rw [q3, ov_rs_ne (by omega)]
                have l349 : h40 96 349 = h 96 349 := by rw [q3, ov_rs_ne (by omega)]
                refine ov_blk (ls2 := [(0, ov_r 90), (1, ov_i (h 96 348)), (2, ov_i x2), (3, ov_i x3)]) (st2 := [ov_r 90]) (pc2 := 164) b_224_163_1 rfl rfl ?_
                refine ov_getf (v := ov_r 96) d_224_164 fl_Mo_81 (zb_90 I70) (zs_90 I70) (congrArg ov_r (rg_90_10 I70)) ?_
                refine ov_blk (ls2 := [(0, ov_r 90), (1, ov_i (h 96 348)), (2, ov_i x2), (3, ov_i x3)]) (st2 := [ov_i 348, ov_r 96, ov_i 348, ov_r 96]) (pc2 := 171) b_224_167_2 rfl rfl ?_
                refine ov_iald d_224_171 (zb_96 I70) (zs_96 I70) (by omega) ?_
                rw [show h69 96 = h40 96 from E75]
                have g84 := t96_348 I41
                refine ov_blk (ls2 := [(0, ov_r 90), (1, ov_i (h 96 348)), (2, ov_i x2), (3, ov_i x3)]) (st2 := [ov_i ((h40 96 348) + 1), ov_i 348, ov_r 96]) (pc2 := 174) b_224_172_2 rfl rfl ?_
                refine ov_iast d_224_174 (zb_96 I70) (zs_96 I70) (by omega) ?_
                have I85 := ua_96 (k := 348) (x := ((h40 96 348) + 1)) I70 (by refine ⟨?_, ?_, ?_, ?_, ?_, ?_, ?_, ?_, ?_, ?_, ?_, ?_, ?_, ?_, ?_, ?_, ?_, ?_, ?_, ?_, ?_, ?_, ?_, ?_, ?_, ?_, ?_, ?_, ?_⟩ <;> omega)
                have q2 : (ov_up h69 96 348 ((h40 96 348) + 1)) 96 = ov_rs (ov_rs (h 96) (620 + (h 96 348)) (h 90 13)) 348 ((h40 96 348) + 1) := by rw [ov_up_row, e58, e29, q1]
                have k1 : ∀ j : Int, j < 1100 + (h 90 13) → h40 97 j = h 97 j ∧ h40 98 j = h 98 j := fun j hj => y37_ j (by omega)
                have cf86 : h69 96 340 = h40 96 340 := congrFun E75 340
                have cf87 : h69 96 341 = h40 96 341 := congrFun E75 341
                have cf88 : h69 96 342 = h40 96 342 := congrFun E75 342
                have cf89 : h69 96 349 = h40 96 349 := congrFun E75 349
                exact ov_retv (st := []) d_224_175 rfl ⟨rfl, I85, (by show (h69 90 2) = (h 90 2) ∧ (h69 90 20) = (h 90 20) ∧ (h69 90 22) = (h 90 22) ∧ (h69 90 25) = (h 90 25) ∧ (h69 90 26) = (h 90 26) ∧ (h69 90 28) = (h 90 28) ∧ (h69 90 29) = (h 90 29) ∧ (h69 90 30) = (h 90 30) ∧ (h69 90 34) = (h 90 34) ∧ (h 90 7) ≤ (h69 90 7) ∧ (h69 90 7) ≤ n ∧ (h 90 13) ≤ (h69 90 13) ∧ (h69 90 13) - (h 90 13) ≤ (h69 90 7) - (h 90 7) ∧ (h69 96 340) = (h 96 340) ∧ (h69 96 341) = (h 96 341) ∧ ((h69 90 8) = 0 → 1 ≤ (h 96 342) → 1 ≤ (h69 96 342)) ∧ (1 ≤ (h 96 349) → 1 ≤ (h69 96 349)); omega), E71, E72, E73, E74, E77, E78, E79, E80, E81, E82, (by show ov_MK (h 96) (h 97) (h 98) ((ov_up h69 96 348 ((h40 96 348) + 1)) 96) (h69 97) (h69 98); rw [q2]; exact ⟨(ov_MK_1 (k := 348) (ov_MK_1 (ov_MK_refl (h 96) (h 97) (h 98)) (by omega)) (by decide)).1, fun j hj => (ov_kpe k1 y66_ y67_ (by omega) j (by omega)).1, fun j hj => (ov_kpe k1 y66_ y67_ (by omega) j (by omega)).2⟩), (fun w => by show ov_WS ((ov_up h69 96 348 ((h40 96 348) + 1)) 96); rw [q2]; exact ov_WS_o (ov_WS_o w (by omega)) (by decide)), (fun e w => by have e0 : (h69 90 8) = 0 := e; have s2 := y38_ (by omega); rw [show (h 90 13) = h 90 13 by omega] at s2; show ov_CS ((ov_up h69 96 348 ((h40 96 348) + 1)) 96) (h69 97) (h69 98) (h69 90 13); rw [show (h69 90 13) = h40 90 13 + 1 by omega, q2]; exact ov_CS_r w (by omega) (by omega) (by rw [ov_rs_ne (by omega), show 620 + h 96 348 = 620 + (h 96 348) by omega, ov_rs_eq]) (fun r a b => by rw [ov_rs_ne (by omega), ov_rs_ne (by omega)]) (by rw [ov_rs_eq]; omega) k1 s2 y66_ y67_)⟩
              · skip
                have R90 : ov_RD (h 96) (h 97) (h 98) (h 90 13) ((ov_up h 90 7 ((h 90 7) + 1)) 96) ((ov_up h 90 7 ((h 90 7) + 1)) 97) ((ov_up h 90 7 ((h 90 7) + 1)) 98) (h 90 13) := by exact ov_RD_refl _ _ _ _
                exact ov_retv (st := []) d_224_112 rfl ⟨rfl, I4, ⟨rfl, rfl, rfl, rfl, rfl, rfl, rfl, rfl, rfl, (by show (h 90 7) ≤ ((h 90 7) + 1) ∧ ((h 90 7) + 1) ≤ n ∧ (h 90 13) ≤ (h 90 13) ∧ (h 90 13) - (h 90 13) ≤ ((h 90 7) + 1) - (h 90 7) ∧ (h 96 340) = (h 96 340) ∧ (h 96 341) = (h 96 341) ∧ ((h 90 8) = 0 → 1 ≤ (h 96 342) → 1 ≤ (h 96 342)) ∧ (1 ≤ (h 96 349) → 1 ≤ (h 96 349)); omega)⟩, rfl, rfl, rfl, rfl, rfl, rfl, rfl, rfl, rfl, rfl, R90.1, R90.2.1, (fun _ w => by show ov_CS ((ov_up h 90 7 ((h 90 7) + 1)) 96) ((ov_up h 90 7 ((h 90 7) + 1)) 97) ((ov_up h 90 7 ((h 90 7) + 1)) 98) (h 90 13); rw [show (h 90 13) = h 90 13 by omega]; exact R90.2.2 w)⟩
            · skip
              refine ov_blk (ls2 := [(0, ov_r 90), (1, ov_i (h 96 348)), (2, ov_i x2), (3, ov_i x3)]) (st2 := [ov_i 3, ov_r 90]) (pc2 := 102) b_224_100_2 rfl rfl ?_
              refine ov_cV (as := [ov_i 3]) (st := []) (d2 := d - 1) d_224_102 lk_Mo_186 rfl (Nat.le_of_ble_eq_true rfl) (c := 1) (zb_90 I4) (zs_90 I4) ⟨by decide, rfl⟩ (by omega) (c_Mo_wrong_90 (d - 1) (by omega) U I4 3 (by omega) (by omega)) ?_
              rintro _ z106 h107 ⟨rfl, I108, f91, e92, e93, e94, e95, e96, e97, e98, e99, e100, e101, e102, e103, e104, e105⟩
              have E109 : h107 92 = h 92 := e92
              have E110 : h107 93 = h 93 := e93
              have E111 : h107 94 = h 94 := e94
              have E112 : h107 95 = h 95 := e95
              have E113 : h107 96 = h 96 := e96
              have E114 : h107 97 = h 97 := e97
              have E115 : h107 98 = h 98 := e98
              have E116 : h107 99 = h 99 := e99
              have E117 : h107 100 = h 100 := e100
              have E118 : h107 103 = h 103 := e101
              have E119 : h107 105 = h 105 := e102
              have E120 : h107 106 = h 106 := e103
              have E121 : h107 109 = h 109 := e104
              have E122 : h107 114 = h 114 := e105
              show ov_R u d ov_m224 105 [(0, ov_r 90), (1, ov_i (h 96 348)), (2, ov_i x2), (3, ov_i x3)] [] z106 h107 (P_Mo_readRule_90 F z h n)
              have f123 : (h107 90 2) = (h 90 2) ∧ (h107 90 7) = ((h 90 7) + 1) ∧ (h107 90 13) = (h 90 13) ∧ (h107 90 20) = (h 90 20) ∧ (h107 90 22) = (h 90 22) ∧ (h107 90 25) = (h 90 25) ∧ (h107 90 26) = (h 90 26) ∧ (h107 90 28) = (h 90 28) ∧ (h107 90 29) = (h 90 29) ∧ (h107 90 30) = (h 90 30) ∧ (h107 90 34) = (h 90 34) ∧ 0 < (h107 90 8) ∧ (h 90 8) ≤ (h107 90 8) := f91
              clear f91
              refine ov_blk (ls2 := [(0, ov_r 90), (1, ov_i (h 96 348)), (2, ov_i x2), (3, ov_i x3)]) (st2 := [ov_r 90]) (pc2 := 106) b_224_105_1 rfl rfl ?_
              refine ov_getf (v := ov_i (h107 90 8)) d_224_106 fl_Mo_180 (zb_90 I108) (zs_90 I108) rfl ?_
              have g124 := rg_90_8 I108
              refine ov_ifle (tgt := 113) d_224_109 (by decide) (by omega) (fun c125 => ?_) (fun c125 => ?_)
              · omega
              · skip
                have cf126 : h107 96 340 = h 96 340 := congrFun E113 340
                have cf127 : h107 96 341 = h 96 341 := congrFun E113 341
                have cf128 : h107 96 342 = h 96 342 := congrFun E113 342
                have cf129 : h107 96 349 = h 96 349 := congrFun E113 349
                have R130 : ov_RD (h 96) (h 97) (h 98) (h 90 13) (h107 96) (h107 97) (h107 98) (h 90 13) := by rw [show h107 96 = h 96 from E113, show h107 97 = h 97 from E114, show h107 98 = h 98 from E115]; exact ov_RD_refl _ _ _ _
                exact ov_retv (st := []) d_224_112 rfl ⟨rfl, I108, (by show (h107 90 2) = (h 90 2) ∧ (h107 90 20) = (h 90 20) ∧ (h107 90 22) = (h 90 22) ∧ (h107 90 25) = (h 90 25) ∧ (h107 90 26) = (h 90 26) ∧ (h107 90 28) = (h 90 28) ∧ (h107 90 29) = (h 90 29) ∧ (h107 90 30) = (h 90 30) ∧ (h107 90 34) = (h 90 34) ∧ (h 90 7) ≤ (h107 90 7) ∧ (h107 90 7) ≤ n ∧ (h 90 13) ≤ (h107 90 13) ∧ (h107 90 13) - (h 90 13) ≤ (h107 90 7) - (h 90 7) ∧ (h107 96 340) = (h 96 340) ∧ (h107 96 341) = (h 96 341) ∧ ((h107 90 8) = 0 → 1 ≤ (h 96 342) → 1 ≤ (h107 96 342)) ∧ (1 ≤ (h 96 349) → 1 ≤ (h107 96 349)); omega), E109, E110, E111, E112, E117, E118, E119, E120, E121, E122, R130.1, R130.2.1, (fun _ w => by show ov_CS (h107 96) (h107 97) (h107 98) (h107 90 13); rw [show (h107 90 13) = h 90 13 by omega]; exact R130.2.2 w)⟩
          · skip
            have f13_ : v12 = 0 := by omega
            clear f13
            refine ov_blk (ls2 := [(0, ov_r 90), (1, ov_i (h 96 348)), (2, ov_i x2), (3, ov_i x3)]) (st2 := [ov_i 1, ov_r 90]) (pc2 := 90) b_224_88_2 rfl rfl ?_
            refine ov_cV (as := [ov_i 1]) (st := []) (d2 := d - 1) d_224_90 lk_Mo_186 rfl (Nat.le_of_ble_eq_true rfl) (c := 1) (zb_90 I4) (zs_90 I4) ⟨by decide, rfl⟩ (by omega) (c_Mo_wrong_90 (d - 1) (by omega) U I4 1 (by omega) (by omega)) ?_
            rintro _ z146 h147 ⟨rfl, I148, f131, e132, e133, e134, e135, e136, e137, e138, e139, e140, e141, e142, e143, e144, e145⟩
            have E149 : h147 92 = h 92 := e132
            have E150 : h147 93 = h 93 := e133
            have E151 : h147 94 = h 94 := e134
            have E152 : h147 95 = h 95 := e135
            have E153 : h147 96 = h 96 := e136
            have E154 : h147 97 = h 97 := e137
            have E155 : h147 98 = h 98 := e138
            have E156 : h147 99 = h 99 := e139
            have E157 : h147 100 = h 100 := e140
            have E158 : h147 103 = h 103 := e141
            have E159 : h147 105 = h 105 := e142
            have E160 : h147 106 = h 106 := e143
            have E161 : h147 109 = h 109 := e144
            have E162 : h147 114 = h 114 := e145
            show ov_R u d ov_m224 93 [(0, ov_r 90), (1, ov_i (h 96 348)), (2, ov_i x2), (3, ov_i x3)] [] z146 h147 (P_Mo_readRule_90 F z h n)
            have f163 : (h147 90 2) = (h 90 2) ∧ (h147 90 7) = ((h 90 7) + 1) ∧ (h147 90 13) = (h 90 13) ∧ (h147 90 20) = (h 90 20) ∧ (h147 90 22) = (h 90 22) ∧ (h147 90 25) = (h 90 25) ∧ (h147 90 26) = (h 90 26) ∧ (h147 90 28) = (h 90 28) ∧ (h147 90 29) = (h 90 29) ∧ (h147 90 30) = (h 90 30) ∧ (h147 90 34) = (h 90 34) ∧ 0 < (h147 90 8) ∧ (h 90 8) ≤ (h147 90 8) := f131
            clear f131
            refine ov_goto (tgt := 105) d_224_93 (by decide) ?_
            refine ov_blk (ls2 := [(0, ov_r 90), (1, ov_i (h 96 348)), (2, ov_i x2), (3, ov_i x3)]) (st2 := [ov_r 90]) (pc2 := 106) b_224_105_1 rfl rfl ?_
            refine ov_getf (v := ov_i (h147 90 8)) d_224_106 fl_Mo_180 (zb_90 I148) (zs_90 I148) rfl ?_
            have g164 := rg_90_8 I148
            refine ov_ifle (tgt := 113) d_224_109 (by decide) (by omega) (fun c165 => ?_) (fun c165 => ?_)
            · omega
            · skip
              have cf166 : h147 96 340 = h 96 340 := congrFun E153 340
              have cf167 : h147 96 341 = h 96 341 := congrFun E153 341
              have cf168 : h147 96 342 = h 96 342 := congrFun E153 342
              have cf169 : h147 96 349 = h 96 349 := congrFun E153 349
              have R170 : ov_RD (h 96) (h 97) (h 98) (h 90 13) (h147 96) (h147 97) (h147 98) (h 90 13) := by rw [show h147 96 = h 96 from E153, show h147 97 = h 97 from E154, show h147 98 = h 98 from E155]; exact ov_RD_refl _ _ _ _
              exact ov_retv (st := []) d_224_112 rfl ⟨rfl, I148, (by show (h147 90 2) = (h 90 2) ∧ (h147 90 20) = (h 90 20) ∧ (h147 90 22) = (h 90 22) ∧ (h147 90 25) = (h 90 25) ∧ (h147 90 26) = (h 90 26) ∧ (h147 90 28) = (h 90 28) ∧ (h147 90 29) = (h 90 29) ∧ (h147 90 30) = (h 90 30) ∧ (h147 90 34) = (h 90 34) ∧ (h 90 7) ≤ (h147 90 7) ∧ (h147 90 7) ≤ n ∧ (h 90 13) ≤ (h147 90 13) ∧ (h147 90 13) - (h 90 13) ≤ (h147 90 7) - (h 90 7) ∧ (h147 96 340) = (h 96 340) ∧ (h147 96 341) = (h 96 341) ∧ ((h147 90 8) = 0 → 1 ≤ (h 96 342) → 1 ≤ (h147 96 342)) ∧ (1 ≤ (h 96 349) → 1 ≤ (h147 96 349)); omega), E149, E150, E151, E152, E157, E158, E159, E160, E161, E162, R170.1, R170.2.1, (fun _ w => by show ov_CS (h147 96) (h147 97) (h147 98) (h147 90 13); rw [show (h147 90 13) = h 90 13 by omega]; exact R170.2.2 w)⟩
        · skip
          refine ov_blk (ls2 := [(0, ov_r 90), (1, ov_i (h 96 348)), (2, ov_i x2), (3, ov_i x3)]) (st2 := [ov_r 90]) (pc2 := 40) b_224_39_1 rfl rfl ?_
          refine ov_getf (v := ov_i (h 90 8)) d_224_40 fl_Mo_180 (zb_90 I4) (zs_90 I4) rfl ?_
          have g171 := rg_90_8 I
          refine ov_ifne (tgt := 81) d_224_43 (by decide) (by omega) (fun c172 => ?_) (fun c172 => ?_)
          · skip
            refine ov_blk (ls2 := [(0, ov_r 90), (1, ov_i (h 96 348)), (2, ov_i x2), (3, ov_i x3)]) (st2 := [ov_r 90]) (pc2 := 82) b_224_81_1 rfl rfl ?_
            refine ov_cV (as := []) (st := []) (d2 := d - 1) d_224_82 lk_Mo_239 rfl (Nat.le_of_ble_eq_true rfl) (c := 1) (zb_90 I4) (zs_90 I4) ⟨by decide, rfl⟩ (by omega) (c_Mo_isName_90 n (d - 1) (by omega) U I4 (by show 0 ≤ n ∧ n ≤ 1000 ∧ (h 92 (n)) = 0 ∧ ((h 90 7) + 1) ≤ n; omega)) ?_
            rintro _ _ _ ⟨v174, rfl, rfl, rfl, f173⟩
            show ov_R u d ov_m224 85 [(0, ov_r 90), (1, ov_i (h 96 348)), (2, ov_i x2), (3, ov_i x3)] [ov_i v174] z (ov_up h 90 7 ((h 90 7) + 1)) (P_Mo_readRule_90 F z h n)
            have f175 : (v174 = 0 ∨ v174 = 1) ∧ (v174 = 1 → ((h 90 7) + 1) < n) := f173
            clear f173
            refine ov_ifne (tgt := 96) d_224_85 (by decide) (by omega) (fun c176 => ?_) (fun c176 => ?_)
            · skip
              have f175_ : v174 = 1 := by omega
              have f177 : ((h 90 7) + 1) < n := f175.2 (by omega)
              clear f175
              refine ov_blk (ls2 := [(0, ov_r 90), (1, ov_i (h 96 348)), (2, ov_i x2), (3, ov_i x3)]) (st2 := [ov_i x2]) (pc2 := 97) b_224_96_1 rfl rfl ?_
              refine ov_ifeq (tgt := 105) d_224_97 (by decide) (by omega) (fun c178 => ?_) (fun c178 => ?_)
              · skip
                refine ov_blk (ls2 := [(0, ov_r 90), (1, ov_i (h 96 348)), (2, ov_i x2), (3, ov_i x3)]) (st2 := [ov_r 90]) (pc2 := 106) b_224_105_1 rfl rfl ?_
                refine ov_getf (v := ov_i (h 90 8)) d_224_106 fl_Mo_180 (zb_90 I4) (zs_90 I4) rfl ?_
                refine ov_ifle (tgt := 113) d_224_109 (by decide) (by omega) (fun c180 => ?_) (fun c180 => ?_)
                · omega
                · skip
                  have R181 : ov_RD (h 96) (h 97) (h 98) (h 90 13) ((ov_up h 90 7 ((h 90 7) + 1)) 96) ((ov_up h 90 7 ((h 90 7) + 1)) 97) ((ov_up h 90 7 ((h 90 7) + 1)) 98) (h 90 13) := by exact ov_RD_refl _ _ _ _
                  exact ov_retv (st := []) d_224_112 rfl ⟨rfl, I4, ⟨rfl, rfl, rfl, rfl, rfl, rfl, rfl, rfl, rfl, (by show (h 90 7) ≤ ((h 90 7) + 1) ∧ ((h 90 7) + 1) ≤ n ∧ (h 90 13) ≤ (h 90 13) ∧ (h 90 13) - (h 90 13) ≤ ((h 90 7) + 1) - (h 90 7) ∧ (h 96 340) = (h 96 340) ∧ (h 96 341) = (h 96 341) ∧ ((h 90 8) = 0 → 1 ≤ (h 96 342) → 1 ≤ (h 96 342)) ∧ (1 ≤ (h 96 349) → 1 ≤ (h 96 349)); omega)⟩, rfl, rfl, rfl, rfl, rfl, rfl, rfl, rfl, rfl, rfl, R181.1, R181.2.1, (fun _ w => by show ov_CS ((ov_up h 90 7 ((h 90 7) + 1)) 96) ((ov_up h 90 7 ((h 90 7) + 1)) 97) ((ov_up h 90 7 ((h 90 7) + 1)) 98) (h 90 13); rw [show (h 90 13) = h 90 13 by omega]; exact R181.2.2 w)⟩
              · skip
                refine ov_blk (ls2 := [(0, ov_r 90), (1, ov_i (h 96 348)), (2, ov_i x2), (3, ov_i x3)]) (st2 := [ov_i 3, ov_r 90]) (pc2 := 102) b_224_100_2 rfl rfl ?_
                refine ov_cV (as := [ov_i 3]) (st := []) (d2 := d - 1) d_224_102 lk_Mo_186 rfl (Nat.le_of_ble_eq_true rfl) (c := 1) (zb_90 I4) (zs_90 I4) ⟨by decide, rfl⟩ (by omega) (c_Mo_wrong_90 (d - 1) (by omega) U I4 3 (by omega) (by omega)) ?_
                rintro _ z197 h198 ⟨rfl, I199, f182, e183, e184, e185, e186, e187, e188, e189, e190, e191, e192, e193, e194, e195, e196⟩
                have E200 : h198 92 = h 92 := e183
                have E201 : h198 93 = h 93 := e184
                have E202 : h198 94 = h 94 := e185
                have E203 : h198 95 = h 95 := e186
                have E204 : h198 96 = h 96 := e187
                have E205 : h198 97 = h 97 := e188
                have E206 : h198 98 = h 98 := e189
                have E207 : h198 99 = h 99 := e190
                have E208 : h198 100 = h 100 := e191
                have E209 : h198 103 = h 103 := e192
                have E210 : h198 105 = h 105 := e193
                have E211 : h198 106 = h 106 := e194
                have E212 : h198 109 = h 109 := e195
                have E213 : h198 114 = h 114 := e196
                show ov_R u d ov_m224 105 [(0, ov_r 90), (1, ov_i (h 96 348)), (2, ov_i x2), (3, ov_i x3)] [] z197 h198 (P_Mo_readRule_90 F z h n)
                have f214 : (h198 90 2) = (h 90 2) ∧ (h198 90 7) = ((h 90 7) + 1) ∧ (h198 90 13) = (h 90 13) ∧ (h198 90 20) = (h 90 20) ∧ (h198 90 22) = (h 90 22) ∧ (h198 90 25) = (h 90 25) ∧ (h198 90 26) = (h 90 26) ∧ (h198 90 28) = (h 90 28) ∧ (h198 90 29) = (h 90 29) ∧ (h198 90 30) = (h 90 30) ∧ (h198 90 34) = (h 90 34) ∧ 0 < (h198 90 8) ∧ (h 90 8) ≤ (h198 90 8) := f182
                clear f182
                refine ov_blk (ls2 := [(0, ov_r 90), (1, ov_i (h 96 348)), (2, ov_i x2), (3, ov_i x3)]) (st2 := [ov_r 90]) (pc2 := 106) b_224_105_1 rfl rfl ?_
                refine ov_getf (v := ov_i (h198 90 8)) d_224_106 fl_Mo_180 (zb_90 I199) (zs_90 I199) rfl ?_
                have g215 := rg_90_8 I199
                refine ov_ifle (tgt := 113) d_224_109 (by decide) (by omega) (fun c216 => ?_) (fun c216 => ?_)
                · omega
                · skip
                  have cf217 : h198 96 340 = h 96 340 := congrFun E204 340
                  have cf218 : h198 96 341 = h 96 341 := congrFun E204 341
                  have cf219 : h198 96 342 = h 96 342 := congrFun E204 342
                  have cf220 : h198 96 349 = h 96 349 := congrFun E204 349
                  have R221 : ov_RD (h 96) (h 97) (h 98) (h 90 13) (h198 96) (h198 97) (h198 98) (h 90 13) := by rw [show h198 96 = h 96 from E204, show h198 97 = h 97 from E205, show h198 98 = h 98 from E206]; exact ov_RD_refl _ _ _ _
                  exact ov_retv (st := []) d_224_112 rfl ⟨rfl, I199, (by show (h198 90 2) = (h 90 2) ∧ (h198 90 20) = (h 90 20) ∧ (h198 90 22) = (h 90 22) ∧ (h198 90 25) = (h 90 25) ∧ (h198 90 26) = (h 90 26) ∧ (h198 90 28) = (h 90 28) ∧ (h198 90 29) = (h 90 29) ∧ (h198 90 30) = (h 90 30) ∧ (h198 90 34) = (h 90 34) ∧ (h 90 7) ≤ (h198 90 7) ∧ (h198 90 7) ≤ n ∧ (h 90 13) ≤ (h198 90 13) ∧ (h198 90 13) - (h 90 13) ≤ (h198 90 7) - (h 90 7) ∧ (h198 96 340) = (h 96 340) ∧ (h198 96 341) = (h 96 341) ∧ ((h198 90 8) = 0 → 1 ≤ (h 96 342) → 1 ≤ (h198 96 342)) ∧ (1 ≤ (h 96 349) → 1 ≤ (h198 96 349)); omega), E200, E201, E202, E203, E208, E209, E210, E211, E212, E213, R221.1, R221.2.1, (fun _ w => by show ov_CS (h198 96) (h198 97) (h198 98) (h198 90 13); rw [show (h198 90 13) = h 90 13 by omega]; exact R221.2.2 w)⟩
            · skip
              have f175_ : v174 = 0 := by omega
              clear f175
              refine ov_blk (ls2 := [(0, ov_r 90), (1, ov_i (h 96 348)), (2, ov_i x2), (3, ov_i x3)]) (st2 := [ov_i 1, ov_r 90]) (pc2 := 90) b_224_88_2 rfl rfl ?_
              refine ov_cV (as := [ov_i 1]) (st := []) (d2 := d - 1) d_224_90 lk_Mo_186 rfl (Nat.le_of_ble_eq_true rfl) (c := 1) (zb_90 I4) (zs_90 I4) ⟨by decide, rfl⟩ (by omega) (c_Mo_wrong_90 (d - 1) (by omega) U I4 1 (by omega) (by omega)) ?_
              rintro _ z237 h238 ⟨rfl, I239, f222, e223, e224, e225, e226, e227, e228, e229, e230, e231, e232, e233, e234, e235, e236⟩
              have E240 : h238 92 = h 92 := e223
              have E241 : h238 93 = h 93 := e224
              have E242 : h238 94 = h 94 := e225
              have E243 : h238 95 = h 95 := e226
              have E244 : h238 96 = h 96 := e227
              have E245 : h238 97 = h 97 := e228
              have E246 : h238 98 = h 98 := e229
              have E247 : h238 99 = h 99 := e230
              have E248 : h238 100 = h 100 := e231
              have E249 : h238 103 = h 103 := e232
              have E250 : h238 105 = h 105 := e233
              have E251 : h238 106 = h 106 := e234
              have E252 : h238 109 = h 109 := e235
              have E253 : h238 114 = h 114 := e236
              show ov_R u d ov_m224 93 [(0, ov_r 90), (1, ov_i (h 96 348)), (2, ov_i x2), (3, ov_i x3)] [] z237 h238 (P_Mo_readRule_90 F z h n)
              have f254 : (h238 90 2) = (h 90 2) ∧ (h238 90 7) = ((h 90 7) + 1) ∧ (h238 90 13) = (h 90 13) ∧ (h238 90 20) = (h 90 20) ∧ (h238 90 22) = (h 90 22) ∧ (h238 90 25) = (h 90 25) ∧ (h238 90 26) = (h 90 26) ∧ (h238 90 28) = (h 90 28) ∧ (h238 90 29) = (h 90 29) ∧ (h238 90 30) = (h 90 30) ∧ (h238 90 34) = (h 90 34) ∧ 0 < (h238 90 8) ∧ (h 90 8) ≤ (h238 90 8) := f222
              clear f222
              refine ov_goto (tgt := 105) d_224_93 (by decide) ?_
              refine ov_blk (ls2 := [(0, ov_r 90), (1, ov_i (h 96 348)), (2, ov_i x2), (3, ov_i x3)]) (st2 := [ov_r 90]) (pc2 := 106) b_224_105_1 rfl rfl ?_
              refine ov_getf (v := ov_i (h238 90 8)) d_224_106 fl_Mo_180 (zb_90 I239) (zs_90 I239) rfl ?_
              have g255 := rg_90_8 I239
              refine ov_ifle (tgt := 113) d_224_109 (by decide) (by omega) (fun c256 => ?_) (fun c256 => ?_)
              · omega
              · skip
                have cf257 : h238 96 340 = h 96 340 := congrFun E244 340
                have cf258 : h238 96 341 = h 96 341 := congrFun E244 341
                have cf259 : h238 96 342 = h 96 342 := congrFun E244 342
                have cf260 : h238 96 349 = h 96 349 := congrFun E244 349
                have R261 : ov_RD (h 96) (h 97) (h 98) (h 90 13) (h238 96) (h238 97) (h238 98) (h 90 13) := by rw [show h238 96 = h 96 from E244, show h238 97 = h 97 from E245, show h238 98 = h 98 from E246]; exact ov_RD_refl _ _ _ _
                exact ov_retv (st := []) d_224_112 rfl ⟨rfl, I239, (by show (h238 90 2) = (h 90 2) ∧ (h238 90 20) = (h 90 20) ∧ (h238 90 22) = (h 90 22) ∧ (h238 90 25) = (h 90 25) ∧ (h238 90 26) = (h 90 26) ∧ (h238 90 28) = (h 90 28) ∧ (h238 90 29) = (h 90 29) ∧ (h238 90 30) = (h 90 30) ∧ (h238 90 34) = (h 90 34) ∧ (h 90 7) ≤ (h238 90 7) ∧ (h238 90 7) ≤ n ∧ (h 90 13) ≤ (h238 90 13) ∧ (h238 90 13) - (h 90 13) ≤ (h238 90 7) - (h 90 7) ∧ (h238 96 340) = (h 96 340) ∧ (h238 96 341) = (h 96 341) ∧ ((h238 90 8) = 0 → 1 ≤ (h 96 342) → 1 ≤ (h238 96 342)) ∧ (1 ≤ (h 96 349) → 1 ≤ (h238 96 349)); omega), E240, E241, E242, E243, E248, E249, E250, E251, E252, E253, R261.1, R261.2.1, (fun _ w => by show ov_CS (h238 96) (h238 97) (h238 98) (h238 90 13); rw [show (h238 90 13) = h 90 13 by omega]; exact R261.2.2 w)⟩
          · skip
            refine ov_blk (ls2 := [(0, ov_r 90), (1, ov_i (h 96 348)), (2, ov_i x2), (3, ov_i x3)]) (st2 := [ov_i x2]) (pc2 := 47) b_224_46_1 rfl rfl ?_
            refine ov_ifne (tgt := 69) d_224_47 (by decide) (by omega) (fun c262 => ?_) (fun c262 => ?_)
            · skip
              refine ov_blk (ls2 := [(0, ov_r 90), (1, ov_i (h 96 348)), (2, ov_i x2), (3, ov_i x3)]) (st2 := [ov_i 1]) (pc2 := 70) b_224_69_1 rfl rfl ?_
              refine ov_goto (tgt := 74) d_224_70 (by decide) ?_
              refine ov_blk (ls2 := [(0, ov_r 90), (1, ov_i (h 96 348)), (2, ov_i 1), (3, ov_i (x3 + 1))]) (st2 := []) (pc2 := 78) b_224_74_2 rfl rfl ?_
              refine ov_goto (tgt := 34) d_224_78 (by decide) ?_
              exact ih6 1 (x3 + 1) (by show (1 = 0 ∨ 1 = 1) ∧ 0 ≤ (x3 + 1) ∧ (x3 + 1) ≤ 4; omega) (by omega)
            · skip
              refine ov_blk (ls2 := [(0, ov_r 90), (1, ov_i (h 96 348)), (2, ov_i x2), (3, ov_i x3)]) (st2 := [ov_r 90]) (pc2 := 51) b_224_50_1 rfl rfl ?_
              refine ov_getf (v := ov_r 99) d_224_51 fl_Mo_90 (zb_90 I4) (zs_90 I4) (congrArg ov_r (rg_90_14 I4)) ?_
              refine ov_blk (ls2 := [(0, ov_r 90), (1, ov_i (h 96 348)), (2, ov_i x2), (3, ov_i x3)]) (st2 := [ov_i x3, ov_r 99]) (pc2 := 55) b_224_54_1 rfl rfl ?_
              refine ov_lald d_224_55 (zb_99 I4) (zs_99 I4) (by omega) ?_
              show ov_R u d ov_m224 56 [(0, ov_r 90), (1, ov_i (h 96 348)), (2, ov_i x2), (3, ov_i x3)] [ov_l (h 99 x3)] z (ov_up h 90 7 ((h 90 7) + 1)) (P_Mo_readRule_90 F z h n)
              refine ov_blk (ls2 := [(0, ov_r 90), (1, ov_i (h 96 348)), (2, ov_i x2), (3, ov_i x3)]) (st2 := [ov_r 90, ov_l (h 99 x3)]) (pc2 := 57) b_224_56_1 rfl rfl ?_
              refine ov_getf (v := ov_r 94) d_224_57 fl_Mo_30 (zb_90 I4) (zs_90 I4) (congrArg ov_r (rg_90_6 I4)) ?_
              refine ov_blk (ls2 := [(0, ov_r 90), (1, ov_i (h 96 348)), (2, ov_i x2), (3, ov_i x3)]) (st2 := [ov_r 90, ov_r 94, ov_l (h 99 x3)]) (pc2 := 61) b_224_60_1 rfl rfl ?_
              refine ov_getf (v := ov_i ((h 90 7) + 1)) d_224_61 fl_Mo_177 (zb_90 I4) (zs_90 I4) rfl ?_
              refine ov_lald d_224_64 (zb_94 I4) (zs_94 I4) (by omega) ?_
              show ov_R u d ov_m224 65 [(0, ov_r 90), (1, ov_i (h 96 348)), (2, ov_i x2), (3, ov_i x3)] [ov_l (h 94 ((h 90 7) + 1)), ov_l (h 99 x3)] z (ov_up h 90 7 ((h 90 7) + 1)) (P_Mo_readRule_90 F z h n)
              have g263 := ra_94 I ((h 90 7) + 1)
              refine ov_blk (ls2 := [(0, ov_r 90), (1, ov_i (h 96 348)), (2, ov_i x2), (3, ov_i x3)]) (st2 := [ov_i (ov_lcmp (h 99 x3) (h 94 ((h 90 7) + 1)))]) (pc2 := 66) b_224_65_1 rfl rfl ?_
              have g264 := ov_lcg (h 99 x3) (h 94 ((h 90 7) + 1))
              refine ov_ifne (tgt := 73) d_224_66 (by decide) (by omega) (fun c265 => ?_) (fun c265 => ?_)
              · skip
                refine ov_blk (ls2 := [(0, ov_r 90), (1, ov_i (h 96 348)), (2, ov_i 0), (3, ov_i (x3 + 1))]) (st2 := []) (pc2 := 78) b_224_73_3 rfl rfl ?_
                refine ov_goto (tgt := 34) d_224_78 (by decide) ?_
                exact ih6 0 (x3 + 1) (by show (0 = 0 ∨ 0 = 1) ∧ 0 ≤ (x3 + 1) ∧ (x3 + 1) ≤ 4; omega) (by omega)
              · skip
                refine ov_blk (ls2 := [(0, ov_r 90), (1, ov_i (h 96 348)), (2, ov_i x2), (3, ov_i x3)]) (st2 := [ov_i 1]) (pc2 := 70) b_224_69_1 rfl rfl ?_
                refine ov_goto (tgt := 74) d_224_70 (by decide) ?_
                refine ov_blk (ls2 := [(0, ov_r 90), (1, ov_i (h 96 348)), (2, ov_i 1), (3, ov_i (x3 + 1))]) (st2 := []) (pc2 := 78) b_224_74_2 rfl rfl ?_
                refine ov_goto (tgt := 34) d_224_78 (by decide) ?_
                exact ih6 1 (x3 + 1) (by show (1 = 0 ∨ 1 = 1) ∧ 0 ≤ (x3 + 1) ∧ (x3 + 1) ≤ 4; omega) (by omega)
    exact L8 5 0 0 (by show (0 = 0 ∨ 0 = 1) ∧ 0 ≤ 0 ∧ 0 ≤ 4; omega) (by omega)
  · skip
    refine ov_blk (ls2 := [(0, ov_r 90), (1, ov_i (h 96 348))]) (st2 := [ov_i 5, ov_r 90]) (pc2 := 16) b_224_14_2 rfl rfl ?_
    refine ov_cV (as := [ov_i 5]) (st := []) (d2 := d - 1) d_224_16 lk_Mo_186 rfl (Nat.le_of_ble_eq_true rfl) (c := 1) (zb_90 I) (zs_90 I) ⟨by decide, rfl⟩ (by omega) (c_Mo_wrong_90 (d - 1) (by omega) U I 5 (by omega) (by omega)) ?_
    rintro _ z281 h282 ⟨rfl, I283, f266, e267, e268, e269, e270, e271, e272, e273, e274, e275, e276, e277, e278, e279, e280⟩
    have E284 : h282 92 = h 92 := e267
    have E285 : h282 93 = h 93 := e268
    have E286 : h282 94 = h 94 := e269
    have E287 : h282 95 = h 95 := e270
    have E288 : h282 96 = h 96 := e271
    have E289 : h282 97 = h 97 := e272
    have E290 : h282 98 = h 98 := e273
    have E291 : h282 99 = h 99 := e274
    have E292 : h282 100 = h 100 := e275
    have E293 : h282 103 = h 103 := e276
    have E294 : h282 105 = h 105 := e277
    have E295 : h282 106 = h 106 := e278
    have E296 : h282 109 = h 109 := e279
    have E297 : h282 114 = h 114 := e280
    show ov_R u d ov_m224 19 [(0, ov_r 90), (1, ov_i (h 96 348))] [] z281 h282 (P_Mo_readRule_90 F z h n)
    have f298 : (h282 90 2) = (h 90 2) ∧ (h282 90 7) = (h 90 7) ∧ (h282 90 13) = (h 90 13) ∧ (h282 90 20) = (h 90 20) ∧ (h282 90 22) = (h 90 22) ∧ (h282 90 25) = (h 90 25) ∧ (h282 90 26) = (h 90 26) ∧ (h282 90 28) = (h 90 28) ∧ (h282 90 29) = (h 90 29) ∧ (h282 90 30) = (h 90 30) ∧ (h282 90 34) = (h 90 34) ∧ 0 < (h282 90 8) ∧ (h 90 8) ≤ (h282 90 8) := f266
    clear f266
    have cf299 : h282 96 340 = h 96 340 := congrFun E288 340
    have cf300 : h282 96 341 = h 96 341 := congrFun E288 341
    have cf301 : h282 96 342 = h 96 342 := congrFun E288 342
    have cf302 : h282 96 349 = h 96 349 := congrFun E288 349
    have R303 : ov_RD (h 96) (h 97) (h 98) (h 90 13) (h282 96) (h282 97) (h282 98) (h 90 13) := by rw [show h282 96 = h 96 from E288, show h282 97 = h 97 from E289, show h282 98 = h 98 from E290]; exact ov_RD_refl _ _ _ _
    exact ov_retv (st := []) d_224_19 rfl ⟨rfl, I283, (by show (h282 90 2) = (h 90 2) ∧ (h282 90 20) = (h 90 20) ∧ (h282 90 22) = (h 90 22) ∧ (h282 90 25) = (h 90 25) ∧ (h282 90 26) = (h 90 26) ∧ (h282 90 28) = (h 90 28) ∧ (h282 90 29) = (h 90 29) ∧ (h282 90 30) = (h 90 30) ∧ (h282 90 34) = (h 90 34) ∧ (h 90 7) ≤ (h282 90 7) ∧ (h282 90 7) ≤ n ∧ (h 90 13) ≤ (h282 90 13) ∧ (h282 90 13) - (h 90 13) ≤ (h282 90 7) - (h 90 7) ∧ (h282 96 340) = (h 96 340) ∧ (h282 96 341) = (h 96 341) ∧ ((h282 90 8) = 0 → 1 ≤ (h 96 342) → 1 ≤ (h282 96 342)) ∧ (1 ≤ (h 96 349) → 1 ≤ (h282 96 349)); omega), E284, E285, E286, E287, E292, E293, E294, E295, E296, E297, R303.1, R303.2.1, (fun _ w => by show ov_CS (h282 96) (h282 97) (h282 98) (h282 90 13); rw [show (h282 90 13) = h 90 13 by omega]; exact R303.2.2 w)⟩

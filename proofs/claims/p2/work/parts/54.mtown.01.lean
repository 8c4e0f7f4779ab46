abbrev P_Mo_readOnce_90 (F : ov_H × ov_Z) (z : ov_Z) (h : ov_H) (n : Int) : Option ov_V → ov_Z → ov_H → Prop := fun r0 z' h' => r0 = none ∧ ov_N F z' h' ∧ ((h 90 7) ≤ (h' 90 7) ∧ (h' 90 7) ≤ n ∧ (h 90 13) ≤ (h' 90 13) ∧ (h' 90 13) - (h 90 13) ≤ (h' 90 7) - (h 90 7) ∧ (h' 96 340) = (h 96 340) ∧ (h' 96 341) = (h 96 341) ∧ ((h' 90 8) = 0 → 1 ≤ (h 96 342) → 1 ≤ (h' 96 342)) ∧ (1 ≤ (h 96 349) → 1 ≤ (h' 96 349)) ∧ (h' 90 2) = (h 90 2) ∧ (h' 90 3) = (h 90 3) ∧ (h' 90 13) = (h 90 13) ∧ (h' 90 20) = (h 90 20) ∧ (h' 90 22) = (h 90 22) ∧ (h' 90 25) = (h 90 25) ∧ (h' 90 26) = (h 90 26) ∧ (h' 90 27) = (h 90 27) ∧ (h' 90 28) = (h 90 28) ∧ (h' 90 29) = (h 90 29) ∧ (h' 90 30) = (h 90 30) ∧ (h' 90 34) = (h 90 34) ∧ (h' 90 35) = (h 90 35) ∧ (h' 90 37) = (h 90 37)) ∧ h' 92 = h 92 ∧ h' 93 = h 93 ∧ h' 94 = h 94 ∧ h' 95 = h 95 ∧ h' 97 = h 97 ∧ h' 98 = h 98 ∧ h' 99 = h 99 ∧ h' 100 = h 100 ∧ h' 103 = h 103 ∧ h' 105 = h 105 ∧ h' 106 = h 106 ∧ h' 109 = h 109 ∧ h' 114 = h 114 ∧ (ov_MK (h 96) (h 97) (h 98) (h' 96) (h' 97) (h' 98)) ∧ (ov_WS (h 96) → ov_WS (h' 96)) ∧ ((h' 90 8) = 0 → ov_CS (h 96) (h 97) (h 98) (h 90 13) → ov_CS (h' 96) (h' 97) (h' 98) (h' 90 13))
set_option maxHeartbeats 4000000 in
theorem c_Mo_readOnce_90 {u : ov_U} {F : ov_H × ov_Z} (n : Int) {z : ov_Z} {h : ov_H} (d : Nat) (hd : 2 ≤ d) (U : ov_cap u) (I : ov_N F z h) (p0 : 0 ≤ n ∧ n ≤ 1000 ∧ (h 92 (n)) = 0 ∧ (h 90 7) ≤ n) (p1 : (h 90 13) ≤ (h 90 7)) (p2 : (h 90 8) = 0) (p3 : (h 90 7) < n) : ov_T u d ov_m233 [ov_r 90] z h (P_Mo_readOnce_90 F z h n) := by
  refine ov_en rfl (Nat.le_of_ble_eq_true rfl) ?_
  show ov_R u d ov_m233 0 [(0, ov_r 90)] [] z h (P_Mo_readOnce_90 F z h n)
  refine ov_blk (ls2 := [(0, ov_r 90)]) (st2 := [ov_i 5, ov_i 4, ov_r 90]) (pc2 := 3) b_233_0_3 rfl rfl ?_
  refine ov_cV (as := [ov_i 4, ov_i 5]) (st := []) (d2 := d - 1) d_233_3 lk_Mo_202 rfl (Nat.le_of_ble_eq_true rfl) (c := 1) (zb_90 I) (zs_90 I) ⟨by decide, rfl⟩ (by omega) (c_Mo_wordHere_90 n (d - 1) (by omega) U I 4 5 (by omega) (by omega) (by show 0 ≤ n ∧ n ≤ 1000 ∧ (h 92 (n)) = 0 ∧ (h 90 7) ≤ n; omega) (by omega)) ?_
  rintro _ _ _ ⟨v2, rfl, rfl, rfl, f1⟩
  show ov_R u d ov_m233 6 [(0, ov_r 90)] [ov_i v2] z h (P_Mo_readOnce_90 F z h n)
  have f3 : -1 ≤ v2 ∧ v2 < (5 : Int) ∧ (0 ≤ v2 → (h 90 7) < n ∧ (h 90 8) = 0) := f1
  clear f1
  refine ov_blk (ls2 := [(0, ov_r 90), (1, ov_i v2)]) (st2 := [ov_i v2]) (pc2 := 8) b_233_6_2 rfl rfl ?_
  refine ov_ifge (tgt := 19) d_233_8 (by decide) (by omega) (fun c4 => ?_) (fun c4 => ?_)
  · skip
    refine ov_blk (ls2 := [(0, ov_r 90), (1, ov_i v2)]) (st2 := [ov_r 90]) (pc2 := 20) b_233_19_1 rfl rfl ?_
    refine ov_getf (v := ov_i (h 90 15)) d_233_20 fl_Mo_211 (zb_90 I) (zs_90 I) rfl ?_
    have g5 := rg_90_15 I
    refine ov_blk (ls2 := [(0, ov_r 90), (1, ov_i v2)]) (st2 := [ov_i 1, ov_i (ov_and (ov_shr (h 90 15) v2) 1)]) (pc2 := 28) b_233_23_5 rfl rfl ?_
    have g6 := ov_shrg (h 90 15) v2
    have g7 := ov_andg (ov_shr (h 90 15) v2) 1
    have g8 := ov_and1 (ov_shr (h 90 15) v2)
    refine ov_icne (tgt := 36) d_233_28 (by decide) (by omega) (by omega) (fun c9 => ?_) (fun c9 => ?_)
    · skip
      refine ov_blk (ls2 := [(0, ov_r 90), (1, ov_i v2)]) (st2 := [ov_r 90]) (pc2 := 37) b_233_36_1 rfl rfl ?_
      refine ov_getf (v := ov_i (h 90 8)) d_233_37 fl_Mo_180 (zb_90 I) (zs_90 I) rfl ?_
      have g10 := rg_90_8 I
      refine ov_ifle (tgt := 44) d_233_40 (by decide) (by omega) (fun c11 => ?_) (fun c11 => ?_)
      · skip
        refine ov_blk (ls2 := [(0, ov_r 90), (1, ov_i v2)]) (st2 := [ov_r 90, ov_r 90]) (pc2 := 46) b_233_44_2 rfl rfl ?_
        refine ov_getf (v := ov_i (h 90 15)) d_233_46 fl_Mo_211 (zb_90 I) (zs_90 I) rfl ?_
        refine ov_blk (ls2 := [(0, ov_r 90), (1, ov_i v2)]) (st2 := [ov_i (ov_or (h 90 15) (ov_shl 1 v2)), ov_r 90]) (pc2 := 53) b_233_49_4 rfl rfl ?_
        have g13 := ov_shlg 1 v2
        have g14 := ov_org (h 90 15) (ov_shl 1 v2)
        refine ov_havw (fun w15 gw15 qw15 => ?_)
        refine ov_putf (x := w15) d_233_53 fl_Mo_211 (zb_90 I) (zs_90 I) rfl nk_0 rfl ?_
        have I16 := up_90_15 (x := w15) I (by omega)
        refine ov_blk (ls2 := [(0, ov_r 90), (1, ov_i v2)]) (st2 := [ov_r 90, ov_r 90]) (pc2 := 58) b_233_56_2 rfl rfl ?_
        refine ov_getf (v := ov_i (h 90 7)) d_233_58 fl_Mo_177 (zb_90 I16) (zs_90 I16) rfl ?_
        have g17 := rg_90_7 I
        refine ov_blk (ls2 := [(0, ov_r 90), (1, ov_i v2)]) (st2 := [ov_i ((h 90 7) + 1), ov_r 90]) (pc2 := 63) b_233_61_2 rfl rfl ?_
        refine ov_putf (x := ((h 90 7) + 1)) d_233_63 fl_Mo_177 (zb_90 I16) (zs_90 I16) rfl nk_0 rfl ?_
        have I18 := up_90_7 (x := ((h 90 7) + 1)) I16 (by omega)
        refine ov_blk (ls2 := [(0, ov_r 90), (1, ov_i v2)]) (st2 := [ov_r 90]) (pc2 := 67) b_233_66_1 rfl rfl ?_
        refine ov_getf (v := ov_r 96) d_233_67 fl_Mo_81 (zb_90 I18) (zs_90 I18) (congrArg ov_r (rg_90_10 I18)) ?_
        refine ov_blk (ls2 := [(0, ov_r 90), (1, ov_i v2)]) (st2 := [ov_i 4, ov_i v2, ov_i (342 + v2), ov_r 96]) (pc2 := 77) b_233_70_5 rfl rfl ?_
        refine ov_icne (tgt := 84) d_233_77 (by decide) (by omega) (by omega) (fun c19 => ?_) (fun c19 => ?_)
        · skip
          refine ov_blk (ls2 := [(0, ov_r 90), (1, ov_i v2)]) (st2 := [ov_i 3, ov_i v2, ov_i (342 + v2), ov_r 96]) (pc2 := 86) b_233_84_2 rfl rfl ?_
          refine ov_icne (tgt := 99) d_233_86 (by decide) (by omega) (by omega) (fun c20 => ?_) (fun c20 => ?_)
          · skip
            refine ov_blk (ls2 := [(0, ov_r 90), (1, ov_i v2)]) (st2 := [ov_i 30, ov_i 1, ov_r 90, ov_i (342 + v2), ov_r 96]) (pc2 := 103) b_233_99_3 rfl rfl ?_
            refine ov_cV (as := [ov_i 1, ov_i 30]) (st := [ov_i (342 + v2), ov_r 96]) (d2 := d - 1) d_233_103 lk_Mo_198 rfl (Nat.le_of_ble_eq_true rfl) (c := 1) (zb_90 I18) (zs_90 I18) ⟨by decide, rfl⟩ (by omega) (c_Mo_takeNumber_90 n (d - 1) (by omega) U I18 1 30 (by omega) (by omega) (by show 0 ≤ n ∧ n ≤ 1000 ∧ (h 92 (n)) = 0 ∧ ((h 90 7) + 1) ≤ n; omega)) ?_
            rintro _ z37 h38 ⟨v22, rfl, I39, f21, e23, e24, e25, e26, e27, e28, e29, e30, e31, e32, e33, e34, e35, e36⟩
            have E40 : h38 92 = h 92 := e23
            have E41 : h38 93 = h 93 := e24
            have E42 : h38 94 = h 94 := e25
            have E43 : h38 95 = h 95 := e26
            have E44 : h38 96 = h 96 := e27
            have E45 : h38 97 = h 97 := e28
            have E46 : h38 98 = h 98 := e29
            have E47 : h38 99 = h 99 := e30
            have E48 : h38 100 = h 100 := e31
            have E49 : h38 103 = h 103 := e32
            have E50 : h38 105 = h 105 := e33
            have E51 : h38 106 = h 106 := e34
            have E52 : h38 109 = h 109 := e35
            have E53 : h38 114 = h 114 := e36
            show ov_R u d ov_m233 106 [(0, ov_r 90), (1, ov_i v2)] [ov_i v22, ov_i (342 + v2), ov_r 96] z37 h38 (P_Mo_readOnce_90 F z h n)
            have f54 : ((h 90 7) + 1) ≤ (h38 90 7) ∧ (h38 90 7) ≤ n ∧ (0 < (h 90 8) → (h38 90 8) = (h 90 8)) ∧ ((h38 90 8) = 0 → (1 : Int) ≤ v22 ∧ v22 ≤ (30 : Int) ∧ ((h 90 7) + 1) < (h38 90 7)) ∧ (0 < (h38 90 8) → v22 = 0 ∧ (h38 90 7) = ((h 90 7) + 1)) ∧ (h38 90 2) = (h 90 2) ∧ (h38 90 3) = (h 90 3) ∧ (h38 90 13) = (h 90 13) ∧ (h38 90 20) = (h 90 20) ∧ (h38 90 22) = (h 90 22) ∧ (h38 90 25) = (h 90 25) ∧ (h38 90 26) = (h 90 26) ∧ (h38 90 27) = (h 90 27) ∧ (h38 90 28) = (h 90 28) ∧ (h38 90 29) = (h 90 29) ∧ (h38 90 30) = (h 90 30) ∧ (h38 90 34) = (h 90 34) ∧ (h38 90 35) = (h 90 35) ∧ (h38 90 37) = (h 90 37) := f21
            clear f21
            refine ov_iast d_233_106 (zb_96 I39) (zs_96 I39) (by omega) ?_
            have I55 := ua_96 (k := (342 + v2)) (x := v22) I39 (by refine ⟨?_, ?_, ?_, ?_, ?_, ?_, ?_, ?_, ?_, ?_, ?_, ?_, ?_, ?_, ?_, ?_, ?_, ?_, ?_, ?_, ?_, ?_, ?_, ?_, ?_, ?_, ?_, ?_, ?_⟩ <;> omega)
            have R56 : ov_RD (h 96) (h 97) (h 98) (h 90 13) (h38 96) (h38 97) (h38 98) (h 90 13) := by rw [show h38 96 = h 96 from E44, show h38 97 = h 97 from E45, show h38 98 = h 98 from E46]; exact ov_RD_refl _ _ _ _
            have R57 : ov_RD (h 96) (h 97) (h 98) (h 90 13) ((ov_up h38 96 (342 + v2) v22) 96) ((ov_up h38 96 (342 + v2) v22) 97) ((ov_up h38 96 (342 + v2) v22) 98) (h 90 13) := by rw [ov_up_row]; exact ov_RD_w R56 (t96_348 I39).2 (by omega)
            have qo1 : ((342 + v2)) = 342 → (ov_up h38 96 (342 + v2) v22) 96 342 = v22 := fun e => by show (if _ then _ else _) = _; rw [if_pos ⟨rfl, e.symm⟩]
            have qo2 : ¬ ((342 + v2)) = 342 → (ov_up h38 96 (342 + v2) v22) 96 342 = h38 96 342 := fun e => by rw [ov_up_j (fun q => e q.symm)]; rfl
            have lt58 : (ov_up h38 96 (342 + v2) v22) 96 340 = h38 96 340 := by rw [ov_up_j (by omega)]; rfl
            have lt59 : (ov_up h38 96 (342 + v2) v22) 96 341 = h38 96 341 := by rw [ov_up_j (by omega)]; rfl
            have lt60 : (ov_up h38 96 (342 + v2) v22) 96 348 = h38 96 348 := by rw [ov_up_j (by omega)]; rfl
            have lt61 : (ov_up h38 96 (342 + v2) v22) 96 349 = h38 96 349 := by rw [ov_up_j (by omega)]; rfl
            exact ov_retv (st := []) d_233_107 rfl ⟨rfl, I55, (by show (h 90 7) ≤ (h38 90 7) ∧ (h38 90 7) ≤ n ∧ (h 90 13) ≤ (h38 90 13) ∧ (h38 90 13) - (h 90 13) ≤ (h38 90 7) - (h 90 7) ∧ ((ov_up h38 96 (342 + v2) v22) 96 340) = (h 96 340) ∧ ((ov_up h38 96 (342 + v2) v22) 96 341) = (h 96 341) ∧ ((h38 90 8) = 0 → 1 ≤ (h 96 342) → 1 ≤ ((ov_up h38 96 (342 + v2) v22) 96 342)) ∧ (1 ≤ (h 96 349) → 1 ≤ ((ov_up h38 96 (342 + v2) v22) 96 349)) ∧ (h38 90 2) = (h 90 2) ∧ (h38 90 3) = (h 90 3) ∧ (h38 90 13) = (h 90 13) ∧ (h38 90 20) = (h 90 20) ∧ (h38 90 22) = (h 90 22) ∧ (h38 90 25) = (h 90 25) ∧ (h38 90 26) = (h 90 26) ∧ (h38 90 27) = (h 90 27) ∧ (h38 90 28) = (h 90 28) ∧ (h38 90 29) = (h 90 29) ∧ (h38 90 30) = (h 90 30) ∧ (h38 90 34) = (h 90 34) ∧ (h38 90 35) = (h 90 35) ∧ (h38 90 37) = (h 90 37); omega), E40, E41, E42, E43, E45, E46, E47, E48, E49, E50, E51, E52, E53, R57.1, R57.2.1, (fun _ w => by show ov_CS ((ov_up h38 96 (342 + v2) v22) 96) ((ov_up h38 96 (342 + v2) v22) 97) ((ov_up h38 96 (342 + v2) v22) 98) (h38 90 13); rw [show (h38 90 13) = h 90 13 by omega]; exact R57.2.2 w)⟩
          · skip
            refine ov_blk (ls2 := [(0, ov_r 90), (1, ov_i v2)]) (st2 := [ov_i 9, ov_i 0, ov_r 90, ov_i (342 + v2), ov_r 96]) (pc2 := 93) b_233_89_3 rfl rfl ?_
            refine ov_cV (as := [ov_i 0, ov_i 9]) (st := [ov_i (342 + v2), ov_r 96]) (d2 := d - 1) d_233_93 lk_Mo_198 rfl (Nat.le_of_ble_eq_true rfl) (c := 1) (zb_90 I18) (zs_90 I18) ⟨by decide, rfl⟩ (by omega) (c_Mo_takeNumber_90 n (d - 1) (by omega) U I18 0 9 (by omega) (by omega) (by show 0 ≤ n ∧ n ≤ 1000 ∧ (h 92 (n)) = 0 ∧ ((h 90 7) + 1) ≤ n; omega)) ?_
            rintro _ z78 h79 ⟨v63, rfl, I80, f62, e64, e65, e66, e67, e68, e69, e70, e71, e72, e73, e74, e75, e76, e77⟩
            have E81 : h79 92 = h 92 := e64
            have E82 : h79 93 = h 93 := e65
            have E83 : h79 94 = h 94 := e66
            have E84 : h79 95 = h 95 := e67
            have E85 : h79 96 = h 96 := e68
            have E86 : h79 97 = h 97 := e69
            have E87 : h79 98 = h 98 := e70
            have E88 : h79 99 = h 99 := e71
            have E89 : h79 100 = h 100 := e72
            have E90 : h79 103 = h 103 := e73
            have E91 : h79 105 = h 105 := e74
            have E92 : h79 106 = h 106 := e75
            have E93 : h79 109 = h 109 := e76
            have E94 : h79 114 = h 114 := e77
            show ov_R u d ov_m233 96 [(0, ov_r 90), (1, ov_i v2)] [ov_i v63, ov_i (342 + v2), ov_r 96] z78 h79 (P_Mo_readOnce_90 F z h n)
            have f95 : ((h 90 7) + 1) ≤ (h79 90 7) ∧ (h79 90 7) ≤ n ∧ (0 < (h 90 8) → (h79 90 8) = (h 90 8)) ∧ ((h79 90 8) = 0 → (0 : Int) ≤ v63 ∧ v63 ≤ (9 : Int) ∧ ((h 90 7) + 1) < (h79 90 7)) ∧ (0 < (h79 90 8) → v63 = 0 ∧ (h79 90 7) = ((h 90 7) + 1)) ∧ (h79 90 2) = (h 90 2) ∧ (h79 90 3) = (h 90 3) ∧ (h79 90 13) = (h 90 13) ∧ (h79 90 20) = (h 90 20) ∧ (h79 90 22) = (h 90 22) ∧ (h79 90 25) = (h 90 25) ∧ (h79 90 26) = (h 90 26) ∧ (h79 90 27) = (h 90 27) ∧ (h79 90 28) = (h 90 28) ∧ (h79 90 29) = (h 90 29) ∧ (h79 90 30) = (h 90 30) ∧ (h79 90 34) = (h 90 34) ∧ (h79 90 35) = (h 90 35) ∧ (h79 90 37) = (h 90 37) := f62
            clear f62
            refine ov_goto (tgt := 106) d_233_96 (by decide) ?_
            refine ov_iast d_233_106 (zb_96 I80) (zs_96 I80) (by omega) ?_
            have I96 := ua_96 (k := (342 + v2)) (x := v63) I80 (by refine ⟨?_, ?_, ?_, ?_, ?_, ?_, ?_, ?_, ?_, ?_, ?_, ?_, ?_, ?_, ?_, ?_, ?_, ?_, ?_, ?_, ?_, ?_, ?_, ?_, ?_, ?_, ?_, ?_, ?_⟩ <;> omega)
            have R97 : ov_RD (h 96) (h 97) (h 98) (h 90 13) (h79 96) (h79 97) (h79 98) (h 90 13) := by rw [show h79 96 = h 96 from E85, show h79 97 = h 97 from E86, show h79 98 = h 98 from E87]; exact ov_RD_refl _ _ _ _
            have R98 : ov_RD (h 96) (h 97) (h 98) (h 90 13) ((ov_up h79 96 (342 + v2) v63) 96) ((ov_up h79 96 (342 + v2) v63) 97) ((ov_up h79 96 (342 + v2) v63) 98) (h 90 13) := by rw [ov_up_row]; exact ov_RD_w R97 (t96_348 I80).2 (by omega)
            have qo1 : ((342 + v2)) = 342 → (ov_up h79 96 (342 + v2) v63) 96 342 = v63 := fun e => by show (if _ then _ else _) = _; rw [if_pos ⟨rfl, e.symm⟩]
            have qo2 : ¬ ((342 + v2)) = 342 → (ov_up h79 96 (342 + v2) v63) 96 342 = h79 96 342 := fun e => by rw [ov_up_j (fun q => e q.symm)]; rfl
            have lt99 : (ov_up h79 96 (342 + v2) v63) 96 340 = h79 96 340 := by rw [ov_up_j (by omega)]; rfl
            have lt100 : (ov_up h79 96 (342 + v2) v63) 96 341 = h79 96 341 := by rw [ov_up_j (by omega)]; rfl
            have lt101 : (ov_up h79 96 (342 + v2) v63) 96 348 = h79 96 348 := by rw [ov_up_j (by omega)]; rfl
            have lt102 : (ov_up h79 96 (342 + v2) v63) 96 349 = h79 96 349 := by rw [ov_up_j (by omega)]; rfl
            exact ov_retv (st := []) d_233_107 rfl ⟨rfl, I96, (by show (h 90 7) ≤ (h79 90 7) ∧ (h79 90 7) ≤ n ∧ (h 90 13) ≤ (h79 90 13) ∧ (h79 90 13) - (h 90 13) ≤ (h79 90 7) - (h 90 7) ∧ ((ov_up h79 96 (342 + v2) v63) 96 340) = (h 96 340) ∧ ((ov_up h79 96 (342 + v2) v63) 96 341) = (h 96 341) ∧ ((h79 90 8) = 0 → 1 ≤ (h 96 342) → 1 ≤ ((ov_up h79 96 (342 + v2) v63) 96 342)) ∧ (1 ≤ (h 96 349) → 1 ≤ ((ov_up h79 96 (342 + v2) v63) 96 349)) ∧ (h79 90 2) = (h 90 2) ∧ (h79 90 3) = (h 90 3) ∧ (h79 90 13) = (h 90 13) ∧ (h79 90 20) = (h 90 20) ∧ (h79 90 22) = (h 90 22) ∧ (h79 90 25) = (h 90 25) ∧ (h79 90 26) = (h 90 26) ∧ (h79 90 27) = (h 90 27) ∧ (h79 90 28) = (h 90 28) ∧ (h79 90 29) = (h 90 29) ∧ (h79 90 30) = (h 90 30) ∧ (h79 90 34) = (h 90 34) ∧ (h79 90 35) = (h 90 35) ∧ (h79 90 37) = (h 90 37); omega), E81, E82, E83, E84, E86, E87, E88, E89, E90, E91, E92, E93, E94, R98.1, R98.2.1, (fun _ w => by show ov_CS ((ov_up h79 96 (342 + v2) v63) 96) ((ov_up h79 96 (342 + v2) v63) 97) ((ov_up h79 96 (342 + v2) v63) 98) (h79 90 13); rw [show (h79 90 13) = h 90 13 by omega]; exact R98.2.2 w)⟩
        · skip
          refine ov_blk (ls2 := [(0, ov_r 90), (1, ov_i v2)]) (st2 := [ov_i 1, ov_i (342 + v2), ov_r 96]) (pc2 := 81) b_233_80_1 rfl rfl ?_
          refine ov_goto (tgt := 106) d_233_81 (by decide) ?_
          refine ov_iast d_233_106 (zb_96 I18) (zs_96 I18) (by omega) ?_
          have I103 := ua_96 (k := (342 + v2)) (x := 1) I18 (by refine ⟨?_, ?_, ?_, ?_, ?_, ?_, ?_, ?_, ?_, ?_, ?_, ?_, ?_, ?_, ?_, ?_, ?_, ?_, ?_, ?_, ?_, ?_, ?_, ?_, ?_, ?_, ?_, ?_, ?_⟩ <;> omega)
          have R104 : ov_RD (h 96) (h 97) (h 98) (h 90 13) ((ov_up (ov_up h 90 15 w15) 90 7 ((h 90 7) + 1)) 96) ((ov_up (ov_up h 90 15 w15) 90 7 ((h 90 7) + 1)) 97) ((ov_up (ov_up h 90 15 w15) 90 7 ((h 90 7) + 1)) 98) (h 90 13) := by exact ov_RD_refl _ _ _ _
          have R105 : ov_RD (h 96) (h 97) (h 98) (h 90 13) ((ov_up (ov_up (ov_up h 90 15 w15) 90 7 ((h 90 7) + 1)) 96 (342 + v2) 1) 96) ((ov_up (ov_up (ov_up h 90 15 w15) 90 7 ((h 90 7) + 1)) 96 (342 + v2) 1) 97) ((ov_up (ov_up (ov_up h 90 15 w15) 90 7 ((h 90 7) + 1)) 96 (342 + v2) 1) 98) (h 90 13) := by rw [ov_up_row]; exact ov_RD_w R104 (t96_348 I18).2 (by omega)
          have qo1 : ((342 + v2)) = 342 → (ov_up (ov_up (ov_up h 90 15 w15) 90 7 ((h 90 7) + 1)) 96 (342 + v2) 1) 96 342 = 1 := fun e => by show (if _ then _ else _) = _; rw [if_pos ⟨rfl, e.symm⟩]
          have qo2 : ¬ ((342 + v2)) = 342 → (ov_up (ov_up (ov_up h 90 15 w15) 90 7 ((h 90 7) + 1)) 96 (342 + v2) 1) 96 342 = h 96 342 := fun e => by rw [ov_up_j (fun q => e q.symm)]; rfl
          have lt106 : (ov_up (ov_up (ov_up h 90 15 w15) 90 7 ((h 90 7) + 1)) 96 (342 + v2) 1) 96 340 = h 96 340 := by rw [ov_up_j (by omega)]; show (ov_up h 90 15 w15) 96 340 = _; show h 96 340 = _; rfl
          have lt107 : (ov_up (ov_up (ov_up h 90 15 w15) 90 7 ((h 90 7) + 1)) 96 (342 + v2) 1) 96 341 = h 96 341 := by rw [ov_up_j (by omega)]; show (ov_up h 90 15 w15) 96 341 = _; show h 96 341 = _; rfl
          have lt108 : (ov_up (ov_up (ov_up h 90 15 w15) 90 7 ((h 90 7) + 1)) 96 (342 + v2) 1) 96 348 = h 96 348 := by rw [ov_up_j (by omega)]; show (ov_up h 90 15 w15) 96 348 = _; show h 96 348 = _; rfl
          have lt109 : (ov_up (ov_up (ov_up h 90 15 w15) 90 7 ((h 90 7) + 1)) 96 (342 + v2) 1) 96 349 = h 96 349 := by rw [ov_up_j (by omega)]; show (ov_up h 90 15 w15) 96 349 = _; show h 96 349 = _; rfl
          exact ov_retv (st := []) d_233_107 rfl ⟨rfl, I103, (by show (h 90 7) ≤ ((h 90 7) + 1) ∧ ((h 90 7) + 1) ≤ n ∧ (h 90 13) ≤ (h 90 13) ∧ (h 90 13) - (h 90 13) ≤ ((h 90 7) + 1) - (h 90 7) ∧ ((ov_up (ov_up (ov_up h 90 15 w15) 90 7 ((h 90 7) + 1)) 96 (342 + v2) 1) 96 340) = (h 96 340) ∧ ((ov_up (ov_up (ov_up h 90 15 w15) 90 7 ((h 90 7) + 1)) 96 (342 + v2) 1) 96 341) = (h 96 341) ∧ ((h 90 8) = 0 → 1 ≤ (h 96 342) → 1 ≤ ((ov_up (ov_up (ov_up h 90 15 w15) 90 7 ((h 90 7) + 1)) 96 (342 + v2) 1) 96 342)) ∧ (1 ≤ (h 96 349) → 1 ≤ ((ov_up (ov_up (ov_up h 90 15 w15) 90 7 ((h 90 7) + 1)) 96 (342 + v2) 1) 96 349)) ∧ (h 90 2) = (h 90 2) ∧ (h 90 3) = (h 90 3) ∧ (h 90 13) = (h 90 13) ∧ (h 90 20) = (h 90 20) ∧ (h 90 22) = (h 90 22) ∧ (h 90 25) = (h 90 25) ∧ (h 90 26) = (h 90 26) ∧ (h 90 27) = (h 90 27) ∧ (h 90 28) = (h 90 28) ∧ (h 90 29) = (h 90 29) ∧ (h 90 30) = (h 90 30) ∧ (h 90 34) = (h 90 34) ∧ (h 90 35) = (h 90 35) ∧ (h 90 37) = (h 90 37); omega), rfl, rfl, rfl, rfl, rfl, rfl, rfl, rfl, rfl, rfl, rfl, rfl, rfl, R105.1, R105.2.1, (fun _ w => by show ov_CS ((ov_up (ov_up (ov_up h 90 15 w15) 90 7 ((h 90 7) + 1)) 96 (342 + v2) 1) 96) ((ov_up (ov_up (ov_up h 90 15 w15) 90 7 ((h 90 7) + 1)) 96 (342 + v2) 1) 97) ((ov_up (ov_up (ov_up h 90 15 w15) 90 7 ((h 90 7) + 1)) 96 (342 + v2) 1) 98) (h 90 13); rw [show (h 90 13) = h 90 13 by omega]; exact R105.2.2 w)⟩
      · skip
        have R110 : ov_RD (h 96) (h 97) (h 98) (h 90 13) (h 96) (h 97) (h 98) (h 90 13) := by exact ov_RD_refl _ _ _ _
        exact ov_retv (st := []) d_233_43 rfl ⟨rfl, I, (by show (h 90 7) ≤ (h 90 7) ∧ (h 90 7) ≤ n ∧ (h 90 13) ≤ (h 90 13) ∧ (h 90 13) - (h 90 13) ≤ (h 90 7) - (h 90 7) ∧ (h 96 340) = (h 96 340) ∧ (h 96 341) = (h 96 341) ∧ ((h 90 8) = 0 → 1 ≤ (h 96 342) → 1 ≤ (h 96 342)) ∧ (1 ≤ (h 96 349) → 1 ≤ (h 96 349)) ∧ (h 90 2) = (h 90 2) ∧ (h 90 3) = (h 90 3) ∧ (h 90 13) = (h 90 13) ∧ (h 90 20) = (h 90 20) ∧ (h 90 22) = (h 90 22) ∧ (h 90 25) = (h 90 25) ∧ (h 90 26) = (h 90 26) ∧ (h 90 27) = (h 90 27) ∧ (h 90 28) = (h 90 28) ∧ (h 90 29) = (h 90 29) ∧ (h 90 30) = (h 90 30) ∧ (h 90 34) = (h 90 34) ∧ (h 90 35) = (h 90 35) ∧ (h 90 37) = (h 90 37); omega), rfl, rfl, rfl, rfl, rfl, rfl, rfl, rfl, rfl, rfl, rfl, rfl, rfl, R110.1, R110.2.1, (fun _ w => by show ov_CS (h 96) (h 97) (h 98) (h 90 13); rw [show (h 90 13) = h 90 13 by omega]; exact R110.2.2 w)⟩
    · skip
      refine ov_blk (ls2 := [(0, ov_r 90), (1, ov_i v2)]) (st2 := [ov_i 3, ov_r 90]) (pc2 := 33) b_233_31_2 rfl rfl ?_
      refine ov_cV (as := [ov_i 3]) (st := []) (d2 := d - 1) d_233_33 lk_Mo_186 rfl (Nat.le_of_ble_eq_true rfl) (c := 1) (zb_90 I) (zs_90 I) ⟨by decide, rfl⟩ (by omega) (c_Mo_wrong_90 (d - 1) (by omega) U I 3 (by omega) (by omega)) ?_
      rintro _ z126 h127 ⟨rfl, I128, f111, e112, e113, e114, e115, e116, e117, e118, e119, e120, e121, e122, e123, e124, e125⟩
      have E129 : h127 92 = h 92 := e112
      have E130 : h127 93 = h 93 := e113
      have E131 : h127 94 = h 94 := e114
      have E132 : h127 95 = h 95 := e115
      have E133 : h127 96 = h 96 := e116
      have E134 : h127 97 = h 97 := e117
      have E135 : h127 98 = h 98 := e118
      have E136 : h127 99 = h 99 := e119
      have E137 : h127 100 = h 100 := e120
      have E138 : h127 103 = h 103 := e121
      have E139 : h127 105 = h 105 := e122
      have E140 : h127 106 = h 106 := e123
      have E141 : h127 109 = h 109 := e124
      have E142 : h127 114 = h 114 := e125
      show ov_R u d ov_m233 36 [(0, ov_r 90), (1, ov_i v2)] [] z126 h127 (P_Mo_readOnce_90 F z h n)
      have f143 : 0 < (h127 90 8) ∧ (0 < (h 90 8) → (h127 90 8) = (h 90 8)) ∧ (h127 90 2) = (h 90 2) ∧ (h127 90 3) = (h 90 3) ∧ (h127 90 7) = (h 90 7) ∧ (h127 90 13) = (h 90 13) ∧ (h127 90 20) = (h 90 20) ∧ (h127 90 22) = (h 90 22) ∧ (h127 90 25) = (h 90 25) ∧ (h127 90 26) = (h 90 26) ∧ (h127 90 27) = (h 90 27) ∧ (h127 90 28) = (h 90 28) ∧ (h127 90 29) = (h 90 29) ∧ (h127 90 30) = (h 90 30) ∧ (h127 90 34) = (h 90 34) ∧ (h127 90 35) = (h 90 35) ∧ (h127 90 37) = (h 90 37) := f111
      clear f111
      refine ov_blk (ls2 := [(0, ov_r 90), (1, ov_i v2)]) (st2 := [ov_r 90]) (pc2 := 37) b_233_36_1 rfl rfl ?_
      refine ov_getf (v := ov_i (h127 90 8)) d_233_37 fl_Mo_180 (zb_90 I128) (zs_90 I128) rfl ?_
      have g144 := rg_90_8 I128
      refine ov_ifle (tgt := 44) d_233_40 (by decide) (by omega) (fun c145 => ?_) (fun c145 => ?_)
      · omega
      · skip
        have R146 : ov_RD (h 96) (h 97) (h 98) (h 90 13) (h127 96) (h127 97) (h127 98) (h 90 13) := by rw [show h127 96 = h 96 from E133, show h127 97 = h 97 from E134, show h127 98 = h 98 from E135]; exact ov_RD_refl _ _ _ _
        exact ov_retv (st := []) d_233_43 rfl ⟨rfl, I128, (by show (h 90 7) ≤ (h127 90 7) ∧ (h127 90 7) ≤ n ∧ (h 90 13) ≤ (h127 90 13) ∧ (h127 90 13) - (h 90 13) ≤ (h127 90 7) - (h 90 7) ∧ (h 96 340) = (h 96 340) ∧ (h 96 341) = (h 96 341) ∧ ((h127 90 8) = 0 → 1 ≤ (h 96 342) → 1 ≤ (h 96 342)) ∧ (1 ≤ (h 96 349) → 1 ≤ (h 96 349)) ∧ (h127 90 2) = (h 90 2) ∧ (h127 90 3) = (h 90 3) ∧ (h127 90 13) = (h 90 13) ∧ (h127 90 20) = (h 90 20) ∧ (h127 90 22) = (h 90 22) ∧ (h127 90 25) = (h 90 25) ∧ (h127 90 26) = (h 90 26) ∧ (h127 90 27) = (h 90 27) ∧ (h127 90 28) = (h 90 28) ∧ (h127 90 29) = (h 90 29) ∧ (h127 90 30) = (h 90 30) ∧ (h127 90 34) = (h 90 34) ∧ (h127 90 35) = (h 90 35) ∧ (h127 90 37) = (h 90 37); omega), E129, E130, E131, E132, E134, E135, E136, E137, E138, E139, E140, E141, E142, R146.1, R146.2.1, (fun _ w => by show ov_CS (h127 96) (h127 97) (h127 98) (h127 90 13); rw [show (h127 90 13) = h 90 13 by omega]; exact R146.2.2 w)⟩
  · skip
    refine ov_blk (ls2 := [(0, ov_r 90), (1, ov_i v2)]) (st2 := [ov_i 1, ov_r 90]) (pc2 := 13) b_233_11_2 rfl rfl ?_
    refine ov_cV (as := [ov_i 1]) (st := []) (d2 := d - 1) d_233_13 lk_Mo_186 rfl (Nat.le_of_ble_eq_true rfl) (c := 1) (zb_90 I) (zs_90 I) ⟨by decide, rfl⟩ (by omega) (c_Mo_wrong_90 (d - 1) (by omega) U I 1 (by omega) (by omega)) ?_
    rintro _ z162 h163 ⟨rfl, I164, f147, e148, e149, e150, e151, e152, e153, e154, e155, e156, e157, e158, e159, e160, e161⟩
    have E165 : h163 92 = h 92 := e148
    have E166 : h163 93 = h 93 := e149
    have E167 : h163 94 = h 94 := e150
    have E168 : h163 95 = h 95 := e151
    have E169 : h163 96 = h 96 := e152
    have E170 : h163 97 = h 97 := e153
    have E171 : h163 98 = h 98 := e154
    have E172 : h163 99 = h 99 := e155
    have E173 : h163 100 = h 100 := e156
    have E174 : h163 103 = h 103 := e157
    have E175 : h163 105 = h 105 := e158
    have E176 : h163 106 = h 106 := e159
    have E177 : h163 109 = h 109 := e160
    have E178 : h163 114 = h 114 := e161
    show ov_R u d ov_m233 16 [(0, ov_r 90), (1, ov_i v2)] [] z162 h163 (P_Mo_readOnce_90 F z h n)
    have f179 : 0 < (h163 90 8) ∧ (0 < (h 90 8) → (h163 90 8) = (h 90 8)) ∧ (h163 90 2) = (h 90 2) ∧ (h163 90 3) = (h 90 3) ∧ (h163 90 7) = (h 90 7) ∧ (h163 90 13) = (h 90 13) ∧ (h163 90 20) = (h 90 20) ∧ (h163 90 22) = (h 90 22) ∧ (h163 90 25) = (h 90 25) ∧ (h163 90 26) = (h 90 26) ∧ (h163 90 27) = (h 90 27) ∧ (h163 90 28) = (h 90 28) ∧ (h163 90 29) = (h 90 29) ∧ (h163 90 30) = (h 90 30) ∧ (h163 90 34) = (h 90 34) ∧ (h163 90 35) = (h 90 35) ∧ (h163 90 37) = (h 90 37) := f147
    clear f147
    refine ov_goto (tgt := 36) d_233_16 (by decide) ?_
    refine ov_blk (ls2 := [(0, ov_r 90), (1, ov_i v2)]) (st2 := [ov_r 90]) (pc2 := 37) b_233_36_1 rfl rfl ?_
    refine ov_getf (v := ov_i (h163 90 8)) d_233_37 fl_Mo_180 (zb_90 I164) (zs_90 I164) rfl ?_
    have g180 := rg_90_8 I164
    refine ov_ifle (tgt := 44) d_233_40 (by decide) (by omega) (fun c181 => ?_) (fun c181 => ?_)
    · omega
    · skip
      have R182 : ov_RD (h 96) (h 97) (h 98) (h 90 13) (h163 96) (h163 97) (h163 98) (h 90 13) := by rw [show h163 96 = h 96 from E169, show h163 97 = h 97 from E170, show h163 98 = h 98 from E171]; exact ov_RD_refl _ _ _ _
      exact ov_retv (st := []) d_233_43 rfl ⟨rfl, I164, (by show (h 90 7) ≤ (h163 90 7) ∧ (h163 90 7) ≤ n ∧ (h 90 13) ≤ (h163 90 13) ∧ (h163 90 13) - (h 90 13) ≤ (h163 90 7) - (h 90 7) ∧ (h 96 340) = (h 96 340) ∧ (h 96 341) = (h 96 341) ∧ ((h163 90 8) = 0 → 1 ≤ (h 96 342) → 1 ≤ (h 96 342)) ∧ (1 ≤ (h 96 349) → 1 ≤ (h 96 349)) ∧ (h163 90 2) = (h 90 2) ∧ (h163 90 3) = (h 90 3) ∧ (h163 90 13) = (h 90 13) ∧ (h163 90 20) = (h 90 20) ∧ (h163 90 22) = (h 90 22) ∧ (h163 90 25) = (h 90 25) ∧ (h163 90 26) = (h 90 26) ∧ (h163 90 27) = (h 90 27) ∧ (h163 90 28) = (h 90 28) ∧ (h163 90 29) = (h 90 29) ∧ (h163 90 30) = (h 90 30) ∧ (h163 90 34) = (h 90 34) ∧ (h163 90 35) = (h 90 35) ∧ (h163 90 37) = (h 90 37); omega), E165, E166, E167, E168, E170, E171, E172, E173, E174, E175, E176, E177, E178, R182.1, R182.2.1, (fun _ w => by show ov_CS (h163 96) (h163 97) (h163 98) (h163 90 13); rw [show (h163 90 13) = h 90 13 by omega]; exact R182.2.2 w)⟩
abbrev P_Mo_readBar_90 (F : ov_H × ov_Z) (z : ov_Z) (h : ov_H) (n : Int) : Option ov_V → ov_Z → ov_H → Prop := fun r0 z' h' => r0 = none ∧ ov_N F z' h' ∧ ((h 90 7) ≤ (h' 90 7) ∧ (h' 90 7) ≤ n ∧ (h 90 13) ≤ (h' 90 13) ∧ (h' 90 13) - (h 90 13) ≤ (h' 90 7) - (h 90 7) ∧ (h' 96 340) = (h 96 340) ∧ (h' 96 341) = (h 96 341) ∧ ((h' 90 8) = 0 → 1 ≤ (h 96 342) → 1 ≤ (h' 96 342)) ∧ (1 ≤ (h 96 349) → 1 ≤ (h' 96 349)) ∧ (h' 90 2) = (h 90 2) ∧ (h' 90 3) = (h 90 3) ∧ (h' 90 13) = (h 90 13) ∧ (h' 90 20) = (h 90 20) ∧ (h' 90 22) = (h 90 22) ∧ (h' 90 25) = (h 90 25) ∧ (h' 90 26) = (h 90 26) ∧ (h' 90 27) = (h 90 27) ∧ (h' 90 28) = (h 90 28) ∧ (h' 90 29) = (h 90 29) ∧ (h' 90 30) = (h 90 30) ∧ (h' 90 34) = (h 90 34) ∧ (h' 90 35) = (h 90 35) ∧ (h' 90 37) = (h 90 37)) ∧ h' 92 = h 92 ∧ h' 93 = h 93 ∧ h' 94 = h 94 ∧ h' 95 = h 95 ∧ h' 97 = h 97 ∧ h' 98 = h 98 ∧ h' 99 = h 99 ∧ h' 100 = h 100 ∧ h' 103 = h 103 ∧ h' 105 = h 105 ∧ h' 106 = h 106 ∧ h' 109 = h 109 ∧ h' 114 = h 114 ∧ (ov_MK (h 96) (h 97) (h 98) (h' 96) (h' 97) (h' 98)) ∧ (ov_WS (h 96) → ov_WS (h' 96)) ∧ ((h' 90 8) = 0 → ov_CS (h 96) (h 97) (h 98) (h 90 13) → ov_CS (h' 96) (h' 97) (h' 98) (h' 90 13))
set_option maxHeartbeats 4000000 in
theorem c_Mo_readBar_90 {u : ov_U} {F : ov_H × ov_Z} (n : Int) {z : ov_Z} {h : ov_H} (d : Nat) (hd : 2 ≤ d) (U : ov_cap u) (I : ov_N F z h) (p0 : 0 ≤ n ∧ n ≤ 1000 ∧ (h 92 (n)) = 0 ∧ (h 90 7) ≤ n) (p1 : (h 90 13) ≤ (h 90 7)) (p2 : (h 90 8) = 0) (p3 : (h 90 7) < n) : ov_T u d ov_m223 [ov_r 90] z h (P_Mo_readBar_90 F z h n) := by
  refine ov_en rfl (Nat.le_of_ble_eq_true rfl) ?_
  show ov_R u d ov_m223 0 [(0, ov_r 90)] [] z h (P_Mo_readBar_90 F z h n)
  refine ov_blk (ls2 := [(0, ov_r 90)]) (st2 := [ov_r 90, ov_r 90]) (pc2 := 2) b_223_0_2 rfl rfl ?_
  refine ov_getf (v := ov_i (h 90 7)) d_223_2 fl_Mo_177 (zb_90 I) (zs_90 I) rfl ?_
  have g1 := rg_90_7 I
  refine ov_blk (ls2 := [(0, ov_r 90)]) (st2 := [ov_i ((h 90 7) + 1), ov_r 90]) (pc2 := 7) b_223_5_2 rfl rfl ?_
  refine ov_putf (x := ((h 90 7) + 1)) d_223_7 fl_Mo_177 (zb_90 I) (zs_90 I) rfl nk_0 rfl ?_
  have I2 := up_90_7 (x := ((h 90 7) + 1)) I (by omega)
  refine ov_blk (ls2 := [(0, ov_r 90)]) (st2 := [ov_r 90, ov_i 0, ov_r 90]) (pc2 := 13) b_223_10_3 rfl rfl ?_
  refine ov_getf (v := ov_r 96) d_223_13 fl_Mo_81 (zb_90 I2) (zs_90 I2) (congrArg ov_r (rg_90_10 I2)) ?_
  refine ov_blk (ls2 := [(0, ov_r 90)]) (st2 := [ov_i 340, ov_r 96, ov_i 0, ov_r 90]) (pc2 := 19) b_223_16_1 rfl rfl ?_
  refine ov_iald d_223_19 (zb_96 I2) (zs_96 I2) (by omega) ?_
  show ov_R u d ov_m223 20 [(0, ov_r 90)] [ov_i (h 96 340), ov_i 0, ov_r 90] z (ov_up h 90 7 ((h 90 7) + 1)) (P_Mo_readBar_90 F z h n)
  have g3 := t96_340 I
  refine ov_blk (ls2 := [(0, ov_r 90)]) (st2 := [ov_i ((h 96 340) - 1), ov_i 0, ov_r 90]) (pc2 := 22) b_223_20_2 rfl rfl ?_
  refine ov_cV (as := [ov_i 0, ov_i ((h 96 340) - 1)]) (st := []) (d2 := d - 1) d_223_22 lk_Mo_198 rfl (Nat.le_of_ble_eq_true rfl) (c := 1) (zb_90 I2) (zs_90 I2) ⟨by decide, rfl⟩ (by omega) (c_Mo_takeNumber_90 n (d - 1) (by omega) U I2 0 ((h 96 340) - 1) (by omega) (by omega) (by show 0 ≤ n ∧ n ≤ 1000 ∧ (h 92 (n)) = 0 ∧ ((h 90 7) + 1) ≤ n; omega)) ?_
  rintro _ z20 h21 ⟨v5, rfl, I22, f4, e6, e7, e8, e9, e10, e11, e12, e13, e14, e15, e16, e17, e18, e19⟩
  have E23 : h21 92 = h 92 := e6
  have E24 : h21 93 = h 93 := e7
  have E25 : h21 94 = h 94 := e8
  have E26 : h21 95 = h 95 := e9
  have E27 : h21 96 = h 96 := e10
  have E28 : h21 97 = h 97 := e11
  have E29 : h21 98 = h 98 := e12
  have E30 : h21 99 = h 99 := e13
  have E31 : h21 100 = h 100 := e14
  have E32 : h21 103 = h 103 := e15
  have E33 : h21 105 = h 105 := e16
  have E34 : h21 106 = h 106 := e17
  have E35 : h21 109 = h 109 := e18
  have E36 : h21 114 = h 114 := e19
  show ov_R u d ov_m223 25 [(0, ov_r 90)] [ov_i v5] z20 h21 (P_Mo_readBar_90 F z h n)
  have f37 : ((h 90 7) + 1) ≤ (h21 90 7) ∧ (h21 90 7) ≤ n ∧ (0 < (h 90 8) → (h21 90 8) = (h 90 8)) ∧ ((h21 90 8) = 0 → (0 : Int) ≤ v5 ∧ v5 ≤ ((h 96 340) - 1) ∧ ((h 90 7) + 1) < (h21 90 7)) ∧ (0 < (h21 90 8) → v5 = 0 ∧ (h21 90 7) = ((h 90 7) + 1)) ∧ (h21 90 2) = (h 90 2) ∧ (h21 90 3) = (h 90 3) ∧ (h21 90 13) = (h 90 13) ∧ (h21 90 20) = (h 90 20) ∧ (h21 90 22) = (h 90 22) ∧ (h21 90 25) = (h 90 25) ∧ (h21 90 26) = (h 90 26) ∧ (h21 90 27) = (h 90 27) ∧ (h21 90 28) = (h 90 28) ∧ (h21 90 29) = (h 90 29) ∧ (h21 90 30) = (h 90 30) ∧ (h21 90 34) = (h 90 34) ∧ (h21 90 35) = (h 90 35) ∧ (h21 90 37) = (h 90 37) := f4
  clear f4
  refine ov_blk (ls2 := [(0, ov_r 90), (1, ov_i v5)]) (st2 := [ov_r 90, ov_i 0, ov_r 90]) (pc2 := 29) b_223_25_4 rfl rfl ?_
  refine ov_getf (v := ov_r 96) d_223_29 fl_Mo_81 (zb_90 I22) (zs_90 I22) (congrArg ov_r (rg_90_10 I22)) ?_
  refine ov_blk (ls2 := [(0, ov_r 90), (1, ov_i v5)]) (st2 := [ov_i 341, ov_r 96, ov_i 0, ov_r 90]) (pc2 := 35) b_223_32_1 rfl rfl ?_
  refine ov_iald d_223_35 (zb_96 I22) (zs_96 I22) (by omega) ?_
  rw [show h21 96 = h 96 from E27]
  have g38 := t96_341 I
  refine ov_blk (ls2 := [(0, ov_r 90), (1, ov_i v5)]) (st2 := [ov_i ((h 96 341) - 1), ov_i 0, ov_r 90]) (pc2 := 38) b_223_36_2 rfl rfl ?_
  have cf39 : h21 92 (n) = h 92 (n) := congrFun E23 (n)
  refine ov_cV (as := [ov_i 0, ov_i ((h 96 341) - 1)]) (st := []) (d2 := d - 1) d_223_38 lk_Mo_198 rfl (Nat.le_of_ble_eq_true rfl) (c := 1) (zb_90 I22) (zs_90 I22) ⟨by decide, rfl⟩ (by omega) (c_Mo_takeNumber_90 n (d - 1) (by omega) U I22 0 ((h 96 341) - 1) (by omega) (by omega) (by show 0 ≤ n ∧ n ≤ 1000 ∧ (h21 92 (n)) = 0 ∧ (h21 90 7) ≤ n; omega)) ?_
  rintro _ z56 h57 ⟨v41, rfl, I58, f40, e42, e43, e44, e45, e46, e47, e48, e49, e50, e51, e52, e53, e54, e55⟩
  have E59 : h57 92 = h 92 := Eq.trans e42 E23
  have E60 : h57 93 = h 93 := Eq.trans e43 E24
  have E61 : h57 94 = h 94 := Eq.trans e44 E25
  have E62 : h57 95 = h 95 := Eq.trans e45 E26
  have E63 : h57 96 = h 96 := Eq.trans e46 E27
  have E64 : h57 97 = h 97 := Eq.trans e47 E28
  have E65 : h57 98 = h 98 := Eq.trans e48 E29
  have E66 : h57 99 = h 99 := Eq.trans e49 E30
  have E67 : h57 100 = h 100 := Eq.trans e50 E31
  have E68 : h57 103 = h 103 := Eq.trans e51 E32
  have E69 : h57 105 = h 105 := Eq.trans e52 E33
  have E70 : h57 106 = h 106 := Eq.trans e53 E34
  have E71 : h57 109 = h 109 := Eq.trans e54 E35
  have E72 : h57 114 = h 114 := Eq.trans e55 E36
  show ov_R u d ov_m223 41 [(0, ov_r 90), (1, ov_i v5)] [ov_i v41] z56 h57 (P_Mo_readBar_90 F z h n)
  have f73 : (h21 90 7) ≤ (h57 90 7) ∧ (h57 90 7) ≤ n ∧ (0 < (h21 90 8) → (h57 90 8) = (h21 90 8)) ∧ ((h57 90 8) = 0 → (0 : Int) ≤ v41 ∧ v41 ≤ ((h 96 341) - 1) ∧ (h21 90 7) < (h57 90 7)) ∧ (0 < (h57 90 8) → v41 = 0 ∧ (h57 90 7) = (h21 90 7)) ∧ (h57 90 2) = (h21 90 2) ∧ (h57 90 3) = (h21 90 3) ∧ (h57 90 13) = (h21 90 13) ∧ (h57 90 20) = (h21 90 20) ∧ (h57 90 22) = (h21 90 22) ∧ (h57 90 25) = (h21 90 25) ∧ (h57 90 26) = (h21 90 26) ∧ (h57 90 27) = (h21 90 27) ∧ (h57 90 28) = (h21 90 28) ∧ (h57 90 29) = (h21 90 29) ∧ (h57 90 30) = (h21 90 30) ∧ (h57 90 34) = (h21 90 34) ∧ (h57 90 35) = (h21 90 35) ∧ (h57 90 37) = (h21 90 37) := f40
  clear f40
  refine ov_blk (ls2 := [(0, ov_r 90), (1, ov_i v5), (2, ov_i v41)]) (st2 := [ov_r 90]) (pc2 := 43) b_223_41_2 rfl rfl ?_
  refine ov_getf (v := ov_i (h57 90 8)) d_223_43 fl_Mo_180 (zb_90 I58) (zs_90 I58) rfl ?_
  have g74 := rg_90_8 I58
  refine ov_ifle (tgt := 53) d_223_46 (by decide) (by omega) (fun c75 => ?_) (fun c75 => ?_)
  · skip
    refine ov_blk (ls2 := [(0, ov_r 90), (1, ov_i v5), (2, ov_i v41)]) (st2 := [ov_i 2, ov_i 10, ov_r 90]) (pc2 := 57) b_223_53_3 rfl rfl ?_
    have cf76 : h57 92 (n) = h 92 (n) := congrFun E59 (n)
    refine ov_cV (as := [ov_i 10, ov_i 2]) (st := []) (d2 := d - 1) d_223_57 lk_Mo_202 rfl (Nat.le_of_ble_eq_true rfl) (c := 1) (zb_90 I58) (zs_90 I58) ⟨by decide, rfl⟩ (by omega) (c_Mo_wordHere_90 n (d - 1) (by omega) U I58 10 2 (by omega) (by omega) (by show 0 ≤ n ∧ n ≤ 1000 ∧ (h57 92 (n)) = 0 ∧ (h57 90 7) ≤ n; omega) (by omega)) ?_
    rintro _ _ _ ⟨v78, rfl, rfl, rfl, f77⟩
    show ov_R u d ov_m223 60 [(0, ov_r 90), (1, ov_i v5), (2, ov_i v41)] [ov_i v78] z56 h57 (P_Mo_readBar_90 F z h n)
    have f79 : -1 ≤ v78 ∧ v78 < (2 : Int) ∧ (0 ≤ v78 → (h57 90 7) < n ∧ (h57 90 8) = 0) := f77
    clear f77
    refine ov_blk (ls2 := [(0, ov_r 90), (1, ov_i v5), (2, ov_i v41), (3, ov_i v78)]) (st2 := [ov_i v78]) (pc2 := 62) b_223_60_2 rfl rfl ?_
    refine ov_ifge (tgt := 71) d_223_62 (by decide) (by omega) (fun c80 => ?_) (fun c80 => ?_)
    · skip
      refine ov_blk (ls2 := [(0, ov_r 90), (1, ov_i v5), (2, ov_i v41), (3, ov_i v78), (4, ov_i ((566 + (6 * v41)) + v5))]) (st2 := [ov_r 90]) (pc2 := 84) b_223_71_9 rfl rfl ?_
      refine ov_getf (v := ov_r 96) d_223_84 fl_Mo_81 (zb_90 I58) (zs_90 I58) (congrArg ov_r (rg_90_10 I58)) ?_
      refine ov_blk (ls2 := [(0, ov_r 90), (1, ov_i v5), (2, ov_i v41), (3, ov_i v78), (4, ov_i ((566 + (6 * v41)) + v5))]) (st2 := [ov_i ((566 + (6 * v41)) + v5), ov_r 96]) (pc2 := 89) b_223_87_1 rfl rfl ?_
      refine ov_iald d_223_89 (zb_96 I58) (zs_96 I58) (by omega) ?_
      rw [show h57 96 = h 96 from E63]
      have g81 := g96 I ((566 + (6 * v41)) + v5)
      refine ov_blk (ls2 := [(0, ov_r 90), (1, ov_i v5), (2, ov_i v41), (3, ov_i v78), (4, ov_i ((566 + (6 * v41)) + v5))]) (st2 := [ov_i 1, ov_i (ov_and (ov_shr (h 96 ((566 + (6 * v41)) + v5)) v78) 1)]) (pc2 := 95) b_223_90_5 rfl rfl ?_
      have g82 := ov_shrg (h 96 ((566 + (6 * v41)) + v5)) v78
      have g83 := ov_andg (ov_shr (h 96 ((566 + (6 * v41)) + v5)) v78) 1
      have g84 := ov_and1 (ov_shr (h 96 ((566 + (6 * v41)) + v5)) v78)
      refine ov_icne (tgt := 104) d_223_95 (by decide) (by omega) (by omega) (fun c85 => ?_) (fun c85 => ?_)
      · skip
        refine ov_blk (ls2 := [(0, ov_r 90), (1, ov_i v5), (2, ov_i v41), (3, ov_i v78), (4, ov_i ((566 + (6 * v41)) + v5))]) (st2 := [ov_r 90, ov_r 90]) (pc2 := 106) b_223_104_2 rfl rfl ?_
        refine ov_getf (v := ov_i (h57 90 7)) d_223_106 fl_Mo_177 (zb_90 I58) (zs_90 I58) rfl ?_
        have g86 := rg_90_7 I58
        refine ov_blk (ls2 := [(0, ov_r 90), (1, ov_i v5), (2, ov_i v41), (3, ov_i v78), (4, ov_i ((566 + (6 * v41)) + v5))]) (st2 := [ov_i ((h57 90 7) + 1), ov_r 90]) (pc2 := 111) b_223_109_2 rfl rfl ?_
        refine ov_putf (x := ((h57 90 7) + 1)) d_223_111 fl_Mo_177 (zb_90 I58) (zs_90 I58) rfl nk_0 rfl ?_
        have I87 := up_90_7 (x := ((h57 90 7) + 1)) I58 (by omega)
        refine ov_blk (ls2 := [(0, ov_r 90), (1, ov_i v5), (2, ov_i v41), (3, ov_i v78), (4, ov_i ((566 + (6 * v41)) + v5))]) (st2 := [ov_r 90]) (pc2 := 115) b_223_114_1 rfl rfl ?_
        refine ov_getf (v := ov_r 96) d_223_115 fl_Mo_81 (zb_90 I87) (zs_90 I87) (congrArg ov_r (rg_90_10 I87)) ?_
        refine ov_blk (ls2 := [(0, ov_r 90), (1, ov_i v5), (2, ov_i v41), (3, ov_i v78), (4, ov_i ((566 + (6 * v41)) + v5))]) (st2 := [ov_i ((566 + (6 * v41)) + v5), ov_r 96, ov_i ((566 + (6 * v41)) + v5), ov_r 96]) (pc2 := 121) b_223_118_2 rfl rfl ?_
        refine ov_iald d_223_121 (zb_96 I87) (zs_96 I87) (by omega) ?_
        rw [show (ov_up h57 90 7 ((h57 90 7) + 1)) 96 = h 96 from E63]
        refine ov_blk (ls2 := [(0, ov_r 90), (1, ov_i v5), (2, ov_i v41), (3, ov_i v78), (4, ov_i ((566 + (6 * v41)) + v5))]) (st2 := [ov_i (ov_or (h 96 ((566 + (6 * v41)) + v5)) (ov_shl 1 v78)), ov_i ((566 + (6 * v41)) + v5), ov_r 96]) (pc2 := 126) b_223_122_4 rfl rfl ?_
        have g89 := ov_shlg 1 v78
        have g90 := ov_org (h 96 ((566 + (6 * v41)) + v5)) (ov_shl 1 v78)
        refine ov_iast d_223_126 (zb_96 I87) (zs_96 I87) (by omega) ?_
        have I91 := ua_96 (k := ((566 + (6 * v41)) + v5)) (x := (ov_or (h 96 ((566 + (6 * v41)) + v5)) (ov_shl 1 v78))) I87 (by refine ⟨?_, ?_, ?_, ?_, ?_, ?_, ?_, ?_, ?_, ?_, ?_, ?_, ?_, ?_, ?_, ?_, ?_, ?_, ?_, ?_, ?_, ?_, ?_, ?_, ?_, ?_, ?_, ?_, ?_⟩ <;> omega)
        have R92 : ov_RD (h 96) (h 97) (h 98) (h 90 13) ((ov_up h57 90 7 ((h57 90 7) + 1)) 96) ((ov_up h57 90 7 ((h57 90 7) + 1)) 97) ((ov_up h57 90 7 ((h57 90 7) + 1)) 98) (h 90 13) := by rw [show (ov_up h57 90 7 ((h57 90 7) + 1)) 96 = h 96 from E63, show (ov_up h57 90 7 ((h57 90 7) + 1)) 97 = h 97 from E64, show (ov_up h57 90 7 ((h57 90 7) + 1)) 98 = h 98 from E65]; exact ov_RD_refl _ _ _ _
        have R93 : ov_RD (h 96) (h 97) (h 98) (h 90 13) ((ov_up (ov_up h57 90 7 ((h57 90 7) + 1)) 96 ((566 + (6 * v41)) + v5) (ov_or (h 96 ((566 + (6 * v41)) + v5)) (ov_shl 1 v78))) 96) ((ov_up (ov_up h57 90 7 ((h57 90 7) + 1)) 96 ((566 + (6 * v41)) + v5) (ov_or (h 96 ((566 + (6 * v41)) + v5)) (ov_shl 1 v78))) 97) ((ov_up (ov_up h57 90 7 ((h57 90 7) + 1)) 96 ((566 + (6 * v41)) + v5) (ov_or (h 96 ((566 + (6 * v41)) + v5)) (ov_shl 1 v78))) 98) (h 90 13) := by rw [ov_up_row]; exact ov_RD_w R92 (t96_348 I87).2 (by omega)
        have lt94 : (ov_up (ov_up h57 90 7 ((h57 90 7) + 1)) 96 ((566 + (6 * v41)) + v5) (ov_or (h 96 ((566 + (6 * v41)) + v5)) (ov_shl 1 v78))) 96 340 = h57 96 340 := by rw [ov_up_j (by omega)]; show h57 96 340 = _; rfl
        have lt95 : (ov_up (ov_up h57 90 7 ((h57 90 7) + 1)) 96 ((566 + (6 * v41)) + v5) (ov_or (h 96 ((566 + (6 * v41)) + v5)) (ov_shl 1 v78))) 96 341 = h57 96 341 := by rw [ov_up_j (by omega)]; show h57 96 341 = _; rfl
        have lt96 : (ov_up (ov_up h57 90 7 ((h57 90 7) + 1)) 96 ((566 + (6 * v41)) + v5) (ov_or (h 96 ((566 + (6 * v41)) + v5)) (ov_shl 1 v78))) 96 342 = h57 96 342 := by rw [ov_up_j (by omega)]; show h57 96 342 = _; rfl
        have lt97 : (ov_up (ov_up h57 90 7 ((h57 90 7) + 1)) 96 ((566 + (6 * v41)) + v5) (ov_or (h 96 ((566 + (6 * v41)) + v5)) (ov_shl 1 v78))) 96 348 = h57 96 348 := by rw [ov_up_j (by omega)]; show h57 96 348 = _; rfl
        have lt98 : (ov_up (ov_up h57 90 7 ((h57 90 7) + 1)) 96 ((566 + (6 * v41)) + v5) (ov_or (h 96 ((566 + (6 * v41)) + v5)) (ov_shl 1 v78))) 96 349 = h57 96 349 := by rw [ov_up_j (by omega)]; show h57 96 349 = _; rfl
        exact ov_retv (st := []) d_223_127 rfl ⟨rfl, I91, (by show (h 90 7) ≤ ((h57 90 7) + 1) ∧ ((h57 90 7) + 1) ≤ n ∧ (h 90 13) ≤ (h57 90 13) ∧ (h57 90 13) - (h 90 13) ≤ ((h57 90 7) + 1) - (h 90 7) ∧ ((ov_up (ov_up h57 90 7 ((h57 90 7) + 1)) 96 ((566 + (6 * v41)) + v5) (ov_or (h 96 ((566 + (6 * v41)) + v5)) (ov_shl 1 v78))) 96 340) = (h 96 340) ∧ ((ov_up (ov_up h57 90 7 ((h57 90 7) + 1)) 96 ((566 + (6 * v41)) + v5) (ov_or (h 96 ((566 + (6 * v41)) + v5)) (ov_shl 1 v78))) 96 341) = (h 96 341) ∧ ((h57 90 8) = 0 → 1 ≤ (h 96 342) → 1 ≤ ((ov_up (ov_up h57 90 7 ((h57 90 7) + 1)) 96 ((566 + (6 * v41)) + v5) (ov_or (h 96 ((566 + (6 * v41)) + v5)) (ov_shl 1 v78))) 96 342)) ∧ (1 ≤ (h 96 349) → 1 ≤ ((ov_up (ov_up h57 90 7 ((h57 90 7) + 1)) 96 ((566 + (6 * v41)) + v5) (ov_or (h 96 ((566 + (6 * v41)) + v5)) (ov_shl 1 v78))) 96 349)) ∧ (h57 90 2) = (h 90 2) ∧ (h57 90 3) = (h 90 3) ∧ (h57 90 13) = (h 90 13) ∧ (h57 90 20) = (h 90 20) ∧ (h57 90 22) = (h 90 22) ∧ (h57 90 25) = (h 90 25) ∧ (h57 90 26) = (h 90 26) ∧ (h57 90 27) = (h 90 27) ∧ (h57 90 28) = (h 90 28) ∧ (h57 90 29) = (h 90 29) ∧ (h57 90 30) = (h 90 30) ∧ (h57 90 34) = (h 90 34) ∧ (h57 90 35) = (h 90 35) ∧ (h57 90 37) = (h 90 37); omega), E59, E60, E61, E62, E64, E65, E66, E67, E68, E69, E70, E71, E72, R93.1, R93.2.1, (fun _ w => by show ov_CS ((ov_up (ov_up h57 90 7 ((h57 90 7) + 1)) 96 ((566 + (6 * v41)) + v5) (ov_or (h 96 ((566 + (6 * v41)) + v5)) (ov_shl 1 v78))) 96) ((ov_up (ov_up h57 90 7 ((h57 90 7) + 1)) 96 ((566 + (6 * v41)) + v5) (ov_or (h 96 ((566 + (6 * v41)) + v5)) (ov_shl 1 v78))) 97) ((ov_up (ov_up h57 90 7 ((h57 90 7) + 1)) 96 ((566 + (6 * v41)) + v5) (ov_or (h 96 ((566 + (6 * v41)) + v5)) (ov_shl 1 v78))) 98) (h57 90 13); rw [show (h57 90 13) = h 90 13 by omega]; exact R93.2.2 w)⟩
      · skip
        refine ov_blk (ls2 := [(0, ov_r 90), (1, ov_i v5), (2, ov_i v41), (3, ov_i v78), (4, ov_i ((566 + (6 * v41)) + v5))]) (st2 := [ov_i 3, ov_r 90]) (pc2 := 100) b_223_98_2 rfl rfl ?_
        refine ov_cV (as := [ov_i 3]) (st := []) (d2 := d - 1) d_223_100 lk_Mo_186 rfl (Nat.le_of_ble_eq_true rfl) (c := 1) (zb_90 I58) (zs_90 I58) ⟨by decide, rfl⟩ (by omega) (c_Mo_wrong_90 (d - 1) (by omega) U I58 3 (by omega) (by omega)) ?_
        rintro _ z114 h115 ⟨rfl, I116, f99, e100, e101, e102, e103, e104, e105, e106, e107, e108, e109, e110, e111, e112, e113⟩
        have E117 : h115 92 = h 92 := Eq.trans e100 E59
        have E118 : h115 93 = h 93 := Eq.trans e101 E60
        have E119 : h115 94 = h 94 := Eq.trans e102 E61
        have E120 : h115 95 = h 95 := Eq.trans e103 E62
        have E121 : h115 96 = h 96 := Eq.trans e104 E63
        have E122 : h115 97 = h 97 := Eq.trans e105 E64
        have E123 : h115 98 = h 98 := Eq.trans e106 E65
        have E124 : h115 99 = h 99 := Eq.trans e107 E66
        have E125 : h115 100 = h 100 := Eq.trans e108 E67
        have E126 : h115 103 = h 103 := Eq.trans e109 E68
        have E127 : h115 105 = h 105 := Eq.trans e110 E69
        have E128 : h115 106 = h 106 := Eq.trans e111 E70
        have E129 : h115 109 = h 109 := Eq.trans e112 E71
        have E130 : h115 114 = h 114 := Eq.trans e113 E72
        show ov_R u d ov_m223 103 [(0, ov_r 90), (1, ov_i v5), (2, ov_i v41), (3, ov_i v78), (4, ov_i ((566 + (6 * v41)) + v5))] [] z114 h115 (P_Mo_readBar_90 F z h n)
        have f131 : 0 < (h115 90 8) ∧ (0 < (h57 90 8) → (h115 90 8) = (h57 90 8)) ∧ (h115 90 2) = (h57 90 2) ∧ (h115 90 3) = (h57 90 3) ∧ (h115 90 7) = (h57 90 7) ∧ (h115 90 13) = (h57 90 13) ∧ (h115 90 20) = (h57 90 20) ∧ (h115 90 22) = (h57 90 22) ∧ (h115 90 25) = (h57 90 25) ∧ (h115 90 26) = (h57 90 26) ∧ (h115 90 27) = (h57 90 27) ∧ (h115 90 28) = (h57 90 28) ∧ (h115 90 29) = (h57 90 29) ∧ (h115 90 30) = (h57 90 30) ∧ (h115 90 34) = (h57 90 34) ∧ (h115 90 35) = (h57 90 35) ∧ (h115 90 37) = (h57 90 37) := f99
        clear f99
        have R132 : ov_RD (h 96) (h 97) (h 98) (h 90 13) (h115 96) (h115 97) (h115 98) (h 90 13) := by rw [show h115 96 = h 96 from E121, show h115 97 = h 97 from E122, show h115 98 = h 98 from E123]; exact ov_RD_refl _ _ _ _
        exact ov_retv (st := []) d_223_103 rfl ⟨rfl, I116, (by show (h 90 7) ≤ (h115 90 7) ∧ (h115 90 7) ≤ n ∧ (h 90 13) ≤ (h115 90 13) ∧ (h115 90 13) - (h 90 13) ≤ (h115 90 7) - (h 90 7) ∧ (h 96 340) = (h 96 340) ∧ (h 96 341) = (h 96 341) ∧ ((h115 90 8) = 0 → 1 ≤ (h 96 342) → 1 ≤ (h 96 342)) ∧ (1 ≤ (h 96 349) → 1 ≤ (h 96 349)) ∧ (h115 90 2) = (h 90 2) ∧ (h115 90 3) = (h 90 3) ∧ (h115 90 13) = (h 90 13) ∧ (h115 90 20) = (h 90 20) ∧ (h115 90 22) = (h 90 22) ∧ (h115 90 25) = (h 90 25) ∧ (h115 90 26) = (h 90 26) ∧ (h115 90 27) = (h 90 27) ∧ (h115 90 28) = (h 90 28) ∧ (h115 90 29) = (h 90 29) ∧ (h115 90 30) = (h 90 30) ∧ (h115 90 34) = (h 90 34) ∧ (h115 90 35) = (h 90 35) ∧ (h115 90 37) = (h 90 37); omega), E117, E118, E119, E120, E122, E123, E124, E125, E126, E127, E128, E129, E130, R132.1, R132.2.1, (fun _ w => by show ov_CS (h115 96) (h115 97) (h115 98) (h115 90 13); rw [show (h115 90 13) = h 90 13 by omega]; exact R132.2.2 w)⟩
    · skip
      refine ov_blk (ls2 := [(0, ov_r 90), (1, ov_i v5), (2, ov_i v41), (3, ov_i v78)]) (st2 := [ov_i 1, ov_r 90]) (pc2 := 67) b_223_65_2 rfl rfl ?_
      refine ov_cV (as := [ov_i 1]) (st := []) (d2 := d - 1) d_223_67 lk_Mo_186 rfl (Nat.le_of_ble_eq_true rfl) (c := 1) (zb_90 I58) (zs_90 I58) ⟨by decide, rfl⟩ (by omega) (c_Mo_wrong_90 (d - 1) (by omega) U I58 1 (by omega) (by omega)) ?_
      rintro _ z148 h149 ⟨rfl, I150, f133, e134, e135, e136, e137, e138, e139, e140, e141, e142, e143, e144, e145, e146, e147⟩
      have E151 : h149 92 = h 92 := Eq.trans e134 E59
      have E152 : h149 93 = h 93 := Eq.trans e135 E60
      have E153 : h149 94 = h 94 := Eq.trans e136 E61
      have E154 : h149 95 = h 95 := Eq.trans e137 E62
      have E155 : h149 96 = h 96 := Eq.trans e138 E63
      have E156 : h149 97 = h 97 := Eq.trans e139 E64
      have E157 : h149 98 = h 98 := Eq.trans e140 E65
      have E158 : h149 99 = h 99 := Eq.trans e141 E66
      have E159 : h149 100 = h 100 := Eq.trans e142 E67
      have E160 : h149 103 = h 103 := Eq.trans e143 E68
      have E161 : h149 105 = h 105 := Eq.trans e144 E69
      have E162 : h149 106 = h 106 := Eq.trans e145 E70
      have E163 : h149 109 = h 109 := Eq.trans e146 E71
      have E164 : h149 114 = h 114 := Eq.trans e147 E72
      show ov_R u d ov_m223 70 [(0, ov_r 90), (1, ov_i v5), (2, ov_i v41), (3, ov_i v78)] [] z148 h149 (P_Mo_readBar_90 F z h n)
      have f165 : 0 < (h149 90 8) ∧ (0 < (h57 90 8) → (h149 90 8) = (h57 90 8)) ∧ (h149 90 2) = (h57 90 2) ∧ (h149 90 3) = (h57 90 3) ∧ (h149 90 7) = (h57 90 7) ∧ (h149 90 13) = (h57 90 13) ∧ (h149 90 20) = (h57 90 20) ∧ (h149 90 22) = (h57 90 22) ∧ (h149 90 25) = (h57 90 25) ∧ (h149 90 26) = (h57 90 26) ∧ (h149 90 27) = (h57 90 27) ∧ (h149 90 28) = (h57 90 28) ∧ (h149 90 29) = (h57 90 29) ∧ (h149 90 30) = (h57 90 30) ∧ (h149 90 34) = (h57 90 34) ∧ (h149 90 35) = (h57 90 35) ∧ (h149 90 37) = (h57 90 37) := f133
      clear f133
      have R166 : ov_RD (h 96) (h 97) (h 98) (h 90 13) (h149 96) (h149 97) (h149 98) (h 90 13) := by rw [show h149 96 = h 96 from E155, show h149 97 = h 97 from E156, show h149 98 = h 98 from E157]; exact ov_RD_refl _ _ _ _
      exact ov_retv (st := []) d_223_70 rfl ⟨rfl, I150, (by show (h 90 7) ≤ (h149 90 7) ∧ (h149 90 7) ≤ n ∧ (h 90 13) ≤ (h149 90 13) ∧ (h149 90 13) - (h 90 13) ≤ (h149 90 7) - (h 90 7) ∧ (h 96 340) = (h 96 340) ∧ (h 96 341) = (h 96 341) ∧ ((h149 90 8) = 0 → 1 ≤ (h 96 342) → 1 ≤ (h 96 342)) ∧ (1 ≤ (h 96 349) → 1 ≤ (h 96 349)) ∧ (h149 90 2) = (h 90 2) ∧ (h149 90 3) = (h 90 3) ∧ (h149 90 13) = (h 90 13) ∧ (h149 90 20) = (h 90 20) ∧ (h149 90 22) = (h 90 22) ∧ (h149 90 25) = (h 90 25) ∧ (h149 90 26) = (h 90 26) ∧ (h149 90 27) = (h 90 27) ∧ (h149 90 28) = (h 90 28) ∧ (h149 90 29) = (h 90 29) ∧ (h149 90 30) = (h 90 30) ∧ (h149 90 34) = (h 90 34) ∧ (h149 90 35) = (h 90 35) ∧ (h149 90 37) = (h 90 37); omega), E151, E152, E153, E154, E156, E157, E158, E159, E160, E161, E162, E163, E164, R166.1, R166.2.1, (fun _ w => by show ov_CS (h149 96) (h149 97) (h149 98) (h149 90 13); rw [show (h149 90 13) = h 90 13 by omega]; exact R166.2.2 w)⟩
  · skip
    refine ov_blk (ls2 := [(0, ov_r 90), (1, ov_i v5), (2, ov_i v41)]) (st2 := [ov_i (-1)]) (pc2 := 50) b_223_49_1 rfl rfl ?_
    refine ov_goto (tgt := 60) d_223_50 (by decide) ?_
    refine ov_blk (ls2 := [(0, ov_r 90), (1, ov_i v5), (2, ov_i v41), (3, ov_i (-1))]) (st2 := [ov_i (-1)]) (pc2 := 62) b_223_60_2 rfl rfl ?_
    refine ov_ifge (tgt := 71) d_223_62 (by decide) (by omega) (fun c167 => ?_) (fun c167 => ?_)
    · omega
    · skip
      refine ov_blk (ls2 := [(0, ov_r 90), (1, ov_i v5), (2, ov_i v41), (3, ov_i (-1))]) (st2 := [ov_i 1, ov_r 90]) (pc2 := 67) b_223_65_2 rfl rfl ?_
      refine ov_cV (as := [ov_i 1]) (st := []) (d2 := d - 1) d_223_67 lk_Mo_186 rfl (Nat.le_of_ble_eq_true rfl) (c := 1) (zb_90 I58) (zs_90 I58) ⟨by decide, rfl⟩ (by omega) (c_Mo_wrong_90 (d - 1) (by omega) U I58 1 (by omega) (by omega)) ?_
      rintro _ z183 h184 ⟨rfl, I185, f168, e169, e170, e171, e172, e173, e174, e175, e176, e177, e178, e179, e180, e181, e182⟩
      have E186 : h184 92 = h 92 := Eq.trans e169 E59
      have E187 : h184 93 = h 93 := Eq.trans e170 E60
      have E188 : h184 94 = h 94 := Eq.trans e171 E61
      have E189 : h184 95 = h 95 := Eq.trans e172 E62
      have E190 : h184 96 = h 96 := Eq.trans e173 E63
      have E191 : h184 97 = h 97 := Eq.trans e174 E64
      have E192 : h184 98 = h 98 := Eq.trans e175 E65
      have E193 : h184 99 = h 99 := Eq.trans e176 E66
      have E194 : h184 100 = h 100 := Eq.trans e177 E67
      have E195 : h184 103 = h 103 := Eq.trans e178 E68
      have E196 : h184 105 = h 105 := Eq.trans e179 E69
      have E197 : h184 106 = h 106 := Eq.trans e180 E70
      have E198 : h184 109 = h 109 := Eq.trans e181 E71
      have E199 : h184 114 = h 114 := Eq.trans e182 E72
      show ov_R u d ov_m223 70 [(0, ov_r 90), (1, ov_i v5), (2, ov_i v41), (3, ov_i (-1))] [] z183 h184 (P_Mo_readBar_90 F z h n)
      have f200 : 0 < (h184 90 8) ∧ (0 < (h57 90 8) → (h184 90 8) = (h57 90 8)) ∧ (h184 90 2) = (h57 90 2) ∧ (h184 90 3) = (h57 90 3) ∧ (h184 90 7) = (h57 90 7) ∧ (h184 90 13) = (h57 90 13) ∧ (h184 90 20) = (h57 90 20) ∧ (h184 90 22) = (h57 90 22) ∧ (h184 90 25) = (h57 90 25) ∧ (h184 90 26) = (h57 90 26) ∧ (h184 90 27) = (h57 90 27) ∧ (h184 90 28) = (h57 90 28) ∧ (h184 90 29) = (h57 90 29) ∧ (h184 90 30) = (h57 90 30) ∧ (h184 90 34) = (h57 90 34) ∧ (h184 90 35) = (h57 90 35) ∧ (h184 90 37) = (h57 90 37) := f168
      clear f168
      have R201 : ov_RD (h 96) (h 97) (h 98) (h 90 13) (h184 96) (h184 97) (h184 98) (h 90 13) := by rw [show h184 96 = h 96 from E190, show h184 97 = h 97 from E191, show h184 98 = h 98 from E192]; exact ov_RD_refl _ _ _ _
      exact ov_retv (st := []) d_223_70 rfl ⟨rfl, I185, (by show (h 90 7) ≤ (h184 90 7) ∧ (h184 90 7) ≤ n ∧ (h 90 13) ≤ (h184 90 13) ∧ (h184 90 13) - (h 90 13) ≤ (h184 90 7) - (h 90 7) ∧ (h 96 340) = (h 96 340) ∧ (h 96 341) = (h 96 341) ∧ ((h184 90 8) = 0 → 1 ≤ (h 96 342) → 1 ≤ (h 96 342)) ∧ (1 ≤ (h 96 349) → 1 ≤ (h 96 349)) ∧ (h184 90 2) = (h 90 2) ∧ (h184 90 3) = (h 90 3) ∧ (h184 90 13) = (h 90 13) ∧ (h184 90 20) = (h 90 20) ∧ (h184 90 22) = (h 90 22) ∧ (h184 90 25) = (h 90 25) ∧ (h184 90 26) = (h 90 26) ∧ (h184 90 27) = (h 90 27) ∧ (h184 90 28) = (h 90 28) ∧ (h184 90 29) = (h 90 29) ∧ (h184 90 30) = (h 90 30) ∧ (h184 90 34) = (h 90 34) ∧ (h184 90 35) = (h 90 35) ∧ (h184 90 37) = (h 90 37); omega), E186, E187, E188, E189, E191, E192, E193, E194, E195, E196, E197, E198, E199, R201.1, R201.2.1, (fun _ w => by show ov_CS (h184 96) (h184 97) (h184 98) (h184 90 13); rw [show (h184 90 13) = h 90 13 by omega]; exact R201.2.2 w)⟩
abbrev P_Mo_readLight_90 (F : ov_H × ov_Z) (z : ov_Z) (h : ov_H) (n : Int) : Option ov_V → ov_Z → ov_H → Prop := fun r0 z' h' => r0 = none ∧ ov_N F z' h' ∧ ((h 90 7) ≤ (h' 90 7) ∧ (h' 90 7) ≤ n ∧ (h 90 13) ≤ (h' 90 13) ∧ (h' 90 13) - (h 90 13) ≤ (h' 90 7) - (h 90 7) ∧ (h' 96 340) = (h 96 340) ∧ (h' 96 341) = (h 96 341) ∧ ((h' 90 8) = 0 → 1 ≤ (h 96 342) → 1 ≤ (h' 96 342)) ∧ (1 ≤ (h 96 349) → 1 ≤ (h' 96 349)) ∧ (h' 90 2) = (h 90 2) ∧ (h' 90 3) = (h 90 3) ∧ (h' 90 13) = (h 90 13) ∧ (h' 90 20) = (h 90 20) ∧ (h' 90 22) = (h 90 22) ∧ (h' 90 25) = (h 90 25) ∧ (h' 90 26) = (h 90 26) ∧ (h' 90 27) = (h 90 27) ∧ (h' 90 28) = (h 90 28) ∧ (h' 90 29) = (h 90 29) ∧ (h' 90 30) = (h 90 30) ∧ (h' 90 34) = (h 90 34) ∧ (h' 90 35) = (h 90 35) ∧ (h' 90 37) = (h 90 37)) ∧ h' 92 = h 92 ∧ h' 93 = h 93 ∧ h' 94 = h 94 ∧ h' 95 = h 95 ∧ h' 97 = h 97 ∧ h' 98 = h 98 ∧ h' 99 = h 99 ∧ h' 100 = h 100 ∧ h' 103 = h 103 ∧ h' 105 = h 105 ∧ h' 106 = h 106 ∧ h' 109 = h 109 ∧ h' 114 = h 114 ∧ (ov_MK (h 96) (h 97) (h 98) (h' 96) (h' 97) (h' 98)) ∧ (ov_WS (h 96) → ov_WS (h' 96)) ∧ ((h' 90 8) = 0 → ov_CS (h 96) (h 97) (h 98) (h 90 13) → ov_CS (h' 96) (h' 97) (h' 98) (h' 90 13))
set_option maxHeartbeats 4000000 in
theorem c_Mo_readLight_90 {u : ov_U} {F : ov_H × ov_Z} (n : Int) {z : ov_Z} {h : ov_H} (d : Nat) (hd : 4 ≤ d) (U : ov_cap u) (I : ov_N F z h) (p0 : 0 ≤ n ∧ n ≤ 1000 ∧ (h 92 (n)) = 0 ∧ (h 90 7) ≤ n) (p1 : (h 90 13) ≤ (h 90 7)) (p2 : (h 90 8) = 0) (p3 : (h 90 7) < n) : ov_T u d ov_m219 [ov_r 90] z h (P_Mo_readLight_90 F z h n) := by
  refine ov_en rfl (Nat.le_of_ble_eq_true rfl) ?_
  show ov_R u d ov_m219 0 [(0, ov_r 90)] [] z h (P_Mo_readLight_90 F z h n)
  refine ov_blk (ls2 := [(0, ov_r 90)]) (st2 := [ov_r 90, ov_r 90]) (pc2 := 2) b_219_0_2 rfl rfl ?_
  refine ov_getf (v := ov_i (h 90 7)) d_219_2 fl_Mo_177 (zb_90 I) (zs_90 I) rfl ?_
  have g1 := rg_90_7 I
  refine ov_blk (ls2 := [(0, ov_r 90)]) (st2 := [ov_i ((h 90 7) + 1), ov_r 90]) (pc2 := 7) b_219_5_2 rfl rfl ?_
  refine ov_putf (x := ((h 90 7) + 1)) d_219_7 fl_Mo_177 (zb_90 I) (zs_90 I) rfl nk_0 rfl ?_
  have I2 := up_90_7 (x := ((h 90 7) + 1)) I (by omega)
  refine ov_blk (ls2 := [(0, ov_r 90)]) (st2 := [ov_r 90, ov_i 0, ov_r 90]) (pc2 := 13) b_219_10_3 rfl rfl ?_
  refine ov_getf (v := ov_r 96) d_219_13 fl_Mo_81 (zb_90 I2) (zs_90 I2) (congrArg ov_r (rg_90_10 I2)) ?_
  refine ov_blk (ls2 := [(0, ov_r 90)]) (st2 := [ov_i 340, ov_r 96, ov_i 0, ov_r 90]) (pc2 := 19) b_219_16_1 rfl rfl ?_
  refine ov_iald d_219_19 (zb_96 I2) (zs_96 I2) (by omega) ?_
  show ov_R u d ov_m219 20 [(0, ov_r 90)] [ov_i (h 96 340), ov_i 0, ov_r 90] z (ov_up h 90 7 ((h 90 7) + 1)) (P_Mo_readLight_90 F z h n)
  have g3 := t96_340 I
  refine ov_blk (ls2 := [(0, ov_r 90)]) (st2 := [ov_i ((h 96 340) - 1), ov_i 0, ov_r 90]) (pc2 := 22) b_219_20_2 rfl rfl ?_
  refine ov_cV (as := [ov_i 0, ov_i ((h 96 340) - 1)]) (st := []) (d2 := d - 1) d_219_22 lk_Mo_198 rfl (Nat.le_of_ble_eq_true rfl) (c := 1) (zb_90 I2) (zs_90 I2) ⟨by decide, rfl⟩ (by omega) (c_Mo_takeNumber_90 n (d - 1) (by omega) U I2 0 ((h 96 340) - 1) (by omega) (by omega) (by show 0 ≤ n ∧ n ≤ 1000 ∧ (h 92 (n)) = 0 ∧ ((h 90 7) + 1) ≤ n; omega)) ?_
  rintro _ z20 h21 ⟨v5, rfl, I22, f4, e6, e7, e8, e9, e10, e11, e12, e13, e14, e15, e16, e17, e18, e19⟩
  have E23 : h21 92 = h 92 := e6
  have E24 : h21 93 = h 93 := e7
  have E25 : h21 94 = h 94 := e8
  have E26 : h21 95 = h 95 := e9
  have E27 : h21 96 = h 96 := e10
  have E28 : h21 97 = h 97 := e11
  have E29 : h21 98 = h 98 := e12
  have E30 : h21 99 = h 99 := e13
  have E31 : h21 100 = h 100 := e14
  have E32 : h21 103 = h 103 := e15
  have E33 : h21 105 = h 105 := e16
  have E34 : h21 106 = h 106 := e17
  have E35 : h21 109 = h 109 := e18
  have E36 : h21 114 = h 114 := e19
  show ov_R u d ov_m219 25 [(0, ov_r 90)] [ov_i v5] z20 h21 (P_Mo_readLight_90 F z h n)
  have f37 : ((h 90 7) + 1) ≤ (h21 90 7) ∧ (h21 90 7) ≤ n ∧ (0 < (h 90 8) → (h21 90 8) = (h 90 8)) ∧ ((h21 90 8) = 0 → (0 : Int) ≤ v5 ∧ v5 ≤ ((h 96 340) - 1) ∧ ((h 90 7) + 1) < (h21 90 7)) ∧ (0 < (h21 90 8) → v5 = 0 ∧ (h21 90 7) = ((h 90 7) + 1)) ∧ (h21 90 2) = (h 90 2) ∧ (h21 90 3) = (h 90 3) ∧ (h21 90 13) = (h 90 13) ∧ (h21 90 20) = (h 90 20) ∧ (h21 90 22) = (h 90 22) ∧ (h21 90 25) = (h 90 25) ∧ (h21 90 26) = (h 90 26) ∧ (h21 90 27) = (h 90 27) ∧ (h21 90 28) = (h 90 28) ∧ (h21 90 29) = (h 90 29) ∧ (h21 90 30) = (h 90 30) ∧ (h21 90 34) = (h 90 34) ∧ (h21 90 35) = (h 90 35) ∧ (h21 90 37) = (h 90 37) := f4
  clear f4
  refine ov_blk (ls2 := [(0, ov_r 90), (1, ov_i v5)]) (st2 := [ov_r 90, ov_i 0, ov_r 90]) (pc2 := 29) b_219_25_4 rfl rfl ?_
  refine ov_getf (v := ov_r 96) d_219_29 fl_Mo_81 (zb_90 I22) (zs_90 I22) (congrArg ov_r (rg_90_10 I22)) ?_
  refine ov_blk (ls2 := [(0, ov_r 90), (1, ov_i v5)]) (st2 := [ov_i 341, ov_r 96, ov_i 0, ov_r 90]) (pc2 := 35) b_219_32_1 rfl rfl ?_
  refine ov_iald d_219_35 (zb_96 I22) (zs_96 I22) (by omega) ?_
  rw [show h21 96 = h 96 from E27]
  have g38 := t96_341 I
  refine ov_blk (ls2 := [(0, ov_r 90), (1, ov_i v5)]) (st2 := [ov_i ((h 96 341) - 1), ov_i 0, ov_r 90]) (pc2 := 38) b_219_36_2 rfl rfl ?_
  have cf39 : h21 92 (n) = h 92 (n) := congrFun E23 (n)
  refine ov_cV (as := [ov_i 0, ov_i ((h 96 341) - 1)]) (st := []) (d2 := d - 1) d_219_38 lk_Mo_198 rfl (Nat.le_of_ble_eq_true rfl) (c := 1) (zb_90 I22) (zs_90 I22) ⟨by decide, rfl⟩ (by omega) (c_Mo_takeNumber_90 n (d - 1) (by omega) U I22 0 ((h 96 341) - 1) (by omega) (by omega) (by show 0 ≤ n ∧ n ≤ 1000 ∧ (h21 92 (n)) = 0 ∧ (h21 90 7) ≤ n; omega)) ?_
  rintro _ z56 h57 ⟨v41, rfl, I58, f40, e42, e43, e44, e45, e46, e47, e48, e49, e50, e51, e52, e53, e54, e55⟩
  have E59 : h57 92 = h 92 := Eq.trans e42 E23
  have E60 : h57 93 = h 93 := Eq.trans e43 E24
  have E61 : h57 94 = h 94 := Eq.trans e44 E25
  have E62 : h57 95 = h 95 := Eq.trans e45 E26
  have E63 : h57 96 = h 96 := Eq.trans e46 E27
  have E64 : h57 97 = h 97 := Eq.trans e47 E28
  have E65 : h57 98 = h 98 := Eq.trans e48 E29
  have E66 : h57 99 = h 99 := Eq.trans e49 E30
  have E67 : h57 100 = h 100 := Eq.trans e50 E31
  have E68 : h57 103 = h 103 := Eq.trans e51 E32
  have E69 : h57 105 = h 105 := Eq.trans e52 E33
  have E70 : h57 106 = h 106 := Eq.trans e53 E34
  have E71 : h57 109 = h 109 := Eq.trans e54 E35
  have E72 : h57 114 = h 114 := Eq.trans e55 E36
  show ov_R u d ov_m219 41 [(0, ov_r 90), (1, ov_i v5)] [ov_i v41] z56 h57 (P_Mo_readLight_90 F z h n)
  have f73 : (h21 90 7) ≤ (h57 90 7) ∧ (h57 90 7) ≤ n ∧ (0 < (h21 90 8) → (h57 90 8) = (h21 90 8)) ∧ ((h57 90 8) = 0 → (0 : Int) ≤ v41 ∧ v41 ≤ ((h 96 341) - 1) ∧ (h21 90 7) < (h57 90 7)) ∧ (0 < (h57 90 8) → v41 = 0 ∧ (h57 90 7) = (h21 90 7)) ∧ (h57 90 2) = (h21 90 2) ∧ (h57 90 3) = (h21 90 3) ∧ (h57 90 13) = (h21 90 13) ∧ (h57 90 20) = (h21 90 20) ∧ (h57 90 22) = (h21 90 22) ∧ (h57 90 25) = (h21 90 25) ∧ (h57 90 26) = (h21 90 26) ∧ (h57 90 27) = (h21 90 27) ∧ (h57 90 28) = (h21 90 28) ∧ (h57 90 29) = (h21 90 29) ∧ (h57 90 30) = (h21 90 30) ∧ (h57 90 34) = (h21 90 34) ∧ (h57 90 35) = (h21 90 35) ∧ (h57 90 37) = (h21 90 37) := f40
  clear f40
  refine ov_blk (ls2 := [(0, ov_r 90), (1, ov_i v5), (2, ov_i v41), (3, ov_i (350 + (4 * ((6 * v41) + v5))))]) (st2 := [ov_r 90]) (pc2 := 56) b_219_41_12 rfl rfl ?_
  refine ov_getf (v := ov_i (h57 90 8)) d_219_56 fl_Mo_180 (zb_90 I58) (zs_90 I58) rfl ?_
  have g74 := rg_90_8 I58
  refine ov_ifne (tgt := 86) d_219_59 (by decide) (by omega) (fun c75 => ?_) (fun c75 => ?_)
  · skip
    refine ov_blk (ls2 := [(0, ov_r 90), (1, ov_i v5), (2, ov_i v41), (3, ov_i (350 + (4 * ((6 * v41) + v5))))]) (st2 := [ov_r 90]) (pc2 := 87) b_219_86_1 rfl rfl ?_
    refine ov_getf (v := ov_i (h57 90 8)) d_219_87 fl_Mo_180 (zb_90 I58) (zs_90 I58) rfl ?_
    refine ov_ifle (tgt := 97) d_219_90 (by decide) (by omega) (fun c77 => ?_) (fun c77 => ?_)
    · omega
    · skip
      refine ov_blk (ls2 := [(0, ov_r 90), (1, ov_i v5), (2, ov_i v41), (3, ov_i (350 + (4 * ((6 * v41) + v5))))]) (st2 := [ov_i (-1)]) (pc2 := 94) b_219_93_1 rfl rfl ?_
      refine ov_goto (tgt := 104) d_219_94 (by decide) ?_
      refine ov_blk (ls2 := [(0, ov_r 90), (1, ov_i v5), (2, ov_i v41), (3, ov_i (350 + (4 * ((6 * v41) + v5)))), (4, ov_i (-1))]) (st2 := [ov_i (-1)]) (pc2 := 108) b_219_104_2 rfl rfl ?_
      refine ov_ifge (tgt := 117) d_219_108 (by decide) (by omega) (fun c78 => ?_) (fun c78 => ?_)
      · omega
      · skip
        refine ov_blk (ls2 := [(0, ov_r 90), (1, ov_i v5), (2, ov_i v41), (3, ov_i (350 + (4 * ((6 * v41) + v5)))), (4, ov_i (-1))]) (st2 := [ov_i 1, ov_r 90]) (pc2 := 113) b_219_111_2 rfl rfl ?_
        refine ov_cV (as := [ov_i 1]) (st := []) (d2 := d - 1) d_219_113 lk_Mo_186 rfl (Nat.le_of_ble_eq_true rfl) (c := 1) (zb_90 I58) (zs_90 I58) ⟨by decide, rfl⟩ (by omega) (c_Mo_wrong_90 (d - 1) (by omega) U I58 1 (by omega) (by omega)) ?_
        rintro _ z94 h95 ⟨rfl, I96, f79, e80, e81, e82, e83, e84, e85, e86, e87, e88, e89, e90, e91, e92, e93⟩
        have E97 : h95 92 = h 92 := Eq.trans e80 E59
        have E98 : h95 93 = h 93 := Eq.trans e81 E60
        have E99 : h95 94 = h 94 := Eq.trans e82 E61
        have E100 : h95 95 = h 95 := Eq.trans e83 E62
        have E101 : h95 96 = h 96 := Eq.trans e84 E63
        have E102 : h95 97 = h 97 := Eq.trans e85 E64
        have E103 : h95 98 = h 98 := Eq.trans e86 E65
        have E104 : h95 99 = h 99 := Eq.trans e87 E66
        have E105 : h95 100 = h 100 := Eq.trans e88 E67
        have E106 : h95 103 = h 103 := Eq.trans e89 E68
        have E107 : h95 105 = h 105 := Eq.trans e90 E69
        have E108 : h95 106 = h 106 := Eq.trans e91 E70
        have E109 : h95 109 = h 109 := Eq.trans e92 E71
        have E110 : h95 114 = h 114 := Eq.trans e93 E72
        show ov_R u d ov_m219 116 [(0, ov_r 90), (1, ov_i v5), (2, ov_i v41), (3, ov_i (350 + (4 * ((6 * v41) + v5)))), (4, ov_i (-1))] [] z94 h95 (P_Mo_readLight_90 F z h n)
        have f111 : 0 < (h95 90 8) ∧ (0 < (h57 90 8) → (h95 90 8) = (h57 90 8)) ∧ (h95 90 2) = (h57 90 2) ∧ (h95 90 3) = (h57 90 3) ∧ (h95 90 7) = (h57 90 7) ∧ (h95 90 13) = (h57 90 13) ∧ (h95 90 20) = (h57 90 20) ∧ (h95 90 22) = (h57 90 22) ∧ (h95 90 25) = (h57 90 25) ∧ (h95 90 26) = (h57 90 26) ∧ (h95 90 27) = (h57 90 27) ∧ (h95 90 28) = (h57 90 28) ∧ (h95 90 29) = (h57 90 29) ∧ (h95 90 30) = (h57 90 30) ∧ (h95 90 34) = (h57 90 34) ∧ (h95 90 35) = (h57 90 35) ∧ (h95 90 37) = (h57 90 37) := f79
        clear f79
        have R112 : ov_RD (h 96) (h 97) (h 98) (h 90 13) (h95 96) (h95 97) (h95 98) (h 90 13) := by rw [show h95 96 = h 96 from E101, show h95 97 = h 97 from E102, show h95 98 = h 98 from E103]; exact ov_RD_refl _ _ _ _
        exact ov_retv (st := []) d_219_116 rfl ⟨rfl, I96, (by show (h 90 7) ≤ (h95 90 7) ∧ (h95 90 7) ≤ n ∧ (h 90 13) ≤ (h95 90 13) ∧ (h95 90 13) - (h 90 13) ≤ (h95 90 7) - (h 90 7) ∧ (h 96 340) = (h 96 340) ∧ (h 96 341) = (h 96 341) ∧ ((h95 90 8) = 0 → 1 ≤ (h 96 342) → 1 ≤ (h 96 342)) ∧ (1 ≤ (h 96 349) → 1 ≤ (h 96 349)) ∧ (h95 90 2) = (h 90 2) ∧ (h95 90 3) = (h 90 3) ∧ (h95 90 13) = (h 90 13) ∧ (h95 90 20) = (h 90 20) ∧ (h95 90 22) = (h 90 22) ∧ (h95 90 25) = (h 90 25) ∧ (h95 90 26) = (h 90 26) ∧ (h95 90 27) = (h 90 27) ∧ (h95 90 28) = (h 90 28) ∧ (h95 90 29) = (h 90 29) ∧ (h95 90 30) = (h 90 30) ∧ (h95 90 34) = (h 90 34) ∧ (h95 90 35) = (h 90 35) ∧ (h95 90 37) = (h 90 37); omega), E97, E98, E99, E100, E102, E103, E104, E105, E106, E107, E108, E109, E110, R112.1, R112.2.1, (fun _ w => by show ov_CS (h95 96) (h95 97) (h95 98) (h95 90 13); rw [show (h95 90 13) = h 90 13 by omega]; exact R112.2.2 w)⟩
  · skip
    refine ov_blk (ls2 := [(0, ov_r 90), (1, ov_i v5), (2, ov_i v41), (3, ov_i (350 + (4 * ((6 * v41) + v5))))]) (st2 := [ov_r 90]) (pc2 := 63) b_219_62_1 rfl rfl ?_
    refine ov_getf (v := ov_r 96) d_219_63 fl_Mo_81 (zb_90 I58) (zs_90 I58) (congrArg ov_r (rg_90_10 I58)) ?_
    refine ov_blk (ls2 := [(0, ov_r 90), (1, ov_i v5), (2, ov_i v41), (3, ov_i (350 + (4 * ((6 * v41) + v5))))]) (st2 := [ov_i (350 + (4 * ((6 * v41) + v5))), ov_r 96]) (pc2 := 67) b_219_66_1 rfl rfl ?_
    refine ov_iald d_219_67 (zb_96 I58) (zs_96 I58) (by omega) ?_
    rw [show h57 96 = h 96 from E63]
    have g113 := g96 I (350 + (4 * ((6 * v41) + v5)))
    refine ov_ifle (tgt := 86) d_219_68 (by decide) (by omega) (fun c114 => ?_) (fun c114 => ?_)
    · skip
      refine ov_blk (ls2 := [(0, ov_r 90), (1, ov_i v5), (2, ov_i v41), (3, ov_i (350 + (4 * ((6 * v41) + v5))))]) (st2 := [ov_r 90]) (pc2 := 87) b_219_86_1 rfl rfl ?_
      refine ov_getf (v := ov_i (h57 90 8)) d_219_87 fl_Mo_180 (zb_90 I58) (zs_90 I58) rfl ?_
      refine ov_ifle (tgt := 97) d_219_90 (by decide) (by omega) (fun c116 => ?_) (fun c116 => ?_)
      · skip
        refine ov_blk (ls2 := [(0, ov_r 90), (1, ov_i v5), (2, ov_i v41), (3, ov_i (350 + (4 * ((6 * v41) + v5))))]) (st2 := [ov_i 4, ov_i 13, ov_r 90]) (pc2 := 101) b_219_97_3 rfl rfl ?_
        have cf117 : h57 92 (n) = h 92 (n) := congrFun E59 (n)
        refine ov_cV (as := [ov_i 13, ov_i 4]) (st := []) (d2 := d - 1) d_219_101 lk_Mo_202 rfl (Nat.le_of_ble_eq_true rfl) (c := 1) (zb_90 I58) (zs_90 I58) ⟨by decide, rfl⟩ (by omega) (c_Mo_wordHere_90 n (d - 1) (by omega) U I58 13 4 (by omega) (by omega) (by show 0 ≤ n ∧ n ≤ 1000 ∧ (h57 92 (n)) = 0 ∧ (h57 90 7) ≤ n; omega) (by omega)) ?_
        rintro _ _ _ ⟨v119, rfl, rfl, rfl, f118⟩
        show ov_R u d ov_m219 104 [(0, ov_r 90), (1, ov_i v5), (2, ov_i v41), (3, ov_i (350 + (4 * ((6 * v41) + v5))))] [ov_i v119] z56 h57 (P_Mo_readLight_90 F z h n)
        have f120 : -1 ≤ v119 ∧ v119 < (4 : Int) ∧ (0 ≤ v119 → (h57 90 7) < n ∧ (h57 90 8) = 0) := f118
        clear f118
        refine ov_blk (ls2 := [(0, ov_r 90), (1, ov_i v5), (2, ov_i v41), (3, ov_i (350 + (4 * ((6 * v41) + v5)))), (4, ov_i v119)]) (st2 := [ov_i v119]) (pc2 := 108) b_219_104_2 rfl rfl ?_
        refine ov_ifge (tgt := 117) d_219_108 (by decide) (by omega) (fun c121 => ?_) (fun c121 => ?_)
        · skip
          refine ov_blk (ls2 := [(0, ov_r 90), (1, ov_i v5), (2, ov_i v41), (3, ov_i (350 + (4 * ((6 * v41) + v5)))), (4, ov_i v119)]) (st2 := [ov_r 90, ov_r 90]) (pc2 := 119) b_219_117_2 rfl rfl ?_
          refine ov_getf (v := ov_i (h57 90 7)) d_219_119 fl_Mo_177 (zb_90 I58) (zs_90 I58) rfl ?_
          have g122 := rg_90_7 I58
          refine ov_blk (ls2 := [(0, ov_r 90), (1, ov_i v5), (2, ov_i v41), (3, ov_i (350 + (4 * ((6 * v41) + v5)))), (4, ov_i v119)]) (st2 := [ov_i ((h57 90 7) + 1), ov_r 90]) (pc2 := 124) b_219_122_2 rfl rfl ?_
          refine ov_putf (x := ((h57 90 7) + 1)) d_219_124 fl_Mo_177 (zb_90 I58) (zs_90 I58) rfl nk_0 rfl ?_
          have I123 := up_90_7 (x := ((h57 90 7) + 1)) I58 (by omega)
          refine ov_blk (ls2 := [(0, ov_r 90), (1, ov_i v5), (2, ov_i v41), (3, ov_i (350 + (4 * ((6 * v41) + v5)))), (4, ov_i v119)]) (st2 := [ov_i 60, ov_i 1, ov_i 9, ov_r 90]) (pc2 := 133) b_219_127_4 rfl rfl ?_
          have cf124 : h57 92 (n) = h 92 (n) := congrFun E59 (n)
          refine ov_cV (as := [ov_i 9, ov_i 1, ov_i 60]) (st := []) (d2 := d - 1) d_219_133 lk_Mo_232 rfl (Nat.le_of_ble_eq_true rfl) (c := 1) (zb_90 I123) (zs_90 I123) ⟨by decide, rfl⟩ (by omega) (c_Mo_takeAfter_90 n (d - 1) (by omega) U I123 9 1 60 (by omega) (by omega) (by omega) (by show 0 ≤ n ∧ n ≤ 1000 ∧ (h57 92 (n)) = 0 ∧ ((h57 90 7) + 1) ≤ n; omega) (by omega)) ?_
          rintro _ z141 h142 ⟨v126, rfl, I143, f125, e127, e128, e129, e130, e131, e132, e133, e134, e135, e136, e137, e138, e139, e140⟩
          have E144 : h142 92 = h 92 := Eq.trans e127 E59
          have E145 : h142 93 = h 93 := Eq.trans e128 E60
          have E146 : h142 94 = h 94 := Eq.trans e129 E61
          have E147 : h142 95 = h 95 := Eq.trans e130 E62
          have E148 : h142 96 = h 96 := Eq.trans e131 E63
          have E149 : h142 97 = h 97 := Eq.trans e132 E64
          have E150 : h142 98 = h 98 := Eq.trans e133 E65
          have E151 : h142 99 = h 99 := Eq.trans e134 E66
          have E152 : h142 100 = h 100 := Eq.trans e135 E67
          have E153 : h142 103 = h 103 := Eq.trans e136 E68
          have E154 : h142 105 = h 105 := Eq.trans e137 E69
          have E155 : h142 106 = h 106 := Eq.trans e138 E70
          have E156 : h142 109 = h 109 := Eq.trans e139 E71
          have E157 : h142 114 = h 114 := Eq.trans e140 E72
          show ov_R u d ov_m219 136 [(0, ov_r 90), (1, ov_i v5), (2, ov_i v41), (3, ov_i (350 + (4 * ((6 * v41) + v5)))), (4, ov_i v119)] [ov_i v126] z141 h142 (P_Mo_readLight_90 F z h n)
          have f158 : ((h57 90 7) + 1) ≤ (h142 90 7) ∧ (h142 90 7) ≤ n ∧ (0 < (h57 90 8) → (h142 90 8) = (h57 90 8)) ∧ ((h142 90 8) = 0 → (1 : Int) ≤ v126 ∧ v126 ≤ (60 : Int)) ∧ (0 < (h142 90 8) → v126 = 0) ∧ (h142 90 2) = (h57 90 2) ∧ (h142 90 3) = (h57 90 3) ∧ (h142 90 13) = (h57 90 13) ∧ (h142 90 20) = (h57 90 20) ∧ (h142 90 22) = (h57 90 22) ∧ (h142 90 25) = (h57 90 25) ∧ (h142 90 26) = (h57 90 26) ∧ (h142 90 27) = (h57 90 27) ∧ (h142 90 28) = (h57 90 28) ∧ (h142 90 29) = (h57 90 29) ∧ (h142 90 30) = (h57 90 30) ∧ (h142 90 34) = (h57 90 34) ∧ (h142 90 35) = (h57 90 35) ∧ (h142 90 37) = (h57 90 37) := f125
          clear f125
          refine ov_blk (ls2 := [(0, ov_r 90), (1, ov_i v5), (2, ov_i v41), (3, ov_i (350 + (4 * ((6 * v41) + v5)))), (4, ov_i v119), (5, ov_i v126)]) (st2 := [ov_r 90]) (pc2 := 139) b_219_136_2 rfl rfl ?_
          refine ov_getf (v := ov_i (h142 90 8)) d_219_139 fl_Mo_180 (zb_90 I143) (zs_90 I143) rfl ?_
          have g159 := rg_90_8 I143
          refine ov_ifgt (tgt := 151) d_219_142 (by decide) (by omega) (fun c160 => ?_) (fun c160 => ?_)
          · skip
            refine ov_blk (ls2 := [(0, ov_r 90), (1, ov_i v5), (2, ov_i v41), (3, ov_i (350 + (4 * ((6 * v41) + v5)))), (4, ov_i v119), (5, ov_i v126)]) (st2 := [ov_r 90]) (pc2 := 152) b_219_151_1 rfl rfl ?_
            refine ov_getf (v := ov_r 96) d_219_152 fl_Mo_81 (zb_90 I143) (zs_90 I143) (congrArg ov_r (rg_90_10 I143)) ?_
            refine ov_blk (ls2 := [(0, ov_r 90), (1, ov_i v5), (2, ov_i v41), (3, ov_i (350 + (4 * ((6 * v41) + v5)))), (4, ov_i v119), (5, ov_i v126)]) (st2 := [ov_i 349, ov_r 96]) (pc2 := 158) b_219_155_1 rfl rfl ?_
            refine ov_iald d_219_158 (zb_96 I143) (zs_96 I143) (by omega) ?_
            rw [show h142 96 = h 96 from E148]
            have g161 := t96_349 I
            refine ov_goto (tgt := 187) d_219_159 (by decide) ?_
            refine ov_blk (ls2 := [(0, ov_r 90), (1, ov_i v5), (2, ov_i v41), (3, ov_i (350 + (4 * ((6 * v41) + v5)))), (4, ov_i v119), (5, ov_i v126), (6, ov_i (h 96 349))]) (st2 := [ov_r 90]) (pc2 := 190) b_219_187_2 rfl rfl ?_
            refine ov_getf (v := ov_i (h142 90 8)) d_219_190 fl_Mo_180 (zb_90 I143) (zs_90 I143) rfl ?_
            refine ov_ifne (tgt := 219) d_219_193 (by decide) (by omega) (fun c163 => ?_) (fun c163 => ?_)
            · skip
              refine ov_blk (ls2 := [(0, ov_r 90), (1, ov_i v5), (2, ov_i v41), (3, ov_i (350 + (4 * ((6 * v41) + v5)))), (4, ov_i v119), (5, ov_i v126), (6, ov_i (h 96 349))]) (st2 := [ov_r 90]) (pc2 := 220) b_219_219_1 rfl rfl ?_
              refine ov_getf (v := ov_i (h142 90 8)) d_219_220 fl_Mo_180 (zb_90 I143) (zs_90 I143) rfl ?_
              refine ov_ifle (tgt := 227) d_219_223 (by decide) (by omega) (fun c165 => ?_) (fun c165 => ?_)
              · omega
              · skip
                have R166 : ov_RD (h 96) (h 97) (h 98) (h 90 13) (h142 96) (h142 97) (h142 98) (h 90 13) := by rw [show h142 96 = h 96 from E148, show h142 97 = h 97 from E149, show h142 98 = h 98 from E150]; exact ov_RD_refl _ _ _ _
                exact ov_retv (st := []) d_219_226 rfl ⟨rfl, I143, (by show (h 90 7) ≤ (h142 90 7) ∧ (h142 90 7) ≤ n ∧ (h 90 13) ≤ (h142 90 13) ∧ (h142 90 13) - (h 90 13) ≤ (h142 90 7) - (h 90 7) ∧ (h 96 340) = (h 96 340) ∧ (h 96 341) = (h 96 341) ∧ ((h142 90 8) = 0 → 1 ≤ (h 96 342) → 1 ≤ (h 96 342)) ∧ (1 ≤ (h 96 349) → 1 ≤ (h 96 349)) ∧ (h142 90 2) = (h 90 2) ∧ (h142 90 3) = (h 90 3) ∧ (h142 90 13) = (h 90 13) ∧ (h142 90 20) = (h 90 20) ∧ (h142 90 22) = (h 90 22) ∧ (h142 90 25) = (h 90 25) ∧ (h142 90 26) = (h 90 26) ∧ (h142 90 27) = (h 90 27) ∧ (h142 90 28) = (h 90 28) ∧ (h142 90 29) = (h 90 29) ∧ (h142 90 30) = (h 90 30) ∧ (h142 90 34) = (h 90 34) ∧ (h142 90 35) = (h 90 35) ∧ (h142 90 37) = (h 90 37); omega), E144, E145, E146, E147, E149, E150, E151, E152, E153, E154, E155, E156, E157, R166.1, R166.2.1, (fun _ w => by show ov_CS (h142 96) (h142 97) (h142 98) (h142 90 13); rw [show (h142 90 13) = h 90 13 by omega]; exact R166.2.2 w)⟩
            · omega
          · skip
            refine ov_blk (ls2 := [(0, ov_r 90), (1, ov_i v5), (2, ov_i v41), (3, ov_i (350 + (4 * ((6 * v41) + v5)))), (4, ov_i v119), (5, ov_i v126)]) (st2 := [ov_i 2, ov_i v119]) (pc2 := 148) b_219_145_2 rfl rfl ?_
            refine ov_iclt (tgt := 162) d_219_148 (by decide) (by omega) (by omega) (fun c167 => ?_) (fun c167 => ?_)
            · skip
              refine ov_blk (ls2 := [(0, ov_r 90), (1, ov_i v5), (2, ov_i v41), (3, ov_i (350 + (4 * ((6 * v41) + v5)))), (4, ov_i v119), (5, ov_i v126)]) (st2 := [ov_r 90]) (pc2 := 163) b_219_162_1 rfl rfl ?_
              refine ov_getf (v := ov_r 96) d_219_163 fl_Mo_81 (zb_90 I143) (zs_90 I143) (congrArg ov_r (rg_90_10 I143)) ?_
              refine ov_blk (ls2 := [(0, ov_r 90), (1, ov_i v5), (2, ov_i v41), (3, ov_i (350 + (4 * ((6 * v41) + v5)))), (4, ov_i v119), (5, ov_i v126)]) (st2 := [ov_i 349, ov_r 96]) (pc2 := 169) b_219_166_1 rfl rfl ?_
              refine ov_iald d_219_169 (zb_96 I143) (zs_96 I143) (by omega) ?_
              rw [show h142 96 = h 96 from E148]
              have g168 := t96_349 I
              refine ov_blk (ls2 := [(0, ov_r 90), (1, ov_i v5), (2, ov_i v41), (3, ov_i (350 + (4 * ((6 * v41) + v5)))), (4, ov_i v119), (5, ov_i v126)]) (st2 := [ov_r 90, ov_i (h 96 349)]) (pc2 := 171) b_219_170_1 rfl rfl ?_
              refine ov_getf (v := ov_r 96) d_219_171 fl_Mo_81 (zb_90 I143) (zs_90 I143) (congrArg ov_r (rg_90_10 I143)) ?_
              refine ov_blk (ls2 := [(0, ov_r 90), (1, ov_i v5), (2, ov_i v41), (3, ov_i (350 + (4 * ((6 * v41) + v5)))), (4, ov_i v119), (5, ov_i v126)]) (st2 := [ov_i 349, ov_r 96, ov_i (h 96 349)]) (pc2 := 177) b_219_174_1 rfl rfl ?_
              refine ov_iald d_219_177 (zb_96 I143) (zs_96 I143) (by omega) ?_
              rw [show h142 96 = h 96 from E148]
              refine ov_blk (ls2 := [(0, ov_r 90), (1, ov_i v5), (2, ov_i v41), (3, ov_i (350 + (4 * ((6 * v41) + v5)))), (4, ov_i v119), (5, ov_i v126)]) (st2 := [ov_i v126, ov_i (h 96 349), ov_i (h 96 349)]) (pc2 := 180) b_219_178_1 rfl rfl ?_
              refine ov_cS (as := [ov_i (h 96 349), ov_i v126]) (st := [ov_i (h 96 349)]) (d2 := d - 1) d_219_180 lk_Mo_236 rfl (Nat.le_of_ble_eq_true rfl) (by omega) (c_Mo_common (d - 1) (by omega) U I143 (h 96 349) v126 (by omega) (by omega) (by omega) (by omega)) ?_
              rintro _ _ _ ⟨v171, rfl, rfl, rfl, f170⟩
              show ov_R u d ov_m219 183 [(0, ov_r 90), (1, ov_i v5), (2, ov_i v41), (3, ov_i (350 + (4 * ((6 * v41) + v5)))), (4, ov_i v119), (5, ov_i v126)] [ov_i v171, ov_i (h 96 349)] z141 h142 (P_Mo_readLight_90 F z h n)
              have f172 : 1 ≤ v171 ∧ v171 ≤ 1200 ∧ (1 ≤ (h 96 349) → v171 ≤ (h 96 349)) := f170
              clear f170
              have gd := ov_tdp (a := (h 96 349)) (b := v171) (by omega) (by omega)
              refine ov_idiv d_219_183 (by omega) (by omega) (by omega) ?_
              have g173 := ov_tdl (a := (h 96 349)) (b := v171) (by omega) (by omega)
              refine ov_blk (ls2 := [(0, ov_r 90), (1, ov_i v5), (2, ov_i v41), (3, ov_i (350 + (4 * ((6 * v41) + v5)))), (4, ov_i v119), (5, ov_i v126)]) (st2 := [ov_i v126, ov_i (Int.tdiv (h 96 349) v171)]) (pc2 := 186) b_219_184_1 rfl rfl ?_
              have gq := ov_mulb (q := (Int.tdiv (h 96 349) v171)) (b := v126) (A := 1200) (B := 60) (by omega) (by omega) (by omega) (by omega)
              refine ov_blk (ls2 := [(0, ov_r 90), (1, ov_i v5), (2, ov_i v41), (3, ov_i (350 + (4 * ((6 * v41) + v5)))), (4, ov_i v119), (5, ov_i v126), (6, ov_i ((Int.tdiv (h 96 349) v171) * v126))]) (st2 := [ov_r 90]) (pc2 := 190) b_219_186_3 rfl rfl ?_
              refine ov_getf (v := ov_i (h142 90 8)) d_219_190 fl_Mo_180 (zb_90 I143) (zs_90 I143) rfl ?_
              refine ov_ifne (tgt := 219) d_219_193 (by decide) (by omega) (fun c175 => ?_) (fun c175 => ?_)
              · omega
              · skip
                refine ov_blk (ls2 := [(0, ov_r 90), (1, ov_i v5), (2, ov_i v41), (3, ov_i (350 + (4 * ((6 * v41) + v5)))), (4, ov_i v119), (5, ov_i v126), (6, ov_i ((Int.tdiv (h 96 349) v171) * v126))]) (st2 := [ov_i 1200, ov_i ((Int.tdiv (h 96 349) v171) * v126)]) (pc2 := 201) b_219_196_2 rfl rfl ?_
                refine ov_icle (tgt := 219) d_219_201 (by decide) (by omega) (by omega) (fun c176 => ?_) (fun c176 => ?_)
                · skip
                  refine ov_blk (ls2 := [(0, ov_r 90), (1, ov_i v5), (2, ov_i v41), (3, ov_i (350 + (4 * ((6 * v41) + v5)))), (4, ov_i v119), (5, ov_i v126), (6, ov_i ((Int.tdiv (h 96 349) v171) * v126))]) (st2 := [ov_r 90]) (pc2 := 220) b_219_219_1 rfl rfl ?_
                  refine ov_getf (v := ov_i (h142 90 8)) d_219_220 fl_Mo_180 (zb_90 I143) (zs_90 I143) rfl ?_
                  refine ov_ifle (tgt := 227) d_219_223 (by decide) (by omega) (fun c178 => ?_) (fun c178 => ?_)
                  · skip
                    refine ov_blk (ls2 := [(0, ov_r 90), (1, ov_i v5), (2, ov_i v41), (3, ov_i (350 + (4 * ((6 * v41) + v5)))), (4, ov_i v119), (5, ov_i v126), (6, ov_i ((Int.tdiv (h 96 349) v171) * v126))]) (st2 := [ov_r 90]) (pc2 := 228) b_219_227_1 rfl rfl ?_
                    refine ov_getf (v := ov_r 96) d_219_228 fl_Mo_81 (zb_90 I143) (zs_90 I143) (congrArg ov_r (rg_90_10 I143)) ?_
                    refine ov_blk (ls2 := [(0, ov_r 90), (1, ov_i v5), (2, ov_i v41), (3, ov_i (350 + (4 * ((6 * v41) + v5)))), (4, ov_i v119), (5, ov_i v126), (6, ov_i ((Int.tdiv (h 96 349) v171) * v126))]) (st2 := [ov_i ((Int.tdiv (h 96 349) v171) * v126), ov_i 349, ov_r 96]) (pc2 := 236) b_219_231_2 rfl rfl ?_
                    refine ov_iast d_219_236 (zb_96 I143) (zs_96 I143) (by omega) ?_
                    have I179 := ua_96 (k := 349) (x := ((Int.tdiv (h 96 349) v171) * v126)) I143 (by refine ⟨?_, ?_, ?_, ?_, ?_, ?_, ?_, ?_, ?_, ?_, ?_, ?_, ?_, ?_, ?_, ?_, ?_, ?_, ?_, ?_, ?_, ?_, ?_, ?_, ?_, ?_, ?_, ?_, ?_⟩ <;> omega)
                    have R180 : ov_RD (h 96) (h 97) (h 98) (h 90 13) (h142 96) (h142 97) (h142 98) (h 90 13) := by rw [show h142 96 = h 96 from E148, show h142 97 = h 97 from E149, show h142 98 = h 98 from E150]; exact ov_RD_refl _ _ _ _
                    have R181 : ov_RD (h 96) (h 97) (h 98) (h 90 13) ((ov_up h142 96 349 ((Int.tdiv (h 96 349) v171) * v126)) 96) ((ov_up h142 96 349 ((Int.tdiv (h 96 349) v171) * v126)) 97) ((ov_up h142 96 349 ((Int.tdiv (h 96 349) v171) * v126)) 98) (h 90 13) := by rw [ov_up_row]; exact ov_RD_w R180 (t96_348 I143).2 (by omega)
                    refine ov_blk (ls2 := [(0, ov_r 90), (1, ov_i v5), (2, ov_i v41), (3, ov_i (350 + (4 * ((6 * v41) + v5)))), (4, ov_i v119), (5, ov_i v126), (6, ov_i ((Int.tdiv (h 96 349) v171) * v126))]) (st2 := [ov_r 90]) (pc2 := 238) b_219_237_1 rfl rfl ?_
                    refine ov_getf (v := ov_r 96) d_219_238 fl_Mo_81 (zb_90 I179) (zs_90 I179) (congrArg ov_r (rg_90_10 I179)) ?_
                    refine ov_blk (ls2 := [(0, ov_r 90), (1, ov_i v5), (2, ov_i v41), (3, ov_i (350 + (4 * ((6 * v41) + v5)))), (4, ov_i v119), (5, ov_i v126), (6, ov_i ((Int.tdiv (h 96 349) v171) * v126))]) (st2 := [ov_i (1 + v119), ov_i (350 + (4 * ((6 * v41) + v5))), ov_r 96]) (pc2 := 246) b_219_241_4 rfl rfl ?_
                    refine ov_iast d_219_246 (zb_96 I179) (zs_96 I179) (by omega) ?_
                    have I182 := ua_96 (k := (350 + (4 * ((6 * v41) + v5)))) (x := (1 + v119)) I179 (by refine ⟨?_, ?_, ?_, ?_, ?_, ?_, ?_, ?_, ?_, ?_, ?_, ?_, ?_, ?_, ?_, ?_, ?_, ?_, ?_, ?_, ?_, ?_, ?_, ?_, ?_, ?_, ?_, ?_, ?_⟩ <;> omega)
                    refine ov_blk (ls2 := [(0, ov_r 90), (1, ov_i v5), (2, ov_i v41), (3, ov_i (350 + (4 * ((6 * v41) + v5)))), (4, ov_i v119), (5, ov_i v126), (6, ov_i ((Int.tdiv (h 96 349) v171) * v126))]) (st2 := [ov_r 90]) (pc2 := 248) b_219_247_1 rfl rfl ?_
                    refine ov_getf (v := ov_r 96) d_219_248 fl_Mo_81 (zb_90 I182) (zs_90 I182) (congrArg ov_r (rg_90_10 I182)) ?_
                    refine ov_blk (ls2 := [(0, ov_r 90), (1, ov_i v5), (2, ov_i v41), (3, ov_i (350 + (4 * ((6 * v41) + v5)))), (4, ov_i v119), (5, ov_i v126), (6, ov_i ((Int.tdiv (h 96 349) v171) * v126))]) (st2 := [ov_i v126, ov_i ((350 + (4 * ((6 * v41) + v5))) + 1), ov_r 96]) (pc2 := 256) b_219_251_4 rfl rfl ?_
                    refine ov_iast d_219_256 (zb_96 I182) (zs_96 I182) (by omega) ?_
                    have I183 := ua_96 (k := ((350 + (4 * ((6 * v41) + v5))) + 1)) (x := v126) I182 (by refine ⟨?_, ?_, ?_, ?_, ?_, ?_, ?_, ?_, ?_, ?_, ?_, ?_, ?_, ?_, ?_, ?_, ?_, ?_, ?_, ?_, ?_, ?_, ?_, ?_, ?_, ?_, ?_, ?_, ?_⟩ <;> omega)
                    have R184 : ov_RD (h 96) (h 97) (h 98) (h 90 13) ((ov_up (ov_up (ov_up h142 96 349 ((Int.tdiv (h 96 349) v171) * v126)) 96 (350 + (4 * ((6 * v41) + v5))) (1 + v119)) 96 ((350 + (4 * ((6 * v41) + v5))) + 1) v126) 96) ((ov_up (ov_up (ov_up h142 96 349 ((Int.tdiv (h 96 349) v171) * v126)) 96 (350 + (4 * ((6 * v41) + v5))) (1 + v119)) 96 ((350 + (4 * ((6 * v41) + v5))) + 1) v126) 97) ((ov_up (ov_up (ov_up h142 96 349 ((Int.tdiv (h 96 349) v171) * v126)) 96 (350 + (4 * ((6 * v41) + v5))) (1 + v119)) 96 ((350 + (4 * ((6 * v41) + v5))) + 1) v126) 98) (h 90 13) := by rw [ov_up_row, ov_up_row]; exact ov_RD_k R181 (t96_348 I179).2 (e := 6 * v41 + v5) (by omega) (by omega) (by omega) (by omega)
                    refine ov_blk (ls2 := [(0, ov_r 90), (1, ov_i v5), (2, ov_i v41), (3, ov_i (350 + (4 * ((6 * v41) + v5)))), (4, ov_i v119), (5, ov_i v126), (6, ov_i ((Int.tdiv (h 96 349) v171) * v126))]) (st2 := [ov_r 90]) (pc2 := 258) b_219_257_1 rfl rfl ?_
                    refine ov_getf (v := ov_r 96) d_219_258 fl_Mo_81 (zb_90 I183) (zs_90 I183) (congrArg ov_r (rg_90_10 I183)) ?_
                    refine ov_blk (ls2 := [(0, ov_r 90), (1, ov_i v5), (2, ov_i v41), (3, ov_i (350 + (4 * ((6 * v41) + v5)))), (4, ov_i v119), (5, ov_i v126), (6, ov_i ((Int.tdiv (h 96 349) v171) * v126))]) (st2 := [ov_i (v126 - 1), ov_i 0, ov_i 10, ov_r 90, ov_i ((350 + (4 * ((6 * v41) + v5))) + 2), ov_r 96]) (pc2 := 272) b_219_261_9 rfl rfl ?_
                    have cf185 : h142 92 (n) = h 92 (n) := congrFun E144 (n)
                    refine ov_cV (as := [ov_i 10, ov_i 0, ov_i (v126 - 1)]) (st := [ov_i ((350 + (4 * ((6 * v41) + v5))) + 2), ov_r 96]) (d2 := d - 1) d_219_272 lk_Mo_232 rfl (Nat.le_of_ble_eq_true rfl) (c := 1) (zb_90 I183) (zs_90 I183) ⟨by decide, rfl⟩ (by omega) (c_Mo_takeAfter_90 n (d - 1) (by omega) U I183 10 0 (v126 - 1) (by omega) (by omega) (by omega) (by show 0 ≤ n ∧ n ≤ 1000 ∧ (h142 92 (n)) = 0 ∧ (h142 90 7) ≤ n; omega) (by omega)) ?_
                    rintro _ z202 h203 ⟨v187, rfl, I204, f186, e188, e189, e190, e191, e192, e193, e194, e195, e196, e197, e198, e199, e200, e201⟩
                    have E205 : h203 92 = h 92 := Eq.trans e188 E144
                    have E206 : h203 93 = h 93 := Eq.trans e189 E145
                    have E207 : h203 94 = h 94 := Eq.trans e190 E146
                    have E208 : h203 95 = h 95 := Eq.trans e191 E147
                    have E209 : h203 97 = h 97 := Eq.trans e193 E149
                    have E210 : h203 98 = h 98 := Eq.trans e194 E150
                    have E211 : h203 99 = h 99 := Eq.trans e195 E151
                    have E212 : h203 100 = h 100 := Eq.trans e196 E152
                    have E213 : h203 103 = h 103 := Eq.trans e197 E153
                    have E214 : h203 105 = h 105 := Eq.trans e198 E154
                    have E215 : h203 106 = h 106 := Eq.trans e199 E155
                    have E216 : h203 109 = h 109 := Eq.trans e200 E156
                    have E217 : h203 114 = h 114 := Eq.trans e201 E157
                    show ov_R u d ov_m219 275 [(0, ov_r 90), (1, ov_i v5), (2, ov_i v41), (3, ov_i (350 + (4 * ((6 * v41) + v5)))), (4, ov_i v119), (5, ov_i v126), (6, ov_i ((Int.tdiv (h 96 349) v171) * v126))] [ov_i v187, ov_i ((350 + (4 * ((6 * v41) + v5))) + 2), ov_r 96] z202 h203 (P_Mo_readLight_90 F z h n)
                    have f218 : (h142 90 7) ≤ (h203 90 7) ∧ (h203 90 7) ≤ n ∧ (0 < (h142 90 8) → (h203 90 8) = (h142 90 8)) ∧ ((h203 90 8) = 0 → (0 : Int) ≤ v187 ∧ v187 ≤ (v126 - 1)) ∧ (0 < (h203 90 8) → v187 = 0) ∧ (h203 90 2) = (h142 90 2) ∧ (h203 90 3) = (h142 90 3) ∧ (h203 90 13) = (h142 90 13) ∧ (h203 90 20) = (h142 90 20) ∧ (h203 90 22) = (h142 90 22) ∧ (h203 90 25) = (h142 90 25) ∧ (h203 90 26) = (h142 90 26) ∧ (h203 90 27) = (h142 90 27) ∧ (h203 90 28) = (h142 90 28) ∧ (h203 90 29) = (h142 90 29) ∧ (h203 90 30) = (h142 90 30) ∧ (h203 90 34) = (h142 90 34) ∧ (h203 90 35) = (h142 90 35) ∧ (h203 90 37) = (h142 90 37) := f186
                    clear f186
                    have R219 : ov_RD (h 96) (h 97) (h 98) (h 90 13) (h203 96) (h203 97) (h203 98) (h 90 13) := by rw [e192, e193, e194]; exact R184
                    refine ov_iast d_219_275 (zb_96 I204) (zs_96 I204) (by omega) ?_
                    have I220 := ua_96 (k := ((350 + (4 * ((6 * v41) + v5))) + 2)) (x := v187) I204 (by refine ⟨?_, ?_, ?_, ?_, ?_, ?_, ?_, ?_, ?_, ?_, ?_, ?_, ?_, ?_, ?_, ?_, ?_, ?_, ?_, ?_, ?_, ?_, ?_, ?_, ?_, ?_, ?_, ?_, ?_⟩ <;> omega)
                    have R221 : ov_RD (h 96) (h 97) (h 98) (h 90 13) ((ov_up h203 96 ((350 + (4 * ((6 * v41) + v5))) + 2) v187) 96) ((ov_up h203 96 ((350 + (4 * ((6 * v41) + v5))) + 2) v187) 97) ((ov_up h203 96 ((350 + (4 * ((6 * v41) + v5))) + 2) v187) 98) (h 90 13) := by rw [ov_up_row]; exact ov_RD_l R219 (t96_348 I204).2 (e := 6 * v41 + v5) (i := 2) (by omega) (Or.inl rfl) (by omega)
                    refine ov_blk (ls2 := [(0, ov_r 90), (1, ov_i v5), (2, ov_i v41), (3, ov_i (350 + (4 * ((6 * v41) + v5)))), (4, ov_i v119), (5, ov_i v126), (6, ov_i ((Int.tdiv (h 96 349) v171) * v126))]) (st2 := [ov_r 90]) (pc2 := 277) b_219_276_1 rfl rfl ?_
                    refine ov_getf (v := ov_r 96) d_219_277 fl_Mo_81 (zb_90 I220) (zs_90 I220) (congrArg ov_r (rg_90_10 I220)) ?_
                    refine ov_blk (ls2 := [(0, ov_r 90), (1, ov_i v5), (2, ov_i v41), (3, ov_i (350 + (4 * ((6 * v41) + v5)))), (4, ov_i v119), (5, ov_i v126), (6, ov_i ((Int.tdiv (h 96 349) v171) * v126))]) (st2 := [ov_i v126, ov_i 0, ov_i 12, ov_r 90, ov_i ((350 + (4 * ((6 * v41) + v5))) + 3), ov_r 96]) (pc2 := 289) b_219_280_7 rfl rfl ?_
                    have cf222 : h203 92 (n) = h 92 (n) := congrFun E205 (n)
                    refine ov_cV (as := [ov_i 12, ov_i 0, ov_i v126]) (st := [ov_i ((350 + (4 * ((6 * v41) + v5))) + 3), ov_r 96]) (d2 := d - 1) d_219_289 lk_Mo_232 rfl (Nat.le_of_ble_eq_true rfl) (c := 1) (zb_90 I220) (zs_90 I220) ⟨by decide, rfl⟩ (by omega) (c_Mo_takeAfter_90 n (d - 1) (by omega) U I220 12 0 v126 (by omega) (by omega) (by omega) (by show 0 ≤ n ∧ n ≤ 1000 ∧ (h203 92 (n)) = 0 ∧ (h203 90 7) ≤ n; omega) (by omega)) ?_
                    rintro _ z239 h240 ⟨v224, rfl, I241, f223, e225, e226, e227, e228, e229, e230, e231, e232, e233, e234, e235, e236, e237, e238⟩
                    have E242 : h240 92 = h 92 := Eq.trans e225 E205
                    have E243 : h240 93 = h 93 := Eq.trans e226 E206
                    have E244 : h240 94 = h 94 := Eq.trans e227 E207
                    have E245 : h240 95 = h 95 := Eq.trans e228 E208
                    have E246 : h240 97 = h 97 := Eq.trans e230 E209
                    have E247 : h240 98 = h 98 := Eq.trans e231 E210
                    have E248 : h240 99 = h 99 := Eq.trans e232 E211
                    have E249 : h240 100 = h 100 := Eq.trans e233 E212
                    have E250 : h240 103 = h 103 := Eq.trans e234 E213
                    have E251 : h240 105 = h 105 := Eq.trans e235 E214
                    have E252 : h240 106 = h 106 := Eq.trans e236 E215
                    have E253 : h240 109 = h 109 := Eq.trans e237 E216
                    have E254 : h240 114 = h 114 := Eq.trans e238 E217
                    show ov_R u d ov_m219 292 [(0, ov_r 90), (1, ov_i v5), (2, ov_i v41), (3, ov_i (350 + (4 * ((6 * v41) + v5)))), (4, ov_i v119), (5, ov_i v126), (6, ov_i ((Int.tdiv (h 96 349) v171) * v126))] [ov_i v224, ov_i ((350 + (4 * ((6 * v41) + v5))) + 3), ov_r 96] z239 h240 (P_Mo_readLight_90 F z h n)
                    have f255 : (h203 90 7) ≤ (h240 90 7) ∧ (h240 90 7) ≤ n ∧ (0 < (h203 90 8) → (h240 90 8) = (h203 90 8)) ∧ ((h240 90 8) = 0 → (0 : Int) ≤ v224 ∧ v224 ≤ v126) ∧ (0 < (h240 90 8) → v224 = 0) ∧ (h240 90 2) = (h203 90 2) ∧ (h240 90 3) = (h203 90 3) ∧ (h240 90 13) = (h203 90 13) ∧ (h240 90 20) = (h203 90 20) ∧ (h240 90 22) = (h203 90 22) ∧ (h240 90 25) = (h203 90 25) ∧ (h240 90 26) = (h203 90 26) ∧ (h240 90 27) = (h203 90 27) ∧ (h240 90 28) = (h203 90 28) ∧ (h240 90 29) = (h203 90 29) ∧ (h240 90 30) = (h203 90 30) ∧ (h240 90 34) = (h203 90 34) ∧ (h240 90 35) = (h203 90 35) ∧ (h240 90 37) = (h203 90 37) := f223
                    clear f223
                    have R256 : ov_RD (h 96) (h 97) (h 98) (h 90 13) (h240 96) (h240 97) (h240 98) (h 90 13) := by rw [e229, e230, e231]; exact R221
                    refine ov_iast d_219_292 (zb_96 I241) (zs_96 I241) (by omega) ?_
                    have I257 := ua_96 (k := ((350 + (4 * ((6 * v41) + v5))) + 3)) (x := v224) I241 (by refine ⟨?_, ?_, ?_, ?_, ?_, ?_, ?_, ?_, ?_, ?_, ?_, ?_, ?_, ?_, ?_, ?_, ?_, ?_, ?_, ?_, ?_, ?_, ?_, ?_, ?_, ?_, ?_, ?_, ?_⟩ <;> omega)
                    have R258 : ov_RD (h 96) (h 97) (h 98) (h 90 13) ((ov_up h240 96 ((350 + (4 * ((6 * v41) + v5))) + 3) v224) 96) ((ov_up h240 96 ((350 + (4 * ((6 * v41) + v5))) + 3) v224) 97) ((ov_up h240 96 ((350 + (4 * ((6 * v41) + v5))) + 3) v224) 98) (h 90 13) := by rw [ov_up_row]; exact ov_RD_l R256 (t96_348 I241).2 (e := 6 * v41 + v5) (i := 3) (by omega) (Or.inr rfl) (by omega)
                    refine ov_blk (ls2 := [(0, ov_r 90), (1, ov_i v5), (2, ov_i v41), (3, ov_i (350 + (4 * ((6 * v41) + v5)))), (4, ov_i v119), (5, ov_i v126), (6, ov_i ((Int.tdiv (h 96 349) v171) * v126))]) (st2 := [ov_r 90]) (pc2 := 294) b_219_293_1 rfl rfl ?_
                    refine ov_getf (v := ov_r 96) d_219_294 fl_Mo_81 (zb_90 I257) (zs_90 I257) (congrArg ov_r (rg_90_10 I257)) ?_
                    refine ov_blk (ls2 := [(0, ov_r 90), (1, ov_i v5), (2, ov_i v41), (3, ov_i (350 + (4 * ((6 * v41) + v5)))), (4, ov_i v119), (5, ov_i v126), (6, ov_i ((Int.tdiv (h 96 349) v171) * v126))]) (st2 := [ov_i 347, ov_r 96, ov_i 347, ov_r 96]) (pc2 := 301) b_219_297_2 rfl rfl ?_
                    refine ov_iald d_219_301 (zb_96 I257) (zs_96 I257) (by omega) ?_
                    show ov_R u d ov_m219 302 [(0, ov_r 90), (1, ov_i v5), (2, ov_i v41), (3, ov_i (350 + (4 * ((6 * v41) + v5)))), (4, ov_i v119), (5, ov_i v126), (6, ov_i ((Int.tdiv (h 96 349) v171) * v126))] [ov_i ((ov_up h240 96 ((350 + (4 * ((6 * v41) + v5))) + 3) v224) 96 347), ov_i 347, ov_r 96] z239 (ov_up h240 96 ((350 + (4 * ((6 * v41) + v5))) + 3) v224) (P_Mo_readLight_90 F z h n)
                    refine ov_blk (ls2 := [(0, ov_r 90), (1, ov_i v5), (2, ov_i v41), (3, ov_i (350 + (4 * ((6 * v41) + v5)))), (4, ov_i v119), (5, ov_i v126), (6, ov_i ((Int.tdiv (h 96 349) v171) * v126))]) (st2 := [ov_i (((ov_up h240 96 ((350 + (4 * ((6 * v41) + v5))) + 3) v224) 96 347) + 1), ov_i 347, ov_r 96]) (pc2 := 304) b_219_302_2 rfl rfl ?_
                    refine ov_havw (fun w259 gw259 qw259 => ?_)
                    refine ov_iast d_219_304 (zb_96 I257) (zs_96 I257) (by omega) ?_
                    have I260 := ua_96 (k := 347) (x := w259) I257 (by refine ⟨?_, ?_, ?_, ?_, ?_, ?_, ?_, ?_, ?_, ?_, ?_, ?_, ?_, ?_, ?_, ?_, ?_, ?_, ?_, ?_, ?_, ?_, ?_, ?_, ?_, ?_, ?_, ?_, ?_⟩ <;> omega)
                    have R261 : ov_RD (h 96) (h 97) (h 98) (h 90 13) ((ov_up (ov_up h240 96 ((350 + (4 * ((6 * v41) + v5))) + 3) v224) 96 347 w259) 96) ((ov_up (ov_up h240 96 ((350 + (4 * ((6 * v41) + v5))) + 3) v224) 96 347 w259) 97) ((ov_up (ov_up h240 96 ((350 + (4 * ((6 * v41) + v5))) + 3) v224) 96 347 w259) 98) (h 90 13) := by rw [ov_up_row]; exact ov_RD_w R258 (t96_348 I257).2 (by omega)
                    have lt262 : (ov_up (ov_up h240 96 ((350 + (4 * ((6 * v41) + v5))) + 3) v224) 96 347 w259) 96 340 = h240 96 340 := by rw [ov_up_j (by omega)]; rw [ov_up_j (by omega)]; rfl
                    have lt263 : (ov_up (ov_up h240 96 ((350 + (4 * ((6 * v41) + v5))) + 3) v224) 96 347 w259) 96 341 = h240 96 341 := by rw [ov_up_j (by omega)]; rw [ov_up_j (by omega)]; rfl
                    have lt264 : (ov_up (ov_up h240 96 ((350 + (4 * ((6 * v41) + v5))) + 3) v224) 96 347 w259) 96 342 = h240 96 342 := by rw [ov_up_j (by omega)]; rw [ov_up_j (by omega)]; rfl
                    have lt265 : (ov_up (ov_up h240 96 ((350 + (4 * ((6 * v41) + v5))) + 3) v224) 96 347 w259) 96 348 = h240 96 348 := by rw [ov_up_j (by omega)]; rw [ov_up_j (by omega)]; rfl
                    have lt266 : (ov_up (ov_up h240 96 ((350 + (4 * ((6 * v41) + v5))) + 3) v224) 96 347 w259) 96 349 = h240 96 349 := by rw [ov_up_j (by omega)]; rw [ov_up_j (by omega)]; rfl
                    exact ov_retv (st := []) d_219_305 rfl ⟨rfl, I260, (by show (h 90 7) ≤ (h240 90 7) ∧ (h240 90 7) ≤ n ∧ (h 90 13) ≤ (h240 90 13) ∧ (h240 90 13) - (h 90 13) ≤ (h240 90 7) - (h 90 7) ∧ ((ov_up h240 96 ((350 + (4 * ((6 * v41) + v5))) + 3) v224) 96 340) = (h 96 340) ∧ ((ov_up h240 96 ((350 + (4 * ((6 * v41) + v5))) + 3) v224) 96 341) = (h 96 341) ∧ ((h240 90 8) = 0 → 1 ≤ (h 96 342) → 1 ≤ ((ov_up h240 96 ((350 + (4 * ((6 * v41) + v5))) + 3) v224) 96 342)) ∧ (1 ≤ (h 96 349) → 1 ≤ ((ov_up h240 96 ((350 + (4 * ((6 * v41) + v5))) + 3) v224) 96 349)) ∧ (h240 90 2) = (h 90 2) ∧ (h240 90 3) = (h 90 3) ∧ (h240 90 13) = (h 90 13) ∧ (h240 90 20) = (h 90 20) ∧ (h240 90 22) = (h 90 22) ∧ (h240 90 25) = (h 90 25) ∧ (h240 90 26) = (h 90 26) ∧ (h240 90 27) = (h 90 27) ∧ (h240 90 28) = (h 90 28) ∧ (h240 90 29) = (h 90 29) ∧ (h240 90 30) = (h 90 30) ∧ (h240 90 34) = (h 90 34) ∧ (h240 90 35) = (h 90 35) ∧ (h240 90 37) = (h 90 37); omega), E242, E243, E244, E245, E246, E247, E248, E249, E250, E251, E252, E253, E254, R261.1, R261.2.1, (fun _ w => by show ov_CS ((ov_up (ov_up h240 96 ((350 + (4 * ((6 * v41) + v5))) + 3) v224) 96 347 w259) 96) ((ov_up (ov_up h240 96 ((350 + (4 * ((6 * v41) + v5))) + 3) v224) 96 347 w259) 97) ((ov_up (ov_up h240 96 ((350 + (4 * ((6 * v41) + v5))) + 3) v224) 96 347 w259) 98) (h240 90 13); rw [show (h240 90 13) = h 90 13 by omega]; exact R261.2.2 w)⟩
                  · omega
                · skip
                  refine ov_blk (ls2 := [(0, ov_r 90), (1, ov_i v5), (2, ov_i v41), (3, ov_i (350 + (4 * ((6 * v41) + v5)))), (4, ov_i v119), (5, ov_i v126), (6, ov_i ((Int.tdiv (h 96 349) v171) * v126))]) (st2 := [ov_r 90, ov_r 90]) (pc2 := 206) b_219_204_2 rfl rfl ?_
                  refine ov_getf (v := ov_i (h142 90 7)) d_219_206 fl_Mo_177 (zb_90 I143) (zs_90 I143) rfl ?_
                  have g267 := rg_90_7 I143
                  refine ov_blk (ls2 := [(0, ov_r 90), (1, ov_i v5), (2, ov_i v41), (3, ov_i (350 + (4 * ((6 * v41) + v5)))), (4, ov_i v119), (5, ov_i v126), (6, ov_i ((Int.tdiv (h 96 349) v171) * v126))]) (st2 := [ov_i ((h142 90 7) - 1), ov_r 90]) (pc2 := 211) b_219_209_2 rfl rfl ?_
                  refine ov_putf (x := ((h142 90 7) - 1)) d_219_211 fl_Mo_177 (zb_90 I143) (zs_90 I143) rfl nk_0 rfl ?_
                  have I268 := up_90_7 (x := ((h142 90 7) - 1)) I143 (by omega)
                  refine ov_blk (ls2 := [(0, ov_r 90), (1, ov_i v5), (2, ov_i v41), (3, ov_i (350 + (4 * ((6 * v41) + v5)))), (4, ov_i v119), (5, ov_i v126), (6, ov_i ((Int.tdiv (h 96 349) v171) * v126))]) (st2 := [ov_i 4, ov_r 90]) (pc2 := 216) b_219_214_2 rfl rfl ?_
                  refine ov_cV (as := [ov_i 4]) (st := []) (d2 := d - 1) d_219_216 lk_Mo_186 rfl (Nat.le_of_ble_eq_true rfl) (c := 1) (zb_90 I268) (zs_90 I268) ⟨by decide, rfl⟩ (by omega) (c_Mo_wrong_90 (d - 1) (by omega) U I268 4 (by omega) (by omega)) ?_
                  rintro _ z284 h285 ⟨rfl, I286, f269, e270, e271, e272, e273, e274, e275, e276, e277, e278, e279, e280, e281, e282, e283⟩
                  have E287 : h285 92 = h 92 := Eq.trans e270 E144
                  have E288 : h285 93 = h 93 := Eq.trans e271 E145
                  have E289 : h285 94 = h 94 := Eq.trans e272 E146
                  have E290 : h285 95 = h 95 := Eq.trans e273 E147
                  have E291 : h285 96 = h 96 := Eq.trans e274 E148
                  have E292 : h285 97 = h 97 := Eq.trans e275 E149
                  have E293 : h285 98 = h 98 := Eq.trans e276 E150
                  have E294 : h285 99 = h 99 := Eq.trans e277 E151
                  have E295 : h285 100 = h 100 := Eq.trans e278 E152
                  have E296 : h285 103 = h 103 := Eq.trans e279 E153
                  have E297 : h285 105 = h 105 := Eq.trans e280 E154
                  have E298 : h285 106 = h 106 := Eq.trans e281 E155
                  have E299 : h285 109 = h 109 := Eq.trans e282 E156
                  have E300 : h285 114 = h 114 := Eq.trans e283 E157
                  show ov_R u d ov_m219 219 [(0, ov_r 90), (1, ov_i v5), (2, ov_i v41), (3, ov_i (350 + (4 * ((6 * v41) + v5)))), (4, ov_i v119), (5, ov_i v126), (6, ov_i ((Int.tdiv (h 96 349) v171) * v126))] [] z284 h285 (P_Mo_readLight_90 F z h n)
                  have f301 : 0 < (h285 90 8) ∧ (0 < (h142 90 8) → (h285 90 8) = (h142 90 8)) ∧ (h285 90 2) = (h142 90 2) ∧ (h285 90 3) = (h142 90 3) ∧ (h285 90 7) = ((h142 90 7) - 1) ∧ (h285 90 13) = (h142 90 13) ∧ (h285 90 20) = (h142 90 20) ∧ (h285 90 22) = (h142 90 22) ∧ (h285 90 25) = (h142 90 25) ∧ (h285 90 26) = (h142 90 26) ∧ (h285 90 27) = (h142 90 27) ∧ (h285 90 28) = (h142 90 28) ∧ (h285 90 29) = (h142 90 29) ∧ (h285 90 30) = (h142 90 30) ∧ (h285 90 34) = (h142 90 34) ∧ (h285 90 35) = (h142 90 35) ∧ (h285 90 37) = (h142 90 37) := f269
                  clear f269
                  refine ov_blk (ls2 := [(0, ov_r 90), (1, ov_i v5), (2, ov_i v41), (3, ov_i (350 + (4 * ((6 * v41) + v5)))), (4, ov_i v119), (5, ov_i v126), (6, ov_i ((Int.tdiv (h 96 349) v171) * v126))]) (st2 := [ov_r 90]) (pc2 := 220) b_219_219_1 rfl rfl ?_
                  refine ov_getf (v := ov_i (h285 90 8)) d_219_220 fl_Mo_180 (zb_90 I286) (zs_90 I286) rfl ?_
                  have g302 := rg_90_8 I286
                  refine ov_ifle (tgt := 227) d_219_223 (by decide) (by omega) (fun c303 => ?_) (fun c303 => ?_)
                  · omega
                  · skip
                    have R304 : ov_RD (h 96) (h 97) (h 98) (h 90 13) (h285 96) (h285 97) (h285 98) (h 90 13) := by rw [show h285 96 = h 96 from E291, show h285 97 = h 97 from E292, show h285 98 = h 98 from E293]; exact ov_RD_refl _ _ _ _
                    exact ov_retv (st := []) d_219_226 rfl ⟨rfl, I286, (by show (h 90 7) ≤ (h285 90 7) ∧ (h285 90 7) ≤ n ∧ (h 90 13) ≤ (h285 90 13) ∧ (h285 90 13) - (h 90 13) ≤ (h285 90 7) - (h 90 7) ∧ (h 96 340) = (h 96 340) ∧ (h 96 341) = (h 96 341) ∧ ((h285 90 8) = 0 → 1 ≤ (h 96 342) → 1 ≤ (h 96 342)) ∧ (1 ≤ (h 96 349) → 1 ≤ (h 96 349)) ∧ (h285 90 2) = (h 90 2) ∧ (h285 90 3) = (h 90 3) ∧ (h285 90 13) = (h 90 13) ∧ (h285 90 20) = (h 90 20) ∧ (h285 90 22) = (h 90 22) ∧ (h285 90 25) = (h 90 25) ∧ (h285 90 26) = (h 90 26) ∧ (h285 90 27) = (h 90 27) ∧ (h285 90 28) = (h 90 28) ∧ (h285 90 29) = (h 90 29) ∧ (h285 90 30) = (h 90 30) ∧ (h285 90 34) = (h 90 34) ∧ (h285 90 35) = (h 90 35) ∧ (h285 90 37) = (h 90 37); omega), E287, E288, E289, E290, E292, E293, E294, E295, E296, E297, E298, E299, E300, R304.1, R304.2.1, (fun _ w => by show ov_CS (h285 96) (h285 97) (h285 98) (h285 90 13); rw [show (h285 90 13) = h 90 13 by omega]; exact R304.2.2 w)⟩
            · skip
              refine ov_blk (ls2 := [(0, ov_r 90), (1, ov_i v5), (2, ov_i v41), (3, ov_i (350 + (4 * ((6 * v41) + v5)))), (4, ov_i v119), (5, ov_i v126)]) (st2 := [ov_r 90]) (pc2 := 152) b_219_151_1 rfl rfl ?_
              refine ov_getf (v := ov_r 96) d_219_152 fl_Mo_81 (zb_90 I143) (zs_90 I143) (congrArg ov_r (rg_90_10 I143)) ?_
              refine ov_blk (ls2 := [(0, ov_r 90), (1, ov_i v5), (2, ov_i v41), (3, ov_i (350 + (4 * ((6 * v41) + v5)))), (4, ov_i v119), (5, ov_i v126)]) (st2 := [ov_i 349, ov_r 96]) (pc2 := 158) b_219_155_1 rfl rfl ?_
              refine ov_iald d_219_158 (zb_96 I143) (zs_96 I143) (by omega) ?_
              rw [show h142 96 = h 96 from E148]
              have g305 := t96_349 I
              refine ov_goto (tgt := 187) d_219_159 (by decide) ?_
              refine ov_blk (ls2 := [(0, ov_r 90), (1, ov_i v5), (2, ov_i v41), (3, ov_i (350 + (4 * ((6 * v41) + v5)))), (4, ov_i v119), (5, ov_i v126), (6, ov_i (h 96 349))]) (st2 := [ov_r 90]) (pc2 := 190) b_219_187_2 rfl rfl ?_
              refine ov_getf (v := ov_i (h142 90 8)) d_219_190 fl_Mo_180 (zb_90 I143) (zs_90 I143) rfl ?_
              refine ov_ifne (tgt := 219) d_219_193 (by decide) (by omega) (fun c307 => ?_) (fun c307 => ?_)
              · omega
              · skip
                refine ov_blk (ls2 := [(0, ov_r 90), (1, ov_i v5), (2, ov_i v41), (3, ov_i (350 + (4 * ((6 * v41) + v5)))), (4, ov_i v119), (5, ov_i v126), (6, ov_i (h 96 349))]) (st2 := [ov_i 1200, ov_i (h 96 349)]) (pc2 := 201) b_219_196_2 rfl rfl ?_
                refine ov_icle (tgt := 219) d_219_201 (by decide) (by omega) (by omega) (fun c308 => ?_) (fun c308 => ?_)
                · skip
                  refine ov_blk (ls2 := [(0, ov_r 90), (1, ov_i v5), (2, ov_i v41), (3, ov_i (350 + (4 * ((6 * v41) + v5)))), (4, ov_i v119), (5, ov_i v126), (6, ov_i (h 96 349))]) (st2 := [ov_r 90]) (pc2 := 220) b_219_219_1 rfl rfl ?_
                  refine ov_getf (v := ov_i (h142 90 8)) d_219_220 fl_Mo_180 (zb_90 I143) (zs_90 I143) rfl ?_
                  refine ov_ifle (tgt := 227) d_219_223 (by decide) (by omega) (fun c310 => ?_) (fun c310 => ?_)
                  · skip
                    refine ov_blk (ls2 := [(0, ov_r 90), (1, ov_i v5), (2, ov_i v41), (3, ov_i (350 + (4 * ((6 * v41) + v5)))), (4, ov_i v119), (5, ov_i v126), (6, ov_i (h 96 349))]) (st2 := [ov_r 90]) (pc2 := 228) b_219_227_1 rfl rfl ?_
                    refine ov_getf (v := ov_r 96) d_219_228 fl_Mo_81 (zb_90 I143) (zs_90 I143) (congrArg ov_r (rg_90_10 I143)) ?_
                    refine ov_blk (ls2 := [(0, ov_r 90), (1, ov_i v5), (2, ov_i v41), (3, ov_i (350 + (4 * ((6 * v41) + v5)))), (4, ov_i v119), (5, ov_i v126), (6, ov_i (h 96 349))]) (st2 := [ov_i (h 96 349), ov_i 349, ov_r 96]) (pc2 := 236) b_219_231_2 rfl rfl ?_
                    refine ov_iast d_219_236 (zb_96 I143) (zs_96 I143) (by omega) ?_
                    have I311 := ua_96 (k := 349) (x := (h 96 349)) I143 (by refine ⟨?_, ?_, ?_, ?_, ?_, ?_, ?_, ?_, ?_, ?_, ?_, ?_, ?_, ?_, ?_, ?_, ?_, ?_, ?_, ?_, ?_, ?_, ?_, ?_, ?_, ?_, ?_, ?_, ?_⟩ <;> omega)
                    have R312 : ov_RD (h 96) (h 97) (h 98) (h 90 13) (h142 96) (h142 97) (h142 98) (h 90 13) := by rw [show h142 96 = h 96 from E148, show h142 97 = h 97 from E149, show h142 98 = h 98 from E150]; exact ov_RD_refl _ _ _ _
                    have R313 : ov_RD (h 96) (h 97) (h 98) (h 90 13) ((ov_up h142 96 349 (h 96 349)) 96) ((ov_up h142 96 349 (h 96 349)) 97) ((ov_up h142 96 349 (h 96 349)) 98) (h 90 13) := by rw [ov_up_row]; exact ov_RD_w R312 (t96_348 I143).2 (by omega)
                    refine ov_blk (ls2 := [(0, ov_r 90), (1, ov_i v5), (2, ov_i v41), (3, ov_i (350 + (4 * ((6 * v41) + v5)))), (4, ov_i v119), (5, ov_i v126), (6, ov_i (h 96 349))]) (st2 := [ov_r 90]) (pc2 := 238) b_219_237_1 rfl rfl ?_
                    refine ov_getf (v := ov_r 96) d_219_238 fl_Mo_81 (zb_90 I311) (zs_90 I311) (congrArg ov_r (rg_90_10 I311)) ?_
                    refine ov_blk (ls2 := [(0, ov_r 90), (1, ov_i v5), (2, ov_i v41), (3, ov_i (350 + (4 * ((6 * v41) + v5)))), (4, ov_i v119), (5, ov_i v126), (6, ov_i (h 96 349))]) (st2 := [ov_i (1 + v119), ov_i (350 + (4 * ((6 * v41) + v5))), ov_r 96]) (pc2 := 246) b_219_241_4 rfl rfl ?_
                    refine ov_iast d_219_246 (zb_96 I311) (zs_96 I311) (by omega) ?_
                    have I314 := ua_96 (k := (350 + (4 * ((6 * v41) + v5)))) (x := (1 + v119)) I311 (by refine ⟨?_, ?_, ?_, ?_, ?_, ?_, ?_, ?_, ?_, ?_, ?_, ?_, ?_, ?_, ?_, ?_, ?_, ?_, ?_, ?_, ?_, ?_, ?_, ?_, ?_, ?_, ?_, ?_, ?_⟩ <;> omega)
                    refine ov_blk (ls2 := [(0, ov_r 90), (1, ov_i v5), (2, ov_i v41), (3, ov_i (350 + (4 * ((6 * v41) + v5)))), (4, ov_i v119), (5, ov_i v126), (6, ov_i (h 96 349))]) (st2 := [ov_r 90]) (pc2 := 248) b_219_247_1 rfl rfl ?_
                    refine ov_getf (v := ov_r 96) d_219_248 fl_Mo_81 (zb_90 I314) (zs_90 I314) (congrArg ov_r (rg_90_10 I314)) ?_
                    refine ov_blk (ls2 := [(0, ov_r 90), (1, ov_i v5), (2, ov_i v41), (3, ov_i (350 + (4 * ((6 * v41) + v5)))), (4, ov_i v119), (5, ov_i v126), (6, ov_i (h 96 349))]) (st2 := [ov_i v126, ov_i ((350 + (4 * ((6 * v41) + v5))) + 1), ov_r 96]) (pc2 := 256) b_219_251_4 rfl rfl ?_
                    refine ov_iast d_219_256 (zb_96 I314) (zs_96 I314) (by omega) ?_
                    have I315 := ua_96 (k := ((350 + (4 * ((6 * v41) + v5))) + 1)) (x := v126) I314 (by refine ⟨?_, ?_, ?_, ?_, ?_, ?_, ?_, ?_, ?_, ?_, ?_, ?_, ?_, ?_, ?_, ?_, ?_, ?_, ?_, ?_, ?_, ?_, ?_, ?_, ?_, ?_, ?_, ?_, ?_⟩ <;> omega)
                    have R316 : ov_RD (h 96) (h 97) (h 98) (h 90 13) ((ov_up (ov_up (ov_up h142 96 349 (h 96 349)) 96 (350 + (4 * ((6 * v41) + v5))) (1 + v119)) 96 ((350 + (4 * ((6 * v41) + v5))) + 1) v126) 96) ((ov_up (ov_up (ov_up h142 96 349 (h 96 349)) 96 (350 + (4 * ((6 * v41) + v5))) (1 + v119)) 96 ((350 + (4 * ((6 * v41) + v5))) + 1) v126) 97) ((ov_up (ov_up (ov_up h142 96 349 (h 96 349)) 96 (350 + (4 * ((6 * v41) + v5))) (1 + v119)) 96 ((350 + (4 * ((6 * v41) + v5))) + 1) v126) 98) (h 90 13) := by rw [ov_up_row, ov_up_row]; exact ov_RD_k R313 (t96_348 I311).2 (e := 6 * v41 + v5) (by omega) (by omega) (by omega) (by omega)
                    refine ov_blk (ls2 := [(0, ov_r 90), (1, ov_i v5), (2, ov_i v41), (3, ov_i (350 + (4 * ((6 * v41) + v5)))), (4, ov_i v119), (5, ov_i v126), (6, ov_i (h 96 349))]) (st2 := [ov_r 90]) (pc2 := 258) b_219_257_1 rfl rfl ?_
                    refine ov_getf (v := ov_r 96) d_219_258 fl_Mo_81 (zb_90 I315) (zs_90 I315) (congrArg ov_r (rg_90_10 I315)) ?_
                    refine ov_blk (ls2 := [(0, ov_r 90), (1, ov_i v5), (2, ov_i v41), (3, ov_i (350 + (4 * ((6 * v41) + v5)))), (4, ov_i v119), (5, ov_i v126), (6, ov_i (h 96 349))]) (st2 := [ov_i (v126 - 1), ov_i 0, ov_i 10, ov_r 90, ov_i ((350 + (4 * ((6 * v41) + v5))) + 2), ov_r 96]) (pc2 := 272) b_219_261_9 rfl rfl ?_
                    have cf317 : h142 92 (n) = h 92 (n) := congrFun E144 (n)
                    refine ov_cV (as := [ov_i 10, ov_i 0, ov_i (v126 - 1)]) (st := [ov_i ((350 + (4 * ((6 * v41) + v5))) + 2), ov_r 96]) (d2 := d - 1) d_219_272 lk_Mo_232 rfl (Nat.le_of_ble_eq_true rfl) (c := 1) (zb_90 I315) (zs_90 I315) ⟨by decide, rfl⟩ (by omega) (c_Mo_takeAfter_90 n (d - 1) (by omega) U I315 10 0 (v126 - 1) (by omega) (by omega) (by omega) (by show 0 ≤ n ∧ n ≤ 1000 ∧ (h142 92 (n)) = 0 ∧ (h142 90 7) ≤ n; omega) (by omega)) ?_
                    rintro _ z334 h335 ⟨v319, rfl, I336, f318, e320, e321, e322, e323, e324, e325, e326, e327, e328, e329, e330, e331, e332, e333⟩
                    have E337 : h335 92 = h 92 := Eq.trans e320 E144
                    have E338 : h335 93 = h 93 := Eq.trans e321 E145
                    have E339 : h335 94 = h 94 := Eq.trans e322 E146
                    have E340 : h335 95 = h 95 := Eq.trans e323 E147
                    have E341 : h335 97 = h 97 := Eq.trans e325 E149
                    have E342 : h335 98 = h 98 := Eq.trans e326 E150
                    have E343 : h335 99 = h 99 := Eq.trans e327 E151
                    have E344 : h335 100 = h 100 := Eq.trans e328 E152
                    have E345 : h335 103 = h 103 := Eq.trans e329 E153
                    have E346 : h335 105 = h 105 := Eq.trans e330 E154
                    have E347 : h335 106 = h 106 := Eq.trans e331 E155
                    have E348 : h335 109 = h 109 := Eq.trans e332 E156
                    have E349 : h335 114 = h 114 := Eq.trans e333 E157
                    show ov_R u d ov_m219 275 [(0, ov_r 90), (1, ov_i v5), (2, ov_i v41), (3, ov_i (350 + (4 * ((6 * v41) + v5)))), (4, ov_i v119), (5, ov_i v126), (6, ov_i (h 96 349))] [ov_i v319, ov_i ((350 + (4 * ((6 * v41) + v5))) + 2), ov_r 96] z334 h335 (P_Mo_readLight_90 F z h n)
                    have f350 : (h142 90 7) ≤ (h335 90 7) ∧ (h335 90 7) ≤ n ∧ (0 < (h142 90 8) → (h335 90 8) = (h142 90 8)) ∧ ((h335 90 8) = 0 → (0 : Int) ≤ v319 ∧ v319 ≤ (v126 - 1)) ∧ (0 < (h335 90 8) → v319 = 0) ∧ (h335 90 2) = (h142 90 2) ∧ (h335 90 3) = (h142 90 3) ∧ (h335 90 13) = (h142 90 13) ∧ (h335 90 20) = (h142 90 20) ∧ (h335 90 22) = (h142 90 22) ∧ (h335 90 25) = (h142 90 25) ∧ (h335 90 26) = (h142 90 26) ∧ (h335 90 27) = (h142 90 27) ∧ (h335 90 28) = (h142 90 28) ∧ (h335 90 29) = (h142 90 29) ∧ (h335 90 30) = (h142 90 30) ∧ (h335 90 34) = (h142 90 34) ∧ (h335 90 35) = (h142 90 35) ∧ (h335 90 37) = (h142 90 37) := f318
                    clear f318
                    have R351 : ov_RD (h 96) (h 97) (h 98) (h 90 13) (h335 96) (h335 97) (h335 98) (h 90 13) := by rw [e324, e325, e326]; exact R316
                    refine ov_iast d_219_275 (zb_96 I336) (zs_96 I336) (by omega) ?_
                    have I352 := ua_96 (k := ((350 + (4 * ((6 * v41) + v5))) + 2)) (x := v319) I336 (by refine ⟨?_, ?_, ?_, ?_, ?_, ?_, ?_, ?_, ?_, ?_, ?_, ?_, ?_, ?_, ?_, ?_, ?_, ?_, ?_, ?_, ?_, ?_, ?_, ?_, ?_, ?_, ?_, ?_, ?_⟩ <;> omega)
                    have R353 : ov_RD (h 96) (h 97) (h 98) (h 90 13) ((ov_up h335 96 ((350 + (4 * ((6 * v41) + v5))) + 2) v319) 96) ((ov_up h335 96 ((350 + (4 * ((6 * v41) + v5))) + 2) v319) 97) ((ov_up h335 96 ((350 + (4 * ((6 * v41) + v5))) + 2) v319) 98) (h 90 13) := by rw [ov_up_row]; exact ov_RD_l R351 (t96_348 I336).2 (e := 6 * v41 + v5) (i := 2) (by omega) (Or.inl rfl) (by omega)
                    refine ov_blk (ls2 := [(0, ov_r 90), (1, ov_i v5), (2, ov_i v41), (3, ov_i (350 + (4 * ((6 * v41) + v5)))), (4, ov_i v119), (5, ov_i v126), (6, ov_i (h 96 349))]) (st2 := [ov_r 90]) (pc2 := 277) b_219_276_1 rfl rfl ?_
                    refine ov_getf (v := ov_r 96) d_219_277 fl_Mo_81 (zb_90 I352) (zs_90 I352) (congrArg ov_r (rg_90_10 I352)) ?_
                    refine ov_blk (ls2 := [(0, ov_r 90), (1, ov_i v5), (2, ov_i v41), (3, ov_i (350 + (4 * ((6 * v41) + v5)))), (4, ov_i v119), (5, ov_i v126), (6, ov_i (h 96 349))]) (st2 := [ov_i v126, ov_i 0, ov_i 12, ov_r 90, ov_i ((350 + (4 * ((6 * v41) + v5))) + 3), ov_r 96]) (pc2 := 289) b_219_280_7 rfl rfl ?_
                    have cf354 : h335 92 (n) = h 92 (n) := congrFun E337 (n)
                    refine ov_cV (as := [ov_i 12, ov_i 0, ov_i v126]) (st := [ov_i ((350 + (4 * ((6 * v41) + v5))) + 3), ov_r 96]) (d2 := d - 1) d_219_289 lk_Mo_232 rfl (Nat.le_of_ble_eq_true rfl) (c := 1) (zb_90 I352) (zs_90 I352) ⟨by decide, rfl⟩ (by omega) (c_Mo_takeAfter_90 n (d - 1) (by omega) U I352 12 0 v126 (by omega) (by omega) (by omega) (by show 0 ≤ n ∧ n ≤ 1000 ∧ (h335 92 (n)) = 0 ∧ (h335 90 7) ≤ n; omega) (by omega)) ?_
                    rintro _ z371 h372 ⟨v356, rfl, I373, f355, e357, e358, e359, e360, e361, e362, e363, e364, e365, e366, e367, e368, e369, e370⟩
                    have E374 : h372 92 = h 92 := Eq.trans e357 E337
                    have E375 : h372 93 = h 93 := Eq.trans e358 E338
                    have E376 : h372 94 = h 94 := Eq.trans e359 E339
                    have E377 : h372 95 = h 95 := Eq.trans e360 E340
                    have E378 : h372 97 = h 97 := Eq.trans e362 E341
                    have E379 : h372 98 = h 98 := Eq.trans e363 E342
                    have E380 : h372 99 = h 99 := Eq.trans e364 E343
                    have E381 : h372 100 = h 100 := Eq.trans e365 E344
                    have E382 : h372 103 = h 103 := Eq.trans e366 E345
                    have E383 : h372 105 = h 105 := Eq.trans e367 E346
                    have E384 : h372 106 = h 106 := Eq.trans e368 E347
                    have E385 : h372 109 = h 109 := Eq.trans e369 E348
                    have E386 : h372 114 = h 114 := Eq.trans e370 E349
                    show ov_R u d ov_m219 292 [(0, ov_r 90), (1, ov_i v5), (2, ov_i v41), (3, ov_i (350 + (4 * ((6 * v41) + v5)))), (4, ov_i v119), (5, ov_i v126), (6, ov_i (h 96 349))] [ov_i v356, ov_i ((350 + (4 * ((6 * v41) + v5))) + 3), ov_r 96] z371 h372 (P_Mo_readLight_90 F z h n)
                    have f387 : (h335 90 7) ≤ (h372 90 7) ∧ (h372 90 7) ≤ n ∧ (0 < (h335 90 8) → (h372 90 8) = (h335 90 8)) ∧ ((h372 90 8) = 0 → (0 : Int) ≤ v356 ∧ v356 ≤ v126) ∧ (0 < (h372 90 8) → v356 = 0) ∧ (h372 90 2) = (h335 90 2) ∧ (h372 90 3) = (h335 90 3) ∧ (h372 90 13) = (h335 90 13) ∧ (h372 90 20) = (h335 90 20) ∧ (h372 90 22) = (h335 90 22) ∧ (h372 90 25) = (h335 90 25) ∧ (h372 90 26) = (h335 90 26) ∧ (h372 90 27) = (h335 90 27) ∧ (h372 90 28) = (h335 90 28) ∧ (h372 90 29) = (h335 90 29) ∧ (h372 90 30) = (h335 90 30) ∧ (h372 90 34) = (h335 90 34) ∧ (h372 90 35) = (h335 90 35) ∧ (h372 90 37) = (h335 90 37) := f355
                    clear f355
                    have R388 : ov_RD (h 96) (h 97) (h 98) (h 90 13) (h372 96) (h372 97) (h372 98) (h 90 13) := by rw [e361, e362, e363]; exact R353
                    refine ov_iast d_219_292 (zb_96 I373) (zs_96 I373) (by omega) ?_
                    have I389 := ua_96 (k := ((350 + (4 * ((6 * v41) + v5))) + 3)) (x := v356) I373 (by refine ⟨?_, ?_, ?_, ?_, ?_, ?_, ?_, ?_, ?_, ?_, ?_, ?_, ?_, ?_, ?_, ?_, ?_, ?_, ?_, ?_, ?_, ?_, ?_, ?_, ?_, ?_, ?_, ?_, ?_⟩ <;> omega)
                    have R390 : ov_RD (h 96) (h 97) (h 98) (h 90 13) ((ov_up h372 96 ((350 + (4 * ((6 * v41) + v5))) + 3) v356) 96) ((ov_up h372 96 ((350 + (4 * ((6 * v41) + v5))) + 3) v356) 97) ((ov_up h372 96 ((350 + (4 * ((6 * v41) + v5))) + 3) v356) 98) (h 90 13) := by rw [ov_up_row]; exact ov_RD_l R388 (t96_348 I373).2 (e := 6 * v41 + v5) (i := 3) (by omega) (Or.inr rfl) (by omega)
                    refine ov_blk (ls2 := [(0, ov_r 90), (1, ov_i v5), (2, ov_i v41), (3, ov_i (350 + (4 * ((6 * v41) + v5)))), (4, ov_i v119), (5, ov_i v126), (6, ov_i (h 96 349))]) (st2 := [ov_r 90]) (pc2 := 294) b_219_293_1 rfl rfl ?_
                    refine ov_getf (v := ov_r 96) d_219_294 fl_Mo_81 (zb_90 I389) (zs_90 I389) (congrArg ov_r (rg_90_10 I389)) ?_
                    refine ov_blk (ls2 := [(0, ov_r 90), (1, ov_i v5), (2, ov_i v41), (3, ov_i (350 + (4 * ((6 * v41) + v5)))), (4, ov_i v119), (5, ov_i v126), (6, ov_i (h 96 349))]) (st2 := [ov_i 347, ov_r 96, ov_i 347, ov_r 96]) (pc2 := 301) b_219_297_2 rfl rfl ?_
                    refine ov_iald d_219_301 (zb_96 I389) (zs_96 I389) (by omega) ?_
                    show ov_R u d ov_m219 302 [(0, ov_r 90), (1, ov_i v5), (2, ov_i v41), (3, ov_i (350 + (4 * ((6 * v41) + v5)))), (4, ov_i v119), (5, ov_i v126), (6, ov_i (h 96 349))] [ov_i ((ov_up h372 96 ((350 + (4 * ((6 * v41) + v5))) + 3) v356) 96 347), ov_i 347, ov_r 96] z371 (ov_up h372 96 ((350 + (4 * ((6 * v41) + v5))) + 3) v356) (P_Mo_readLight_90 F z h n)
                    refine ov_blk (ls2 := [(0, ov_r 90), (1, ov_i v5), (2, ov_i v41), (3, ov_i (350 + (4 * ((6 * v41) + v5)))), (4, ov_i v119), (5, ov_i v126), (6, ov_i (h 96 349))]) (st2 := [ov_i (((ov_up h372 96 ((350 + (4 * ((6 * v41) + v5))) + 3) v356) 96 347) + 1), ov_i 347, ov_r 96]) (pc2 := 304) b_219_302_2 rfl rfl ?_
                    refine ov_havw (fun w391 gw391 qw391 => ?_)
                    refine ov_iast d_219_304 (zb_96 I389) (zs_96 I389) (by omega) ?_
                    have I392 := ua_96 (k := 347) (x := w391) I389 (by refine ⟨?_, ?_, ?_, ?_, ?_, ?_, ?_, ?_, ?_, ?_, ?_, ?_, ?_, ?_, ?_, ?_, ?_, ?_, ?_, ?_, ?_, ?_, ?_, ?_, ?_, ?_, ?_, ?_, ?_⟩ <;> omega)
                    have R393 : ov_RD (h 96) (h 97) (h 98) (h 90 13) ((ov_up (ov_up h372 96 ((350 + (4 * ((6 * v41) + v5))) + 3) v356) 96 347 w391) 96) ((ov_up (ov_up h372 96 ((350 + (4 * ((6 * v41) + v5))) + 3) v356) 96 347 w391) 97) ((ov_up (ov_up h372 96 ((350 + (4 * ((6 * v41) + v5))) + 3) v356) 96 347 w391) 98) (h 90 13) := by rw [ov_up_row]; exact ov_RD_w R390 (t96_348 I389).2 (by omega)
                    have lt394 : (ov_up (ov_up h372 96 ((350 + (4 * ((6 * v41) + v5))) + 3) v356) 96 347 w391) 96 340 = h372 96 340 := by rw [ov_up_j (by omega)]; rw [ov_up_j (by omega)]; rfl
                    have lt395 : (ov_up (ov_up h372 96 ((350 + (4 * ((6 * v41) + v5))) + 3) v356) 96 347 w391) 96 341 = h372 96 341 := by rw [ov_up_j (by omega)]; rw [ov_up_j (by omega)]; rfl
                    have lt396 : (ov_up (ov_up h372 96 ((350 + (4 * ((6 * v41) + v5))) + 3) v356) 96 347 w391) 96 342 = h372 96 342 := by rw [ov_up_j (by omega)]; rw [ov_up_j (by omega)]; rfl
                    have lt397 : (ov_up (ov_up h372 96 ((350 + (4 * ((6 * v41) + v5))) + 3) v356) 96 347 w391) 96 348 = h372 96 348 := by rw [ov_up_j (by omega)]; rw [ov_up_j (by omega)]; rfl
                    have lt398 : (ov_up (ov_up h372 96 ((350 + (4 * ((6 * v41) + v5))) + 3) v356) 96 347 w391) 96 349 = h372 96 349 := by rw [ov_up_j (by omega)]; rw [ov_up_j (by omega)]; rfl
                    exact ov_retv (st := []) d_219_305 rfl ⟨rfl, I392, (by show (h 90 7) ≤ (h372 90 7) ∧ (h372 90 7) ≤ n ∧ (h 90 13) ≤ (h372 90 13) ∧ (h372 90 13) - (h 90 13) ≤ (h372 90 7) - (h 90 7) ∧ ((ov_up h372 96 ((350 + (4 * ((6 * v41) + v5))) + 3) v356) 96 340) = (h 96 340) ∧ ((ov_up h372 96 ((350 + (4 * ((6 * v41) + v5))) + 3) v356) 96 341) = (h 96 341) ∧ ((h372 90 8) = 0 → 1 ≤ (h 96 342) → 1 ≤ ((ov_up h372 96 ((350 + (4 * ((6 * v41) + v5))) + 3) v356) 96 342)) ∧ (1 ≤ (h 96 349) → 1 ≤ ((ov_up h372 96 ((350 + (4 * ((6 * v41) + v5))) + 3) v356) 96 349)) ∧ (h372 90 2) = (h 90 2) ∧ (h372 90 3) = (h 90 3) ∧ (h372 90 13) = (h 90 13) ∧ (h372 90 20) = (h 90 20) ∧ (h372 90 22) = (h 90 22) ∧ (h372 90 25) = (h 90 25) ∧ (h372 90 26) = (h 90 26) ∧ (h372 90 27) = (h 90 27) ∧ (h372 90 28) = (h 90 28) ∧ (h372 90 29) = (h 90 29) ∧ (h372 90 30) = (h 90 30) ∧ (h372 90 34) = (h 90 34) ∧ (h372 90 35) = (h 90 35) ∧ (h372 90 37) = (h 90 37); omega), E374, E375, E376, E377, E378, E379, E380, E381, E382, E383, E384, E385, E386, R393.1, R393.2.1, (fun _ w => by show ov_CS ((ov_up (ov_up h372 96 ((350 + (4 * ((6 * v41) + v5))) + 3) v356) 96 347 w391) 96) ((ov_up (ov_up h372 96 ((350 + (4 * ((6 * v41) + v5))) + 3) v356) 96 347 w391) 97) ((ov_up (ov_up h372 96 ((350 + (4 * ((6 * v41) + v5))) + 3) v356) 96 347 w391) 98) (h372 90 13); rw [show (h372 90 13) = h 90 13 by omega]; exact R393.2.2 w)⟩
                  · omega
                · skip
                  refine ov_blk (ls2 := [(0, ov_r 90), (1, ov_i v5), (2, ov_i v41), (3, ov_i (350 + (4 * ((6 * v41) + v5)))), (4, ov_i v119), (5, ov_i v126), (6, ov_i (h 96 349))]) (st2 := [ov_r 90, ov_r 90]) (pc2 := 206) b_219_204_2 rfl rfl ?_
                  refine ov_getf (v := ov_i (h142 90 7)) d_219_206 fl_Mo_177 (zb_90 I143) (zs_90 I143) rfl ?_
                  have g399 := rg_90_7 I143
                  refine ov_blk (ls2 := [(0, ov_r 90), (1, ov_i v5), (2, ov_i v41), (3, ov_i (350 + (4 * ((6 * v41) + v5)))), (4, ov_i v119), (5, ov_i v126), (6, ov_i (h 96 349))]) (st2 := [ov_i ((h142 90 7) - 1), ov_r 90]) (pc2 := 211) b_219_209_2 rfl rfl ?_
                  refine ov_putf (x := ((h142 90 7) - 1)) d_219_211 fl_Mo_177 (zb_90 I143) (zs_90 I143) rfl nk_0 rfl ?_
                  have I400 := up_90_7 (x := ((h142 90 7) - 1)) I143 (by omega)
                  refine ov_blk (ls2 := [(0, ov_r 90), (1, ov_i v5), (2, ov_i v41), (3, ov_i (350 + (4 * ((6 * v41) + v5)))), (4, ov_i v119), (5, ov_i v126), (6, ov_i (h 96 349))]) (st2 := [ov_i 4, ov_r 90]) (pc2 := 216) b_219_214_2 rfl rfl ?_
                  refine ov_cV (as := [ov_i 4]) (st := []) (d2 := d - 1) d_219_216 lk_Mo_186 rfl (Nat.le_of_ble_eq_true rfl) (c := 1) (zb_90 I400) (zs_90 I400) ⟨by decide, rfl⟩ (by omega) (c_Mo_wrong_90 (d - 1) (by omega) U I400 4 (by omega) (by omega)) ?_
                  rintro _ z416 h417 ⟨rfl, I418, f401, e402, e403, e404, e405, e406, e407, e408, e409, e410, e411, e412, e413, e414, e415⟩
                  have E419 : h417 92 = h 92 := Eq.trans e402 E144
                  have E420 : h417 93 = h 93 := Eq.trans e403 E145
                  have E421 : h417 94 = h 94 := Eq.trans e404 E146
                  have E422 : h417 95 = h 95 := Eq.trans e405 E147
                  have E423 : h417 96 = h 96 := Eq.trans e406 E148
                  have E424 : h417 97 = h 97 := Eq.trans e407 E149
                  have E425 : h417 98 = h 98 := Eq.trans e408 E150
                  have E426 : h417 99 = h 99 := Eq.trans e409 E151
                  have E427 : h417 100 = h 100 := Eq.trans e410 E152
                  have E428 : h417 103 = h 103 := Eq.trans e411 E153
                  have E429 : h417 105 = h 105 := Eq.trans e412 E154
                  have E430 : h417 106 = h 106 := Eq.trans e413 E155
                  have E431 : h417 109 = h 109 := Eq.trans e414 E156
                  have E432 : h417 114 = h 114 := Eq.trans e415 E157
                  show ov_R u d ov_m219 219 [(0, ov_r 90), (1, ov_i v5), (2, ov_i v41), (3, ov_i (350 + (4 * ((6 * v41) + v5)))), (4, ov_i v119), (5, ov_i v126), (6, ov_i (h 96 349))] [] z416 h417 (P_Mo_readLight_90 F z h n)
                  have f433 : 0 < (h417 90 8) ∧ (0 < (h142 90 8) → (h417 90 8) = (h142 90 8)) ∧ (h417 90 2) = (h142 90 2) ∧ (h417 90 3) = (h142 90 3) ∧ (h417 90 7) = ((h142 90 7) - 1) ∧ (h417 90 13) = (h142 90 13) ∧ (h417 90 20) = (h142 90 20) ∧ (h417 90 22) = (h142 90 22) ∧ (h417 90 25) = (h142 90 25) ∧ (h417 90 26) = (h142 90 26) ∧ (h417 90 27) = (h142 90 27) ∧ (h417 90 28) = (h142 90 28) ∧ (h417 90 29) = (h142 90 29) ∧ (h417 90 30) = (h142 90 30) ∧ (h417 90 34) = (h142 90 34) ∧ (h417 90 35) = (h142 90 35) ∧ (h417 90 37) = (h142 90 37) := f401
                  clear f401
                  refine ov_blk (ls2 := [(0, ov_r 90), (1, ov_i v5), (2, ov_i v41), (3, ov_i (350 + (4 * ((6 * v41) + v5)))), (4, ov_i v119), (5, ov_i v126), (6, ov_i (h 96 349))]) (st2 := [ov_r 90]) (pc2 := 220) b_219_219_1 rfl rfl ?_
                  refine ov_getf (v := ov_i (h417 90 8)) d_219_220 fl_Mo_180 (zb_90 I418) (zs_90 I418) rfl ?_
                  have g434 := rg_90_8 I418
                  refine ov_ifle (tgt := 227) d_219_223 (by decide) (by omega) (fun c435 => ?_) (fun c435 => ?_)
                  · omega
                  · skip
                    have R436 : ov_RD (h 96) (h 97) (h 98) (h 90 13) (h417 96) (h417 97) (h417 98) (h 90 13) := by rw [show h417 96 = h 96 from E423, show h417 97 = h 97 from E424, show h417 98 = h 98 from E425]; exact ov_RD_refl _ _ _ _
                    exact ov_retv (st := []) d_219_226 rfl ⟨rfl, I418, (by show (h 90 7) ≤ (h417 90 7) ∧ (h417 90 7) ≤ n ∧ (h 90 13) ≤ (h417 90 13) ∧ (h417 90 13) - (h 90 13) ≤ (h417 90 7) - (h 90 7) ∧ (h 96 340) = (h 96 340) ∧ (h 96 341) = (h 96 341) ∧ ((h417 90 8) = 0 → 1 ≤ (h 96 342) → 1 ≤ (h 96 342)) ∧ (1 ≤ (h 96 349) → 1 ≤ (h 96 349)) ∧ (h417 90 2) = (h 90 2) ∧ (h417 90 3) = (h 90 3) ∧ (h417 90 13) = (h 90 13) ∧ (h417 90 20) = (h 90 20) ∧ (h417 90 22) = (h 90 22) ∧ (h417 90 25) = (h 90 25) ∧ (h417 90 26) = (h 90 26) ∧ (h417 90 27) = (h 90 27) ∧ (h417 90 28) = (h 90 28) ∧ (h417 90 29) = (h 90 29) ∧ (h417 90 30) = (h 90 30) ∧ (h417 90 34) = (h 90 34) ∧ (h417 90 35) = (h 90 35) ∧ (h417 90 37) = (h 90 37); omega), E419, E420, E421, E422, E424, E425, E426, E427, E428, E429, E430, E431, E432, R436.1, R436.2.1, (fun _ w => by show ov_CS (h417 96) (h417 97) (h417 98) (h417 90 13); rw [show (h417 90 13) = h 90 13 by omega]; exact R436.2.2 w)⟩
        · skip
          refine ov_blk (ls2 := [(0, ov_r 90), (1, ov_i v5), (2, ov_i v41), (3, ov_i (350 + (4 * ((6 * v41) + v5)))), (4, ov_i v119)]) (st2 := [ov_i 1, ov_r 90]) (pc2 := 113) b_219_111_2 rfl rfl ?_
          refine ov_cV (as := [ov_i 1]) (st := []) (d2 := d - 1) d_219_113 lk_Mo_186 rfl (Nat.le_of_ble_eq_true rfl) (c := 1) (zb_90 I58) (zs_90 I58) ⟨by decide, rfl⟩ (by omega) (c_Mo_wrong_90 (d - 1) (by omega) U I58 1 (by omega) (by omega)) ?_
          rintro _ z452 h453 ⟨rfl, I454, f437, e438, e439, e440, e441, e442, e443, e444, e445, e446, e447, e448, e449, e450, e451⟩
          have E455 : h453 92 = h 92 := Eq.trans e438 E59
          have E456 : h453 93 = h 93 := Eq.trans e439 E60
          have E457 : h453 94 = h 94 := Eq.trans e440 E61
          have E458 : h453 95 = h 95 := Eq.trans e441 E62
          have E459 : h453 96 = h 96 := Eq.trans e442 E63
          have E460 : h453 97 = h 97 := Eq.trans e443 E64
          have E461 : h453 98 = h 98 := Eq.trans e444 E65
          have E462 : h453 99 = h 99 := Eq.trans e445 E66
          have E463 : h453 100 = h 100 := Eq.trans e446 E67
          have E464 : h453 103 = h 103 := Eq.trans e447 E68
          have E465 : h453 105 = h 105 := Eq.trans e448 E69
          have E466 : h453 106 = h 106 := Eq.trans e449 E70
          have E467 : h453 109 = h 109 := Eq.trans e450 E71
          have E468 : h453 114 = h 114 := Eq.trans e451 E72
          show ov_R u d ov_m219 116 [(0, ov_r 90), (1, ov_i v5), (2, ov_i v41), (3, ov_i (350 + (4 * ((6 * v41) + v5)))), (4, ov_i v119)] [] z452 h453 (P_Mo_readLight_90 F z h n)
          have f469 : 0 < (h453 90 8) ∧ (0 < (h57 90 8) → (h453 90 8) = (h57 90 8)) ∧ (h453 90 2) = (h57 90 2) ∧ (h453 90 3) = (h57 90 3) ∧ (h453 90 7) = (h57 90 7) ∧ (h453 90 13) = (h57 90 13) ∧ (h453 90 20) = (h57 90 20) ∧ (h453 90 22) = (h57 90 22) ∧ (h453 90 25) = (h57 90 25) ∧ (h453 90 26) = (h57 90 26) ∧ (h453 90 27) = (h57 90 27) ∧ (h453 90 28) = (h57 90 28) ∧ (h453 90 29) = (h57 90 29) ∧ (h453 90 30) = (h57 90 30) ∧ (h453 90 34) = (h57 90 34) ∧ (h453 90 35) = (h57 90 35) ∧ (h453 90 37) = (h57 90 37) := f437
          clear f437
          have R470 : ov_RD (h 96) (h 97) (h 98) (h 90 13) (h453 96) (h453 97) (h453 98) (h 90 13) := by rw [show h453 96 = h 96 from E459, show h453 97 = h 97 from E460, show h453 98 = h 98 from E461]; exact ov_RD_refl _ _ _ _
          exact ov_retv (st := []) d_219_116 rfl ⟨rfl, I454, (by show (h 90 7) ≤ (h453 90 7) ∧ (h453 90 7) ≤ n ∧ (h 90 13) ≤ (h453 90 13) ∧ (h453 90 13) - (h 90 13) ≤ (h453 90 7) - (h 90 7) ∧ (h 96 340) = (h 96 340) ∧ (h 96 341) = (h 96 341) ∧ ((h453 90 8) = 0 → 1 ≤ (h 96 342) → 1 ≤ (h 96 342)) ∧ (1 ≤ (h 96 349) → 1 ≤ (h 96 349)) ∧ (h453 90 2) = (h 90 2) ∧ (h453 90 3) = (h 90 3) ∧ (h453 90 13) = (h 90 13) ∧ (h453 90 20) = (h 90 20) ∧ (h453 90 22) = (h 90 22) ∧ (h453 90 25) = (h 90 25) ∧ (h453 90 26) = (h 90 26) ∧ (h453 90 27) = (h 90 27) ∧ (h453 90 28) = (h 90 28) ∧ (h453 90 29) = (h 90 29) ∧ (h453 90 30) = (h 90 30) ∧ (h453 90 34) = (h 90 34) ∧ (h453 90 35) = (h 90 35) ∧ (h453 90 37) = (h 90 37); omega), E455, E456, E457, E458, E460, E461, E462, E463, E464, E465, E466, E467, E468, R470.1, R470.2.1, (fun _ w => by show ov_CS (h453 96) (h453 97) (h453 98) (h453 90 13); rw [show (h453 90 13) = h 90 13 by omega]; exact R470.2.2 w)⟩
      · omega
    · skip
      refine ov_blk (ls2 := [(0, ov_r 90), (1, ov_i v5), (2, ov_i v41), (3, ov_i (350 + (4 * ((6 * v41) + v5))))]) (st2 := [ov_r 90, ov_r 90]) (pc2 := 73) b_219_71_2 rfl rfl ?_
      refine ov_getf (v := ov_i (h57 90 7)) d_219_73 fl_Mo_177 (zb_90 I58) (zs_90 I58) rfl ?_
      have g471 := rg_90_7 I58
      refine ov_blk (ls2 := [(0, ov_r 90), (1, ov_i v5), (2, ov_i v41), (3, ov_i (350 + (4 * ((6 * v41) + v5))))]) (st2 := [ov_i ((h57 90 7) - 1), ov_r 90]) (pc2 := 78) b_219_76_2 rfl rfl ?_
      refine ov_putf (x := ((h57 90 7) - 1)) d_219_78 fl_Mo_177 (zb_90 I58) (zs_90 I58) rfl nk_0 rfl ?_
      have I472 := up_90_7 (x := ((h57 90 7) - 1)) I58 (by omega)
      refine ov_blk (ls2 := [(0, ov_r 90), (1, ov_i v5), (2, ov_i v41), (3, ov_i (350 + (4 * ((6 * v41) + v5))))]) (st2 := [ov_i 3, ov_r 90]) (pc2 := 83) b_219_81_2 rfl rfl ?_
      refine ov_cV (as := [ov_i 3]) (st := []) (d2 := d - 1) d_219_83 lk_Mo_186 rfl (Nat.le_of_ble_eq_true rfl) (c := 1) (zb_90 I472) (zs_90 I472) ⟨by decide, rfl⟩ (by omega) (c_Mo_wrong_90 (d - 1) (by omega) U I472 3 (by omega) (by omega)) ?_
      rintro _ z488 h489 ⟨rfl, I490, f473, e474, e475, e476, e477, e478, e479, e480, e481, e482, e483, e484, e485, e486, e487⟩
      have E491 : h489 92 = h 92 := Eq.trans e474 E59
      have E492 : h489 93 = h 93 := Eq.trans e475 E60
      have E493 : h489 94 = h 94 := Eq.trans e476 E61
      have E494 : h489 95 = h 95 := Eq.trans e477 E62
      have E495 : h489 96 = h 96 := Eq.trans e478 E63
      have E496 : h489 97 = h 97 := Eq.trans e479 E64
      have E497 : h489 98 = h 98 := Eq.trans e480 E65
      have E498 : h489 99 = h 99 := Eq.trans e481 E66
      have E499 : h489 100 = h 100 := Eq.trans e482 E67
      have E500 : h489 103 = h 103 := Eq.trans e483 E68
      have E501 : h489 105 = h 105 := Eq.trans e484 E69
      have E502 : h489 106 = h 106 := Eq.trans e485 E70
      have E503 : h489 109 = h 109 := Eq.trans e486 E71
      have E504 : h489 114 = h 114 := Eq.trans e487 E72
      show ov_R u d ov_m219 86 [(0, ov_r 90), (1, ov_i v5), (2, ov_i v41), (3, ov_i (350 + (4 * ((6 * v41) + v5))))] [] z488 h489 (P_Mo_readLight_90 F z h n)
      have f505 : 0 < (h489 90 8) ∧ (0 < (h57 90 8) → (h489 90 8) = (h57 90 8)) ∧ (h489 90 2) = (h57 90 2) ∧ (h489 90 3) = (h57 90 3) ∧ (h489 90 7) = ((h57 90 7) - 1) ∧ (h489 90 13) = (h57 90 13) ∧ (h489 90 20) = (h57 90 20) ∧ (h489 90 22) = (h57 90 22) ∧ (h489 90 25) = (h57 90 25) ∧ (h489 90 26) = (h57 90 26) ∧ (h489 90 27) = (h57 90 27) ∧ (h489 90 28) = (h57 90 28) ∧ (h489 90 29) = (h57 90 29) ∧ (h489 90 30) = (h57 90 30) ∧ (h489 90 34) = (h57 90 34) ∧ (h489 90 35) = (h57 90 35) ∧ (h489 90 37) = (h57 90 37) := f473
      clear f473
      refine ov_blk (ls2 := [(0, ov_r 90), (1, ov_i v5), (2, ov_i v41), (3, ov_i (350 + (4 * ((6 * v41) + v5))))]) (st2 := [ov_r 90]) (pc2 := 87) b_219_86_1 rfl rfl ?_
      refine ov_getf (v := ov_i (h489 90 8)) d_219_87 fl_Mo_180 (zb_90 I490) (zs_90 I490) rfl ?_
      have g506 := rg_90_8 I490
      refine ov_ifle (tgt := 97) d_219_90 (by decide) (by omega) (fun c507 => ?_) (fun c507 => ?_)
      · omega
      · skip
        refine ov_blk (ls2 := [(0, ov_r 90), (1, ov_i v5), (2, ov_i v41), (3, ov_i (350 + (4 * ((6 * v41) + v5))))]) (st2 := [ov_i (-1)]) (pc2 := 94) b_219_93_1 rfl rfl ?_
        refine ov_goto (tgt := 104) d_219_94 (by decide) ?_
        refine ov_blk (ls2 := [(0, ov_r 90), (1, ov_i v5), (2, ov_i v41), (3, ov_i (350 + (4 * ((6 * v41) + v5)))), (4, ov_i (-1))]) (st2 := [ov_i (-1)]) (pc2 := 108) b_219_104_2 rfl rfl ?_
        refine ov_ifge (tgt := 117) d_219_108 (by decide) (by omega) (fun c508 => ?_) (fun c508 => ?_)
        · omega
        · skip
          refine ov_blk (ls2 := [(0, ov_r 90), (1, ov_i v5), (2, ov_i v41), (3, ov_i (350 + (4 * ((6 * v41) + v5)))), (4, ov_i (-1))]) (st2 := [ov_i 1, ov_r 90]) (pc2 := 113) b_219_111_2 rfl rfl ?_
          refine ov_cV (as := [ov_i 1]) (st := []) (d2 := d - 1) d_219_113 lk_Mo_186 rfl (Nat.le_of_ble_eq_true rfl) (c := 1) (zb_90 I490) (zs_90 I490) ⟨by decide, rfl⟩ (by omega) (c_Mo_wrong_90 (d - 1) (by omega) U I490 1 (by omega) (by omega)) ?_
          rintro _ z524 h525 ⟨rfl, I526, f509, e510, e511, e512, e513, e514, e515, e516, e517, e518, e519, e520, e521, e522, e523⟩
          have E527 : h525 92 = h 92 := Eq.trans e510 E491
          have E528 : h525 93 = h 93 := Eq.trans e511 E492
          have E529 : h525 94 = h 94 := Eq.trans e512 E493
          have E530 : h525 95 = h 95 := Eq.trans e513 E494
          have E531 : h525 96 = h 96 := Eq.trans e514 E495
          have E532 : h525 97 = h 97 := Eq.trans e515 E496
          have E533 : h525 98 = h 98 := Eq.trans e516 E497
          have E534 : h525 99 = h 99 := Eq.trans e517 E498
          have E535 : h525 100 = h 100 := Eq.trans e518 E499
          have E536 : h525 103 = h 103 := Eq.trans e519 E500
          have E537 : h525 105 = h 105 := Eq.trans e520 E501
          have E538 : h525 106 = h 106 := Eq.trans e521 E502
          have E539 : h525 109 = h 109 := Eq.trans e522 E503
          have E540 : h525 114 = h 114 := Eq.trans e523 E504
          show ov_R u d ov_m219 116 [(0, ov_r 90), (1, ov_i v5), (2, ov_i v41), (3, ov_i (350 + (4 * ((6 * v41) + v5)))), (4, ov_i (-1))] [] z524 h525 (P_Mo_readLight_90 F z h n)
          have f541 : 0 < (h525 90 8) ∧ (0 < (h489 90 8) → (h525 90 8) = (h489 90 8)) ∧ (h525 90 2) = (h489 90 2) ∧ (h525 90 3) = (h489 90 3) ∧ (h525 90 7) = (h489 90 7) ∧ (h525 90 13) = (h489 90 13) ∧ (h525 90 20) = (h489 90 20) ∧ (h525 90 22) = (h489 90 22) ∧ (h525 90 25) = (h489 90 25) ∧ (h525 90 26) = (h489 90 26) ∧ (h525 90 27) = (h489 90 27) ∧ (h525 90 28) = (h489 90 28) ∧ (h525 90 29) = (h489 90 29) ∧ (h525 90 30) = (h489 90 30) ∧ (h525 90 34) = (h489 90 34) ∧ (h525 90 35) = (h489 90 35) ∧ (h525 90 37) = (h489 90 37) := f509
          clear f509
          have R542 : ov_RD (h 96) (h 97) (h 98) (h 90 13) (h525 96) (h525 97) (h525 98) (h 90 13) := by rw [show h525 96 = h 96 from E531, show h525 97 = h 97 from E532, show h525 98 = h 98 from E533]; exact ov_RD_refl _ _ _ _
          exact ov_retv (st := []) d_219_116 rfl ⟨rfl, I526, (by show (h 90 7) ≤ (h525 90 7) ∧ (h525 90 7) ≤ n ∧ (h 90 13) ≤ (h525 90 13) ∧ (h525 90 13) - (h 90 13) ≤ (h525 90 7) - (h 90 7) ∧ (h 96 340) = (h 96 340) ∧ (h 96 341) = (h 96 341) ∧ ((h525 90 8) = 0 → 1 ≤ (h 96 342) → 1 ≤ (h 96 342)) ∧ (1 ≤ (h 96 349) → 1 ≤ (h 96 349)) ∧ (h525 90 2) = (h 90 2) ∧ (h525 90 3) = (h 90 3) ∧ (h525 90 13) = (h 90 13) ∧ (h525 90 20) = (h 90 20) ∧ (h525 90 22) = (h 90 22) ∧ (h525 90 25) = (h 90 25) ∧ (h525 90 26) = (h 90 26) ∧ (h525 90 27) = (h 90 27) ∧ (h525 90 28) = (h 90 28) ∧ (h525 90 29) = (h 90 29) ∧ (h525 90 30) = (h 90 30) ∧ (h525 90 34) = (h 90 34) ∧ (h525 90 35) = (h 90 35) ∧ (h525 90 37) = (h 90 37); omega), E527, E528, E529, E530, E532, E533, E534, E535, E536, E537, E538, E539, E540, R542.1, R542.2.1, (fun _ w => by show ov_CS (h525 96) (h525 97) (h525 98) (h525 90 13); rw [show (h525 90 13) = h 90 13 by omega]; exact R542.2.2 w)⟩

abbrev P_Mo_readOnce_90 (F : ov_H × ov_Z) (z : ov_Z) (h : ov_H) (n : Int) : Option ov_V → ov_Z → ov_H → Prop := fun r0 z' h' => r0 = none ∧ ov_N F z' h' ∧ ((h' 90 2) = (h 90 2) ∧ (h' 90 13) = (h 90 13) ∧ (h' 90 20) = (h 90 20) ∧ (h' 90 22) = (h 90 22) ∧ (h' 90 25) = (h 90 25) ∧ (h' 90 26) = (h 90 26) ∧ (h' 90 28) = (h 90 28) ∧ (h' 90 29) = (h 90 29) ∧ (h' 90 30) = (h 90 30) ∧ (h' 90 34) = (h 90 34) ∧ (h 90 7) ≤ (h' 90 7) ∧ (h' 90 7) ≤ n ∧ (h 90 13) ≤ (h' 90 13) ∧ (h' 90 13) - (h 90 13) ≤ (h' 90 7) - (h 90 7) ∧ (h' 96 340) = (h 96 340) ∧ (h' 96 341) = (h 96 341) ∧ ((h' 90 8) = 0 → 1 ≤ (h 96 342) → 1 ≤ (h' 96 342)) ∧ (1 ≤ (h 96 349) → 1 ≤ (h' 96 349))) ∧ h' 92 = h 92 ∧ h' 93 = h 93 ∧ h' 94 = h 94 ∧ h' 95 = h 95 ∧ h' 97 = h 97 ∧ h' 98 = h 98 ∧ h' 99 = h 99 ∧ h' 100 = h 100 ∧ h' 103 = h 103 ∧ h' 105 = h 105 ∧ h' 106 = h 106 ∧ h' 109 = h 109 ∧ h' 114 = h 114 ∧ (ov_MK (h 96) (h 97) (h 98) (h' 96) (h' 97) (h' 98)) ∧ (ov_WS (h 96) → ov_WS (h' 96)) ∧ ((h' 90 8) = 0 → ov_CS (h 96) (h 97) (h 98) (h 90 13) → ov_CS (h' 96) (h' 97) (h' 98) (h' 90 13))
set_option maxHeartbeats 4000000 in
theorem c_Mo_readOnce_90 {u : ov_U} {F : ov_H × ov_Z} (n : Int) {z : ov_Z} {h : ov_H} (d : Nat) (hd : 2 ≤ d) (U : ov_cap u) (I : ov_N F z h) (p0 : 0 ≤ n ∧ n ≤ 1000 ∧ (h 92 (n)) = 0 ∧ (h 90 7) ≤ n) (p1 : (h 90 13) ≤ (h 90 7)) (p2 : (h 90 8) = 0) (p3 : (h 90 7) < n) : ov_T u d ov_m233 [ov_r 90] z h (P_Mo_readOnce_90 F z h n) := by
  refine ov_en rfl (Nat.le_of_ble_eq_true rfl) ?_
  show ov_R u d ov_m233 0 [(0, ov_r 90)] [] z h (P_Mo_readOnce_90 F z h n)
  refine ov_blk (ls2 := [(0, ov_r 90)]) (st2 := [ov_i 5, ov_i 4, ov_r 90]) (pc2 := 3) b_233_0_3 rfl rfl ?_
  refine ov_cV (as := [ov_i 4, ov_i 5]) (st := []) (d2 := d - 1) d_233_3 lk_Mo_202 rfl (Nat.le_of_ble_eq_true rfl) (c := 1) (zb_90 I) (zs_90 I) ⟨by decide, rfl⟩ (by omega) (c_Mo_wordHere_90 n (d - 1) (by omega) U I 4 5 (by omega) (by omega) (by show 0 ≤ n ∧ n ≤ 1000 ∧ (h 92 (n)) = 0 ∧ (h 90 7) ≤ n; omega) (by omega)) ?_
  rintro _ _ _ ⟨v2, rfl, rfl, rfl, f1⟩
  show ov_R u d ov_m233 6 [(0, ov_r 90)] [ov_i v2] z h (P_Mo_readOnce_90 F z h n)
  have f3 : -1 ≤ v2 ∧ v2 < (5 : Int) ∧ (0 ≤ v2 → (h 90 7) < n ∧ (h 90 8) = 0) := f1
  clear f1
  refine ov_blk (ls2 := [(0, ov_r 90), (1, ov_i v2)]) (st2 := [ov_i v2]) (pc2 := 8) b_233_6_2 rfl rfl ?_
  refine ov_ifge (tgt := 19) d_233_8 (by decide) (by omega) (fun c4 => ?_) (fun c4 => ?_)
  · skip
    refine ov_blk (ls2 := [(0, ov_r 90), (1, ov_i v2)]) (st2 := [ov_r 90]) (pc2 := 20) b_233_19_1 rfl rfl ?_
    refine ov_getf (v := ov_i (h 90 15)) d_233_20 fl_Mo_211 (zb_90 I) (zs_90 I) rfl ?_
    have g5 := rg_90_15 I
    refine ov_blk (ls2 := [(0, ov_r 90), (1, ov_i v2)]) (st2 := [ov_i 1, ov_i (ov_and (ov_shr (h 90 15) v2) 1)]) (pc2 := 28) b_233_23_5 rfl rfl ?_
    have g6 := ov_shrg (h 90 15) v2
    have g7 := ov_andg (ov_shr (h 90 15) v2) 1
    have g8 := ov_and1 (ov_shr (h 90 15) v2)
    refine ov_icne (tgt := 36) d_233_28 (by decide) (by omega) (by omega) (fun c9 => ?_) (fun c9 => ?_)
    · skip
      refine ov_blk (ls2 := [(0, ov_r 90), (1, ov_i v2)]) (st2 := [ov_r 90]) (pc2 := 37) b_233_36_1 rfl rfl ?_
      refine ov_getf (v := ov_i (h 90 8)) d_233_37 fl_Mo_180 (zb_90 I) (zs_90 I) rfl ?_
      have g10 := rg_90_8 I
      refine ov_ifle (tgt := 44) d_233_40 (by decide) (by omega) (fun c11 => ?_) (fun c11 => ?_)
      · skip
        refine ov_blk (ls2 := [(0, ov_r 90), (1, ov_i v2)]) (st2 := [ov_r 90, ov_r 90]) (pc2 := 46) b_233_44_2 rfl rfl ?_
        refine ov_getf (v := ov_i (h 90 15)) d_233_46 fl_Mo_211 (zb_90 I) (zs_90 I) rfl ?_
        refine ov_blk (ls2 := [(0, ov_r 90), (1, ov_i v2)]) (st2 := [ov_i (ov_or (h 90 15) (ov_shl 1 v2)), ov_r 90]) (pc2 := 53) b_233_49_4 rfl rfl ?_
        have g13 := ov_shlg 1 v2
        have g14 := ov_org (h 90 15) (ov_shl 1 v2)
        refine ov_havw (fun w15 gw15 qw15 => ?_)
        refine ov_putf (x := w15) d_233_53 fl_Mo_211 (zb_90 I) (zs_90 I) rfl nk_0 rfl ?_
        have I16 := up_90_15 (x := w15) I (by omega)
        refine ov_blk (ls2 := [(0, ov_r 90), (1, ov_i v2)]) (st2 := [ov_r 90, ov_r 90]) (pc2 := 58) b_233_56_2 rfl rfl ?_
        refine ov_getf (v := ov_i (h 90 7)) d_233_58 fl_Mo_177 (zb_90 I16) (zs_90 I16) rfl ?_
        have g17 := rg_90_7 I
        refine ov_blk (ls2 := [(0, ov_r 90), (1, ov_i v2)]) (st2 := [ov_i ((h 90 7) + 1), ov_r 90]) (pc2 := 63) b_233_61_2 rfl rfl ?_
        refine ov_putf (x := ((h 90 7) + 1)) d_233_63 fl_Mo_177 (zb_90 I16) (zs_90 I16) rfl nk_0 rfl ?_
        have I18 := up_90_7 (x := ((h 90 7) + 1)) I16 (by omega)
        refine ov_blk (ls2 := [(0, ov_r 90), (1, ov_i v2)]) (st2 := [ov_r 90]) (pc2 := 67) b_233_66_1 rfl rfl ?_
        refine ov_getf (v := ov_r 96) d_233_67 fl_Mo_81 (zb_90 I18) (zs_90 I18) (congrArg ov_r (rg_90_10 I18)) ?_
        refine ov_blk (ls2 := [(0, ov_r 90), (1, ov_i v2)]) (st2 := [ov_i 4, ov_i v2, ov_i (342 + v2), ov_r 96]) (pc2 := 77) b_233_70_5 rfl rfl ?_
        refine ov_icne (tgt := 84) d_233_77 (by decide) (by omega) (by omega) (fun c19 => ?_) (fun c19 => ?_)
        · skip
          refine ov_blk (ls2 := [(0, ov_r 90), (1, ov_i v2)]) (st2 := [ov_i 3, ov_i v2, ov_i (342 + v2), ov_r 96]) (pc2 := 86) b_233_84_2 rfl rfl ?_
          refine ov_icne (tgt := 99) d_233_86 (by decide) (by omega) (by omega) (fun c20 => ?_) (fun c20 => ?_)
          · skip
            refine ov_blk (ls2 := [(0, ov_r 90), (1, ov_i v2)]) (st2 := [ov_i 30, ov_i 1, ov_r 90, ov_i (342 + v2), ov_r 96]) (pc2 := 103) b_233_99_3 rfl rfl ?_
            refine ov_cV (as := [ov_i 1, ov_i 30]) (st := [ov_i (342 + v2), ov_r 96]) (d2 := d - 1) d_233_103 lk_Mo_198 rfl (Nat.le_of_ble_eq_true rfl) (c := 1) (zb_90 I18) (zs_90 I18) ⟨by decide, rfl⟩ (by omega) (c_Mo_takeNumber_90 n (d - 1) (by omega) U I18 1 30 (by omega) (by omega) (by show 0 ≤ n ∧ n ≤ 1000 ∧ (h 92 (n)) = 0 ∧ ((h 90 7) + 1) ≤ n; omega)) ?_
            rintro _ z37 h38 ⟨v22, rfl, I39, f21, e23, e24, e25, e26, e27, e28, e29, e30, e31, e32, e33, e34, e35, e36⟩
            have E40 : h38 92 = h 92 := e23
            have E41 : h38 93 = h 93 := e24
            have E42 : h38 94 = h 94 := e25
            have E43 : h38 95 = h 95 := e26
            have E44 : h38 96 = h 96 := e27
            have E45 : h38 97 = h 97 := e28
            have E46 : h38 98 = h 98 := e29
            have E47 : h38 99 = h 99 := e30
            have E48 : h38 100 = h 100 := e31
            have E49 : h38 103 = h 103 := e32
            have E50 : h38 105 = h 105 := e33
            have E51 : h38 106 = h 106 := e34
            have E52 : h38 109 = h 109 := e35
            have E53 : h38 114 = h 114 := e36
            show ov_R u d ov_m233 106 [(0, ov_r 90), (1, ov_i v2)] [ov_i v22, ov_i (342 + v2), ov_r 96] z37 h38 (P_Mo_readOnce_90 F z h n)
            have f54 : (h38 90 2) = (h 90 2) ∧ (h38 90 13) = (h 90 13) ∧ (h38 90 20) = (h 90 20) ∧ (h38 90 22) = (h 90 22) ∧ (h38 90 25) = (h 90 25) ∧ (h38 90 26) = (h 90 26) ∧ (h38 90 28) = (h 90 28) ∧ (h38 90 29) = (h 90 29) ∧ (h38 90 30) = (h 90 30) ∧ (h38 90 34) = (h 90 34) ∧ ((h 90 7) + 1) ≤ (h38 90 7) ∧ (h38 90 7) ≤ n ∧ (h 90 8) ≤ (h38 90 8) ∧ ((h38 90 8) = 0 → (1 : Int) ≤ v22 ∧ v22 ≤ (30 : Int)) ∧ (0 < (h38 90 8) → v22 = 0) ∧ ((h 90 7) + 1) < (h38 90 7) + (h38 90 8) := f21
            clear f21
            refine ov_iast d_233_106 (zb_96 I39) (zs_96 I39) (by omega) ?_
            have I55 := ua_96 (k := (342 + v2)) (x := v22) I39 (by refine ⟨?_, ?_, ?_, ?_, ?_, ?_, ?_, ?_, ?_, ?_, ?_, ?_, ?_, ?_, ?_, ?_, ?_, ?_, ?_, ?_, ?_, ?_, ?_, ?_, ?_, ?_, ?_, ?_, ?_⟩ <;> omega)
            have R56 : ov_RD (h 96) (h 97) (h 98) (h 90 13) (h38 96) (h38 97) (h38 98) (h 90 13) := by rw [show h38 96 = h 96 from E44, show h38 97 = h 97 from E45, show h38 98 = h 98 from E46]; exact ov_RD_refl _ _ _ _
            have R57 : ov_RD (h 96) (h 97) (h 98) (h 90 13) ((ov_up h38 96 (342 + v2) v22) 96) ((ov_up h38 96 (342 + v2) v22) 97) ((ov_up h38 96 (342 + v2) v22) 98) (h 90 13) := by rw [ov_up_row]; exact ov_RD_w R56 (t96_348 I39).2 (by omega)
            have qo1 : ((342 + v2)) = 342 → ((ov_up h38 96 (342 + v2) v22) 96 342) = v22 := fun e => by rw [← e, ov_up_row, ov_rs_eq]
            have qo2 : ¬ ((342 + v2)) = 342 → ((ov_up h38 96 (342 + v2) v22) 96 342) = h38 96 342 := fun e => by rw [ov_up_j (fun q => e q.symm)]
            have lt58 : ((ov_up h38 96 (342 + v2) v22) 96 340) = h38 96 340 := by rw [ov_up_j (by omega)]
            have lt59 : h38 96 340 = h 96 340 := congrFun E44 340
            have lt60 : ((ov_up h38 96 (342 + v2) v22) 96 341) = h38 96 341 := by rw [ov_up_j (by omega)]
            have lt61 : h38 96 341 = h 96 341 := congrFun E44 341
            have lt62 : ((ov_up h38 96 (342 + v2) v22) 96 348) = h38 96 348 := by rw [ov_up_j (by omega)]
            have lt63 : h38 96 348 = h 96 348 := congrFun E44 348
            have lt64 : ((ov_up h38 96 (342 + v2) v22) 96 349) = h38 96 349 := by rw [ov_up_j (by omega)]
            have lt65 : h38 96 349 = h 96 349 := congrFun E44 349
            have qo3 : h38 96 342 = h 96 342 := congrFun E44 342
            exact ov_retv (st := []) d_233_107 rfl ⟨rfl, I55, (by show (h38 90 2) = (h 90 2) ∧ (h38 90 13) = (h 90 13) ∧ (h38 90 20) = (h 90 20) ∧ (h38 90 22) = (h 90 22) ∧ (h38 90 25) = (h 90 25) ∧ (h38 90 26) = (h 90 26) ∧ (h38 90 28) = (h 90 28) ∧ (h38 90 29) = (h 90 29) ∧ (h38 90 30) = (h 90 30) ∧ (h38 90 34) = (h 90 34) ∧ (h 90 7) ≤ (h38 90 7) ∧ (h38 90 7) ≤ n ∧ (h 90 13) ≤ (h38 90 13) ∧ (h38 90 13) - (h 90 13) ≤ (h38 90 7) - (h 90 7) ∧ ((ov_up h38 96 (342 + v2) v22) 96 340) = (h 96 340) ∧ ((ov_up h38 96 (342 + v2) v22) 96 341) = (h 96 341) ∧ ((h38 90 8) = 0 → 1 ≤ (h 96 342) → 1 ≤ ((ov_up h38 96 (342 + v2) v22) 96 342)) ∧ (1 ≤ (h 96 349) → 1 ≤ ((ov_up h38 96 (342 + v2) v22) 96 349)); omega), E40, E41, E42, E43, E45, E46, E47, E48, E49, E50, E51, E52, E53, R57.1, R57.2.1, (fun _ w => by show ov_CS ((ov_up h38 96 (342 + v2) v22) 96) ((ov_up h38 96 (342 + v2) v22) 97) ((ov_up h38 96 (342 + v2) v22) 98) (h38 90 13); rw [show (h38 90 13) = h 90 13 by omega]; exact R57.2.2 w)⟩
          · skip
            refine ov_blk (ls2 := [(0, ov_r 90), (1, ov_i v2)]) (st2 := [ov_i 9, ov_i 0, ov_r 90, ov_i (342 + v2), ov_r 96]) (pc2 := 93) b_233_89_3 rfl rfl ?_
            refine ov_cV (as := [ov_i 0, ov_i 9]) (st := [ov_i (342 + v2), ov_r 96]) (d2 := d - 1) d_233_93 lk_Mo_198 rfl (Nat.le_of_ble_eq_true rfl) (c := 1) (zb_90 I18) (zs_90 I18) ⟨by decide, rfl⟩ (by omega) (c_Mo_takeNumber_90 n (d - 1) (by omega) U I18 0 9 (by omega) (by omega) (by show 0 ≤ n ∧ n ≤ 1000 ∧ (h 92 (n)) = 0 ∧ ((h 90 7) + 1) ≤ n; omega)) ?_
            rintro _ z82 h83 ⟨v67, rfl, I84, f66, e68, e69, e70, e71, e72, e73, e74, e75, e76, e77, e78, e79, e80, e81⟩
            have E85 : h83 92 = h 92 := e68
            have E86 : h83 93 = h 93 := e69
            have E87 : h83 94 = h 94 := e70
            have E88 : h83 95 = h 95 := e71
            have E89 : h83 96 = h 96 := e72
            have E90 : h83 97 = h 97 := e73
            have E91 : h83 98 = h 98 := e74
            have E92 : h83 99 = h 99 := e75
            have E93 : h83 100 = h 100 := e76
            have E94 : h83 103 = h 103 := e77
            have E95 : h83 105 = h 105 := e78
            have E96 : h83 106 = h 106 := e79
            have E97 : h83 109 = h 109 := e80
            have E98 : h83 114 = h 114 := e81
            show ov_R u d ov_m233 96 [(0, ov_r 90), (1, ov_i v2)] [ov_i v67, ov_i (342 + v2), ov_r 96] z82 h83 (P_Mo_readOnce_90 F z h n)
            have f99 : (h83 90 2) = (h 90 2) ∧ (h83 90 13) = (h 90 13) ∧ (h83 90 20) = (h 90 20) ∧ (h83 90 22) = (h 90 22) ∧ (h83 90 25) = (h 90 25) ∧ (h83 90 26) = (h 90 26) ∧ (h83 90 28) = (h 90 28) ∧ (h83 90 29) = (h 90 29) ∧ (h83 90 30) = (h 90 30) ∧ (h83 90 34) = (h 90 34) ∧ ((h 90 7) + 1) ≤ (h83 90 7) ∧ (h83 90 7) ≤ n ∧ (h 90 8) ≤ (h83 90 8) ∧ ((h83 90 8) = 0 → (0 : Int) ≤ v67 ∧ v67 ≤ (9 : Int)) ∧ (0 < (h83 90 8) → v67 = 0) ∧ ((h 90 7) + 1) < (h83 90 7) + (h83 90 8) := f66
            clear f66
            refine ov_goto (tgt := 106) d_233_96 (by decide) ?_
            refine ov_iast d_233_106 (zb_96 I84) (zs_96 I84) (by omega) ?_
            have I100 := ua_96 (k := (342 + v2)) (x := v67) I84 (by refine ⟨?_, ?_, ?_, ?_, ?_, ?_, ?_, ?_, ?_, ?_, ?_, ?_, ?_, ?_, ?_, ?_, ?_, ?_, ?_, ?_, ?_, ?_, ?_, ?_, ?_, ?_, ?_, ?_, ?_⟩ <;> omega)
            have R101 : ov_RD (h 96) (h 97) (h 98) (h 90 13) (h83 96) (h83 97) (h83 98) (h 90 13) := by rw [show h83 96 = h 96 from E89, show h83 97 = h 97 from E90, show h83 98 = h 98 from E91]; exact ov_RD_refl _ _ _ _
            have R102 : ov_RD (h 96) (h 97) (h 98) (h 90 13) ((ov_up h83 96 (342 + v2) v67) 96) ((ov_up h83 96 (342 + v2) v67) 97) ((ov_up h83 96 (342 + v2) v67) 98) (h 90 13) := by rw [ov_up_row]; exact ov_RD_w R101 (t96_348 I84).2 (by omega)
            have qo1 : ((342 + v2)) = 342 → ((ov_up h83 96 (342 + v2) v67) 96 342) = v67 := fun e => by rw [← e, ov_up_row, ov_rs_eq]
            have qo2 : ¬ ((342 + v2)) = 342 → ((ov_up h83 96 (342 + v2) v67) 96 342) = h83 96 342 := fun e => by rw [ov_up_j (fun q => e q.symm)]
            have lt103 : ((ov_up h83 96 (342 + v2) v67) 96 340) = h83 96 340 := by rw [ov_up_j (by omega)]
            have lt104 : h83 96 340 = h 96 340 := congrFun E89 340
            have lt105 : ((ov_up h83 96 (342 + v2) v67) 96 341) = h83 96 341 := by rw [ov_up_j (by omega)]
            have lt106 : h83 96 341 = h 96 341 := congrFun E89 341
            have lt107 : ((ov_up h83 96 (342 + v2) v67) 96 348) = h83 96 348 := by rw [ov_up_j (by omega)]
            have lt108 : h83 96 348 = h 96 348 := congrFun E89 348
            have lt109 : ((ov_up h83 96 (342 + v2) v67) 96 349) = h83 96 349 := by rw [ov_up_j (by omega)]
            have lt110 : h83 96 349 = h 96 349 := congrFun E89 349
            have qo3 : h83 96 342 = h 96 342 := congrFun E89 342
            exact ov_retv (st := []) d_233_107 rfl ⟨rfl, I100, (by show (h83 90 2) = (h 90 2) ∧ (h83 90 13) = (h 90 13) ∧ (h83 90 20) = (h 90 20) ∧ (h83 90 22) = (h 90 22) ∧ (h83 90 25) = (h 90 25) ∧ (h83 90 26) = (h 90 26) ∧ (h83 90 28) = (h 90 28) ∧ (h83 90 29) = (h 90 29) ∧ (h83 90 30) = (h 90 30) ∧ (h83 90 34) = (h 90 34) ∧ (h 90 7) ≤ (h83 90 7) ∧ (h83 90 7) ≤ n ∧ (h 90 13) ≤ (h83 90 13) ∧ (h83 90 13) - (h 90 13) ≤ (h83 90 7) - (h 90 7) ∧ ((ov_up h83 96 (342 + v2) v67) 96 340) = (h 96 340) ∧ ((ov_up h83 96 (342 + v2) v67) 96 341) = (h 96 341) ∧ ((h83 90 8) = 0 → 1 ≤ (h 96 342) → 1 ≤ ((ov_up h83 96 (342 + v2) v67) 96 342)) ∧ (1 ≤ (h 96 349) → 1 ≤ ((ov_up h83 96 (342 + v2) v67) 96 349)); omega), E85, E86, E87, E88, E90, E91, E92, E93, E94, E95, E96, E97, E98, R102.1, R102.2.1, (fun _ w => by show ov_CS ((ov_up h83 96 (342 + v2) v67) 96) ((ov_up h83 96 (342 + v2) v67) 97) ((ov_up h83 96 (342 + v2) v67) 98) (h83 90 13); rw [show (h83 90 13) = h 90 13 by omega]; exact R102.2.2 w)⟩
        · skip
          refine ov_blk (ls2 := [(0, ov_r 90), (1, ov_i v2)]) (st2 := [ov_i 1, ov_i (342 + v2), ov_r 96]) (pc2 := 81) b_233_80_1 rfl rfl ?_
          refine ov_goto (tgt := 106) d_233_81 (by decide) ?_
          refine ov_iast d_233_106 (zb_96 I18) (zs_96 I18) (by omega) ?_
          have I111 := ua_96 (k := (342 + v2)) (x := 1) I18 (by refine ⟨?_, ?_, ?_, ?_, ?_, ?_, ?_, ?_, ?_, ?_, ?_, ?_, ?_, ?_, ?_, ?_, ?_, ?_, ?_, ?_, ?_, ?_, ?_, ?_, ?_, ?_, ?_, ?_, ?_⟩ <;> omega)
          have R112 : ov_RD (h 96) (h 97) (h 98) (h 90 13) ((ov_up (ov_up h 90 15 w15) 90 7 ((h 90 7) + 1)) 96) ((ov_up (ov_up h 90 15 w15) 90 7 ((h 90 7) + 1)) 97) ((ov_up (ov_up h 90 15 w15) 90 7 ((h 90 7) + 1)) 98) (h 90 13) := by exact ov_RD_refl _ _ _ _
          have R113 : ov_RD (h 96) (h 97) (h 98) (h 90 13) ((ov_up (ov_up (ov_up h 90 15 w15) 90 7 ((h 90 7) + 1)) 96 (342 + v2) 1) 96) ((ov_up (ov_up (ov_up h 90 15 w15) 90 7 ((h 90 7) + 1)) 96 (342 + v2) 1) 97) ((ov_up (ov_up (ov_up h 90 15 w15) 90 7 ((h 90 7) + 1)) 96 (342 + v2) 1) 98) (h 90 13) := by rw [ov_up_row]; exact ov_RD_w R112 (t96_348 I18).2 (by omega)
          have qo1 : ((342 + v2)) = 342 → ((ov_up (ov_up (ov_up h 90 15 w15) 90 7 ((h 90 7) + 1)) 96 (342 + v2) 1) 96 342) = 1 := fun e => by rw [← e, ov_up_row, ov_rs_eq]
          have qo2 : ¬ ((342 + v2)) = 342 → ((ov_up (ov_up (ov_up h 90 15 w15) 90 7 ((h 90 7) + 1)) 96 (342 + v2) 1) 96 342) = (ov_up (ov_up h 90 15 w15) 90 7 ((h 90 7) + 1)) 96 342 := fun e => by rw [ov_up_j (fun q => e q.symm)]
          have lt114 : ((ov_up (ov_up (ov_up h 90 15 w15) 90 7 ((h 90 7) + 1)) 96 (342 + v2) 1) 96 340) = h 96 340 := by rw [ov_up_j (by omega)]; show (ov_up h 90 15 w15) 96 340 = _; show h 96 340 = _
          have lt115 : ((ov_up (ov_up (ov_up h 90 15 w15) 90 7 ((h 90 7) + 1)) 96 (342 + v2) 1) 96 341) = h 96 341 := by rw [ov_up_j (by omega)]; show (ov_up h 90 15 w15) 96 341 = _; show h 96 341 = _
          have lt116 : ((ov_up (ov_up (ov_up h 90 15 w15) 90 7 ((h 90 7) + 1)) 96 (342 + v2) 1) 96 348) = h 96 348 := by rw [ov_up_j (by omega)]; show (ov_up h 90 15 w15) 96 348 = _; show h 96 348 = _
          have lt117 : ((ov_up (ov_up (ov_up h 90 15 w15) 90 7 ((h 90 7) + 1)) 96 (342 + v2) 1) 96 349) = h 96 349 := by rw [ov_up_j (by omega)]; show (ov_up h 90 15 w15) 96 349 = _; show h 96 349 = _
          exact ov_retv (st := []) d_233_107 rfl ⟨rfl, I111, ⟨rfl, rfl, rfl, rfl, rfl, rfl, rfl, rfl, rfl, rfl, (by show (h 90 7) ≤ ((h 90 7) + 1) ∧ ((h 90 7) + 1) ≤ n ∧ (h 90 13) ≤ (h 90 13) ∧ (h 90 13) - (h 90 13) ≤ ((h 90 7) + 1) - (h 90 7) ∧ ((ov_up (ov_up (ov_up h 90 15 w15) 90 7 ((h 90 7) + 1)) 96 (342 + v2) 1) 96 340) = (h 96 340) ∧ ((ov_up (ov_up (ov_up h 90 15 w15) 90 7 ((h 90 7) + 1)) 96 (342 + v2) 1) 96 341) = (h 96 341) ∧ ((h 90 8) = 0 → 1 ≤ (h 96 342) → 1 ≤ ((ov_up (ov_up (ov_up h 90 15 w15) 90 7 ((h 90 7) + 1)) 96 (342 + v2) 1) 96 342)) ∧ (1 ≤ (h 96 349) → 1 ≤ ((ov_up (ov_up (ov_up h 90 15 w15) 90 7 ((h 90 7) + 1)) 96 (342 + v2) 1) 96 349)); omega)⟩, rfl, rfl, rfl, rfl, rfl, rfl, rfl, rfl, rfl, rfl, rfl, rfl, rfl, R113.1, R113.2.1, (fun _ w => by show ov_CS ((ov_up (ov_up (ov_up h 90 15 w15) 90 7 ((h 90 7) + 1)) 96 (342 + v2) 1) 96) ((ov_up (ov_up (ov_up h 90 15 w15) 90 7 ((h 90 7) + 1)) 96 (342 + v2) 1) 97) ((ov_up (ov_up (ov_up h 90 15 w15) 90 7 ((h 90 7) + 1)) 96 (342 + v2) 1) 98) (h 90 13); rw [show (h 90 13) = h 90 13 by omega]; exact R113.2.2 w)⟩
      · skip
        have R118 : ov_RD (h 96) (h 97) (h 98) (h 90 13) (h 96) (h 97) (h 98) (h 90 13) := by exact ov_RD_refl _ _ _ _
        exact ov_retv (st := []) d_233_43 rfl ⟨rfl, I, ⟨rfl, rfl, rfl, rfl, rfl, rfl, rfl, rfl, rfl, rfl, (by show (h 90 7) ≤ (h 90 7) ∧ (h 90 7) ≤ n ∧ (h 90 13) ≤ (h 90 13) ∧ (h 90 13) - (h 90 13) ≤ (h 90 7) - (h 90 7) ∧ (h 96 340) = (h 96 340) ∧ (h 96 341) = (h 96 341) ∧ ((h 90 8) = 0 → 1 ≤ (h 96 342) → 1 ≤ (h 96 342)) ∧ (1 ≤ (h 96 349) → 1 ≤ (h 96 349)); omega)⟩, rfl, rfl, rfl, rfl, rfl, rfl, rfl, rfl, rfl, rfl, rfl, rfl, rfl, R118.1, R118.2.1, (fun _ w => by show ov_CS (h 96) (h 97) (h 98) (h 90 13); rw [show (h 90 13) = h 90 13 by omega]; exact R118.2.2 w)⟩
    · skip
      refine ov_blk (ls2 := [(0, ov_r 90), (1, ov_i v2)]) (st2 := [ov_i 3, ov_r 90]) (pc2 := 33) b_233_31_2 rfl rfl ?_
      refine ov_cV (as := [ov_i 3]) (st := []) (d2 := d - 1) d_233_33 lk_Mo_186 rfl (Nat.le_of_ble_eq_true rfl) (c := 1) (zb_90 I) (zs_90 I) ⟨by decide, rfl⟩ (by omega) (c_Mo_wrong_90 (d - 1) (by omega) U I 3 (by omega) (by omega)) ?_
      rintro _ z134 h135 ⟨rfl, I136, f119, e120, e121, e122, e123, e124, e125, e126, e127, e128, e129, e130, e131, e132, e133⟩
      have E137 : h135 92 = h 92 := e120
      have E138 : h135 93 = h 93 := e121
      have E139 : h135 94 = h 94 := e122
      have E140 : h135 95 = h 95 := e123
      have E141 : h135 96 = h 96 := e124
      have E142 : h135 97 = h 97 := e125
      have E143 : h135 98 = h 98 := e126
      have E144 : h135 99 = h 99 := e127
      have E145 : h135 100 = h 100 := e128
      have E146 : h135 103 = h 103 := e129
      have E147 : h135 105 = h 105 := e130
      have E148 : h135 106 = h 106 := e131
      have E149 : h135 109 = h 109 := e132
      have E150 : h135 114 = h 114 := e133
      show ov_R u d ov_m233 36 [(0, ov_r 90), (1, ov_i v2)] [] z134 h135 (P_Mo_readOnce_90 F z h n)
      have f151 : (h135 90 2) = (h 90 2) ∧ (h135 90 7) = (h 90 7) ∧ (h135 90 13) = (h 90 13) ∧ (h135 90 20) = (h 90 20) ∧ (h135 90 22) = (h 90 22) ∧ (h135 90 25) = (h 90 25) ∧ (h135 90 26) = (h 90 26) ∧ (h135 90 28) = (h 90 28) ∧ (h135 90 29) = (h 90 29) ∧ (h135 90 30) = (h 90 30) ∧ (h135 90 34) = (h 90 34) ∧ 0 < (h135 90 8) ∧ (h 90 8) ≤ (h135 90 8) := f119
      clear f119
      refine ov_blk (ls2 := [(0, ov_r 90), (1, ov_i v2)]) (st2 := [ov_r 90]) (pc2 := 37) b_233_36_1 rfl rfl ?_
      refine ov_getf (v := ov_i (h135 90 8)) d_233_37 fl_Mo_180 (zb_90 I136) (zs_90 I136) rfl ?_
      have g152 := rg_90_8 I136
      refine ov_ifle (tgt := 44) d_233_40 (by decide) (by omega) (fun c153 => ?_) (fun c153 => ?_)
      · omega
      · skip
        have qo3 : h135 96 342 = h 96 342 := congrFun E141 342
        have R154 : ov_RD (h 96) (h 97) (h 98) (h 90 13) (h135 96) (h135 97) (h135 98) (h 90 13) := by rw [show h135 96 = h 96 from E141, show h135 97 = h 97 from E142, show h135 98 = h 98 from E143]; exact ov_RD_refl _ _ _ _
        exact ov_retv (st := []) d_233_43 rfl ⟨rfl, I136, (by show (h135 90 2) = (h 90 2) ∧ (h135 90 13) = (h 90 13) ∧ (h135 90 20) = (h 90 20) ∧ (h135 90 22) = (h 90 22) ∧ (h135 90 25) = (h 90 25) ∧ (h135 90 26) = (h 90 26) ∧ (h135 90 28) = (h 90 28) ∧ (h135 90 29) = (h 90 29) ∧ (h135 90 30) = (h 90 30) ∧ (h135 90 34) = (h 90 34) ∧ (h 90 7) ≤ (h135 90 7) ∧ (h135 90 7) ≤ n ∧ (h 90 13) ≤ (h135 90 13) ∧ (h135 90 13) - (h 90 13) ≤ (h135 90 7) - (h 90 7) ∧ (h 96 340) = (h 96 340) ∧ (h 96 341) = (h 96 341) ∧ ((h135 90 8) = 0 → 1 ≤ (h 96 342) → 1 ≤ (h 96 342)) ∧ (1 ≤ (h 96 349) → 1 ≤ (h 96 349)); omega), E137, E138, E139, E140, E142, E143, E144, E145, E146, E147, E148, E149, E150, R154.1, R154.2.1, (fun _ w => by show ov_CS (h135 96) (h135 97) (h135 98) (h135 90 13); rw [show (h135 90 13) = h 90 13 by omega]; exact R154.2.2 w)⟩
  · skip
    refine ov_blk (ls2 := [(0, ov_r 90), (1, ov_i v2)]) (st2 := [ov_i 1, ov_r 90]) (pc2 := 13) b_233_11_2 rfl rfl ?_
    refine ov_cV (as := [ov_i 1]) (st := []) (d2 := d - 1) d_233_13 lk_Mo_186 rfl (Nat.le_of_ble_eq_true rfl) (c := 1) (zb_90 I) (zs_90 I) ⟨by decide, rfl⟩ (by omega) (c_Mo_wrong_90 (d - 1) (by omega) U I 1 (by omega) (by omega)) ?_
    rintro _ z170 h171 ⟨rfl, I172, f155, e156, e157, e158, e159, e160, e161, e162, e163, e164, e165, e166, e167, e168, e169⟩
    have E173 : h171 92 = h 92 := e156
    have E174 : h171 93 = h 93 := e157
    have E175 : h171 94 = h 94 := e158
    have E176 : h171 95 = h 95 := e159
    have E177 : h171 96 = h 96 := e160
    have E178 : h171 97 = h 97 := e161
    have E179 : h171 98 = h 98 := e162
    have E180 : h171 99 = h 99 := e163
    have E181 : h171 100 = h 100 := e164
    have E182 : h171 103 = h 103 := e165
    have E183 : h171 105 = h 105 := e166
    have E184 : h171 106 = h 106 := e167
    have E185 : h171 109 = h 109 := e168
    have E186 : h171 114 = h 114 := e169
    show ov_R u d ov_m233 16 [(0, ov_r 90), (1, ov_i v2)] [] z170 h171 (P_Mo_readOnce_90 F z h n)
    have f187 : (h171 90 2) = (h 90 2) ∧ (h171 90 7) = (h 90 7) ∧ (h171 90 13) = (h 90 13) ∧ (h171 90 20) = (h 90 20) ∧ (h171 90 22) = (h 90 22) ∧ (h171 90 25) = (h 90 25) ∧ (h171 90 26) = (h 90 26) ∧ (h171 90 28) = (h 90 28) ∧ (h171 90 29) = (h 90 29) ∧ (h171 90 30) = (h 90 30) ∧ (h171 90 34) = (h 90 34) ∧ 0 < (h171 90 8) ∧ (h 90 8) ≤ (h171 90 8) := f155
    clear f155
    refine ov_goto (tgt := 36) d_233_16 (by decide) ?_
    refine ov_blk (ls2 := [(0, ov_r 90), (1, ov_i v2)]) (st2 := [ov_r 90]) (pc2 := 37) b_233_36_1 rfl rfl ?_
    refine ov_getf (v := ov_i (h171 90 8)) d_233_37 fl_Mo_180 (zb_90 I172) (zs_90 I172) rfl ?_
    have g188 := rg_90_8 I172
    refine ov_ifle (tgt := 44) d_233_40 (by decide) (by omega) (fun c189 => ?_) (fun c189 => ?_)
    · omega
    · skip
      have qo3 : h171 96 342 = h 96 342 := congrFun E177 342
      have R190 : ov_RD (h 96) (h 97) (h 98) (h 90 13) (h171 96) (h171 97) (h171 98) (h 90 13) := by rw [show h171 96 = h 96 from E177, show h171 97 = h 97 from E178, show h171 98 = h 98 from E179]; exact ov_RD_refl _ _ _ _
      exact ov_retv (st := []) d_233_43 rfl ⟨rfl, I172, (by show (h171 90 2) = (h 90 2) ∧ (h171 90 13) = (h 90 13) ∧ (h171 90 20) = (h 90 20) ∧ (h171 90 22) = (h 90 22) ∧ (h171 90 25) = (h 90 25) ∧ (h171 90 26) = (h 90 26) ∧ (h171 90 28) = (h 90 28) ∧ (h171 90 29) = (h 90 29) ∧ (h171 90 30) = (h 90 30) ∧ (h171 90 34) = (h 90 34) ∧ (h 90 7) ≤ (h171 90 7) ∧ (h171 90 7) ≤ n ∧ (h 90 13) ≤ (h171 90 13) ∧ (h171 90 13) - (h 90 13) ≤ (h171 90 7) - (h 90 7) ∧ (h 96 340) = (h 96 340) ∧ (h 96 341) = (h 96 341) ∧ ((h171 90 8) = 0 → 1 ≤ (h 96 342) → 1 ≤ (h 96 342)) ∧ (1 ≤ (h 96 349) → 1 ≤ (h 96 349)); omega), E173, E174, E175, E176, E178, E179, E180, E181, E182, E183, E184, E185, E186, R190.1, R190.2.1, (fun _ w => by show ov_CS (h171 96) (h171 97) (h171 98) (h171 90 13); rw [show (h171 90 13) = h 90 13 by omega]; exact R190.2.2 w)⟩
abbrev P_Mo_readBar_90 (F : ov_H × ov_Z) (z : ov_Z) (h : ov_H) (n : Int) : Option ov_V → ov_Z → ov_H → Prop := fun r0 z' h' => r0 = none ∧ ov_N F z' h' ∧ ((h' 90 2) = (h 90 2) ∧ (h' 90 13) = (h 90 13) ∧ (h' 90 20) = (h 90 20) ∧ (h' 90 22) = (h 90 22) ∧ (h' 90 25) = (h 90 25) ∧ (h' 90 26) = (h 90 26) ∧ (h' 90 28) = (h 90 28) ∧ (h' 90 29) = (h 90 29) ∧ (h' 90 30) = (h 90 30) ∧ (h' 90 34) = (h 90 34) ∧ (h 90 7) ≤ (h' 90 7) ∧ (h' 90 7) ≤ n ∧ (h 90 13) ≤ (h' 90 13) ∧ (h' 90 13) - (h 90 13) ≤ (h' 90 7) - (h 90 7) ∧ (h' 96 340) = (h 96 340) ∧ (h' 96 341) = (h 96 341) ∧ ((h' 90 8) = 0 → 1 ≤ (h 96 342) → 1 ≤ (h' 96 342)) ∧ (1 ≤ (h 96 349) → 1 ≤ (h' 96 349))) ∧ h' 92 = h 92 ∧ h' 93 = h 93 ∧ h' 94 = h 94 ∧ h' 95 = h 95 ∧ h' 97 = h 97 ∧ h' 98 = h 98 ∧ h' 99 = h 99 ∧ h' 100 = h 100 ∧ h' 103 = h 103 ∧ h' 105 = h 105 ∧ h' 106 = h 106 ∧ h' 109 = h 109 ∧ h' 114 = h 114 ∧ (ov_MK (h 96) (h 97) (h 98) (h' 96) (h' 97) (h' 98)) ∧ (ov_WS (h 96) → ov_WS (h' 96)) ∧ ((h' 90 8) = 0 → ov_CS (h 96) (h 97) (h 98) (h 90 13) → ov_CS (h' 96) (h' 97) (h' 98) (h' 90 13))
set_option maxHeartbeats 4000000 in
theorem c_Mo_readBar_90 {u : ov_U} {F : ov_H × ov_Z} (n : Int) {z : ov_Z} {h : ov_H} (d : Nat) (hd : 2 ≤ d) (U : ov_cap u) (I : ov_N F z h) (p0 : 0 ≤ n ∧ n ≤ 1000 ∧ (h 92 (n)) = 0 ∧ (h 90 7) ≤ n) (p1 : (h 90 13) ≤ (h 90 7)) (p2 : (h 90 8) = 0) (p3 : (h 90 7) < n) : ov_T u d ov_m223 [ov_r 90] z h (P_Mo_readBar_90 F z h n) := by
  refine ov_en rfl (Nat.le_of_ble_eq_true rfl) ?_
  show ov_R u d ov_m223 0 [(0, ov_r 90)] [] z h (P_Mo_readBar_90 F z h n)
  refine ov_blk (ls2 := [(0, ov_r 90)]) (st2 := [ov_r 90, ov_r 90]) (pc2 := 2) b_223_0_2 rfl rfl ?_
  refine ov_getf (v := ov_i (h 90 7)) d_223_2 fl_Mo_177 (zb_90 I) (zs_90 I) rfl ?_
  have g1 := rg_90_7 I
  refine ov_blk (ls2 := [(0, ov_r 90)]) (st2 := [ov_i ((h 90 7) + 1), ov_r 90]) (pc2 := 7) b_223_5_2 rfl rfl ?_
  refine ov_putf (x := ((h 90 7) + 1)) d_223_7 fl_Mo_177 (zb_90 I) (zs_90 I) rfl nk_0 rfl ?_
  have I2 := up_90_7 (x := ((h 90 7) + 1)) I (by omega)
  refine ov_blk (ls2 := [(0, ov_r 90)]) (st2 := [ov_r 90, ov_i 0, ov_r 90]) (pc2 := 13) b_223_10_3 rfl rfl ?_
  refine ov_getf (v := ov_r 96) d_223_13 fl_Mo_81 (zb_90 I2) (zs_90 I2) (congrArg ov_r (rg_90_10 I2)) ?_
  refine ov_blk (ls2 := [(0, ov_r 90)]) (st2 := [ov_i 340, ov_r 96, ov_i 0, ov_r 90]) (pc2 := 19) b_223_16_1 rfl rfl ?_
  refine ov_iald d_223_19 (zb_96 I2) (zs_96 I2) (by omega) ?_
  show ov_R u d ov_m223 20 [(0, ov_r 90)] [ov_i (h 96 340), ov_i 0, ov_r 90] z (ov_up h 90 7 ((h 90 7) + 1)) (P_Mo_readBar_90 F z h n)
  have g3 := t96_340 I
  refine ov_blk (ls2 := [(0, ov_r 90)]) (st2 := [ov_i ((h 96 340) - 1), ov_i 0, ov_r 90]) (pc2 := 22) b_223_20_2 rfl rfl ?_
  refine ov_cV (as := [ov_i 0, ov_i ((h 96 340) - 1)]) (st := []) (d2 := d - 1) d_223_22 lk_Mo_198 rfl (Nat.le_of_ble_eq_true rfl) (c := 1) (zb_90 I2) (zs_90 I2) ⟨by decide, rfl⟩ (by omega) (c_Mo_takeNumber_90 n (d - 1) (by omega) U I2 0 ((h 96 340) - 1) (by omega) (by omega) (by show 0 ≤ n ∧ n ≤ 1000 ∧ (h 92 (n)) = 0 ∧ ((h 90 7) + 1) ≤ n; omega)) ?_
  rintro _ z20 h21 ⟨v5, rfl, I22, f4, e6, e7, e8, e9, e10, e11, e12, e13, e14, e15, e16, e17, e18, e19⟩
  have E23 : h21 92 = h 92 := e6
  have E24 : h21 93 = h 93 := e7
  have E25 : h21 94 = h 94 := e8
  have E26 : h21 95 = h 95 := e9
  have E27 : h21 96 = h 96 := e10
  have E28 : h21 97 = h 97 := e11
  have E29 : h21 98 = h 98 := e12
  have E30 : h21 99 = h 99 := e13
  have E31 : h21 100 = h 100 := e14
  have E32 : h21 103 = h 103 := e15
  have E33 : h21 105 = h 105 := e16
  have E34 : h21 106 = h 106 := e17
  have E35 : h21 109 = h 109 := e18
  have E36 : h21 114 = h 114 := e19
  show ov_R u d ov_m223 25 [(0, ov_r 90)] [ov_i v5] z20 h21 (P_Mo_readBar_90 F z h n)
  have f37 : (h21 90 2) = (h 90 2) ∧ (h21 90 13) = (h 90 13) ∧ (h21 90 20) = (h 90 20) ∧ (h21 90 22) = (h 90 22) ∧ (h21 90 25) = (h 90 25) ∧ (h21 90 26) = (h 90 26) ∧ (h21 90 28) = (h 90 28) ∧ (h21 90 29) = (h 90 29) ∧ (h21 90 30) = (h 90 30) ∧ (h21 90 34) = (h 90 34) ∧ ((h 90 7) + 1) ≤ (h21 90 7) ∧ (h21 90 7) ≤ n ∧ (h 90 8) ≤ (h21 90 8) ∧ ((h21 90 8) = 0 → (0 : Int) ≤ v5 ∧ v5 ≤ ((h 96 340) - 1)) ∧ (0 < (h21 90 8) → v5 = 0) ∧ ((h 90 7) + 1) < (h21 90 7) + (h21 90 8) := f4
  clear f4
  refine ov_blk (ls2 := [(0, ov_r 90), (1, ov_i v5)]) (st2 := [ov_r 90, ov_i 0, ov_r 90]) (pc2 := 29) b_223_25_4 rfl rfl ?_
  refine ov_getf (v := ov_r 96) d_223_29 fl_Mo_81 (zb_90 I22) (zs_90 I22) (congrArg ov_r (rg_90_10 I22)) ?_
  refine ov_blk (ls2 := [(0, ov_r 90), (1, ov_i v5)]) (st2 := [ov_i 341, ov_r 96, ov_i 0, ov_r 90]) (pc2 := 35) b_223_32_1 rfl rfl ?_
  refine ov_iald d_223_35 (zb_96 I22) (zs_96 I22) (by omega) ?_
  rw [show h21 96 = h 96 from E27]
  have g38 := t96_341 I
  refine ov_blk (ls2 := [(0, ov_r 90), (1, ov_i v5)]) (st2 := [ov_i ((h 96 341) - 1), ov_i 0, ov_r 90]) (pc2 := 38) b_223_36_2 rfl rfl ?_
  have cf39 : h21 92 (n) = h 92 (n) := congrFun E23 (n)
  refine ov_cV (as := [ov_i 0, ov_i ((h 96 341) - 1)]) (st := []) (d2 := d - 1) d_223_38 lk_Mo_198 rfl (Nat.le_of_ble_eq_true rfl) (c := 1) (zb_90 I22) (zs_90 I22) ⟨by decide, rfl⟩ (by omega) (c_Mo_takeNumber_90 n (d - 1) (by omega) U I22 0 ((h 96 341) - 1) (by omega) (by omega) (by show 0 ≤ n ∧ n ≤ 1000 ∧ (h21 92 (n)) = 0 ∧ (h21 90 7) ≤ n; omega)) ?_
  rintro _ z56 h57 ⟨v41, rfl, I58, f40, e42, e43, e44, e45, e46, e47, e48, e49, e50, e51, e52, e53, e54, e55⟩
  have E59 : h57 92 = h 92 := Eq.trans e42 E23
  have E60 : h57 93 = h 93 := Eq.trans e43 E24
  have E61 : h57 94 = h 94 := Eq.trans e44 E25
  have E62 : h57 95 = h 95 := Eq.trans e45 E26
  have E63 : h57 96 = h 96 := Eq.trans e46 E27
  have E64 : h57 97 = h 97 := Eq.trans e47 E28
  have E65 : h57 98 = h 98 := Eq.trans e48 E29
  have E66 : h57 99 = h 99 := Eq.trans e49 E30
  have E67 : h57 100 = h 100 := Eq.trans e50 E31
  have E68 : h57 103 = h 103 := Eq.trans e51 E32
  have E69 : h57 105 = h 105 := Eq.trans e52 E33
  have E70 : h57 106 = h 106 := Eq.trans e53 E34
  have E71 : h57 109 = h 109 := Eq.trans e54 E35
  have E72 : h57 114 = h 114 := Eq.trans e55 E36
  show ov_R u d ov_m223 41 [(0, ov_r 90), (1, ov_i v5)] [ov_i v41] z56 h57 (P_Mo_readBar_90 F z h n)
  have f73 : (h57 90 2) = (h21 90 2) ∧ (h57 90 13) = (h21 90 13) ∧ (h57 90 20) = (h21 90 20) ∧ (h57 90 22) = (h21 90 22) ∧ (h57 90 25) = (h21 90 25) ∧ (h57 90 26) = (h21 90 26) ∧ (h57 90 28) = (h21 90 28) ∧ (h57 90 29) = (h21 90 29) ∧ (h57 90 30) = (h21 90 30) ∧ (h57 90 34) = (h21 90 34) ∧ (h21 90 7) ≤ (h57 90 7) ∧ (h57 90 7) ≤ n ∧ (h21 90 8) ≤ (h57 90 8) ∧ ((h57 90 8) = 0 → (0 : Int) ≤ v41 ∧ v41 ≤ ((h 96 341) - 1)) ∧ (0 < (h57 90 8) → v41 = 0) ∧ (h21 90 7) < (h57 90 7) + (h57 90 8) := f40
  clear f40
  refine ov_blk (ls2 := [(0, ov_r 90), (1, ov_i v5), (2, ov_i v41)]) (st2 := [ov_r 90]) (pc2 := 43) b_223_41_2 rfl rfl ?_
  refine ov_getf (v := ov_i (h57 90 8)) d_223_43 fl_Mo_180 (zb_90 I58) (zs_90 I58) rfl ?_
  have g74 := rg_90_8 I58
  refine ov_ifle (tgt := 53) d_223_46 (by decide) (by omega) (fun c75 => ?_) (fun c75 => ?_)
  · skip
    refine ov_blk (ls2 := [(0, ov_r 90), (1, ov_i v5), (2, ov_i v41)]) (st2 := [ov_i 2, ov_i 10, ov_r 90]) (pc2 := 57) b_223_53_3 rfl rfl ?_
    have cf76 : h57 92 (n) = h 92 (n) := congrFun E59 (n)
    refine ov_cV (as := [ov_i 10, ov_i 2]) (st := []) (d2 := d - 1) d_223_57 lk_Mo_202 rfl (Nat.le_of_ble_eq_true rfl) (c := 1) (zb_90 I58) (zs_90 I58) ⟨by decide, rfl⟩ (by omega) (c_Mo_wordHere_90 n (d - 1) (by omega) U I58 10 2 (by omega) (by omega) (by show 0 ≤ n ∧ n ≤ 1000 ∧ (h57 92 (n)) = 0 ∧ (h57 90 7) ≤ n; omega) (by omega)) ?_
    rintro _ _ _ ⟨v78, rfl, rfl, rfl, f77⟩
    show ov_R u d ov_m223 60 [(0, ov_r 90), (1, ov_i v5), (2, ov_i v41)] [ov_i v78] z56 h57 (P_Mo_readBar_90 F z h n)
    have f79 : -1 ≤ v78 ∧ v78 < (2 : Int) ∧ (0 ≤ v78 → (h57 90 7) < n ∧ (h57 90 8) = 0) := f77
    clear f77
    refine ov_blk (ls2 := [(0, ov_r 90), (1, ov_i v5), (2, ov_i v41), (3, ov_i v78)]) (st2 := [ov_i v78]) (pc2 := 62) b_223_60_2 rfl rfl ?_
    refine ov_ifge (tgt := 71) d_223_62 (by decide) (by omega) (fun c80 => ?_) (fun c80 => ?_)
    · skip
      refine ov_blk (ls2 := [(0, ov_r 90), (1, ov_i v5), (2, ov_i v41), (3, ov_i v78), (4, ov_i ((566 + (6 * v41)) + v5))]) (st2 := [ov_r 90]) (pc2 := 84) b_223_71_9 rfl rfl ?_
      refine ov_getf (v := ov_r 96) d_223_84 fl_Mo_81 (zb_90 I58) (zs_90 I58) (congrArg ov_r (rg_90_10 I58)) ?_
      refine ov_blk (ls2 := [(0, ov_r 90), (1, ov_i v5), (2, ov_i v41), (3, ov_i v78), (4, ov_i ((566 + (6 * v41)) + v5))]) (st2 := [ov_i ((566 + (6 * v41)) + v5), ov_r 96]) (pc2 := 89) b_223_87_1 rfl rfl ?_
      refine ov_iald d_223_89 (zb_96 I58) (zs_96 I58) (by omega) ?_
      rw [show h57 96 = h 96 from E63]
      have g81 := g96 I ((566 + (6 * v41)) + v5)
      refine ov_blk (ls2 := [(0, ov_r 90), (1, ov_i v5), (2, ov_i v41), (3, ov_i v78), (4, ov_i ((566 + (6 * v41)) + v5))]) (st2 := [ov_i 1, ov_i (ov_and (ov_shr (h 96 ((566 + (6 * v41)) + v5)) v78) 1)]) (pc2 := 95) b_223_90_5 rfl rfl ?_
      have g82 := ov_shrg (h 96 ((566 + (6 * v41)) + v5)) v78
      have g83 := ov_andg (ov_shr (h 96 ((566 + (6 * v41)) + v5)) v78) 1
      have g84 := ov_and1 (ov_shr (h 96 ((566 + (6 * v41)) + v5)) v78)
      refine ov_icne (tgt := 104) d_223_95 (by decide) (by omega) (by omega) (fun c85 => ?_) (fun c85 => ?_)
      · skip
        refine ov_blk (ls2 := [(0, ov_r 90), (1, ov_i v5), (2, ov_i v41), (3, ov_i v78), (4, ov_i ((566 + (6 * v41)) + v5))]) (st2 := [ov_r 90, ov_r 90]) (pc2 := 106) b_223_104_2 rfl rfl ?_
        refine ov_getf (v := ov_i (h57 90 7)) d_223_106 fl_Mo_177 (zb_90 I58) (zs_90 I58) rfl ?_
        have g86 := rg_90_7 I58
        refine ov_blk (ls2 := [(0, ov_r 90), (1, ov_i v5), (2, ov_i v41), (3, ov_i v78), (4, ov_i ((566 + (6 * v41)) + v5))]) (st2 := [ov_i ((h57 90 7) + 1), ov_r 90]) (pc2 := 111) b_223_109_2 rfl rfl ?_
        refine ov_putf (x := ((h57 90 7) + 1)) d_223_111 fl_Mo_177 (zb_90 I58) (zs_90 I58) rfl nk_0 rfl ?_
        have I87 := up_90_7 (x := ((h57 90 7) + 1)) I58 (by omega)
        refine ov_blk (ls2 := [(0, ov_r 90), (1, ov_i v5), (2, ov_i v41), (3, ov_i v78), (4, ov_i ((566 + (6 * v41)) + v5))]) (st2 := [ov_r 90]) (pc2 := 115) b_223_114_1 rfl rfl ?_
        refine ov_getf (v := ov_r 96) d_223_115 fl_Mo_81 (zb_90 I87) (zs_90 I87) (congrArg ov_r (rg_90_10 I87)) ?_
        refine ov_blk (ls2 := [(0, ov_r 90), (1, ov_i v5), (2, ov_i v41), (3, ov_i v78), (4, ov_i ((566 + (6 * v41)) + v5))]) (st2 := [ov_i ((566 + (6 * v41)) + v5), ov_r 96, ov_i ((566 + (6 * v41)) + v5), ov_r 96]) (pc2 := 121) b_223_118_2 rfl rfl ?_
        refine ov_iald d_223_121 (zb_96 I87) (zs_96 I87) (by omega) ?_
        rw [show (ov_up h57 90 7 ((h57 90 7) + 1)) 96 = h 96 from E63]
        refine ov_blk (ls2 := [(0, ov_r 90), (1, ov_i v5), (2, ov_i v41), (3, ov_i v78), (4, ov_i ((566 + (6 * v41)) + v5))]) (st2 := [ov_i (ov_or (h 96 ((566 + (6 * v41)) + v5)) (ov_shl 1 v78)), ov_i ((566 + (6 * v41)) + v5), ov_r 96]) (pc2 := 126) b_223_122_4 rfl rfl ?_
        have g89 := ov_shlg 1 v78
        have g90 := ov_org (h 96 ((566 + (6 * v41)) + v5)) (ov_shl 1 v78)
        refine ov_iast d_223_126 (zb_96 I87) (zs_96 I87) (by omega) ?_
        have I91 := ua_96 (k := ((566 + (6 * v41)) + v5)) (x := (ov_or (h 96 ((566 + (6 * v41)) + v5)) (ov_shl 1 v78))) I87 (by refine ⟨?_, ?_, ?_, ?_, ?_, ?_, ?_, ?_, ?_, ?_, ?_, ?_, ?_, ?_, ?_, ?_, ?_, ?_, ?_, ?_, ?_, ?_, ?_, ?_, ?_, ?_, ?_, ?_, ?_⟩ <;> omega)
        have R92 : ov_RD (h 96) (h 97) (h 98) (h 90 13) ((ov_up h57 90 7 ((h57 90 7) + 1)) 96) ((ov_up h57 90 7 ((h57 90 7) + 1)) 97) ((ov_up h57 90 7 ((h57 90 7) + 1)) 98) (h 90 13) := by rw [show (ov_up h57 90 7 ((h57 90 7) + 1)) 96 = h 96 from E63, show (ov_up h57 90 7 ((h57 90 7) + 1)) 97 = h 97 from E64, show (ov_up h57 90 7 ((h57 90 7) + 1)) 98 = h 98 from E65]; exact ov_RD_refl _ _ _ _
        have R93 : ov_RD (h 96) (h 97) (h 98) (h 90 13) ((ov_up (ov_up h57 90 7 ((h57 90 7) + 1)) 96 ((566 + (6 * v41)) + v5) (ov_or (h 96 ((566 + (6 * v41)) + v5)) (ov_shl 1 v78))) 96) ((ov_up (ov_up h57 90 7 ((h57 90 7) + 1)) 96 ((566 + (6 * v41)) + v5) (ov_or (h 96 ((566 + (6 * v41)) + v5)) (ov_shl 1 v78))) 97) ((ov_up (ov_up h57 90 7 ((h57 90 7) + 1)) 96 ((566 + (6 * v41)) + v5) (ov_or (h 96 ((566 + (6 * v41)) + v5)) (ov_shl 1 v78))) 98) (h 90 13) := by rw [ov_up_row]; exact ov_RD_w R92 (t96_348 I87).2 (by omega)
        have lt94 : ((ov_up (ov_up h57 90 7 ((h57 90 7) + 1)) 96 ((566 + (6 * v41)) + v5) (ov_or (h 96 ((566 + (6 * v41)) + v5)) (ov_shl 1 v78))) 96 340) = h57 96 340 := by rw [ov_up_j (by omega)]; show h57 96 340 = _
        have lt95 : h57 96 340 = h 96 340 := congrFun E63 340
        have lt96 : ((ov_up (ov_up h57 90 7 ((h57 90 7) + 1)) 96 ((566 + (6 * v41)) + v5) (ov_or (h 96 ((566 + (6 * v41)) + v5)) (ov_shl 1 v78))) 96 341) = h57 96 341 := by rw [ov_up_j (by omega)]; show h57 96 341 = _
        have lt97 : h57 96 341 = h 96 341 := congrFun E63 341
        have lt98 : ((ov_up (ov_up h57 90 7 ((h57 90 7) + 1)) 96 ((566 + (6 * v41)) + v5) (ov_or (h 96 ((566 + (6 * v41)) + v5)) (ov_shl 1 v78))) 96 342) = h57 96 342 := by rw [ov_up_j (by omega)]; show h57 96 342 = _
        have lt99 : h57 96 342 = h 96 342 := congrFun E63 342
        have lt100 : ((ov_up (ov_up h57 90 7 ((h57 90 7) + 1)) 96 ((566 + (6 * v41)) + v5) (ov_or (h 96 ((566 + (6 * v41)) + v5)) (ov_shl 1 v78))) 96 348) = h57 96 348 := by rw [ov_up_j (by omega)]; show h57 96 348 = _
        have lt101 : h57 96 348 = h 96 348 := congrFun E63 348
        have lt102 : ((ov_up (ov_up h57 90 7 ((h57 90 7) + 1)) 96 ((566 + (6 * v41)) + v5) (ov_or (h 96 ((566 + (6 * v41)) + v5)) (ov_shl 1 v78))) 96 349) = h57 96 349 := by rw [ov_up_j (by omega)]; show h57 96 349 = _
        have lt103 : h57 96 349 = h 96 349 := congrFun E63 349
        exact ov_retv (st := []) d_223_127 rfl ⟨rfl, I91, (by show (h57 90 2) = (h 90 2) ∧ (h57 90 13) = (h 90 13) ∧ (h57 90 20) = (h 90 20) ∧ (h57 90 22) = (h 90 22) ∧ (h57 90 25) = (h 90 25) ∧ (h57 90 26) = (h 90 26) ∧ (h57 90 28) = (h 90 28) ∧ (h57 90 29) = (h 90 29) ∧ (h57 90 30) = (h 90 30) ∧ (h57 90 34) = (h 90 34) ∧ (h 90 7) ≤ ((h57 90 7) + 1) ∧ ((h57 90 7) + 1) ≤ n ∧ (h 90 13) ≤ (h57 90 13) ∧ (h57 90 13) - (h 90 13) ≤ ((h57 90 7) + 1) - (h 90 7) ∧ ((ov_up (ov_up h57 90 7 ((h57 90 7) + 1)) 96 ((566 + (6 * v41)) + v5) (ov_or (h 96 ((566 + (6 * v41)) + v5)) (ov_shl 1 v78))) 96 340) = (h 96 340) ∧ ((ov_up (ov_up h57 90 7 ((h57 90 7) + 1)) 96 ((566 + (6 * v41)) + v5) (ov_or (h 96 ((566 + (6 * v41)) + v5)) (ov_shl 1 v78))) 96 341) = (h 96 341) ∧ ((h57 90 8) = 0 → 1 ≤ (h 96 342) → 1 ≤ ((ov_up (ov_up h57 90 7 ((h57 90 7) + 1)) 96 ((566 + (6 * v41)) + v5) (ov_or (h 96 ((566 + (6 * v41)) + v5)) (ov_shl 1 v78))) 96 342)) ∧ (1 ≤ (h 96 349) → 1 ≤ ((ov_up (ov_up h57 90 7 ((h57 90 7) + 1)) 96 ((566 + (6 * v41)) + v5) (ov_or (h 96 ((566 + (6 * v41)) + v5)) (ov_shl 1 v78))) 96 349)); omega), E59, E60, E61, E62, E64, E65, E66, E67, E68, E69, E70, E71, E72, R93.1, R93.2.1, (fun _ w => by show ov_CS ((ov_up (ov_up h57 90 7 ((h57 90 7) + 1)) 96 ((566 + (6 * v41)) + v5) (ov_or (h 96 ((566 + (6 * v41)) + v5)) (ov_shl 1 v78))) 96) ((ov_up (ov_up h57 90 7 ((h57 90 7) + 1)) 96 ((566 + (6 * v41)) + v5) (ov_or (h 96 ((566 + (6 * v41)) + v5)) (ov_shl 1 v78))) 97) ((ov_up (ov_up h57 90 7 ((h57 90 7) + 1)) 96 ((566 + (6 * v41)) + v5) (ov_or (h 96 ((566 + (6 * v41)) + v5)) (ov_shl 1 v78))) 98) (h57 90 13); rw [show (h57 90 13) = h 90 13 by omega]; exact R93.2.2 w)⟩
      · skip
        refine ov_blk (ls2 := [(0, ov_r 90), (1, ov_i v5), (2, ov_i v41), (3, ov_i v78), (4, ov_i ((566 + (6 * v41)) + v5))]) (st2 := [ov_i 3, ov_r 90]) (pc2 := 100) b_223_98_2 rfl rfl ?_
        refine ov_cV (as := [ov_i 3]) (st := []) (d2 := d - 1) d_223_100 lk_Mo_186 rfl (Nat.le_of_ble_eq_true rfl) (c := 1) (zb_90 I58) (zs_90 I58) ⟨by decide, rfl⟩ (by omega) (c_Mo_wrong_90 (d - 1) (by omega) U I58 3 (by omega) (by omega)) ?_
        rintro _ z119 h120 ⟨rfl, I121, f104, e105, e106, e107, e108, e109, e110, e111, e112, e113, e114, e115, e116, e117, e118⟩
        have E122 : h120 92 = h 92 := Eq.trans e105 E59
        have E123 : h120 93 = h 93 := Eq.trans e106 E60
        have E124 : h120 94 = h 94 := Eq.trans e107 E61
        have E125 : h120 95 = h 95 := Eq.trans e108 E62
        have E126 : h120 96 = h 96 := Eq.trans e109 E63
        have E127 : h120 97 = h 97 := Eq.trans e110 E64
        have E128 : h120 98 = h 98 := Eq.trans e111 E65
        have E129 : h120 99 = h 99 := Eq.trans e112 E66
        have E130 : h120 100 = h 100 := Eq.trans e113 E67
        have E131 : h120 103 = h 103 := Eq.trans e114 E68
        have E132 : h120 105 = h 105 := Eq.trans e115 E69
        have E133 : h120 106 = h 106 := Eq.trans e116 E70
        have E134 : h120 109 = h 109 := Eq.trans e117 E71
        have E135 : h120 114 = h 114 := Eq.trans e118 E72
        show ov_R u d ov_m223 103 [(0, ov_r 90), (1, ov_i v5), (2, ov_i v41), (3, ov_i v78), (4, ov_i ((566 + (6 * v41)) + v5))] [] z119 h120 (P_Mo_readBar_90 F z h n)
        have f136 : (h120 90 2) = (h57 90 2) ∧ (h120 90 7) = (h57 90 7) ∧ (h120 90 13) = (h57 90 13) ∧ (h120 90 20) = (h57 90 20) ∧ (h120 90 22) = (h57 90 22) ∧ (h120 90 25) = (h57 90 25) ∧ (h120 90 26) = (h57 90 26) ∧ (h120 90 28) = (h57 90 28) ∧ (h120 90 29) = (h57 90 29) ∧ (h120 90 30) = (h57 90 30) ∧ (h120 90 34) = (h57 90 34) ∧ 0 < (h120 90 8) ∧ (h57 90 8) ≤ (h120 90 8) := f104
        clear f104
        have R137 : ov_RD (h 96) (h 97) (h 98) (h 90 13) (h120 96) (h120 97) (h120 98) (h 90 13) := by rw [show h120 96 = h 96 from E126, show h120 97 = h 97 from E127, show h120 98 = h 98 from E128]; exact ov_RD_refl _ _ _ _
        exact ov_retv (st := []) d_223_103 rfl ⟨rfl, I121, (by show (h120 90 2) = (h 90 2) ∧ (h120 90 13) = (h 90 13) ∧ (h120 90 20) = (h 90 20) ∧ (h120 90 22) = (h 90 22) ∧ (h120 90 25) = (h 90 25) ∧ (h120 90 26) = (h 90 26) ∧ (h120 90 28) = (h 90 28) ∧ (h120 90 29) = (h 90 29) ∧ (h120 90 30) = (h 90 30) ∧ (h120 90 34) = (h 90 34) ∧ (h 90 7) ≤ (h120 90 7) ∧ (h120 90 7) ≤ n ∧ (h 90 13) ≤ (h120 90 13) ∧ (h120 90 13) - (h 90 13) ≤ (h120 90 7) - (h 90 7) ∧ (h 96 340) = (h 96 340) ∧ (h 96 341) = (h 96 341) ∧ ((h120 90 8) = 0 → 1 ≤ (h 96 342) → 1 ≤ (h 96 342)) ∧ (1 ≤ (h 96 349) → 1 ≤ (h 96 349)); omega), E122, E123, E124, E125, E127, E128, E129, E130, E131, E132, E133, E134, E135, R137.1, R137.2.1, (fun _ w => by show ov_CS (h120 96) (h120 97) (h120 98) (h120 90 13); rw [show (h120 90 13) = h 90 13 by omega]; exact R137.2.2 w)⟩
    · skip
      refine ov_blk (ls2 := [(0, ov_r 90), (1, ov_i v5), (2, ov_i v41), (3, ov_i v78)]) (st2 := [ov_i 1, ov_r 90]) (pc2 := 67) b_223_65_2 rfl rfl ?_
      refine ov_cV (as := [ov_i 1]) (st := []) (d2 := d - 1) d_223_67 lk_Mo_186 rfl (Nat.le_of_ble_eq_true rfl) (c := 1) (zb_90 I58) (zs_90 I58) ⟨by decide, rfl⟩ (by omega) (c_Mo_wrong_90 (d - 1) (by omega) U I58 1 (by omega) (by omega)) ?_
      rintro _ z153 h154 ⟨rfl, I155, f138, e139, e140, e141, e142, e143, e144, e145, e146, e147, e148, e149, e150, e151, e152⟩
      have E156 : h154 92 = h 92 := Eq.trans e139 E59
      have E157 : h154 93 = h 93 := Eq.trans e140 E60
      have E158 : h154 94 = h 94 := Eq.trans e141 E61
      have E159 : h154 95 = h 95 := Eq.trans e142 E62
      have E160 : h154 96 = h 96 := Eq.trans e143 E63
      have E161 : h154 97 = h 97 := Eq.trans e144 E64
      have E162 : h154 98 = h 98 := Eq.trans e145 E65
      have E163 : h154 99 = h 99 := Eq.trans e146 E66
      have E164 : h154 100 = h 100 := Eq.trans e147 E67
      have E165 : h154 103 = h 103 := Eq.trans e148 E68
      have E166 : h154 105 = h 105 := Eq.trans e149 E69
      have E167 : h154 106 = h 106 := Eq.trans e150 E70
      have E168 : h154 109 = h 109 := Eq.trans e151 E71
      have E169 : h154 114 = h 114 := Eq.trans e152 E72
      show ov_R u d ov_m223 70 [(0, ov_r 90), (1, ov_i v5), (2, ov_i v41), (3, ov_i v78)] [] z153 h154 (P_Mo_readBar_90 F z h n)
      have f170 : (h154 90 2) = (h57 90 2) ∧ (h154 90 7) = (h57 90 7) ∧ (h154 90 13) = (h57 90 13) ∧ (h154 90 20) = (h57 90 20) ∧ (h154 90 22) = (h57 90 22) ∧ (h154 90 25) = (h57 90 25) ∧ (h154 90 26) = (h57 90 26) ∧ (h154 90 28) = (h57 90 28) ∧ (h154 90 29) = (h57 90 29) ∧ (h154 90 30) = (h57 90 30) ∧ (h154 90 34) = (h57 90 34) ∧ 0 < (h154 90 8) ∧ (h57 90 8) ≤ (h154 90 8) := f138
      clear f138
      have R171 : ov_RD (h 96) (h 97) (h 98) (h 90 13) (h154 96) (h154 97) (h154 98) (h 90 13) := by rw [show h154 96 = h 96 from E160, show h154 97 = h 97 from E161, show h154 98 = h 98 from E162]; exact ov_RD_refl _ _ _ _
      exact ov_retv (st := []) d_223_70 rfl ⟨rfl, I155, (by show (h154 90 2) = (h 90 2) ∧ (h154 90 13) = (h 90 13) ∧ (h154 90 20) = (h 90 20) ∧ (h154 90 22) = (h 90 22) ∧ (h154 90 25) = (h 90 25) ∧ (h154 90 26) = (h 90 26) ∧ (h154 90 28) = (h 90 28) ∧ (h154 90 29) = (h 90 29) ∧ (h154 90 30) = (h 90 30) ∧ (h154 90 34) = (h 90 34) ∧ (h 90 7) ≤ (h154 90 7) ∧ (h154 90 7) ≤ n ∧ (h 90 13) ≤ (h154 90 13) ∧ (h154 90 13) - (h 90 13) ≤ (h154 90 7) - (h 90 7) ∧ (h 96 340) = (h 96 340) ∧ (h 96 341) = (h 96 341) ∧ ((h154 90 8) = 0 → 1 ≤ (h 96 342) → 1 ≤ (h 96 342)) ∧ (1 ≤ (h 96 349) → 1 ≤ (h 96 349)); omega), E156, E157, E158, E159, E161, E162, E163, E164, E165, E166, E167, E168, E169, R171.1, R171.2.1, (fun _ w => by show ov_CS (h154 96) (h154 97) (h154 98) (h154 90 13); rw [show (h154 90 13) = h 90 13 by omega]; exact R171.2.2 w)⟩
  · skip
    refine ov_blk (ls2 := [(0, ov_r 90), (1, ov_i v5), (2, ov_i v41)]) (st2 := [ov_i (-1)]) (pc2 := 50) b_223_49_1 rfl rfl ?_
    refine ov_goto (tgt := 60) d_223_50 (by decide) ?_
    refine ov_blk (ls2 := [(0, ov_r 90), (1, ov_i v5), (2, ov_i v41), (3, ov_i (-1))]) (st2 := [ov_i (-1)]) (pc2 := 62) b_223_60_2 rfl rfl ?_
    refine ov_ifge (tgt := 71) d_223_62 (by decide) (by omega) (fun c172 => ?_) (fun c172 => ?_)
    · omega
    · skip
      refine ov_blk (ls2 := [(0, ov_r 90), (1, ov_i v5), (2, ov_i v41), (3, ov_i (-1))]) (st2 := [ov_i 1, ov_r 90]) (pc2 := 67) b_223_65_2 rfl rfl ?_
      refine ov_cV (as := [ov_i 1]) (st := []) (d2 := d - 1) d_223_67 lk_Mo_186 rfl (Nat.le_of_ble_eq_true rfl) (c := 1) (zb_90 I58) (zs_90 I58) ⟨by decide, rfl⟩ (by omega) (c_Mo_wrong_90 (d - 1) (by omega) U I58 1 (by omega) (by omega)) ?_
      rintro _ z188 h189 ⟨rfl, I190, f173, e174, e175, e176, e177, e178, e179, e180, e181, e182, e183, e184, e185, e186, e187⟩
      have E191 : h189 92 = h 92 := Eq.trans e174 E59
      have E192 : h189 93 = h 93 := Eq.trans e175 E60
      have E193 : h189 94 = h 94 := Eq.trans e176 E61
      have E194 : h189 95 = h 95 := Eq.trans e177 E62
      have E195 : h189 96 = h 96 := Eq.trans e178 E63
      have E196 : h189 97 = h 97 := Eq.trans e179 E64
      have E197 : h189 98 = h 98 := Eq.trans e180 E65
      have E198 : h189 99 = h 99 := Eq.trans e181 E66
      have E199 : h189 100 = h 100 := Eq.trans e182 E67
      have E200 : h189 103 = h 103 := Eq.trans e183 E68
      have E201 : h189 105 = h 105 := Eq.trans e184 E69
      have E202 : h189 106 = h 106 := Eq.trans e185 E70
      have E203 : h189 109 = h 109 := Eq.trans e186 E71
      have E204 : h189 114 = h 114 := Eq.trans e187 E72
      show ov_R u d ov_m223 70 [(0, ov_r 90), (1, ov_i v5), (2, ov_i v41), (3, ov_i (-1))] [] z188 h189 (P_Mo_readBar_90 F z h n)
      have f205 : (h189 90 2) = (h57 90 2) ∧ (h189 90 7) = (h57 90 7) ∧ (h189 90 13) = (h57 90 13) ∧ (h189 90 20) = (h57 90 20) ∧ (h189 90 22) = (h57 90 22) ∧ (h189 90 25) = (h57 90 25) ∧ (h189 90 26) = (h57 90 26) ∧ (h189 90 28) = (h57 90 28) ∧ (h189 90 29) = (h57 90 29) ∧ (h189 90 30) = (h57 90 30) ∧ (h189 90 34) = (h57 90 34) ∧ 0 < (h189 90 8) ∧ (h57 90 8) ≤ (h189 90 8) := f173
      clear f173
      have R206 : ov_RD (h 96) (h 97) (h 98) (h 90 13) (h189 96) (h189 97) (h189 98) (h 90 13) := by rw [show h189 96 = h 96 from E195, show h189 97 = h 97 from E196, show h189 98 = h 98 from E197]; exact ov_RD_refl _ _ _ _
      exact ov_retv (st := []) d_223_70 rfl ⟨rfl, I190, (by show (h189 90 2) = (h 90 2) ∧ (h189 90 13) = (h 90 13) ∧ (h189 90 20) = (h 90 20) ∧ (h189 90 22) = (h 90 22) ∧ (h189 90 25) = (h 90 25) ∧ (h189 90 26) = (h 90 26) ∧ (h189 90 28) = (h 90 28) ∧ (h189 90 29) = (h 90 29) ∧ (h189 90 30) = (h 90 30) ∧ (h189 90 34) = (h 90 34) ∧ (h 90 7) ≤ (h189 90 7) ∧ (h189 90 7) ≤ n ∧ (h 90 13) ≤ (h189 90 13) ∧ (h189 90 13) - (h 90 13) ≤ (h189 90 7) - (h 90 7) ∧ (h 96 340) = (h 96 340) ∧ (h 96 341) = (h 96 341) ∧ ((h189 90 8) = 0 → 1 ≤ (h 96 342) → 1 ≤ (h 96 342)) ∧ (1 ≤ (h 96 349) → 1 ≤ (h 96 349)); omega), E191, E192, E193, E194, E196, E197, E198, E199, E200, E201, E202, E203, E204, R206.1, R206.2.1, (fun _ w => by show ov_CS (h189 96) (h189 97) (h189 98) (h189 90 13); rw [show (h189 90 13) = h 90 13 by omega]; exact R206.2.2 w)⟩
abbrev P_Mo_readLight_90 (F : ov_H × ov_Z) (z : ov_Z) (h : ov_H) (n : Int) : Option ov_V → ov_Z → ov_H → Prop := fun r0 z' h' => r0 = none ∧ ov_N F z' h' ∧ ((h' 90 2) = (h 90 2) ∧ (h' 90 13) = (h 90 13) ∧ (h' 90 20) = (h 90 20) ∧ (h' 90 22) = (h 90 22) ∧ (h' 90 25) = (h 90 25) ∧ (h' 90 26) = (h 90 26) ∧ (h' 90 28) = (h 90 28) ∧ (h' 90 29) = (h 90 29) ∧ (h' 90 30) = (h 90 30) ∧ (h' 90 34) = (h 90 34) ∧ (h 90 7) ≤ (h' 90 7) ∧ (h' 90 7) ≤ n ∧ (h 90 13) ≤ (h' 90 13) ∧ (h' 90 13) - (h 90 13) ≤ (h' 90 7) - (h 90 7) ∧ (h' 96 340) = (h 96 340) ∧ (h' 96 341) = (h 96 341) ∧ ((h' 90 8) = 0 → 1 ≤ (h 96 342) → 1 ≤ (h' 96 342)) ∧ (1 ≤ (h 96 349) → 1 ≤ (h' 96 349))) ∧ h' 92 = h 92 ∧ h' 93 = h 93 ∧ h' 94 = h 94 ∧ h' 95 = h 95 ∧ h' 97 = h 97 ∧ h' 98 = h 98 ∧ h' 99 = h 99 ∧ h' 100 = h 100 ∧ h' 103 = h 103 ∧ h' 105 = h 105 ∧ h' 106 = h 106 ∧ h' 109 = h 109 ∧ h' 114 = h 114 ∧ (ov_MK (h 96) (h 97) (h 98) (h' 96) (h' 97) (h' 98)) ∧ (ov_WS (h 96) → ov_WS (h' 96)) ∧ ((h' 90 8) = 0 → ov_CS (h 96) (h 97) (h 98) (h 90 13) → ov_CS (h' 96) (h' 97) (h' 98) (h' 90 13))
set_option maxHeartbeats 4000000 in
theorem c_Mo_readLight_90 {u : ov_U} {F : ov_H × ov_Z} (n : Int) {z : ov_Z} {h : ov_H} (d : Nat) (hd : 4 ≤ d) (U : ov_cap u) (I : ov_N F z h) (p0 : 0 ≤ n ∧ n ≤ 1000 ∧ (h 92 (n)) = 0 ∧ (h 90 7) ≤ n) (p1 : (h 90 13) ≤ (h 90 7)) (p2 : (h 90 8) = 0) (p3 : (h 90 7) < n) : ov_T u d ov_m219 [ov_r 90] z h (P_Mo_readLight_90 F z h n) := by
  refine ov_en rfl (Nat.le_of_ble_eq_true rfl) ?_
  show ov_R u d ov_m219 0 [(0, ov_r 90)] [] z h (P_Mo_readLight_90 F z h n)
  refine ov_blk (ls2 := [(0, ov_r 90)]) (st2 := [ov_r 90, ov_r 90]) (pc2 := 2) b_219_0_2 rfl rfl ?_
  refine ov_getf (v := ov_i (h 90 7)) d_219_2 fl_Mo_177 (zb_90 I) (zs_90 I) rfl ?_
  have g1 := rg_90_7 I
  refine ov_blk (ls2 := [(0, ov_r 90)]) (st2 := [ov_i ((h 90 7) + 1), ov_r 90]) (pc2 := 7) b_219_5_2 rfl rfl ?_
  refine ov_putf (x := ((h 90 7) + 1)) d_219_7 fl_Mo_177 (zb_90 I) (zs_90 I) rfl nk_0 rfl ?_
  have I2 := up_90_7 (x := ((h 90 7) + 1)) I (by omega)
  refine ov_blk (ls2 := [(0, ov_r 90)]) (st2 := [ov_r 90, ov_i 0, ov_r 90]) (pc2 := 13) b_219_10_3 rfl rfl ?_
  refine ov_getf (v := ov_r 96) d_219_13 fl_Mo_81 (zb_90 I2) (zs_90 I2) (congrArg ov_r (rg_90_10 I2)) ?_
  refine ov_blk (ls2 := [(0, ov_r 90)]) (st2 := [ov_i 340, ov_r 96, ov_i 0, ov_r 90]) (pc2 := 19) b_219_16_1 rfl rfl ?_
  refine ov_iald d_219_19 (zb_96 I2) (zs_96 I2) (by omega) ?_
  show ov_R u d ov_m219 20 [(0, ov_r 90)] [ov_i (h 96 340), ov_i 0, ov_r 90] z (ov_up h 90 7 ((h 90 7) + 1)) (P_Mo_readLight_90 F z h n)
  have g3 := t96_340 I
  refine ov_blk (ls2 := [(0, ov_r 90)]) (st2 := [ov_i ((h 96 340) - 1), ov_i 0, ov_r 90]) (pc2 := 22) b_219_20_2 rfl rfl ?_
  refine ov_cV (as := [ov_i 0, ov_i ((h 96 340) - 1)]) (st := []) (d2 := d - 1) d_219_22 lk_Mo_198 rfl (Nat.le_of_ble_eq_true rfl) (c := 1) (zb_90 I2) (zs_90 I2) ⟨by decide, rfl⟩ (by omega) (c_Mo_takeNumber_90 n (d - 1) (by omega) U I2 0 ((h 96 340) - 1) (by omega) (by omega) (by show 0 ≤ n ∧ n ≤ 1000 ∧ (h 92 (n)) = 0 ∧ ((h 90 7) + 1) ≤ n; omega)) ?_
  rintro _ z20 h21 ⟨v5, rfl, I22, f4, e6, e7, e8, e9, e10, e11, e12, e13, e14, e15, e16, e17, e18, e19⟩
  have E23 : h21 92 = h 92 := e6
  have E24 : h21 93 = h 93 := e7
  have E25 : h21 94 = h 94 := e8
  have E26 : h21 95 = h 95 := e9
  have E27 : h21 96 = h 96 := e10
  have E28 : h21 97 = h 97 := e11
  have E29 : h21 98 = h 98 := e12
  have E30 : h21 99 = h 99 := e13
  have E31 : h21 100 = h 100 := e14
  have E32 : h21 103 = h 103 := e15
  have E33 : h21 105 = h 105 := e16
  have E34 : h21 106 = h 106 := e17
  have E35 : h21 109 = h 109 := e18
  have E36 : h21 114 = h 114 := e19
  show ov_R u d ov_m219 25 [(0, ov_r 90)] [ov_i v5] z20 h21 (P_Mo_readLight_90 F z h n)
  have f37 : (h21 90 2) = (h 90 2) ∧ (h21 90 13) = (h 90 13) ∧ (h21 90 20) = (h 90 20) ∧ (h21 90 22) = (h 90 22) ∧ (h21 90 25) = (h 90 25) ∧ (h21 90 26) = (h 90 26) ∧ (h21 90 28) = (h 90 28) ∧ (h21 90 29) = (h 90 29) ∧ (h21 90 30) = (h 90 30) ∧ (h21 90 34) = (h 90 34) ∧ ((h 90 7) + 1) ≤ (h21 90 7) ∧ (h21 90 7) ≤ n ∧ (h 90 8) ≤ (h21 90 8) ∧ ((h21 90 8) = 0 → (0 : Int) ≤ v5 ∧ v5 ≤ ((h 96 340) - 1)) ∧ (0 < (h21 90 8) → v5 = 0) ∧ ((h 90 7) + 1) < (h21 90 7) + (h21 90 8) := f4
  clear f4
  refine ov_blk (ls2 := [(0, ov_r 90), (1, ov_i v5)]) (st2 := [ov_r 90, ov_i 0, ov_r 90]) (pc2 := 29) b_219_25_4 rfl rfl ?_
  refine ov_getf (v := ov_r 96) d_219_29 fl_Mo_81 (zb_90 I22) (zs_90 I22) (congrArg ov_r (rg_90_10 I22)) ?_
  refine ov_blk (ls2 := [(0, ov_r 90), (1, ov_i v5)]) (st2 := [ov_i 341, ov_r 96, ov_i 0, ov_r 90]) (pc2 := 35) b_219_32_1 rfl rfl ?_
  refine ov_iald d_219_35 (zb_96 I22) (zs_96 I22) (by omega) ?_
  rw [show h21 96 = h 96 from E27]
  have g38 := t96_341 I
  refine ov_blk (ls2 := [(0, ov_r 90), (1, ov_i v5)]) (st2 := [ov_i ((h 96 341) - 1), ov_i 0, ov_r 90]) (pc2 := 38) b_219_36_2 rfl rfl ?_
  have cf39 : h21 92 (n) = h 92 (n) := congrFun E23 (n)
  refine ov_cV (as := [ov_i 0, ov_i ((h 96 341) - 1)]) (st := []) (d2 := d - 1) d_219_38 lk_Mo_198 rfl (Nat.le_of_ble_eq_true rfl) (c := 1) (zb_90 I22) (zs_90 I22) ⟨by decide, rfl⟩ (by omega) (c_Mo_takeNumber_90 n (d - 1) (by omega) U I22 0 ((h 96 341) - 1) (by omega) (by omega) (by show 0 ≤ n ∧ n ≤ 1000 ∧ (h21 92 (n)) = 0 ∧ (h21 90 7) ≤ n; omega)) ?_
  rintro _ z56 h57 ⟨v41, rfl, I58, f40, e42, e43, e44, e45, e46, e47, e48, e49, e50, e51, e52, e53, e54, e55⟩
  have E59 : h57 92 = h 92 := Eq.trans e42 E23
  have E60 : h57 93 = h 93 := Eq.trans e43 E24
  have E61 : h57 94 = h 94 := Eq.trans e44 E25
  have E62 : h57 95 = h 95 := Eq.trans e45 E26
  have E63 : h57 96 = h 96 := Eq.trans e46 E27
  have E64 : h57 97 = h 97 := Eq.trans e47 E28
  have E65 : h57 98 = h 98 := Eq.trans e48 E29
  have E66 : h57 99 = h 99 := Eq.trans e49 E30
  have E67 : h57 100 = h 100 := Eq.trans e50 E31
  have E68 : h57 103 = h 103 := Eq.trans e51 E32
  have E69 : h57 105 = h 105 := Eq.trans e52 E33
  have E70 : h57 106 = h 106 := Eq.trans e53 E34
  have E71 : h57 109 = h 109 := Eq.trans e54 E35
  have E72 : h57 114 = h 114 := Eq.trans e55 E36
  show ov_R u d ov_m219 41 [(0, ov_r 90), (1, ov_i v5)] [ov_i v41] z56 h57 (P_Mo_readLight_90 F z h n)
  have f73 : (h57 90 2) = (h21 90 2) ∧ (h57 90 13) = (h21 90 13) ∧ (h57 90 20) = (h21 90 20) ∧ (h57 90 22) = (h21 90 22) ∧ (h57 90 25) = (h21 90 25) ∧ (h57 90 26) = (h21 90 26) ∧ (h57 90 28) = (h21 90 28) ∧ (h57 90 29) = (h21 90 29) ∧ (h57 90 30) = (h21 90 30) ∧ (h57 90 34) = (h21 90 34) ∧ (h21 90 7) ≤ (h57 90 7) ∧ (h57 90 7) ≤ n ∧ (h21 90 8) ≤ (h57 90 8) ∧ ((h57 90 8) = 0 → (0 : Int) ≤ v41 ∧ v41 ≤ ((h 96 341) - 1)) ∧ (0 < (h57 90 8) → v41 = 0) ∧ (h21 90 7) < (h57 90 7) + (h57 90 8) := f40
  clear f40
  refine ov_blk (ls2 := [(0, ov_r 90), (1, ov_i v5), (2, ov_i v41), (3, ov_i (350 + (4 * ((6 * v41) + v5))))]) (st2 := [ov_r 90]) (pc2 := 56) b_219_41_12 rfl rfl ?_
  refine ov_getf (v := ov_i (h57 90 8)) d_219_56 fl_Mo_180 (zb_90 I58) (zs_90 I58) rfl ?_
  have g74 := rg_90_8 I58
  refine ov_ifne (tgt := 86) d_219_59 (by decide) (by omega) (fun c75 => ?_) (fun c75 => ?_)
  · skip
    refine ov_blk (ls2 := [(0, ov_r 90), (1, ov_i v5), (2, ov_i v41), (3, ov_i (350 + (4 * ((6 * v41) + v5))))]) (st2 := [ov_r 90]) (pc2 := 87) b_219_86_1 rfl rfl ?_
    refine ov_getf (v := ov_i (h57 90 8)) d_219_87 fl_Mo_180 (zb_90 I58) (zs_90 I58) rfl ?_
    refine ov_ifle (tgt := 97) d_219_90 (by decide) (by omega) (fun c77 => ?_) (fun c77 => ?_)
    · omega
    · skip
      refine ov_blk (ls2 := [(0, ov_r 90), (1, ov_i v5), (2, ov_i v41), (3, ov_i (350 + (4 * ((6 * v41) + v5))))]) (st2 := [ov_i (-1)]) (pc2 := 94) b_219_93_1 rfl rfl ?_
      refine ov_goto (tgt := 104) d_219_94 (by decide) ?_
      refine ov_blk (ls2 := [(0, ov_r 90), (1, ov_i v5), (2, ov_i v41), (3, ov_i (350 + (4 * ((6 * v41) + v5)))), (4, ov_i (-1))]) (st2 := [ov_i (-1)]) (pc2 := 108) b_219_104_2 rfl rfl ?_
      refine ov_ifge (tgt := 117) d_219_108 (by decide) (by omega) (fun c78 => ?_) (fun c78 => ?_)
      · omega
      · skip
        refine ov_blk (ls2 := [(0, ov_r 90), (1, ov_i v5), (2, ov_i v41), (3, ov_i (350 + (4 * ((6 * v41) + v5)))), (4, ov_i (-1))]) (st2 := [ov_i 1, ov_r 90]) (pc2 := 113) b_219_111_2 rfl rfl ?_
        refine ov_cV (as := [ov_i 1]) (st := []) (d2 := d - 1) d_219_113 lk_Mo_186 rfl (Nat.le_of_ble_eq_true rfl) (c := 1) (zb_90 I58) (zs_90 I58) ⟨by decide, rfl⟩ (by omega) (c_Mo_wrong_90 (d - 1) (by omega) U I58 1 (by omega) (by omega)) ?_
        rintro _ z94 h95 ⟨rfl, I96, f79, e80, e81, e82, e83, e84, e85, e86, e87, e88, e89, e90, e91, e92, e93⟩
        have E97 : h95 92 = h 92 := Eq.trans e80 E59
        have E98 : h95 93 = h 93 := Eq.trans e81 E60
        have E99 : h95 94 = h 94 := Eq.trans e82 E61
        have E100 : h95 95 = h 95 := Eq.trans e83 E62
        have E101 : h95 96 = h 96 := Eq.trans e84 E63
        have E102 : h95 97 = h 97 := Eq.trans e85 E64
        have E103 : h95 98 = h 98 := Eq.trans e86 E65
        have E104 : h95 99 = h 99 := Eq.trans e87 E66
        have E105 : h95 100 = h 100 := Eq.trans e88 E67
        have E106 : h95 103 = h 103 := Eq.trans e89 E68
        have E107 : h95 105 = h 105 := Eq.trans e90 E69
        have E108 : h95 106 = h 106 := Eq.trans e91 E70
        have E109 : h95 109 = h 109 := Eq.trans e92 E71
        have E110 : h95 114 = h 114 := Eq.trans e93 E72
        show ov_R u d ov_m219 116 [(0, ov_r 90), (1, ov_i v5), (2, ov_i v41), (3, ov_i (350 + (4 * ((6 * v41) + v5)))), (4, ov_i (-1))] [] z94 h95 (P_Mo_readLight_90 F z h n)
        have f111 : (h95 90 2) = (h57 90 2) ∧ (h95 90 7) = (h57 90 7) ∧ (h95 90 13) = (h57 90 13) ∧ (h95 90 20) = (h57 90 20) ∧ (h95 90 22) = (h57 90 22) ∧ (h95 90 25) = (h57 90 25) ∧ (h95 90 26) = (h57 90 26) ∧ (h95 90 28) = (h57 90 28) ∧ (h95 90 29) = (h57 90 29) ∧ (h95 90 30) = (h57 90 30) ∧ (h95 90 34) = (h57 90 34) ∧ 0 < (h95 90 8) ∧ (h57 90 8) ≤ (h95 90 8) := f79
        clear f79
        have R112 : ov_RD (h 96) (h 97) (h 98) (h 90 13) (h95 96) (h95 97) (h95 98) (h 90 13) := by rw [show h95 96 = h 96 from E101, show h95 97 = h 97 from E102, show h95 98 = h 98 from E103]; exact ov_RD_refl _ _ _ _
        exact ov_retv (st := []) d_219_116 rfl ⟨rfl, I96, (by show (h95 90 2) = (h 90 2) ∧ (h95 90 13) = (h 90 13) ∧ (h95 90 20) = (h 90 20) ∧ (h95 90 22) = (h 90 22) ∧ (h95 90 25) = (h 90 25) ∧ (h95 90 26) = (h 90 26) ∧ (h95 90 28) = (h 90 28) ∧ (h95 90 29) = (h 90 29) ∧ (h95 90 30) = (h 90 30) ∧ (h95 90 34) = (h 90 34) ∧ (h 90 7) ≤ (h95 90 7) ∧ (h95 90 7) ≤ n ∧ (h 90 13) ≤ (h95 90 13) ∧ (h95 90 13) - (h 90 13) ≤ (h95 90 7) - (h 90 7) ∧ (h 96 340) = (h 96 340) ∧ (h 96 341) = (h 96 341) ∧ ((h95 90 8) = 0 → 1 ≤ (h 96 342) → 1 ≤ (h 96 342)) ∧ (1 ≤ (h 96 349) → 1 ≤ (h 96 349)); omega), E97, E98, E99, E100, E102, E103, E104, E105, E106, E107, E108, E109, E110, R112.1, R112.2.1, (fun _ w => by show ov_CS (h95 96) (h95 97) (h95 98) (h95 90 13); rw [show (h95 90 13) = h 90 13 by omega]; exact R112.2.2 w)⟩
  · skip
    refine ov_blk (ls2 := [(0, ov_r 90), (1, ov_i v5), (2, ov_i v41), (3, ov_i (350 + (4 * ((6 * v41) + v5))))]) (st2 := [ov_r 90]) (pc2 := 63) b_219_62_1 rfl rfl ?_
    refine ov_getf (v := ov_r 96) d_219_63 fl_Mo_81 (zb_90 I58) (zs_90 I58) (congrArg ov_r (rg_90_10 I58)) ?_
    refine ov_blk (ls2 := [(0, ov_r 90), (1, ov_i v5), (2, ov_i v41), (3, ov_i (350 + (4 * ((6 * v41) + v5))))]) (st2 := [ov_i (350 + (4 * ((6 * v41) + v5))), ov_r 96]) (pc2 := 67) b_219_66_1 rfl rfl ?_
    refine ov_iald d_219_67 (zb_96 I58) (zs_96 I58) (by omega) ?_
    rw [show h57 96 = h 96 from E63]
    have g113 := g96 I (350 + (4 * ((6 * v41) + v5)))
    refine ov_ifle (tgt := 86) d_219_68 (by decide) (by omega) (fun c114 => ?_) (fun c114 => ?_)
    · skip
      refine ov_blk (ls2 := [(0, ov_r 90), (1, ov_i v5), (2, ov_i v41), (3, ov_i (350 + (4 * ((6 * v41) + v5))))]) (st2 := [ov_r 90]) (pc2 := 87) b_219_86_1 rfl rfl ?_
      refine ov_getf (v := ov_i (h57 90 8)) d_219_87 fl_Mo_180 (zb_90 I58) (zs_90 I58) rfl ?_
      refine ov_ifle (tgt := 97) d_219_90 (by decide) (by omega) (fun c116 => ?_) (fun c116 => ?_)
      · skip
        refine ov_blk (ls2 := [(0, ov_r 90), (1, ov_i v5), (2, ov_i v41), (3, ov_i (350 + (4 * ((6 * v41) + v5))))]) (st2 := [ov_i 4, ov_i 13, ov_r 90]) (pc2 := 101) b_219_97_3 rfl rfl ?_
        have cf117 : h57 92 (n) = h 92 (n) := congrFun E59 (n)
        refine ov_cV (as := [ov_i 13, ov_i 4]) (st := []) (d2 := d - 1) d_219_101 lk_Mo_202 rfl (Nat.le_of_ble_eq_true rfl) (c := 1) (zb_90 I58) (zs_90 I58) ⟨by decide, rfl⟩ (by omega) (c_Mo_wordHere_90 n (d - 1) (by omega) U I58 13 4 (by omega) (by omega) (by show 0 ≤ n ∧ n ≤ 1000 ∧ (h57 92 (n)) = 0 ∧ (h57 90 7) ≤ n; omega) (by omega)) ?_
        rintro _ _ _ ⟨v119, rfl, rfl, rfl, f118⟩
        show ov_R u d ov_m219 104 [(0, ov_r 90), (1, ov_i v5), (2, ov_i v41), (3, ov_i (350 + (4 * ((6 * v41) + v5))))] [ov_i v119] z56 h57 (P_Mo_readLight_90 F z h n)
        have f120 : -1 ≤ v119 ∧ v119 < (4 : Int) ∧ (0 ≤ v119 → (h57 90 7) < n ∧ (h57 90 8) = 0) := f118
        clear f118
        refine ov_blk (ls2 := [(0, ov_r 90), (1, ov_i v5), (2, ov_i v41), (3, ov_i (350 + (4 * ((6 * v41) + v5)))), (4, ov_i v119)]) (st2 := [ov_i v119]) (pc2 := 108) b_219_104_2 rfl rfl ?_
        refine ov_ifge (tgt := 117) d_219_108 (by decide) (by omega) (fun c121 => ?_) (fun c121 => ?_)
        · skip
          refine ov_blk (ls2 := [(0, ov_r 90), (1, ov_i v5), (2, ov_i v41), (3, ov_i (350 + (4 * ((6 * v41) + v5)))), (4, ov_i v119)]) (st2 := [ov_r 90, ov_r 90]) (pc2 := 119) b_219_117_2 rfl rfl ?_
          refine ov_getf (v := ov_i (h57 90 7)) d_219_119 fl_Mo_177 (zb_90 I58) (zs_90 I58) rfl ?_
          have g122 := rg_90_7 I58
          refine ov_blk (ls2 := [(0, ov_r 90), (1, ov_i v5), (2, ov_i v41), (3, ov_i (350 + (4 * ((6 * v41) + v5)))), (4, ov_i v119)]) (st2 := [ov_i ((h57 90 7) + 1), ov_r 90]) (pc2 := 124) b_219_122_2 rfl rfl ?_
          refine ov_putf (x := ((h57 90 7) + 1)) d_219_124 fl_Mo_177 (zb_90 I58) (zs_90 I58) rfl nk_0 rfl ?_
          have I123 := up_90_7 (x := ((h57 90 7) + 1)) I58 (by omega)
          refine ov_blk (ls2 := [(0, ov_r 90), (1, ov_i v5), (2, ov_i v41), (3, ov_i (350 + (4 * ((6 * v41) + v5)))), (4, ov_i v119)]) (st2 := [ov_i 60, ov_i 1, ov_i 9, ov_r 90]) (pc2 := 133) b_219_127_4 rfl rfl ?_
          have cf124 : h57 92 (n) = h 92 (n) := congrFun E59 (n)
          refine ov_cV (as := [ov_i 9, ov_i 1, ov_i 60]) (st := []) (d2 := d - 1) d_219_133 lk_Mo_232 rfl (Nat.le_of_ble_eq_true rfl) (c := 1) (zb_90 I123) (zs_90 I123) ⟨by decide, rfl⟩ (by omega) (c_Mo_takeAfter_90 n (d - 1) (by omega) U I123 9 1 60 (by omega) (by omega) (by omega) (by show 0 ≤ n ∧ n ≤ 1000 ∧ (h57 92 (n)) = 0 ∧ ((h57 90 7) + 1) ≤ n; omega) (by omega)) ?_
          rintro _ z141 h142 ⟨v126, rfl, I143, f125, e127, e128, e129, e130, e131, e132, e133, e134, e135, e136, e137, e138, e139, e140⟩
          have E144 : h142 92 = h 92 := Eq.trans e127 E59
          have E145 : h142 93 = h 93 := Eq.trans e128 E60
          have E146 : h142 94 = h 94 := Eq.trans e129 E61
          have E147 : h142 95 = h 95 := Eq.trans e130 E62
          have E148 : h142 96 = h 96 := Eq.trans e131 E63
          have E149 : h142 97 = h 97 := Eq.trans e132 E64
          have E150 : h142 98 = h 98 := Eq.trans e133 E65
          have E151 : h142 99 = h 99 := Eq.trans e134 E66
          have E152 : h142 100 = h 100 := Eq.trans e135 E67
          have E153 : h142 103 = h 103 := Eq.trans e136 E68
          have E154 : h142 105 = h 105 := Eq.trans e137 E69
          have E155 : h142 106 = h 106 := Eq.trans e138 E70
          have E156 : h142 109 = h 109 := Eq.trans e139 E71
          have E157 : h142 114 = h 114 := Eq.trans e140 E72
          show ov_R u d ov_m219 136 [(0, ov_r 90), (1, ov_i v5), (2, ov_i v41), (3, ov_i (350 + (4 * ((6 * v41) + v5)))), (4, ov_i v119)] [ov_i v126] z141 h142 (P_Mo_readLight_90 F z h n)
          have f158 : (h142 90 2) = (h57 90 2) ∧ (h142 90 13) = (h57 90 13) ∧ (h142 90 20) = (h57 90 20) ∧ (h142 90 22) = (h57 90 22) ∧ (h142 90 25) = (h57 90 25) ∧ (h142 90 26) = (h57 90 26) ∧ (h142 90 28) = (h57 90 28) ∧ (h142 90 29) = (h57 90 29) ∧ (h142 90 30) = (h57 90 30) ∧ (h142 90 34) = (h57 90 34) ∧ ((h57 90 7) + 1) ≤ (h142 90 7) ∧ (h142 90 7) ≤ n ∧ (h57 90 8) ≤ (h142 90 8) ∧ ((h142 90 8) = 0 → (1 : Int) ≤ v126 ∧ v126 ≤ (60 : Int)) ∧ (0 < (h142 90 8) → v126 = 0) := f125
          clear f125
          refine ov_blk (ls2 := [(0, ov_r 90), (1, ov_i v5), (2, ov_i v41), (3, ov_i (350 + (4 * ((6 * v41) + v5)))), (4, ov_i v119), (5, ov_i v126)]) (st2 := [ov_r 90]) (pc2 := 139) b_219_136_2 rfl rfl ?_
          refine ov_getf (v := ov_i (h142 90 8)) d_219_139 fl_Mo_180 (zb_90 I143) (zs_90 I143) rfl ?_
          have g159 := rg_90_8 I143
          refine ov_ifgt (tgt := 151) d_219_142 (by decide) (by omega) (fun c160 => ?_) (fun c160 => ?_)
          · skip
            refine ov_blk (ls2 := [(0, ov_r 90), (1, ov_i v5), (2, ov_i v41), (3, ov_i (350 + (4 * ((6 * v41) + v5)))), (4, ov_i v119), (5, ov_i v126)]) (st2 := [ov_r 90]) (pc2 := 152) b_219_151_1 rfl rfl ?_
            refine ov_getf (v := ov_r 96) d_219_152 fl_Mo_81 (zb_90 I143) (zs_90 I143) (congrArg ov_r (rg_90_10 I143)) ?_
            refine ov_blk (ls2 := [(0, ov_r 90), (1, ov_i v5), (2, ov_i v41), (3, ov_i (350 + (4 * ((6 * v41) + v5)))), (4, ov_i v119), (5, ov_i v126)]) (st2 := [ov_i 349, ov_r 96]) (pc2 := 158) b_219_155_1 rfl rfl ?_
            refine ov_iald d_219_158 (zb_96 I143) (zs_96 I143) (by omega) ?_
            rw [show h142 96 = h 96 from E148]
            have g161 := t96_349 I
            refine ov_goto (tgt := 187) d_219_159 (by decide) ?_
            refine ov_blk (ls2 := [(0, ov_r 90), (1, ov_i v5), (2, ov_i v41), (3, ov_i (350 + (4 * ((6 * v41) + v5)))), (4, ov_i v119), (5, ov_i v126), (6, ov_i (h 96 349))]) (st2 := [ov_r 90]) (pc2 := 190) b_219_187_2 rfl rfl ?_
            refine ov_getf (v := ov_i (h142 90 8)) d_219_190 fl_Mo_180 (zb_90 I143) (zs_90 I143) rfl ?_
            refine ov_ifne (tgt := 219) d_219_193 (by decide) (by omega) (fun c163 => ?_) (fun c163 => ?_)
            · skip
              refine ov_blk (ls2 := [(0, ov_r 90), (1, ov_i v5), (2, ov_i v41), (3, ov_i (350 + (4 * ((6 * v41) + v5)))), (4, ov_i v119), (5, ov_i v126), (6, ov_i (h 96 349))]) (st2 := [ov_r 90]) (pc2 := 220) b_219_219_1 rfl rfl ?_
              refine ov_getf (v := ov_i (h142 90 8)) d_219_220 fl_Mo_180 (zb_90 I143) (zs_90 I143) rfl ?_
              refine ov_ifle (tgt := 227) d_219_223 (by decide) (by omega) (fun c165 => ?_) (fun c165 => ?_)
              · omega
              · skip
                have R166 : ov_RD (h 96) (h 97) (h 98) (h 90 13) (h142 96) (h142 97) (h142 98) (h 90 13) := by rw [show h142 96 = h 96 from E148, show h142 97 = h 97 from E149, show h142 98 = h 98 from E150]; exact ov_RD_refl _ _ _ _
                exact ov_retv (st := []) d_219_226 rfl ⟨rfl, I143, (by show (h142 90 2) = (h 90 2) ∧ (h142 90 13) = (h 90 13) ∧ (h142 90 20) = (h 90 20) ∧ (h142 90 22) = (h 90 22) ∧ (h142 90 25) = (h 90 25) ∧ (h142 90 26) = (h 90 26) ∧ (h142 90 28) = (h 90 28) ∧ (h142 90 29) = (h 90 29) ∧ (h142 90 30) = (h 90 30) ∧ (h142 90 34) = (h 90 34) ∧ (h 90 7) ≤ (h142 90 7) ∧ (h142 90 7) ≤ n ∧ (h 90 13) ≤ (h142 90 13) ∧ (h142 90 13) - (h 90 13) ≤ (h142 90 7) - (h 90 7) ∧ (h 96 340) = (h 96 340) ∧ (h 96 341) = (h 96 341) ∧ ((h142 90 8) = 0 → 1 ≤ (h 96 342) → 1 ≤ (h 96 342)) ∧ (1 ≤ (h 96 349) → 1 ≤ (h 96 349)); omega), E144, E145, E146, E147, E149, E150, E151, E152, E153, E154, E155, E156, E157, R166.1, R166.2.1, (fun _ w => by show ov_CS (h142 96) (h142 97) (h142 98) (h142 90 13); rw [show (h142 90 13) = h 90 13 by omega]; exact R166.2.2 w)⟩
            · omega
          · skip
            refine ov_blk (ls2 := [(0, ov_r 90), (1, ov_i v5), (2, ov_i v41), (3, ov_i (350 + (4 * ((6 * v41) + v5)))), (4, ov_i v119), (5, ov_i v126)]) (st2 := [ov_i 2, ov_i v119]) (pc2 := 148) b_219_145_2 rfl rfl ?_
            refine ov_iclt (tgt := 162) d_219_148 (by decide) (by omega) (by omega) (fun c167 => ?_) (fun c167 => ?_)
            · skip
              refine ov_blk (ls2 := [(0, ov_r 90), (1, ov_i v5), (2, ov_i v41), (3, ov_i (350 + (4 * ((6 * v41) + v5)))), (4, ov_i v119), (5, ov_i v126)]) (st2 := [ov_r 90]) (pc2 := 163) b_219_162_1 rfl rfl ?_
              refine ov_getf (v := ov_r 96) d_219_163 fl_Mo_81 (zb_90 I143) (zs_90 I143) (congrArg ov_r (rg_90_10 I143)) ?_
              refine ov_blk (ls2 := [(0, ov_r 90), (1, ov_i v5), (2, ov_i v41), (3, ov_i (350 + (4 * ((6 * v41) + v5)))), (4, ov_i v119), (5, ov_i v126)]) (st2 := [ov_i 349, ov_r 96]) (pc2 := 169) b_219_166_1 rfl rfl ?_
              refine ov_iald d_219_169 (zb_96 I143) (zs_96 I143) (by omega) ?_
              rw [show h142 96 = h 96 from E148]
              have g168 := t96_349 I
              refine ov_blk (ls2 := [(0, ov_r 90), (1, ov_i v5), (2, ov_i v41), (3, ov_i (350 + (4 * ((6 * v41) + v5)))), (4, ov_i v119), (5, ov_i v126)]) (st2 := [ov_r 90, ov_i (h 96 349)]) (pc2 := 171) b_219_170_1 rfl rfl ?_
              refine ov_getf (v := ov_r 96) d_219_171 fl_Mo_81 (zb_90 I143) (zs_90 I143) (congrArg ov_r (rg_90_10 I143)) ?_
              refine ov_blk (ls2 := [(0, ov_r 90), (1, ov_i v5), (2, ov_i v41), (3, ov_i (350 + (4 * ((6 * v41) + v5)))), (4, ov_i v119), (5, ov_i v126)]) (st2 := [ov_i 349, ov_r 96, ov_i (h 96 349)]) (pc2 := 177) b_219_174_1 rfl rfl ?_
              refine ov_iald d_219_177 (zb_96 I143) (zs_96 I143) (by omega) ?_
              rw [show h142 96 = h 96 from E148]
              refine ov_blk (ls2 := [(0, ov_r 90), (1, ov_i v5), (2, ov_i v41), (3, ov_i (350 + (4 * ((6 * v41) + v5)))), (4, ov_i v119), (5, ov_i v126)]) (st2 := [ov_i v126, ov_i (h 96 349), ov_i (h 96 349)]) (pc2 := 180) b_219_178_1 rfl rfl ?_
              refine ov_cS (as := [ov_i (h 96 349), ov_i v126]) (st := [ov_i (h 96 349)]) (d2 := d - 1) d_219_180 lk_Mo_236 rfl (Nat.le_of_ble_eq_true rfl) (by omega) (c_Mo_common (d - 1) (by omega) U I143 (h 96 349) v126 (by omega) (by omega) (by omega) (by omega)) ?_
              rintro _ _ _ ⟨v171, rfl, rfl, rfl, f170⟩
              show ov_R u d ov_m219 183 [(0, ov_r 90), (1, ov_i v5), (2, ov_i v41), (3, ov_i (350 + (4 * ((6 * v41) + v5)))), (4, ov_i v119), (5, ov_i v126)] [ov_i v171, ov_i (h 96 349)] z141 h142 (P_Mo_readLight_90 F z h n)
              have f172 : 1 ≤ v171 ∧ v171 ≤ 1200 ∧ (1 ≤ (h 96 349) → v171 ≤ (h 96 349)) := f170
              clear f170
              have gd := ov_tdp (a := (h 96 349)) (b := v171) (by omega) (by omega)
              refine ov_idiv d_219_183 (by omega) (by omega) (by omega) ?_
              have g173 := ov_tdl (a := (h 96 349)) (b := v171) (by omega) (by omega)
              refine ov_blk (ls2 := [(0, ov_r 90), (1, ov_i v5), (2, ov_i v41), (3, ov_i (350 + (4 * ((6 * v41) + v5)))), (4, ov_i v119), (5, ov_i v126)]) (st2 := [ov_i v126, ov_i (Int.tdiv (h 96 349) v171)]) (pc2 := 186) b_219_184_1 rfl rfl ?_
              have gq := ov_mulb (q := (Int.tdiv (h 96 349) v171)) (b := v126) (A := 1200) (B := 60) (by omega) (by omega) (by omega) (by omega)
              refine ov_blk (ls2 := [(0, ov_r 90), (1, ov_i v5), (2, ov_i v41), (3, ov_i (350 + (4 * ((6 * v41) + v5)))), (4, ov_i v119), (5, ov_i v126), (6, ov_i ((Int.tdiv (h 96 349) v171) * v126))]) (st2 := [ov_r 90]) (pc2 := 190) b_219_186_3 rfl rfl ?_
              refine ov_getf (v := ov_i (h142 90 8)) d_219_190 fl_Mo_180 (zb_90 I143) (zs_90 I143) rfl ?_
              refine ov_ifne (tgt := 219) d_219_193 (by decide) (by omega) (fun c175 => ?_) (fun c175 => ?_)
              · omega
              · skip
                refine ov_blk (ls2 := [(0, ov_r 90), (1, ov_i v5), (2, ov_i v41), (3, ov_i (350 + (4 * ((6 * v41) + v5)))), (4, ov_i v119), (5, ov_i v126), (6, ov_i ((Int.tdiv (h 96 349) v171) * v126))]) (st2 := [ov_i 1200, ov_i ((Int.tdiv (h 96 349) v171) * v126)]) (pc2 := 201) b_219_196_2 rfl rfl ?_
                refine ov_icle (tgt := 219) d_219_201 (by decide) (by omega) (by omega) (fun c176 => ?_) (fun c176 => ?_)
                · skip
                  refine ov_blk (ls2 := [(0, ov_r 90), (1, ov_i v5), (2, ov_i v41), (3, ov_i (350 + (4 * ((6 * v41) + v5)))), (4, ov_i v119), (5, ov_i v126), (6, ov_i ((Int.tdiv (h 96 349) v171) * v126))]) (st2 := [ov_r 90]) (pc2 := 220) b_219_219_1 rfl rfl ?_
                  refine ov_getf (v := ov_i (h142 90 8)) d_219_220 fl_Mo_180 (zb_90 I143) (zs_90 I143) rfl ?_
                  refine ov_ifle (tgt := 227) d_219_223 (by decide) (by omega) (fun c178 => ?_) (fun c178 => ?_)
                  · skip
                    refine ov_blk (ls2 := [(0, ov_r 90), (1, ov_i v5), (2, ov_i v41), (3, ov_i (350 + (4 * ((6 * v41) + v5)))), (4, ov_i v119), (5, ov_i v126), (6, ov_i ((Int.tdiv (h 96 349) v171) * v126))]) (st2 := [ov_r 90]) (pc2 := 228) b_219_227_1 rfl rfl ?_
                    refine ov_getf (v := ov_r 96) d_219_228 fl_Mo_81 (zb_90 I143) (zs_90 I143) (congrArg ov_r (rg_90_10 I143)) ?_
                    refine ov_blk (ls2 := [(0, ov_r 90), (1, ov_i v5), (2, ov_i v41), (3, ov_i (350 + (4 * ((6 * v41) + v5)))), (4, ov_i v119), (5, ov_i v126), (6, ov_i ((Int.tdiv (h 96 349) v171) * v126))]) (st2 := [ov_i ((Int.tdiv (h 96 349) v171) * v126), ov_i 349, ov_r 96]) (pc2 := 236) b_219_231_2 rfl rfl ?_
                    refine ov_iast d_219_236 (zb_96 I143) (zs_96 I143) (by omega) ?_
                    have I179 := ua_96 (k := 349) (x := ((Int.tdiv (h 96 349) v171) * v126)) I143 (by refine ⟨?_, ?_, ?_, ?_, ?_, ?_, ?_, ?_, ?_, ?_, ?_, ?_, ?_, ?_, ?_, ?_, ?_, ?_, ?_, ?_, ?_, ?_, ?_, ?_, ?_, ?_, ?_, ?_, ?_⟩ <;> omega)
                    have R180 : ov_RD (h 96) (h 97) (h 98) (h 90 13) (h142 96) (h142 97) (h142 98) (h 90 13) := by rw [show h142 96 = h 96 from E148, show h142 97 = h 97 from E149, show h142 98 = h 98 from E150]; exact ov_RD_refl _ _ _ _
                    have R181 : ov_RD (h 96) (h 97) (h 98) (h 90 13) ((ov_up h142 96 349 ((Int.tdiv (h 96 349) v171) * v126)) 96) ((ov_up h142 96 349 ((Int.tdiv (h 96 349) v171) * v126)) 97) ((ov_up h142 96 349 ((Int.tdiv (h 96 349) v171) * v126)) 98) (h 90 13) := by rw [ov_up_row]; exact ov_RD_w R180 (t96_348 I143).2 (by omega)
                    refine ov_blk (ls2 := [(0, ov_r 90), (1, ov_i v5), (2, ov_i v41), (3, ov_i (350 + (4 * ((6 * v41) + v5)))), (4, ov_i v119), (5, ov_i v126), (6, ov_i ((Int.tdiv (h 96 349) v171) * v126))]) (st2 := [ov_r 90]) (pc2 := 238) b_219_237_1 rfl rfl ?_
                    refine ov_getf (v := ov_r 96) d_219_238 fl_Mo_81 (zb_90 I179) (zs_90 I179) (congrArg ov_r (rg_90_10 I179)) ?_
                    refine ov_blk (ls2 := [(0, ov_r 90), (1, ov_i v5), (2, ov_i v41), (3, ov_i (350 + (4 * ((6 * v41) + v5)))), (4, ov_i v119), (5, ov_i v126), (6, ov_i ((Int.tdiv (h 96 349) v171) * v126))]) (st2 := [ov_i (1 + v119), ov_i (350 + (4 * ((6 * v41) + v5))), ov_r 96]) (pc2 := 246) b_219_241_4 rfl rfl ?_
                    refine ov_iast d_219_246 (zb_96 I179) (zs_96 I179) (by omega) ?_
                    have I182 := ua_96 (k := (350 + (4 * ((6 * v41) + v5)))) (x := (1 + v119)) I179 (by refine ⟨?_, ?_, ?_, ?_, ?_, ?_, ?_, ?_, ?_, ?_, ?_, ?_, ?_, ?_, ?_, ?_, ?_, ?_, ?_, ?_, ?_, ?_, ?_, ?_, ?_, ?_, ?_, ?_, ?_⟩ <;> omega)
                    refine ov_blk (ls2 := [(0, ov_r 90), (1, ov_i v5), (2, ov_i v41), (3, ov_i (350 + (4 * ((6 * v41) + v5)))), (4, ov_i v119), (5, ov_i v126), (6, ov_i ((Int.tdiv (h 96 349) v171) * v126))]) (st2 := [ov_r 90]) (pc2 := 248) b_219_247_1 rfl rfl ?_
                    refine ov_getf (v := ov_r 96) d_219_248 fl_Mo_81 (zb_90 I182) (zs_90 I182) (congrArg ov_r (rg_90_10 I182)) ?_
                    refine ov_blk (ls2 := [(0, ov_r 90), (1, ov_i v5), (2, ov_i v41), (3, ov_i (350 + (4 * ((6 * v41) + v5)))), (4, ov_i v119), (5, ov_i v126), (6, ov_i ((Int.tdiv (h 96 349) v171) * v126))]) (st2 := [ov_i v126, ov_i ((350 + (4 * ((6 * v41) + v5))) + 1), ov_r 96]) (pc2 := 256) b_219_251_4 rfl rfl ?_
                    refine ov_iast d_219_256 (zb_96 I182) (zs_96 I182) (by omega) ?_
                    have I183 := ua_96 (k := ((350 + (4 * ((6 * v41) + v5))) + 1)) (x := v126) I182 (by refine ⟨?_, ?_, ?_, ?_, ?_, ?_, ?_, ?_, ?_, ?_, ?_, ?_, ?_, ?_, ?_, ?_, ?_, ?_, ?_, ?_, ?_, ?_, ?_, ?_, ?_, ?_, ?_, ?_, ?_⟩ <;> omega)
                    have R184 : ov_RD (h 96) (h 97) (h 98) (h 90 13) ((ov_up (ov_up (ov_up h142 96 349 ((Int.tdiv (h 96 349) v171) * v126)) 96 (350 + (4 * ((6 * v41) + v5))) (1 + v119)) 96 ((350 + (4 * ((6 * v41) + v5))) + 1) v126) 96) ((ov_up (ov_up (ov_up h142 96 349 ((Int.tdiv (h 96 349) v171) * v126)) 96 (350 + (4 * ((6 * v41) + v5))) (1 + v119)) 96 ((350 + (4 * ((6 * v41) + v5))) + 1) v126) 97) ((ov_up (ov_up (ov_up h142 96 349 ((Int.tdiv (h 96 349) v171) * v126)) 96 (350 + (4 * ((6 * v41) + v5))) (1 + v119)) 96 ((350 + (4 * ((6 * v41) + v5))) + 1) v126) 98) (h 90 13) := by rw [ov_up_row, ov_up_row]; exact ov_RD_k R181 (t96_348 I179).2 (e := 6 * v41 + v5) (by omega) (by omega) (by omega) (by omega)
                    refine ov_blk (ls2 := [(0, ov_r 90), (1, ov_i v5), (2, ov_i v41), (3, ov_i (350 + (4 * ((6 * v41) + v5)))), (4, ov_i v119), (5, ov_i v126), (6, ov_i ((Int.tdiv (h 96 349) v171) * v126))]) (st2 := [ov_r 90]) (pc2 := 258) b_219_257_1 rfl rfl ?_
                    refine ov_getf (v := ov_r 96) d_219_258 fl_Mo_81 (zb_90 I183) (zs_90 I183) (congrArg ov_r (rg_90_10 I183)) ?_
                    refine ov_blk (ls2 := [(0, ov_r 90), (1, ov_i v5), (2, ov_i v41), (3, ov_i (350 + (4 * ((6 * v41) + v5)))), (4, ov_i v119), (5, ov_i v126), (6, ov_i ((Int.tdiv (h 96 349) v171) * v126))]) (st2 := [ov_i (v126 - 1), ov_i 0, ov_i 10, ov_r 90, ov_i ((350 + (4 * ((6 * v41) + v5))) + 2), ov_r 96]) (pc2 := 272) b_219_261_9 rfl rfl ?_
                    have cf185 : h142 92 (n) = h 92 (n) := congrFun E144 (n)
                    refine ov_cV (as := [ov_i 10, ov_i 0, ov_i (v126 - 1)]) (st := [ov_i ((350 + (4 * ((6 * v41) + v5))) + 2), ov_r 96]) (d2 := d - 1) d_219_272 lk_Mo_232 rfl (Nat.le_of_ble_eq_true rfl) (c := 1) (zb_90 I183) (zs_90 I183) ⟨by decide, rfl⟩ (by omega) (c_Mo_takeAfter_90 n (d - 1) (by omega) U I183 10 0 (v126 - 1) (by omega) (by omega) (by omega) (by show 0 ≤ n ∧ n ≤ 1000 ∧ (h142 92 (n)) = 0 ∧ (h142 90 7) ≤ n; omega) (by omega)) ?_
                    rintro _ z202 h203 ⟨v187, rfl, I204, f186, e188, e189, e190, e191, e192, e193, e194, e195, e196, e197, e198, e199, e200, e201⟩
                    have E205 : h203 92 = h 92 := Eq.trans e188 E144
                    have E206 : h203 93 = h 93 := Eq.trans e189 E145
                    have E207 : h203 94 = h 94 := Eq.trans e190 E146
                    have E208 : h203 95 = h 95 := Eq.trans e191 E147
                    have E209 : h203 97 = h 97 := Eq.trans e193 E149
                    have E210 : h203 98 = h 98 := Eq.trans e194 E150
                    have E211 : h203 99 = h 99 := Eq.trans e195 E151
                    have E212 : h203 100 = h 100 := Eq.trans e196 E152
                    have E213 : h203 103 = h 103 := Eq.trans e197 E153
                    have E214 : h203 105 = h 105 := Eq.trans e198 E154
                    have E215 : h203 106 = h 106 := Eq.trans e199 E155
                    have E216 : h203 109 = h 109 := Eq.trans e200 E156
                    have E217 : h203 114 = h 114 := Eq.trans e201 E157
                    show ov_R u d ov_m219 275 [(0, ov_r 90), (1, ov_i v5), (2, ov_i v41), (3, ov_i (350 + (4 * ((6 * v41) + v5)))), (4, ov_i v119), (5, ov_i v126), (6, ov_i ((Int.tdiv (h 96 349) v171) * v126))] [ov_i v187, ov_i ((350 + (4 * ((6 * v41) + v5))) + 2), ov_r 96] z202 h203 (P_Mo_readLight_90 F z h n)
                    have f218 : (h203 90 2) = (h142 90 2) ∧ (h203 90 13) = (h142 90 13) ∧ (h203 90 20) = (h142 90 20) ∧ (h203 90 22) = (h142 90 22) ∧ (h203 90 25) = (h142 90 25) ∧ (h203 90 26) = (h142 90 26) ∧ (h203 90 28) = (h142 90 28) ∧ (h203 90 29) = (h142 90 29) ∧ (h203 90 30) = (h142 90 30) ∧ (h203 90 34) = (h142 90 34) ∧ (h142 90 7) ≤ (h203 90 7) ∧ (h203 90 7) ≤ n ∧ (h142 90 8) ≤ (h203 90 8) ∧ ((h203 90 8) = 0 → (0 : Int) ≤ v187 ∧ v187 ≤ (v126 - 1)) ∧ (0 < (h203 90 8) → v187 = 0) := f186
                    clear f186
                    have R219 : ov_RD (h 96) (h 97) (h 98) (h 90 13) (h203 96) (h203 97) (h203 98) (h 90 13) := by rw [e192, e193, e194]; exact R184
                    have lt220 : ((ov_up (ov_up (ov_up h142 96 349 ((Int.tdiv (h 96 349) v171) * v126)) 96 (350 + (4 * ((6 * v41) + v5))) (1 + v119)) 96 ((350 + (4 * ((6 * v41) + v5))) + 1) v126) 96 340) = h142 96 340 := by rw [ov_up_j (by omega)]; rw [ov_up_j (by omega)]; rw [ov_up_j (by omega)]
                    have lt221 : h142 96 340 = h 96 340 := congrFun E148 340
                    have lt222 : ((ov_up (ov_up (ov_up h142 96 349 ((Int.tdiv (h 96 349) v171) * v126)) 96 (350 + (4 * ((6 * v41) + v5))) (1 + v119)) 96 ((350 + (4 * ((6 * v41) + v5))) + 1) v126) 96 341) = h142 96 341 := by rw [ov_up_j (by omega)]; rw [ov_up_j (by omega)]; rw [ov_up_j (by omega)]
                    have lt223 : h142 96 341 = h 96 341 := congrFun E148 341
                    have lt224 : ((ov_up (ov_up (ov_up h142 96 349 ((Int.tdiv (h 96 349) v171) * v126)) 96 (350 + (4 * ((6 * v41) + v5))) (1 + v119)) 96 ((350 + (4 * ((6 * v41) + v5))) + 1) v126) 96 342) = h142 96 342 := by rw [ov_up_j (by omega)]; rw [ov_up_j (by omega)]; rw [ov_up_j (by omega)]
                    have lt225 : h142 96 342 = h 96 342 := congrFun E148 342
                    have lt226 : ((ov_up (ov_up (ov_up h142 96 349 ((Int.tdiv (h 96 349) v171) * v126)) 96 (350 + (4 * ((6 * v41) + v5))) (1 + v119)) 96 ((350 + (4 * ((6 * v41) + v5))) + 1) v126) 96 348) = h142 96 348 := by rw [ov_up_j (by omega)]; rw [ov_up_j (by omega)]; rw [ov_up_j (by omega)]
                    have lt227 : h142 96 348 = h 96 348 := congrFun E148 348
                    have lt228 : ((ov_up (ov_up (ov_up h142 96 349 ((Int.tdiv (h 96 349) v171) * v126)) 96 (350 + (4 * ((6 * v41) + v5))) (1 + v119)) 96 ((350 + (4 * ((6 * v41) + v5))) + 1) v126) 96 349) = ((Int.tdiv (h 96 349) v171) * v126) := by rw [ov_up_j (by omega)]; rw [ov_up_j (by omega)]; rw [ov_up_row, ov_rs_eq]
                    have lt229 : h142 96 349 = h 96 349 := congrFun E148 349
                    have lt230 : h203 96 340 = ((ov_up (ov_up (ov_up h142 96 349 ((Int.tdiv (h 96 349) v171) * v126)) 96 (350 + (4 * ((6 * v41) + v5))) (1 + v119)) 96 ((350 + (4 * ((6 * v41) + v5))) + 1) v126) 96 340) := congrFun e192 340
                    have lt231 : h203 96 341 = ((ov_up (ov_up (ov_up h142 96 349 ((Int.tdiv (h 96 349) v171) * v126)) 96 (350 + (4 * ((6 * v41) + v5))) (1 + v119)) 96 ((350 + (4 * ((6 * v41) + v5))) + 1) v126) 96 341) := congrFun e192 341
                    have lt232 : h203 96 342 = ((ov_up (ov_up (ov_up h142 96 349 ((Int.tdiv (h 96 349) v171) * v126)) 96 (350 + (4 * ((6 * v41) + v5))) (1 + v119)) 96 ((350 + (4 * ((6 * v41) + v5))) + 1) v126) 96 342) := congrFun e192 342
                    have lt233 : h203 96 348 = ((ov_up (ov_up (ov_up h142 96 349 ((Int.tdiv (h 96 349) v171) * v126)) 96 (350 + (4 * ((6 * v41) + v5))) (1 + v119)) 96 ((350 + (4 * ((6 * v41) + v5))) + 1) v126) 96 348) := congrFun e192 348
                    have lt234 : h203 96 349 = ((ov_up (ov_up (ov_up h142 96 349 ((Int.tdiv (h 96 349) v171) * v126)) 96 (350 + (4 * ((6 * v41) + v5))) (1 + v119)) 96 ((350 + (4 * ((6 * v41) + v5))) + 1) v126) 96 349) := congrFun e192 349
                    refine ov_iast d_219_275 (zb_96 I204) (zs_96 I204) (by omega) ?_
                    have I235 := ua_96 (k := ((350 + (4 * ((6 * v41) + v5))) + 2)) (x := v187) I204 (by refine ⟨?_, ?_, ?_, ?_, ?_, ?_, ?_, ?_, ?_, ?_, ?_, ?_, ?_, ?_, ?_, ?_, ?_, ?_, ?_, ?_, ?_, ?_, ?_, ?_, ?_, ?_, ?_, ?_, ?_⟩ <;> omega)
                    have R236 : ov_RD (h 96) (h 97) (h 98) (h 90 13) ((ov_up h203 96 ((350 + (4 * ((6 * v41) + v5))) + 2) v187) 96) ((ov_up h203 96 ((350 + (4 * ((6 * v41) + v5))) + 2) v187) 97) ((ov_up h203 96 ((350 + (4 * ((6 * v41) + v5))) + 2) v187) 98) (h 90 13) := by rw [ov_up_row]; exact ov_RD_l R219 (t96_348 I204).2 (e := 6 * v41 + v5) (i := 2) (by omega) (Or.inl rfl) (by omega)
                    refine ov_blk (ls2 := [(0, ov_r 90), (1, ov_i v5), (2, ov_i v41), (3, ov_i (350 + (4 * ((6 * v41) + v5)))), (4, ov_i v119), (5, ov_i v126), (6, ov_i ((Int.tdiv (h 96 349) v171) * v126))]) (st2 := [ov_r 90]) (pc2 := 277) b_219_276_1 rfl rfl ?_
                    refine ov_getf (v := ov_r 96) d_219_277 fl_Mo_81 (zb_90 I235) (zs_90 I235) (congrArg ov_r (rg_90_10 I235)) ?_
                    refine ov_blk (ls2 := [(0, ov_r 90), (1, ov_i v5), (2, ov_i v41), (3, ov_i (350 + (4 * ((6 * v41) + v5)))), (4, ov_i v119), (5, ov_i v126), (6, ov_i ((Int.tdiv (h 96 349) v171) * v126))]) (st2 := [ov_i v126, ov_i 0, ov_i 12, ov_r 90, ov_i ((350 + (4 * ((6 * v41) + v5))) + 3), ov_r 96]) (pc2 := 289) b_219_280_7 rfl rfl ?_
                    have cf237 : h203 92 (n) = h 92 (n) := congrFun E205 (n)
                    refine ov_cV (as := [ov_i 12, ov_i 0, ov_i v126]) (st := [ov_i ((350 + (4 * ((6 * v41) + v5))) + 3), ov_r 96]) (d2 := d - 1) d_219_289 lk_Mo_232 rfl (Nat.le_of_ble_eq_true rfl) (c := 1) (zb_90 I235) (zs_90 I235) ⟨by decide, rfl⟩ (by omega) (c_Mo_takeAfter_90 n (d - 1) (by omega) U I235 12 0 v126 (by omega) (by omega) (by omega) (by show 0 ≤ n ∧ n ≤ 1000 ∧ (h203 92 (n)) = 0 ∧ (h203 90 7) ≤ n; omega) (by omega)) ?_
                    rintro _ z254 h255 ⟨v239, rfl, I256, f238, e240, e241, e242, e243, e244, e245, e246, e247, e248, e249, e250, e251, e252, e253⟩
                    have E257 : h255 92 = h 92 := Eq.trans e240 E205
                    have E258 : h255 93 = h 93 := Eq.trans e241 E206
                    have E259 : h255 94 = h 94 := Eq.trans e242 E207
                    have E260 : h255 95 = h 95 := Eq.trans e243 E208
                    have E261 : h255 97 = h 97 := Eq.trans e245 E209
                    have E262 : h255 98 = h 98 := Eq.trans e246 E210
                    have E263 : h255 99 = h 99 := Eq.trans e247 E211
                    have E264 : h255 100 = h 100 := Eq.trans e248 E212
                    have E265 : h255 103 = h 103 := Eq.trans e249 E213
                    have E266 : h255 105 = h 105 := Eq.trans e250 E214
                    have E267 : h255 106 = h 106 := Eq.trans e251 E215
                    have E268 : h255 109 = h 109 := Eq.trans e252 E216
                    have E269 : h255 114 = h 114 := Eq.trans e253 E217
                    show ov_R u d ov_m219 292 [(0, ov_r 90), (1, ov_i v5), (2, ov_i v41), (3, ov_i (350 + (4 * ((6 * v41) + v5)))), (4, ov_i v119), (5, ov_i v126), (6, ov_i ((Int.tdiv (h 96 349) v171) * v126))] [ov_i v239, ov_i ((350 + (4 * ((6 * v41) + v5))) + 3), ov_r 96] z254 h255 (P_Mo_readLight_90 F z h n)
                    have f270 : (h255 90 2) = (h203 90 2) ∧ (h255 90 13) = (h203 90 13) ∧ (h255 90 20) = (h203 90 20) ∧ (h255 90 22) = (h203 90 22) ∧ (h255 90 25) = (h203 90 25) ∧ (h255 90 26) = (h203 90 26) ∧ (h255 90 28) = (h203 90 28) ∧ (h255 90 29) = (h203 90 29) ∧ (h255 90 30) = (h203 90 30) ∧ (h255 90 34) = (h203 90 34) ∧ (h203 90 7) ≤ (h255 90 7) ∧ (h255 90 7) ≤ n ∧ (h203 90 8) ≤ (h255 90 8) ∧ ((h255 90 8) = 0 → (0 : Int) ≤ v239 ∧ v239 ≤ v126) ∧ (0 < (h255 90 8) → v239 = 0) := f238
                    clear f238
                    have R271 : ov_RD (h 96) (h 97) (h 98) (h 90 13) (h255 96) (h255 97) (h255 98) (h 90 13) := by rw [e244, e245, e246]; exact R236
                    have lt272 : ((ov_up h203 96 ((350 + (4 * ((6 * v41) + v5))) + 2) v187) 96 340) = h203 96 340 := by rw [ov_up_j (by omega)]
                    have lt273 : ((ov_up h203 96 ((350 + (4 * ((6 * v41) + v5))) + 2) v187) 96 341) = h203 96 341 := by rw [ov_up_j (by omega)]
                    have lt274 : ((ov_up h203 96 ((350 + (4 * ((6 * v41) + v5))) + 2) v187) 96 342) = h203 96 342 := by rw [ov_up_j (by omega)]
                    have lt275 : ((ov_up h203 96 ((350 + (4 * ((6 * v41) + v5))) + 2) v187) 96 348) = h203 96 348 := by rw [ov_up_j (by omega)]
                    have lt276 : ((ov_up h203 96 ((350 + (4 * ((6 * v41) + v5))) + 2) v187) 96 349) = h203 96 349 := by rw [ov_up_j (by omega)]
                    have lt277 : h255 96 340 = ((ov_up h203 96 ((350 + (4 * ((6 * v41) + v5))) + 2) v187) 96 340) := congrFun e244 340
                    have lt278 : h255 96 341 = ((ov_up h203 96 ((350 + (4 * ((6 * v41) + v5))) + 2) v187) 96 341) := congrFun e244 341
                    have lt279 : h255 96 342 = ((ov_up h203 96 ((350 + (4 * ((6 * v41) + v5))) + 2) v187) 96 342) := congrFun e244 342
                    have lt280 : h255 96 348 = ((ov_up h203 96 ((350 + (4 * ((6 * v41) + v5))) + 2) v187) 96 348) := congrFun e244 348
                    have lt281 : h255 96 349 = ((ov_up h203 96 ((350 + (4 * ((6 * v41) + v5))) + 2) v187) 96 349) := congrFun e244 349
                    refine ov_iast d_219_292 (zb_96 I256) (zs_96 I256) (by omega) ?_
                    have I282 := ua_96 (k := ((350 + (4 * ((6 * v41) + v5))) + 3)) (x := v239) I256 (by refine ⟨?_, ?_, ?_, ?_, ?_, ?_, ?_, ?_, ?_, ?_, ?_, ?_, ?_, ?_, ?_, ?_, ?_, ?_, ?_, ?_, ?_, ?_, ?_, ?_, ?_, ?_, ?_, ?_, ?_⟩ <;> omega)
                    have R283 : ov_RD (h 96) (h 97) (h 98) (h 90 13) ((ov_up h255 96 ((350 + (4 * ((6 * v41) + v5))) + 3) v239) 96) ((ov_up h255 96 ((350 + (4 * ((6 * v41) + v5))) + 3) v239) 97) ((ov_up h255 96 ((350 + (4 * ((6 * v41) + v5))) + 3) v239) 98) (h 90 13) := by rw [ov_up_row]; exact ov_RD_l R271 (t96_348 I256).2 (e := 6 * v41 + v5) (i := 3) (by omega) (Or.inr rfl) (by omega)
                    refine ov_blk (ls2 := [(0, ov_r 90), (1, ov_i v5), (2, ov_i v41), (3, ov_i (350 + (4 * ((6 * v41) + v5)))), (4, ov_i v119), (5, ov_i v126), (6, ov_i ((Int.tdiv (h 96 349) v171) * v126))]) (st2 := [ov_r 90]) (pc2 := 294) b_219_293_1 rfl rfl ?_
                    refine ov_getf (v := ov_r 96) d_219_294 fl_Mo_81 (zb_90 I282) (zs_90 I282) (congrArg ov_r (rg_90_10 I282)) ?_
                    refine ov_blk (ls2 := [(0, ov_r 90), (1, ov_i v5), (2, ov_i v41), (3, ov_i (350 + (4 * ((6 * v41) + v5)))), (4, ov_i v119), (5, ov_i v126), (6, ov_i ((Int.tdiv (h 96 349) v171) * v126))]) (st2 := [ov_i 347, ov_r 96, ov_i 347, ov_r 96]) (pc2 := 301) b_219_297_2 rfl rfl ?_
                    refine ov_iald d_219_301 (zb_96 I282) (zs_96 I282) (by omega) ?_
                    show ov_R u d ov_m219 302 [(0, ov_r 90), (1, ov_i v5), (2, ov_i v41), (3, ov_i (350 + (4 * ((6 * v41) + v5)))), (4, ov_i v119), (5, ov_i v126), (6, ov_i ((Int.tdiv (h 96 349) v171) * v126))] [ov_i ((ov_up h255 96 ((350 + (4 * ((6 * v41) + v5))) + 3) v239) 96 347), ov_i 347, ov_r 96] z254 (ov_up h255 96 ((350 + (4 * ((6 * v41) + v5))) + 3) v239) (P_Mo_readLight_90 F z h n)
                    refine ov_blk (ls2 := [(0, ov_r 90), (1, ov_i v5), (2, ov_i v41), (3, ov_i (350 + (4 * ((6 * v41) + v5)))), (4, ov_i v119), (5, ov_i v126), (6, ov_i ((Int.tdiv (h 96 349) v171) * v126))]) (st2 := [ov_i (((ov_up h255 96 ((350 + (4 * ((6 * v41) + v5))) + 3) v239) 96 347) + 1), ov_i 347, ov_r 96]) (pc2 := 304) b_219_302_2 rfl rfl ?_
                    refine ov_havw (fun w284 gw284 qw284 => ?_)
                    refine ov_iast d_219_304 (zb_96 I282) (zs_96 I282) (by omega) ?_
                    have I285 := ua_96 (k := 347) (x := w284) I282 (by refine ⟨?_, ?_, ?_, ?_, ?_, ?_, ?_, ?_, ?_, ?_, ?_, ?_, ?_, ?_, ?_, ?_, ?_, ?_, ?_, ?_, ?_, ?_, ?_, ?_, ?_, ?_, ?_, ?_, ?_⟩ <;> omega)
                    have R286 : ov_RD (h 96) (h 97) (h 98) (h 90 13) ((ov_up (ov_up h255 96 ((350 + (4 * ((6 * v41) + v5))) + 3) v239) 96 347 w284) 96) ((ov_up (ov_up h255 96 ((350 + (4 * ((6 * v41) + v5))) + 3) v239) 96 347 w284) 97) ((ov_up (ov_up h255 96 ((350 + (4 * ((6 * v41) + v5))) + 3) v239) 96 347 w284) 98) (h 90 13) := by rw [ov_up_row]; exact ov_RD_w R283 (t96_348 I282).2 (by omega)
                    have lt287 : ((ov_up h255 96 ((350 + (4 * ((6 * v41) + v5))) + 3) v239) 96 340) = h255 96 340 := by rw [ov_up_j (by omega)]; rw [ov_up_j (by omega)]
                    have lt288 : ((ov_up h255 96 ((350 + (4 * ((6 * v41) + v5))) + 3) v239) 96 341) = h255 96 341 := by rw [ov_up_j (by omega)]; rw [ov_up_j (by omega)]
                    have lt289 : ((ov_up h255 96 ((350 + (4 * ((6 * v41) + v5))) + 3) v239) 96 342) = h255 96 342 := by rw [ov_up_j (by omega)]; rw [ov_up_j (by omega)]
                    have lt290 : ((ov_up h255 96 ((350 + (4 * ((6 * v41) + v5))) + 3) v239) 96 348) = h255 96 348 := by rw [ov_up_j (by omega)]; rw [ov_up_j (by omega)]
                    have lt291 : ((ov_up h255 96 ((350 + (4 * ((6 * v41) + v5))) + 3) v239) 96 349) = h255 96 349 := by rw [ov_up_j (by omega)]; rw [ov_up_j (by omega)]
                    exact ov_retv (st := []) d_219_305 rfl ⟨rfl, I285, (by show (h255 90 2) = (h 90 2) ∧ (h255 90 13) = (h 90 13) ∧ (h255 90 20) = (h 90 20) ∧ (h255 90 22) = (h 90 22) ∧ (h255 90 25) = (h 90 25) ∧ (h255 90 26) = (h 90 26) ∧ (h255 90 28) = (h 90 28) ∧ (h255 90 29) = (h 90 29) ∧ (h255 90 30) = (h 90 30) ∧ (h255 90 34) = (h 90 34) ∧ (h 90 7) ≤ (h255 90 7) ∧ (h255 90 7) ≤ n ∧ (h 90 13) ≤ (h255 90 13) ∧ (h255 90 13) - (h 90 13) ≤ (h255 90 7) - (h 90 7) ∧ ((ov_up h255 96 ((350 + (4 * ((6 * v41) + v5))) + 3) v239) 96 340) = (h 96 340) ∧ ((ov_up h255 96 ((350 + (4 * ((6 * v41) + v5))) + 3) v239) 96 341) = (h 96 341) ∧ ((h255 90 8) = 0 → 1 ≤ (h 96 342) → 1 ≤ ((ov_up h255 96 ((350 + (4 * ((6 * v41) + v5))) + 3) v239) 96 342)) ∧ (1 ≤ (h 96 349) → 1 ≤ ((ov_up h255 96 ((350 + (4 * ((6 * v41) + v5))) + 3) v239) 96 349)); omega), E257, E258, E259, E260, E261, E262, E263, E264, E265, E266, E267, E268, E269, R286.1, R286.2.1, (fun _ w => by show ov_CS ((ov_up (ov_up h255 96 ((350 + (4 * ((6 * v41) + v5))) + 3) v239) 96 347 w284) 96) ((ov_up (ov_up h255 96 ((350 + (4 * ((6 * v41) + v5))) + 3) v239) 96 347 w284) 97) ((ov_up (ov_up h255 96 ((350 + (4 * ((6 * v41) + v5))) + 3) v239) 96 347 w284) 98) (h255 90 13); rw [show (h255 90 13) = h 90 13 by omega]; exact R286.2.2 w)⟩
                  · omega
                · skip
                  refine ov_blk (ls2 := [(0, ov_r 90), (1, ov_i v5), (2, ov_i v41), (3, ov_i (350 + (4 * ((6 * v41) + v5)))), (4, ov_i v119), (5, ov_i v126), (6, ov_i ((Int.tdiv (h 96 349) v171) * v126))]) (st2 := [ov_r 90, ov_r 90]) (pc2 := 206) b_219_204_2 rfl rfl ?_
                  refine ov_getf (v := ov_i (h142 90 7)) d_219_206 fl_Mo_177 (zb_90 I143) (zs_90 I143) rfl ?_
                  have g292 := rg_90_7 I143
                  refine ov_blk (ls2 := [(0, ov_r 90), (1, ov_i v5), (2, ov_i v41), (3, ov_i (350 + (4 * ((6 * v41) + v5)))), (4, ov_i v119), (5, ov_i v126), (6, ov_i ((Int.tdiv (h 96 349) v171) * v126))]) (st2 := [ov_i ((h142 90 7) - 1), ov_r 90]) (pc2 := 211) b_219_209_2 rfl rfl ?_
                  refine ov_putf (x := ((h142 90 7) - 1)) d_219_211 fl_Mo_177 (zb_90 I143) (zs_90 I143) rfl nk_0 rfl ?_
                  have I293 := up_90_7 (x := ((h142 90 7) - 1)) I143 (by omega)
                  refine ov_blk (ls2 := [(0, ov_r 90), (1, ov_i v5), (2, ov_i v41), (3, ov_i (350 + (4 * ((6 * v41) + v5)))), (4, ov_i v119), (5, ov_i v126), (6, ov_i ((Int.tdiv (h 96 349) v171) * v126))]) (st2 := [ov_i 4, ov_r 90]) (pc2 := 216) b_219_214_2 rfl rfl ?_
                  refine ov_cV (as := [ov_i 4]) (st := []) (d2 := d - 1) d_219_216 lk_Mo_186 rfl (Nat.le_of_ble_eq_true rfl) (c := 1) (zb_90 I293) (zs_90 I293) ⟨by decide, rfl⟩ (by omega) (c_Mo_wrong_90 (d - 1) (by omega) U I293 4 (by omega) (by omega)) ?_
                  rintro _ z309 h310 ⟨rfl, I311, f294, e295, e296, e297, e298, e299, e300, e301, e302, e303, e304, e305, e306, e307, e308⟩
                  have E312 : h310 92 = h 92 := Eq.trans e295 E144
                  have E313 : h310 93 = h 93 := Eq.trans e296 E145
                  have E314 : h310 94 = h 94 := Eq.trans e297 E146
                  have E315 : h310 95 = h 95 := Eq.trans e298 E147
                  have E316 : h310 96 = h 96 := Eq.trans e299 E148
                  have E317 : h310 97 = h 97 := Eq.trans e300 E149
                  have E318 : h310 98 = h 98 := Eq.trans e301 E150
                  have E319 : h310 99 = h 99 := Eq.trans e302 E151
                  have E320 : h310 100 = h 100 := Eq.trans e303 E152
                  have E321 : h310 103 = h 103 := Eq.trans e304 E153
                  have E322 : h310 105 = h 105 := Eq.trans e305 E154
                  have E323 : h310 106 = h 106 := Eq.trans e306 E155
                  have E324 : h310 109 = h 109 := Eq.trans e307 E156
                  have E325 : h310 114 = h 114 := Eq.trans e308 E157
                  show ov_R u d ov_m219 219 [(0, ov_r 90), (1, ov_i v5), (2, ov_i v41), (3, ov_i (350 + (4 * ((6 * v41) + v5)))), (4, ov_i v119), (5, ov_i v126), (6, ov_i ((Int.tdiv (h 96 349) v171) * v126))] [] z309 h310 (P_Mo_readLight_90 F z h n)
                  have f326 : (h310 90 2) = (h142 90 2) ∧ (h310 90 7) = ((h142 90 7) - 1) ∧ (h310 90 13) = (h142 90 13) ∧ (h310 90 20) = (h142 90 20) ∧ (h310 90 22) = (h142 90 22) ∧ (h310 90 25) = (h142 90 25) ∧ (h310 90 26) = (h142 90 26) ∧ (h310 90 28) = (h142 90 28) ∧ (h310 90 29) = (h142 90 29) ∧ (h310 90 30) = (h142 90 30) ∧ (h310 90 34) = (h142 90 34) ∧ 0 < (h310 90 8) ∧ (h142 90 8) ≤ (h310 90 8) := f294
                  clear f294
                  refine ov_blk (ls2 := [(0, ov_r 90), (1, ov_i v5), (2, ov_i v41), (3, ov_i (350 + (4 * ((6 * v41) + v5)))), (4, ov_i v119), (5, ov_i v126), (6, ov_i ((Int.tdiv (h 96 349) v171) * v126))]) (st2 := [ov_r 90]) (pc2 := 220) b_219_219_1 rfl rfl ?_
                  refine ov_getf (v := ov_i (h310 90 8)) d_219_220 fl_Mo_180 (zb_90 I311) (zs_90 I311) rfl ?_
                  have g327 := rg_90_8 I311
                  refine ov_ifle (tgt := 227) d_219_223 (by decide) (by omega) (fun c328 => ?_) (fun c328 => ?_)
                  · omega
                  · skip
                    have R329 : ov_RD (h 96) (h 97) (h 98) (h 90 13) (h310 96) (h310 97) (h310 98) (h 90 13) := by rw [show h310 96 = h 96 from E316, show h310 97 = h 97 from E317, show h310 98 = h 98 from E318]; exact ov_RD_refl _ _ _ _
                    exact ov_retv (st := []) d_219_226 rfl ⟨rfl, I311, (by show (h310 90 2) = (h 90 2) ∧ (h310 90 13) = (h 90 13) ∧ (h310 90 20) = (h 90 20) ∧ (h310 90 22) = (h 90 22) ∧ (h310 90 25) = (h 90 25) ∧ (h310 90 26) = (h 90 26) ∧ (h310 90 28) = (h 90 28) ∧ (h310 90 29) = (h 90 29) ∧ (h310 90 30) = (h 90 30) ∧ (h310 90 34) = (h 90 34) ∧ (h 90 7) ≤ (h310 90 7) ∧ (h310 90 7) ≤ n ∧ (h 90 13) ≤ (h310 90 13) ∧ (h310 90 13) - (h 90 13) ≤ (h310 90 7) - (h 90 7) ∧ (h 96 340) = (h 96 340) ∧ (h 96 341) = (h 96 341) ∧ ((h310 90 8) = 0 → 1 ≤ (h 96 342) → 1 ≤ (h 96 342)) ∧ (1 ≤ (h 96 349) → 1 ≤ (h 96 349)); omega), E312, E313, E314, E315, E317, E318, E319, E320, E321, E322, E323, E324, E325, R329.1, R329.2.1, (fun _ w => by show ov_CS (h310 96) (h310 97) (h310 98) (h310 90 13); rw [show (h310 90 13) = h 90 13 by omega]; exact R329.2.2 w)⟩
            · skip
              refine ov_blk (ls2 := [(0, ov_r 90), (1, ov_i v5), (2, ov_i v41), (3, ov_i (350 + (4 * ((6 * v41) + v5)))), (4, ov_i v119), (5, ov_i v126)]) (st2 := [ov_r 90]) (pc2 := 152) b_219_151_1 rfl rfl ?_
              refine ov_getf (v := ov_r 96) d_219_152 fl_Mo_81 (zb_90 I143) (zs_90 I143) (congrArg ov_r (rg_90_10 I143)) ?_
              refine ov_blk (ls2 := [(0, ov_r 90), (1, ov_i v5), (2, ov_i v41), (3, ov_i (350 + (4 * ((6 * v41) + v5)))), (4, ov_i v119), (5, ov_i v126)]) (st2 := [ov_i 349, ov_r 96]) (pc2 := 158) b_219_155_1 rfl rfl ?_
              refine ov_iald d_219_158 (zb_96 I143) (zs_96 I143) (by omega) ?_
              rw [show h142 96 = h 96 from E148]
              have g330 := t96_349 I
              refine ov_goto (tgt := 187) d_219_159 (by decide) ?_
              refine ov_blk (ls2 := [(0, ov_r 90), (1, ov_i v5), (2, ov_i v41), (3, ov_i (350 + (4 * ((6 * v41) + v5)))), (4, ov_i v119), (5, ov_i v126), (6, ov_i (h 96 349))]) (st2 := [ov_r 90]) (pc2 := 190) b_219_187_2 rfl rfl ?_
              refine ov_getf (v := ov_i (h142 90 8)) d_219_190 fl_Mo_180 (zb_90 I143) (zs_90 I143) rfl ?_
              refine ov_ifne (tgt := 219) d_219_193 (by decide) (by omega) (fun c332 => ?_) (fun c332 => ?_)
              · omega
              · skip
                refine ov_blk (ls2 := [(0, ov_r 90), (1, ov_i v5), (2, ov_i v41), (3, ov_i (350 + (4 * ((6 * v41) + v5)))), (4, ov_i v119), (5, ov_i v126), (6, ov_i (h 96 349))]) (st2 := [ov_i 1200, ov_i (h 96 349)]) (pc2 := 201) b_219_196_2 rfl rfl ?_
                refine ov_icle (tgt := 219) d_219_201 (by decide) (by omega) (by omega) (fun c333 => ?_) (fun c333 => ?_)
                · skip
                  refine ov_blk (ls2 := [(0, ov_r 90), (1, ov_i v5), (2, ov_i v41), (3, ov_i (350 + (4 * ((6 * v41) + v5)))), (4, ov_i v119), (5, ov_i v126), (6, ov_i (h 96 349))]) (st2 := [ov_r 90]) (pc2 := 220) b_219_219_1 rfl rfl ?_
                  refine ov_getf (v := ov_i (h142 90 8)) d_219_220 fl_Mo_180 (zb_90 I143) (zs_90 I143) rfl ?_
                  refine ov_ifle (tgt := 227) d_219_223 (by decide) (by omega) (fun c335 => ?_) (fun c335 => ?_)
                  · skip
                    refine ov_blk (ls2 := [(0, ov_r 90), (1, ov_i v5), (2, ov_i v41), (3, ov_i (350 + (4 * ((6 * v41) + v5)))), (4, ov_i v119), (5, ov_i v126), (6, ov_i (h 96 349))]) (st2 := [ov_r 90]) (pc2 := 228) b_219_227_1 rfl rfl ?_
                    refine ov_getf (v := ov_r 96) d_219_228 fl_Mo_81 (zb_90 I143) (zs_90 I143) (congrArg ov_r (rg_90_10 I143)) ?_
                    refine ov_blk (ls2 := [(0, ov_r 90), (1, ov_i v5), (2, ov_i v41), (3, ov_i (350 + (4 * ((6 * v41) + v5)))), (4, ov_i v119), (5, ov_i v126), (6, ov_i (h 96 349))]) (st2 := [ov_i (h 96 349), ov_i 349, ov_r 96]) (pc2 := 236) b_219_231_2 rfl rfl ?_
                    refine ov_iast d_219_236 (zb_96 I143) (zs_96 I143) (by omega) ?_
                    have I336 := ua_96 (k := 349) (x := (h 96 349)) I143 (by refine ⟨?_, ?_, ?_, ?_, ?_, ?_, ?_, ?_, ?_, ?_, ?_, ?_, ?_, ?_, ?_, ?_, ?_, ?_, ?_, ?_, ?_, ?_, ?_, ?_, ?_, ?_, ?_, ?_, ?_⟩ <;> omega)
                    have R337 : ov_RD (h 96) (h 97) (h 98) (h 90 13) (h142 96) (h142 97) (h142 98) (h 90 13) := by rw [show h142 96 = h 96 from E148, show h142 97 = h 97 from E149, show h142 98 = h 98 from E150]; exact ov_RD_refl _ _ _ _
                    have R338 : ov_RD (h 96) (h 97) (h 98) (h 90 13) ((ov_up h142 96 349 (h 96 349)) 96) ((ov_up h142 96 349 (h 96 349)) 97) ((ov_up h142 96 349 (h 96 349)) 98) (h 90 13) := by rw [ov_up_row]; exact ov_RD_w R337 (t96_348 I143).2 (by omega)
                    refine ov_blk (ls2 := [(0, ov_r 90), (1, ov_i v5), (2, ov_i v41), (3, ov_i (350 + (4 * ((6 * v41) + v5)))), (4, ov_i v119), (5, ov_i v126), (6, ov_i (h 96 349))]) (st2 := [ov_r 90]) (pc2 := 238) b_219_237_1 rfl rfl ?_
                    refine ov_getf (v := ov_r 96) d_219_238 fl_Mo_81 (zb_90 I336) (zs_90 I336) (congrArg ov_r (rg_90_10 I336)) ?_
                    refine ov_blk (ls2 := [(0, ov_r 90), (1, ov_i v5), (2, ov_i v41), (3, ov_i (350 + (4 * ((6 * v41) + v5)))), (4, ov_i v119), (5, ov_i v126), (6, ov_i (h 96 349))]) (st2 := [ov_i (1 + v119), ov_i (350 + (4 * ((6 * v41) + v5))), ov_r 96]) (pc2 := 246) b_219_241_4 rfl rfl ?_
                    refine ov_iast d_219_246 (zb_96 I336) (zs_96 I336) (by omega) ?_
                    have I339 := ua_96 (k := (350 + (4 * ((6 * v41) + v5)))) (x := (1 + v119)) I336 (by refine ⟨?_, ?_, ?_, ?_, ?_, ?_, ?_, ?_, ?_, ?_, ?_, ?_, ?_, ?_, ?_, ?_, ?_, ?_, ?_, ?_, ?_, ?_, ?_, ?_, ?_, ?_, ?_, ?_, ?_⟩ <;> omega)
                    refine ov_blk (ls2 := [(0, ov_r 90), (1, ov_i v5), (2, ov_i v41), (3, ov_i (350 + (4 * ((6 * v41) + v5)))), (4, ov_i v119), (5, ov_i v126), (6, ov_i (h 96 349))]) (st2 := [ov_r 90]) (pc2 := 248) b_219_247_1 rfl rfl ?_
                    refine ov_getf (v := ov_r 96) d_219_248 fl_Mo_81 (zb_90 I339) (zs_90 I339) (congrArg ov_r (rg_90_10 I339)) ?_
                    refine ov_blk (ls2 := [(0, ov_r 90), (1, ov_i v5), (2, ov_i v41), (3, ov_i (350 + (4 * ((6 * v41) + v5)))), (4, ov_i v119), (5, ov_i v126), (6, ov_i (h 96 349))]) (st2 := [ov_i v126, ov_i ((350 + (4 * ((6 * v41) + v5))) + 1), ov_r 96]) (pc2 := 256) b_219_251_4 rfl rfl ?_
                    refine ov_iast d_219_256 (zb_96 I339) (zs_96 I339) (by omega) ?_
                    have I340 := ua_96 (k := ((350 + (4 * ((6 * v41) + v5))) + 1)) (x := v126) I339 (by refine ⟨?_, ?_, ?_, ?_, ?_, ?_, ?_, ?_, ?_, ?_, ?_, ?_, ?_, ?_, ?_, ?_, ?_, ?_, ?_, ?_, ?_, ?_, ?_, ?_, ?_, ?_, ?_, ?_, ?_⟩ <;> omega)
                    have R341 : ov_RD (h 96) (h 97) (h 98) (h 90 13) ((ov_up (ov_up (ov_up h142 96 349 (h 96 349)) 96 (350 + (4 * ((6 * v41) + v5))) (1 + v119)) 96 ((350 + (4 * ((6 * v41) + v5))) + 1) v126) 96) ((ov_up (ov_up (ov_up h142 96 349 (h 96 349)) 96 (350 + (4 * ((6 * v41) + v5))) (1 + v119)) 96 ((350 + (4 * ((6 * v41) + v5))) + 1) v126) 97) ((ov_up (ov_up (ov_up h142 96 349 (h 96 349)) 96 (350 + (4 * ((6 * v41) + v5))) (1 + v119)) 96 ((350 + (4 * ((6 * v41) + v5))) + 1) v126) 98) (h 90 13) := by rw [ov_up_row, ov_up_row]; exact ov_RD_k R338 (t96_348 I336).2 (e := 6 * v41 + v5) (by omega) (by omega) (by omega) (by omega)
                    refine ov_blk (ls2 := [(0, ov_r 90), (1, ov_i v5), (2, ov_i v41), (3, ov_i (350 + (4 * ((6 * v41) + v5)))), (4, ov_i v119), (5, ov_i v126), (6, ov_i (h 96 349))]) (st2 := [ov_r 90]) (pc2 := 258) b_219_257_1 rfl rfl ?_
                    refine ov_getf (v := ov_r 96) d_219_258 fl_Mo_81 (zb_90 I340) (zs_90 I340) (congrArg ov_r (rg_90_10 I340)) ?_
                    refine ov_blk (ls2 := [(0, ov_r 90), (1, ov_i v5), (2, ov_i v41), (3, ov_i (350 + (4 * ((6 * v41) + v5)))), (4, ov_i v119), (5, ov_i v126), (6, ov_i (h 96 349))]) (st2 := [ov_i (v126 - 1), ov_i 0, ov_i 10, ov_r 90, ov_i ((350 + (4 * ((6 * v41) + v5))) + 2), ov_r 96]) (pc2 := 272) b_219_261_9 rfl rfl ?_
                    have cf342 : h142 92 (n) = h 92 (n) := congrFun E144 (n)
                    refine ov_cV (as := [ov_i 10, ov_i 0, ov_i (v126 - 1)]) (st := [ov_i ((350 + (4 * ((6 * v41) + v5))) + 2), ov_r 96]) (d2 := d - 1) d_219_272 lk_Mo_232 rfl (Nat.le_of_ble_eq_true rfl) (c := 1) (zb_90 I340) (zs_90 I340) ⟨by decide, rfl⟩ (by omega) (c_Mo_takeAfter_90 n (d - 1) (by omega) U I340 10 0 (v126 - 1) (by omega) (by omega) (by omega) (by show 0 ≤ n ∧ n ≤ 1000 ∧ (h142 92 (n)) = 0 ∧ (h142 90 7) ≤ n; omega) (by omega)) ?_
                    rintro _ z359 h360 ⟨v344, rfl, I361, f343, e345, e346, e347, e348, e349, e350, e351, e352, e353, e354, e355, e356, e357, e358⟩
                    have E362 : h360 92 = h 92 := Eq.trans e345 E144
                    have E363 : h360 93 = h 93 := Eq.trans e346 E145
                    have E364 : h360 94 = h 94 := Eq.trans e347 E146
                    have E365 : h360 95 = h 95 := Eq.trans e348 E147
                    have E366 : h360 97 = h 97 := Eq.trans e350 E149
                    have E367 : h360 98 = h 98 := Eq.trans e351 E150
                    have E368 : h360 99 = h 99 := Eq.trans e352 E151
                    have E369 : h360 100 = h 100 := Eq.trans e353 E152
                    have E370 : h360 103 = h 103 := Eq.trans e354 E153
                    have E371 : h360 105 = h 105 := Eq.trans e355 E154
                    have E372 : h360 106 = h 106 := Eq.trans e356 E155
                    have E373 : h360 109 = h 109 := Eq.trans e357 E156
                    have E374 : h360 114 = h 114 := Eq.trans e358 E157
                    show ov_R u d ov_m219 275 [(0, ov_r 90), (1, ov_i v5), (2, ov_i v41), (3, ov_i (350 + (4 * ((6 * v41) + v5)))), (4, ov_i v119), (5, ov_i v126), (6, ov_i (h 96 349))] [ov_i v344, ov_i ((350 + (4 * ((6 * v41) + v5))) + 2), ov_r 96] z359 h360 (P_Mo_readLight_90 F z h n)
                    have f375 : (h360 90 2) = (h142 90 2) ∧ (h360 90 13) = (h142 90 13) ∧ (h360 90 20) = (h142 90 20) ∧ (h360 90 22) = (h142 90 22) ∧ (h360 90 25) = (h142 90 25) ∧ (h360 90 26) = (h142 90 26) ∧ (h360 90 28) = (h142 90 28) ∧ (h360 90 29) = (h142 90 29) ∧ (h360 90 30) = (h142 90 30) ∧ (h360 90 34) = (h142 90 34) ∧ (h142 90 7) ≤ (h360 90 7) ∧ (h360 90 7) ≤ n ∧ (h142 90 8) ≤ (h360 90 8) ∧ ((h360 90 8) = 0 → (0 : Int) ≤ v344 ∧ v344 ≤ (v126 - 1)) ∧ (0 < (h360 90 8) → v344 = 0) := f343
                    clear f343
                    have R376 : ov_RD (h 96) (h 97) (h 98) (h 90 13) (h360 96) (h360 97) (h360 98) (h 90 13) := by rw [e349, e350, e351]; exact R341
                    have lt377 : ((ov_up (ov_up (ov_up h142 96 349 (h 96 349)) 96 (350 + (4 * ((6 * v41) + v5))) (1 + v119)) 96 ((350 + (4 * ((6 * v41) + v5))) + 1) v126) 96 340) = h142 96 340 := by rw [ov_up_j (by omega)]; rw [ov_up_j (by omega)]; rw [ov_up_j (by omega)]
                    have lt378 : h142 96 340 = h 96 340 := congrFun E148 340
                    have lt379 : ((ov_up (ov_up (ov_up h142 96 349 (h 96 349)) 96 (350 + (4 * ((6 * v41) + v5))) (1 + v119)) 96 ((350 + (4 * ((6 * v41) + v5))) + 1) v126) 96 341) = h142 96 341 := by rw [ov_up_j (by omega)]; rw [ov_up_j (by omega)]; rw [ov_up_j (by omega)]
                    have lt380 : h142 96 341 = h 96 341 := congrFun E148 341
                    have lt381 : ((ov_up (ov_up (ov_up h142 96 349 (h 96 349)) 96 (350 + (4 * ((6 * v41) + v5))) (1 + v119)) 96 ((350 + (4 * ((6 * v41) + v5))) + 1) v126) 96 342) = h142 96 342 := by rw [ov_up_j (by omega)]; rw [ov_up_j (by omega)]; rw [ov_up_j (by omega)]
                    have lt382 : h142 96 342 = h 96 342 := congrFun E148 342
                    have lt383 : ((ov_up (ov_up (ov_up h142 96 349 (h 96 349)) 96 (350 + (4 * ((6 * v41) + v5))) (1 + v119)) 96 ((350 + (4 * ((6 * v41) + v5))) + 1) v126) 96 348) = h142 96 348 := by rw [ov_up_j (by omega)]; rw [ov_up_j (by omega)]; rw [ov_up_j (by omega)]
                    have lt384 : h142 96 348 = h 96 348 := congrFun E148 348
                    have lt385 : ((ov_up (ov_up (ov_up h142 96 349 (h 96 349)) 96 (350 + (4 * ((6 * v41) + v5))) (1 + v119)) 96 ((350 + (4 * ((6 * v41) + v5))) + 1) v126) 96 349) = (h 96 349) := by rw [ov_up_j (by omega)]; rw [ov_up_j (by omega)]; rw [ov_up_row, ov_rs_eq]
                    have lt386 : h142 96 349 = h 96 349 := congrFun E148 349
                    have lt387 : h360 96 340 = ((ov_up (ov_up (ov_up h142 96 349 (h 96 349)) 96 (350 + (4 * ((6 * v41) + v5))) (1 + v119)) 96 ((350 + (4 * ((6 * v41) + v5))) + 1) v126) 96 340) := congrFun e349 340
                    have lt388 : h360 96 341 = ((ov_up (ov_up (ov_up h142 96 349 (h 96 349)) 96 (350 + (4 * ((6 * v41) + v5))) (1 + v119)) 96 ((350 + (4 * ((6 * v41) + v5))) + 1) v126) 96 341) := congrFun e349 341
                    have lt389 : h360 96 342 = ((ov_up (ov_up (ov_up h142 96 349 (h 96 349)) 96 (350 + (4 * ((6 * v41) + v5))) (1 + v119)) 96 ((350 + (4 * ((6 * v41) + v5))) + 1) v126) 96 342) := congrFun e349 342
                    have lt390 : h360 96 348 = ((ov_up (ov_up (ov_up h142 96 349 (h 96 349)) 96 (350 + (4 * ((6 * v41) + v5))) (1 + v119)) 96 ((350 + (4 * ((6 * v41) + v5))) + 1) v126) 96 348) := congrFun e349 348
                    have lt391 : h360 96 349 = ((ov_up (ov_up (ov_up h142 96 349 (h 96 349)) 96 (350 + (4 * ((6 * v41) + v5))) (1 + v119)) 96 ((350 + (4 * ((6 * v41) + v5))) + 1) v126) 96 349) := congrFun e349 349
                    refine ov_iast d_219_275 (zb_96 I361) (zs_96 I361) (by omega) ?_
                    have I392 := ua_96 (k := ((350 + (4 * ((6 * v41) + v5))) + 2)) (x := v344) I361 (by refine ⟨?_, ?_, ?_, ?_, ?_, ?_, ?_, ?_, ?_, ?_, ?_, ?_, ?_, ?_, ?_, ?_, ?_, ?_, ?_, ?_, ?_, ?_, ?_, ?_, ?_, ?_, ?_, ?_, ?_⟩ <;> omega)
                    have R393 : ov_RD (h 96) (h 97) (h 98) (h 90 13) ((ov_up h360 96 ((350 + (4 * ((6 * v41) + v5))) + 2) v344) 96) ((ov_up h360 96 ((350 + (4 * ((6 * v41) + v5))) + 2) v344) 97) ((ov_up h360 96 ((350 + (4 * ((6 * v41) + v5))) + 2) v344) 98) (h 90 13) := by rw [ov_up_row]; exact ov_RD_l R376 (t96_348 I361).2 (e := 6 * v41 + v5) (i := 2) (by omega) (Or.inl rfl) (by omega)
                    refine ov_blk (ls2 := [(0, ov_r 90), (1, ov_i v5), (2, ov_i v41), (3, ov_i (350 + (4 * ((6 * v41) + v5)))), (4, ov_i v119), (5, ov_i v126), (6, ov_i (h 96 349))]) (st2 := [ov_r 90]) (pc2 := 277) b_219_276_1 rfl rfl ?_
                    refine ov_getf (v := ov_r 96) d_219_277 fl_Mo_81 (zb_90 I392) (zs_90 I392) (congrArg ov_r (rg_90_10 I392)) ?_
                    refine ov_blk (ls2 := [(0, ov_r 90), (1, ov_i v5), (2, ov_i v41), (3, ov_i (350 + (4 * ((6 * v41) + v5)))), (4, ov_i v119), (5, ov_i v126), (6, ov_i (h 96 349))]) (st2 := [ov_i v126, ov_i 0, ov_i 12, ov_r 90, ov_i ((350 + (4 * ((6 * v41) + v5))) + 3), ov_r 96]) (pc2 := 289) b_219_280_7 rfl rfl ?_
                    have cf394 : h360 92 (n) = h 92 (n) := congrFun E362 (n)
                    refine ov_cV (as := [ov_i 12, ov_i 0, ov_i v126]) (st := [ov_i ((350 + (4 * ((6 * v41) + v5))) + 3), ov_r 96]) (d2 := d - 1) d_219_289 lk_Mo_232 rfl (Nat.le_of_ble_eq_true rfl) (c := 1) (zb_90 I392) (zs_90 I392) ⟨by decide, rfl⟩ (by omega) (c_Mo_takeAfter_90 n (d - 1) (by omega) U I392 12 0 v126 (by omega) (by omega) (by omega) (by show 0 ≤ n ∧ n ≤ 1000 ∧ (h360 92 (n)) = 0 ∧ (h360 90 7) ≤ n; omega) (by omega)) ?_
                    rintro _ z411 h412 ⟨v396, rfl, I413, f395, e397, e398, e399, e400, e401, e402, e403, e404, e405, e406, e407, e408, e409, e410⟩
                    have E414 : h412 92 = h 92 := Eq.trans e397 E362
                    have E415 : h412 93 = h 93 := Eq.trans e398 E363
                    have E416 : h412 94 = h 94 := Eq.trans e399 E364
                    have E417 : h412 95 = h 95 := Eq.trans e400 E365
                    have E418 : h412 97 = h 97 := Eq.trans e402 E366
                    have E419 : h412 98 = h 98 := Eq.trans e403 E367
                    have E420 : h412 99 = h 99 := Eq.trans e404 E368
                    have E421 : h412 100 = h 100 := Eq.trans e405 E369
                    have E422 : h412 103 = h 103 := Eq.trans e406 E370
                    have E423 : h412 105 = h 105 := Eq.trans e407 E371
                    have E424 : h412 106 = h 106 := Eq.trans e408 E372
                    have E425 : h412 109 = h 109 := Eq.trans e409 E373
                    have E426 : h412 114 = h 114 := Eq.trans e410 E374
                    show ov_R u d ov_m219 292 [(0, ov_r 90), (1, ov_i v5), (2, ov_i v41), (3, ov_i (350 + (4 * ((6 * v41) + v5)))), (4, ov_i v119), (5, ov_i v126), (6, ov_i (h 96 349))] [ov_i v396, ov_i ((350 + (4 * ((6 * v41) + v5))) + 3), ov_r 96] z411 h412 (P_Mo_readLight_90 F z h n)
                    have f427 : (h412 90 2) = (h360 90 2) ∧ (h412 90 13) = (h360 90 13) ∧ (h412 90 20) = (h360 90 20) ∧ (h412 90 22) = (h360 90 22) ∧ (h412 90 25) = (h360 90 25) ∧ (h412 90 26) = (h360 90 26) ∧ (h412 90 28) = (h360 90 28) ∧ (h412 90 29) = (h360 90 29) ∧ (h412 90 30) = (h360 90 30) ∧ (h412 90 34) = (h360 90 34) ∧ (h360 90 7) ≤ (h412 90 7) ∧ (h412 90 7) ≤ n ∧ (h360 90 8) ≤ (h412 90 8) ∧ ((h412 90 8) = 0 → (0 : Int) ≤ v396 ∧ v396 ≤ v126) ∧ (0 < (h412 90 8) → v396 = 0) := f395
                    clear f395
                    have R428 : ov_RD (h 96) (h 97) (h 98) (h 90 13) (h412 96) (h412 97) (h412 98) (h 90 13) := by rw [e401, e402, e403]; exact R393
                    have lt429 : ((ov_up h360 96 ((350 + (4 * ((6 * v41) + v5))) + 2) v344) 96 340) = h360 96 340 := by rw [ov_up_j (by omega)]
                    have lt430 : ((ov_up h360 96 ((350 + (4 * ((6 * v41) + v5))) + 2) v344) 96 341) = h360 96 341 := by rw [ov_up_j (by omega)]
                    have lt431 : ((ov_up h360 96 ((350 + (4 * ((6 * v41) + v5))) + 2) v344) 96 342) = h360 96 342 := by rw [ov_up_j (by omega)]
                    have lt432 : ((ov_up h360 96 ((350 + (4 * ((6 * v41) + v5))) + 2) v344) 96 348) = h360 96 348 := by rw [ov_up_j (by omega)]
                    have lt433 : ((ov_up h360 96 ((350 + (4 * ((6 * v41) + v5))) + 2) v344) 96 349) = h360 96 349 := by rw [ov_up_j (by omega)]
                    have lt434 : h412 96 340 = ((ov_up h360 96 ((350 + (4 * ((6 * v41) + v5))) + 2) v344) 96 340) := congrFun e401 340
                    have lt435 : h412 96 341 = ((ov_up h360 96 ((350 + (4 * ((6 * v41) + v5))) + 2) v344) 96 341) := congrFun e401 341
                    have lt436 : h412 96 342 = ((ov_up h360 96 ((350 + (4 * ((6 * v41) + v5))) + 2) v344) 96 342) := congrFun e401 342
                    have lt437 : h412 96 348 = ((ov_up h360 96 ((350 + (4 * ((6 * v41) + v5))) + 2) v344) 96 348) := congrFun e401 348
                    have lt438 : h412 96 349 = ((ov_up h360 96 ((350 + (4 * ((6 * v41) + v5))) + 2) v344) 96 349) := congrFun e401 349
                    refine ov_iast d_219_292 (zb_96 I413) (zs_96 I413) (by omega) ?_
                    have I439 := ua_96 (k := ((350 + (4 * ((6 * v41) + v5))) + 3)) (x := v396) I413 (by refine ⟨?_, ?_, ?_, ?_, ?_, ?_, ?_, ?_, ?_, ?_, ?_, ?_, ?_, ?_, ?_, ?_, ?_, ?_, ?_, ?_, ?_, ?_, ?_, ?_, ?_, ?_, ?_, ?_, ?_⟩ <;> omega)
                    have R440 : ov_RD (h 96) (h 97) (h 98) (h 90 13) ((ov_up h412 96 ((350 + (4 * ((6 * v41) + v5))) + 3) v396) 96) ((ov_up h412 96 ((350 + (4 * ((6 * v41) + v5))) + 3) v396) 97) ((ov_up h412 96 ((350 + (4 * ((6 * v41) + v5))) + 3) v396) 98) (h 90 13) := by rw [ov_up_row]; exact ov_RD_l R428 (t96_348 I413).2 (e := 6 * v41 + v5) (i := 3) (by omega) (Or.inr rfl) (by omega)
                    refine ov_blk (ls2 := [(0, ov_r 90), (1, ov_i v5), (2, ov_i v41), (3, ov_i (350 + (4 * ((6 * v41) + v5)))), (4, ov_i v119), (5, ov_i v126), (6, ov_i (h 96 349))]) (st2 := [ov_r 90]) (pc2 := 294) b_219_293_1 rfl rfl ?_
                    refine ov_getf (v := ov_r 96) d_219_294 fl_Mo_81 (zb_90 I439) (zs_90 I439) (congrArg ov_r (rg_90_10 I439)) ?_
                    refine ov_blk (ls2 := [(0, ov_r 90), (1, ov_i v5), (2, ov_i v41), (3, ov_i (350 + (4 * ((6 * v41) + v5)))), (4, ov_i v119), (5, ov_i v126), (6, ov_i (h 96 349))]) (st2 := [ov_i 347, ov_r 96, ov_i 347, ov_r 96]) (pc2 := 301) b_219_297_2 rfl rfl ?_
                    refine ov_iald d_219_301 (zb_96 I439) (zs_96 I439) (by omega) ?_
                    show ov_R u d ov_m219 302 [(0, ov_r 90), (1, ov_i v5), (2, ov_i v41), (3, ov_i (350 + (4 * ((6 * v41) + v5)))), (4, ov_i v119), (5, ov_i v126), (6, ov_i (h 96 349))] [ov_i ((ov_up h412 96 ((350 + (4 * ((6 * v41) + v5))) + 3) v396) 96 347), ov_i 347, ov_r 96] z411 (ov_up h412 96 ((350 + (4 * ((6 * v41) + v5))) + 3) v396) (P_Mo_readLight_90 F z h n)
                    refine ov_blk (ls2 := [(0, ov_r 90), (1, ov_i v5), (2, ov_i v41), (3, ov_i (350 + (4 * ((6 * v41) + v5)))), (4, ov_i v119), (5, ov_i v126), (6, ov_i (h 96 349))]) (st2 := [ov_i (((ov_up h412 96 ((350 + (4 * ((6 * v41) + v5))) + 3) v396) 96 347) + 1), ov_i 347, ov_r 96]) (pc2 := 304) b_219_302_2 rfl rfl ?_
                    refine ov_havw (fun w441 gw441 qw441 => ?_)
                    refine ov_iast d_219_304 (zb_96 I439) (zs_96 I439) (by omega) ?_
                    have I442 := ua_96 (k := 347) (x := w441) I439 (by refine ⟨?_, ?_, ?_, ?_, ?_, ?_, ?_, ?_, ?_, ?_, ?_, ?_, ?_, ?_, ?_, ?_, ?_, ?_, ?_, ?_, ?_, ?_, ?_, ?_, ?_, ?_, ?_, ?_, ?_⟩ <;> omega)
                    have R443 : ov_RD (h 96) (h 97) (h 98) (h 90 13) ((ov_up (ov_up h412 96 ((350 + (4 * ((6 * v41) + v5))) + 3) v396) 96 347 w441) 96) ((ov_up (ov_up h412 96 ((350 + (4 * ((6 * v41) + v5))) + 3) v396) 96 347 w441) 97) ((ov_up (ov_up h412 96 ((350 + (4 * ((6 * v41) + v5))) + 3) v396) 96 347 w441) 98) (h 90 13) := by rw [ov_up_row]; exact ov_RD_w R440 (t96_348 I439).2 (by omega)
                    have lt444 : ((ov_up h412 96 ((350 + (4 * ((6 * v41) + v5))) + 3) v396) 96 340) = h412 96 340 := by rw [ov_up_j (by omega)]; rw [ov_up_j (by omega)]
                    have lt445 : ((ov_up h412 96 ((350 + (4 * ((6 * v41) + v5))) + 3) v396) 96 341) = h412 96 341 := by rw [ov_up_j (by omega)]; rw [ov_up_j (by omega)]
                    have lt446 : ((ov_up h412 96 ((350 + (4 * ((6 * v41) + v5))) + 3) v396) 96 342) = h412 96 342 := by rw [ov_up_j (by omega)]; rw [ov_up_j (by omega)]
                    have lt447 : ((ov_up h412 96 ((350 + (4 * ((6 * v41) + v5))) + 3) v396) 96 348) = h412 96 348 := by rw [ov_up_j (by omega)]; rw [ov_up_j (by omega)]
                    have lt448 : ((ov_up h412 96 ((350 + (4 * ((6 * v41) + v5))) + 3) v396) 96 349) = h412 96 349 := by rw [ov_up_j (by omega)]; rw [ov_up_j (by omega)]
                    exact ov_retv (st := []) d_219_305 rfl ⟨rfl, I442, (by show (h412 90 2) = (h 90 2) ∧ (h412 90 13) = (h 90 13) ∧ (h412 90 20) = (h 90 20) ∧ (h412 90 22) = (h 90 22) ∧ (h412 90 25) = (h 90 25) ∧ (h412 90 26) = (h 90 26) ∧ (h412 90 28) = (h 90 28) ∧ (h412 90 29) = (h 90 29) ∧ (h412 90 30) = (h 90 30) ∧ (h412 90 34) = (h 90 34) ∧ (h 90 7) ≤ (h412 90 7) ∧ (h412 90 7) ≤ n ∧ (h 90 13) ≤ (h412 90 13) ∧ (h412 90 13) - (h 90 13) ≤ (h412 90 7) - (h 90 7) ∧ ((ov_up h412 96 ((350 + (4 * ((6 * v41) + v5))) + 3) v396) 96 340) = (h 96 340) ∧ ((ov_up h412 96 ((350 + (4 * ((6 * v41) + v5))) + 3) v396) 96 341) = (h 96 341) ∧ ((h412 90 8) = 0 → 1 ≤ (h 96 342) → 1 ≤ ((ov_up h412 96 ((350 + (4 * ((6 * v41) + v5))) + 3) v396) 96 342)) ∧ (1 ≤ (h 96 349) → 1 ≤ ((ov_up h412 96 ((350 + (4 * ((6 * v41) + v5))) + 3) v396) 96 349)); omega), E414, E415, E416, E417, E418, E419, E420, E421, E422, E423, E424, E425, E426, R443.1, R443.2.1, (fun _ w => by show ov_CS ((ov_up (ov_up h412 96 ((350 + (4 * ((6 * v41) + v5))) + 3) v396) 96 347 w441) 96) ((ov_up (ov_up h412 96 ((350 + (4 * ((6 * v41) + v5))) + 3) v396) 96 347 w441) 97) ((ov_up (ov_up h412 96 ((350 + (4 * ((6 * v41) + v5))) + 3) v396) 96 347 w441) 98) (h412 90 13); rw [show (h412 90 13) = h 90 13 by omega]; exact R443.2.2 w)⟩
                  · omega
                · skip
                  refine ov_blk (ls2 := [(0, ov_r 90), (1, ov_i v5), (2, ov_i v41), (3, ov_i (350 + (4 * ((6 * v41) + v5)))), (4, ov_i v119), (5, ov_i v126), (6, ov_i (h 96 349))]) (st2 := [ov_r 90, ov_r 90]) (pc2 := 206) b_219_204_2 rfl rfl ?_
                  refine ov_getf (v := ov_i (h142 90 7)) d_219_206 fl_Mo_177 (zb_90 I143) (zs_90 I143) rfl ?_
                  have g449 := rg_90_7 I143
                  refine ov_blk (ls2 := [(0, ov_r 90), (1, ov_i v5), (2, ov_i v41), (3, ov_i (350 + (4 * ((6 * v41) + v5)))), (4, ov_i v119), (5, ov_i v126), (6, ov_i (h 96 349))]) (st2 := [ov_i ((h142 90 7) - 1), ov_r 90]) (pc2 := 211) b_219_209_2 rfl rfl ?_
                  refine ov_putf (x := ((h142 90 7) - 1)) d_219_211 fl_Mo_177 (zb_90 I143) (zs_90 I143) rfl nk_0 rfl ?_
                  have I450 := up_90_7 (x := ((h142 90 7) - 1)) I143 (by omega)
                  refine ov_blk (ls2 := [(0, ov_r 90), (1, ov_i v5), (2, ov_i v41), (3, ov_i (350 + (4 * ((6 * v41) + v5)))), (4, ov_i v119), (5, ov_i v126), (6, ov_i (h 96 349))]) (st2 := [ov_i 4, ov_r 90]) (pc2 := 216) b_219_214_2 rfl rfl ?_
                  refine ov_cV (as := [ov_i 4]) (st := []) (d2 := d - 1) d_219_216 lk_Mo_186 rfl (Nat.le_of_ble_eq_true rfl) (c := 1) (zb_90 I450) (zs_90 I450) ⟨by decide, rfl⟩ (by omega) (c_Mo_wrong_90 (d - 1) (by omega) U I450 4 (by omega) (by omega)) ?_
                  rintro _ z466 h467 ⟨rfl, I468, f451, e452, e453, e454, e455, e456, e457, e458, e459, e460, e461, e462, e463, e464, e465⟩
                  have E469 : h467 92 = h 92 := Eq.trans e452 E144
                  have E470 : h467 93 = h 93 := Eq.trans e453 E145
                  have E471 : h467 94 = h 94 := Eq.trans e454 E146
                  have E472 : h467 95 = h 95 := Eq.trans e455 E147
                  have E473 : h467 96 = h 96 := Eq.trans e456 E148
                  have E474 : h467 97 = h 97 := Eq.trans e457 E149
                  have E475 : h467 98 = h 98 := Eq.trans e458 E150
                  have E476 : h467 99 = h 99 := Eq.trans e459 E151
                  have E477 : h467 100 = h 100 := Eq.trans e460 E152
                  have E478 : h467 103 = h 103 := Eq.trans e461 E153
                  have E479 : h467 105 = h 105 := Eq.trans e462 E154
                  have E480 : h467 106 = h 106 := Eq.trans e463 E155
                  have E481 : h467 109 = h 109 := Eq.trans e464 E156
                  have E482 : h467 114 = h 114 := Eq.trans e465 E157
                  show ov_R u d ov_m219 219 [(0, ov_r 90), (1, ov_i v5), (2, ov_i v41), (3, ov_i (350 + (4 * ((6 * v41) + v5)))), (4, ov_i v119), (5, ov_i v126), (6, ov_i (h 96 349))] [] z466 h467 (P_Mo_readLight_90 F z h n)
                  have f483 : (h467 90 2) = (h142 90 2) ∧ (h467 90 7) = ((h142 90 7) - 1) ∧ (h467 90 13) = (h142 90 13) ∧ (h467 90 20) = (h142 90 20) ∧ (h467 90 22) = (h142 90 22) ∧ (h467 90 25) = (h142 90 25) ∧ (h467 90 26) = (h142 90 26) ∧ (h467 90 28) = (h142 90 28) ∧ (h467 90 29) = (h142 90 29) ∧ (h467 90 30) = (h142 90 30) ∧ (h467 90 34) = (h142 90 34) ∧ 0 < (h467 90 8) ∧ (h142 90 8) ≤ (h467 90 8) := f451
                  clear f451
                  refine ov_blk (ls2 := [(0, ov_r 90), (1, ov_i v5), (2, ov_i v41), (3, ov_i (350 + (4 * ((6 * v41) + v5)))), (4, ov_i v119), (5, ov_i v126), (6, ov_i (h 96 349))]) (st2 := [ov_r 90]) (pc2 := 220) b_219_219_1 rfl rfl ?_
                  refine ov_getf (v := ov_i (h467 90 8)) d_219_220 fl_Mo_180 (zb_90 I468) (zs_90 I468) rfl ?_
                  have g484 := rg_90_8 I468
                  refine ov_ifle (tgt := 227) d_219_223 (by decide) (by omega) (fun c485 => ?_) (fun c485 => ?_)
                  · omega
                  · skip
                    have R486 : ov_RD (h 96) (h 97) (h 98) (h 90 13) (h467 96) (h467 97) (h467 98) (h 90 13) := by rw [show h467 96 = h 96 from E473, show h467 97 = h 97 from E474, show h467 98 = h 98 from E475]; exact ov_RD_refl _ _ _ _
                    exact ov_retv (st := []) d_219_226 rfl ⟨rfl, I468, (by show (h467 90 2) = (h 90 2) ∧ (h467 90 13) = (h 90 13) ∧ (h467 90 20) = (h 90 20) ∧ (h467 90 22) = (h 90 22) ∧ (h467 90 25) = (h 90 25) ∧ (h467 90 26) = (h 90 26) ∧ (h467 90 28) = (h 90 28) ∧ (h467 90 29) = (h 90 29) ∧ (h467 90 30) = (h 90 30) ∧ (h467 90 34) = (h 90 34) ∧ (h 90 7) ≤ (h467 90 7) ∧ (h467 90 7) ≤ n ∧ (h 90 13) ≤ (h467 90 13) ∧ (h467 90 13) - (h 90 13) ≤ (h467 90 7) - (h 90 7) ∧ (h 96 340) = (h 96 340) ∧ (h 96 341) = (h 96 341) ∧ ((h467 90 8) = 0 → 1 ≤ (h 96 342) → 1 ≤ (h 96 342)) ∧ (1 ≤ (h 96 349) → 1 ≤ (h 96 349)); omega), E469, E470, E471, E472, E474, E475, E476, E477, E478, E479, E480, E481, E482, R486.1, R486.2.1, (fun _ w => by show ov_CS (h467 96) (h467 97) (h467 98) (h467 90 13); rw [show (h467 90 13) = h 90 13 by omega]; exact R486.2.2 w)⟩
        · skip
          refine ov_blk (ls2 := [(0, ov_r 90), (1, ov_i v5), (2, ov_i v41), (3, ov_i (350 + (4 * ((6 * v41) + v5)))), (4, ov_i v119)]) (st2 := [ov_i 1, ov_r 90]) (pc2 := 113) b_219_111_2 rfl rfl ?_
          refine ov_cV (as := [ov_i 1]) (st := []) (d2 := d - 1) d_219_113 lk_Mo_186 rfl (Nat.le_of_ble_eq_true rfl) (c := 1) (zb_90 I58) (zs_90 I58) ⟨by decide, rfl⟩ (by omega) (c_Mo_wrong_90 (d - 1) (by omega) U I58 1 (by omega) (by omega)) ?_
          rintro _ z502 h503 ⟨rfl, I504, f487, e488, e489, e490, e491, e492, e493, e494, e495, e496, e497, e498, e499, e500, e501⟩
          have E505 : h503 92 = h 92 := Eq.trans e488 E59
          have E506 : h503 93 = h 93 := Eq.trans e489 E60
          have E507 : h503 94 = h 94 := Eq.trans e490 E61
          have E508 : h503 95 = h 95 := Eq.trans e491 E62
          have E509 : h503 96 = h 96 := Eq.trans e492 E63
          have E510 : h503 97 = h 97 := Eq.trans e493 E64
          have E511 : h503 98 = h 98 := Eq.trans e494 E65
          have E512 : h503 99 = h 99 := Eq.trans e495 E66
          have E513 : h503 100 = h 100 := Eq.trans e496 E67
          have E514 : h503 103 = h 103 := Eq.trans e497 E68
          have E515 : h503 105 = h 105 := Eq.trans e498 E69
          have E516 : h503 106 = h 106 := Eq.trans e499 E70
          have E517 : h503 109 = h 109 := Eq.trans e500 E71
          have E518 : h503 114 = h 114 := Eq.trans e501 E72
          show ov_R u d ov_m219 116 [(0, ov_r 90), (1, ov_i v5), (2, ov_i v41), (3, ov_i (350 + (4 * ((6 * v41) + v5)))), (4, ov_i v119)] [] z502 h503 (P_Mo_readLight_90 F z h n)
          have f519 : (h503 90 2) = (h57 90 2) ∧ (h503 90 7) = (h57 90 7) ∧ (h503 90 13) = (h57 90 13) ∧ (h503 90 20) = (h57 90 20) ∧ (h503 90 22) = (h57 90 22) ∧ (h503 90 25) = (h57 90 25) ∧ (h503 90 26) = (h57 90 26) ∧ (h503 90 28) = (h57 90 28) ∧ (h503 90 29) = (h57 90 29) ∧ (h503 90 30) = (h57 90 30) ∧ (h503 90 34) = (h57 90 34) ∧ 0 < (h503 90 8) ∧ (h57 90 8) ≤ (h503 90 8) := f487
          clear f487
          have R520 : ov_RD (h 96) (h 97) (h 98) (h 90 13) (h503 96) (h503 97) (h503 98) (h 90 13) := by rw [show h503 96 = h 96 from E509, show h503 97 = h 97 from E510, show h503 98 = h 98 from E511]; exact ov_RD_refl _ _ _ _
          exact ov_retv (st := []) d_219_116 rfl ⟨rfl, I504, (by show (h503 90 2) = (h 90 2) ∧ (h503 90 13) = (h 90 13) ∧ (h503 90 20) = (h 90 20) ∧ (h503 90 22) = (h 90 22) ∧ (h503 90 25) = (h 90 25) ∧ (h503 90 26) = (h 90 26) ∧ (h503 90 28) = (h 90 28) ∧ (h503 90 29) = (h 90 29) ∧ (h503 90 30) = (h 90 30) ∧ (h503 90 34) = (h 90 34) ∧ (h 90 7) ≤ (h503 90 7) ∧ (h503 90 7) ≤ n ∧ (h 90 13) ≤ (h503 90 13) ∧ (h503 90 13) - (h 90 13) ≤ (h503 90 7) - (h 90 7) ∧ (h 96 340) = (h 96 340) ∧ (h 96 341) = (h 96 341) ∧ ((h503 90 8) = 0 → 1 ≤ (h 96 342) → 1 ≤ (h 96 342)) ∧ (1 ≤ (h 96 349) → 1 ≤ (h 96 349)); omega), E505, E506, E507, E508, E510, E511, E512, E513, E514, E515, E516, E517, E518, R520.1, R520.2.1, (fun _ w => by show ov_CS (h503 96) (h503 97) (h503 98) (h503 90 13); rw [show (h503 90 13) = h 90 13 by omega]; exact R520.2.2 w)⟩
      · omega
    · skip
      refine ov_blk (ls2 := [(0, ov_r 90), (1, ov_i v5), (2, ov_i v41), (3, ov_i (350 + (4 * ((6 * v41) + v5))))]) (st2 := [ov_r 90, ov_r 90]) (pc2 := 73) b_219_71_2 rfl rfl ?_
      refine ov_getf (v := ov_i (h57 90 7)) d_219_73 fl_Mo_177 (zb_90 I58) (zs_90 I58) rfl ?_
      have g521 := rg_90_7 I58
      refine ov_blk (ls2 := [(0, ov_r 90), (1, ov_i v5), (2, ov_i v41), (3, ov_i (350 + (4 * ((6 * v41) + v5))))]) (st2 := [ov_i ((h57 90 7) - 1), ov_r 90]) (pc2 := 78) b_219_76_2 rfl rfl ?_
      refine ov_putf (x := ((h57 90 7) - 1)) d_219_78 fl_Mo_177 (zb_90 I58) (zs_90 I58) rfl nk_0 rfl ?_
      have I522 := up_90_7 (x := ((h57 90 7) - 1)) I58 (by omega)
      refine ov_blk (ls2 := [(0, ov_r 90), (1, ov_i v5), (2, ov_i v41), (3, ov_i (350 + (4 * ((6 * v41) + v5))))]) (st2 := [ov_i 3, ov_r 90]) (pc2 := 83) b_219_81_2 rfl rfl ?_
      refine ov_cV (as := [ov_i 3]) (st := []) (d2 := d - 1) d_219_83 lk_Mo_186 rfl (Nat.le_of_ble_eq_true rfl) (c := 1) (zb_90 I522) (zs_90 I522) ⟨by decide, rfl⟩ (by omega) (c_Mo_wrong_90 (d - 1) (by omega) U I522 3 (by omega) (by omega)) ?_
      rintro _ z538 h539 ⟨rfl, I540, f523, e524, e525, e526, e527, e528, e529, e530, e531, e532, e533, e534, e535, e536, e537⟩
      have E541 : h539 92 = h 92 := Eq.trans e524 E59
      have E542 : h539 93 = h 93 := Eq.trans e525 E60
      have E543 : h539 94 = h 94 := Eq.trans e526 E61
      have E544 : h539 95 = h 95 := Eq.trans e527 E62
      have E545 : h539 96 = h 96 := Eq.trans e528 E63
      have E546 : h539 97 = h 97 := Eq.trans e529 E64
      have E547 : h539 98 = h 98 := Eq.trans e530 E65
      have E548 : h539 99 = h 99 := Eq.trans e531 E66
      have E549 : h539 100 = h 100 := Eq.trans e532 E67
      have E550 : h539 103 = h 103 := Eq.trans e533 E68
      have E551 : h539 105 = h 105 := Eq.trans e534 E69
      have E552 : h539 106 = h 106 := Eq.trans e535 E70
      have E553 : h539 109 = h 109 := Eq.trans e536 E71
      have E554 : h539 114 = h 114 := Eq.trans e537 E72
      show ov_R u d ov_m219 86 [(0, ov_r 90), (1, ov_i v5), (2, ov_i v41), (3, ov_i (350 + (4 * ((6 * v41) + v5))))] [] z538 h539 (P_Mo_readLight_90 F z h n)
      have f555 : (h539 90 2) = (h57 90 2) ∧ (h539 90 7) = ((h57 90 7) - 1) ∧ (h539 90 13) = (h57 90 13) ∧ (h539 90 20) = (h57 90 20) ∧ (h539 90 22) = (h57 90 22) ∧ (h539 90 25) = (h57 90 25) ∧ (h539 90 26) = (h57 90 26) ∧ (h539 90 28) = (h57 90 28) ∧ (h539 90 29) = (h57 90 29) ∧ (h539 90 30) = (h57 90 30) ∧ (h539 90 34) = (h57 90 34) ∧ 0 < (h539 90 8) ∧ (h57 90 8) ≤ (h539 90 8) := f523
      clear f523
      refine ov_blk (ls2 := [(0, ov_r 90), (1, ov_i v5), (2, ov_i v41), (3, ov_i (350 + (4 * ((6 * v41) + v5))))]) (st2 := [ov_r 90]) (pc2 := 87) b_219_86_1 rfl rfl ?_
      refine ov_getf (v := ov_i (h539 90 8)) d_219_87 fl_Mo_180 (zb_90 I540) (zs_90 I540) rfl ?_
      have g556 := rg_90_8 I540
      refine ov_ifle (tgt := 97) d_219_90 (by decide) (by omega) (fun c557 => ?_) (fun c557 => ?_)
      · omega
      · skip
        refine ov_blk (ls2 := [(0, ov_r 90), (1, ov_i v5), (2, ov_i v41), (3, ov_i (350 + (4 * ((6 * v41) + v5))))]) (st2 := [ov_i (-1)]) (pc2 := 94) b_219_93_1 rfl rfl ?_
        refine ov_goto (tgt := 104) d_219_94 (by decide) ?_
        refine ov_blk (ls2 := [(0, ov_r 90), (1, ov_i v5), (2, ov_i v41), (3, ov_i (350 + (4 * ((6 * v41) + v5)))), (4, ov_i (-1))]) (st2 := [ov_i (-1)]) (pc2 := 108) b_219_104_2 rfl rfl ?_
        refine ov_ifge (tgt := 117) d_219_108 (by decide) (by omega) (fun c558 => ?_) (fun c558 => ?_)
        · omega
        · skip
          refine ov_blk (ls2 := [(0, ov_r 90), (1, ov_i v5), (2, ov_i v41), (3, ov_i (350 + (4 * ((6 * v41) + v5)))), (4, ov_i (-1))]) (st2 := [ov_i 1, ov_r 90]) (pc2 := 113) b_219_111_2 rfl rfl ?_
          refine ov_cV (as := [ov_i 1]) (st := []) (d2 := d - 1) d_219_113 lk_Mo_186 rfl (Nat.le_of_ble_eq_true rfl) (c := 1) (zb_90 I540) (zs_90 I540) ⟨by decide, rfl⟩ (by omega) (c_Mo_wrong_90 (d - 1) (by omega) U I540 1 (by omega) (by omega)) ?_
          rintro _ z574 h575 ⟨rfl, I576, f559, e560, e561, e562, e563, e564, e565, e566, e567, e568, e569, e570, e571, e572, e573⟩
          have E577 : h575 92 = h 92 := Eq.trans e560 E541
          have E578 : h575 93 = h 93 := Eq.trans e561 E542
          have E579 : h575 94 = h 94 := Eq.trans e562 E543
          have E580 : h575 95 = h 95 := Eq.trans e563 E544
          have E581 : h575 96 = h 96 := Eq.trans e564 E545
          have E582 : h575 97 = h 97 := Eq.trans e565 E546
          have E583 : h575 98 = h 98 := Eq.trans e566 E547
          have E584 : h575 99 = h 99 := Eq.trans e567 E548
          have E585 : h575 100 = h 100 := Eq.trans e568 E549
          have E586 : h575 103 = h 103 := Eq.trans e569 E550
          have E587 : h575 105 = h 105 := Eq.trans e570 E551
          have E588 : h575 106 = h 106 := Eq.trans e571 E552
          have E589 : h575 109 = h 109 := Eq.trans e572 E553
          have E590 : h575 114 = h 114 := Eq.trans e573 E554
          show ov_R u d ov_m219 116 [(0, ov_r 90), (1, ov_i v5), (2, ov_i v41), (3, ov_i (350 + (4 * ((6 * v41) + v5)))), (4, ov_i (-1))] [] z574 h575 (P_Mo_readLight_90 F z h n)
          have f591 : (h575 90 2) = (h539 90 2) ∧ (h575 90 7) = (h539 90 7) ∧ (h575 90 13) = (h539 90 13) ∧ (h575 90 20) = (h539 90 20) ∧ (h575 90 22) = (h539 90 22) ∧ (h575 90 25) = (h539 90 25) ∧ (h575 90 26) = (h539 90 26) ∧ (h575 90 28) = (h539 90 28) ∧ (h575 90 29) = (h539 90 29) ∧ (h575 90 30) = (h539 90 30) ∧ (h575 90 34) = (h539 90 34) ∧ 0 < (h575 90 8) ∧ (h539 90 8) ≤ (h575 90 8) := f559
          clear f559
          have R592 : ov_RD (h 96) (h 97) (h 98) (h 90 13) (h575 96) (h575 97) (h575 98) (h 90 13) := by rw [show h575 96 = h 96 from E581, show h575 97 = h 97 from E582, show h575 98 = h 98 from E583]; exact ov_RD_refl _ _ _ _
          exact ov_retv (st := []) d_219_116 rfl ⟨rfl, I576, (by show (h575 90 2) = (h 90 2) ∧ (h575 90 13) = (h 90 13) ∧ (h575 90 20) = (h 90 20) ∧ (h575 90 22) = (h 90 22) ∧ (h575 90 25) = (h 90 25) ∧ (h575 90 26) = (h 90 26) ∧ (h575 90 28) = (h 90 28) ∧ (h575 90 29) = (h 90 29) ∧ (h575 90 30) = (h 90 30) ∧ (h575 90 34) = (h 90 34) ∧ (h 90 7) ≤ (h575 90 7) ∧ (h575 90 7) ≤ n ∧ (h 90 13) ≤ (h575 90 13) ∧ (h575 90 13) - (h 90 13) ≤ (h575 90 7) - (h 90 7) ∧ (h 96 340) = (h 96 340) ∧ (h 96 341) = (h 96 341) ∧ ((h575 90 8) = 0 → 1 ≤ (h 96 342) → 1 ≤ (h 96 342)) ∧ (1 ≤ (h 96 349) → 1 ≤ (h 96 349)); omega), E577, E578, E579, E580, E582, E583, E584, E585, E586, E587, E588, E589, E590, R592.1, R592.2.1, (fun _ w => by show ov_CS (h575 96) (h575 97) (h575 98) (h575 90 13); rw [show (h575 90 13) = h 90 13 by omega]; exact R592.2.2 w)⟩
abbrev P_Mo_readRule_90 (F : ov_H × ov_Z) (z : ov_Z) (h : ov_H) (n : Int) : Option ov_V → ov_Z → ov_H → Prop := fun r0 z' h' => r0 = none ∧ ov_N F z' h' ∧ ((h' 90 2) = (h 90 2) ∧ (h' 90 20) = (h 90 20) ∧ (h' 90 22) = (h 90 22) ∧ (h' 90 25) = (h 90 25) ∧ (h' 90 26) = (h 90 26) ∧ (h' 90 28) = (h 90 28) ∧ (h' 90 29) = (h 90 29) ∧ (h' 90 30) = (h 90 30) ∧ (h' 90 34) = (h 90 34) ∧ (h 90 7) ≤ (h' 90 7) ∧ (h' 90 7) ≤ n ∧ (h 90 13) ≤ (h' 90 13) ∧ (h' 90 13) - (h 90 13) ≤ (h' 90 7) - (h 90 7) ∧ (h' 96 340) = (h 96 340) ∧ (h' 96 341) = (h 96 341) ∧ ((h' 90 8) = 0 → 1 ≤ (h 96 342) → 1 ≤ (h' 96 342)) ∧ (1 ≤ (h 96 349) → 1 ≤ (h' 96 349))) ∧ h' 92 = h 92 ∧ h' 93 = h 93 ∧ h' 94 = h 94 ∧ h' 95 = h 95 ∧ h' 100 = h 100 ∧ h' 103 = h 103 ∧ h' 105 = h 105 ∧ h' 106 = h 106 ∧ h' 109 = h 109 ∧ h' 114 = h 114 ∧ (ov_MK (h 96) (h 97) (h 98) (h' 96) (h' 97) (h' 98)) ∧ (ov_WS (h 96) → ov_WS (h' 96)) ∧ ((h' 90 8) = 0 → ov_CS (h 96) (h 97) (h 98) (h 90 13) → ov_CS (h' 96) (h' 97) (h' 98) (h' 90 13))
set_option maxHeartbeats 4000000 in
theorem c_Mo_readRule_90 {u : ov_U} {F : ov_H × ov_Z} (n : Int) {z : ov_Z} {h : ov_H} (d : Nat) (hd : 50 ≤ d) (U : ov_cap u) (I : ov_N F z h) (p0 : 0 ≤ n ∧ n ≤ 1000 ∧ (h 92 (n)) = 0 ∧ (h 90 7) ≤ n) (p1 : (h 90 13) ≤ (h 90 7)) (p2 : (h 90 8) = 0) (p3 : (h 90 7) < n) : ov_T u d ov_m224 [ov_r 90] z h (P_Mo_readRule_90 F z h n) := by
  refine ov_en rfl (Nat.le_of_ble_eq_true rfl) ?_
  show ov_R u d ov_m224 0 [(0, ov_r 90)] [] z h (P_Mo_readRule_90 F z h n)
  refine ov_blk (ls2 := [(0, ov_r 90)]) (st2 := [ov_r 90]) (pc2 := 1) b_224_0_1 rfl rfl ?_
  refine ov_getf (v := ov_r 96) d_224_1 fl_Mo_81 (zb_90 I) (zs_90 I) (congrArg ov_r (rg_90_10 I)) ?_
  refine ov_blk (ls2 := [(0, ov_r 90)]) (st2 := [ov_i 348, ov_r 96]) (pc2 := 7) b_224_4_1 rfl rfl ?_
  refine ov_iald d_224_7 (zb_96 I) (zs_96 I) (by omega) ?_
  have g1 := t96_348 I
  refine ov_blk (ls2 := [(0, ov_r 90), (1, ov_i (h 96 348))]) (st2 := [ov_i 4, ov_i (h 96 348)]) (pc2 := 11) b_224_8_3 rfl rfl ?_
  refine ov_icne (tgt := 20) d_224_11 (by decide) (by omega) (by omega) (fun c2 => ?_) (fun c2 => ?_)
  · skip
    refine ov_blk (ls2 := [(0, ov_r 90), (1, ov_i (h 96 348))]) (st2 := [ov_r 90, ov_r 90]) (pc2 := 22) b_224_20_2 rfl rfl ?_
    refine ov_getf (v := ov_i (h 90 7)) d_224_22 fl_Mo_177 (zb_90 I) (zs_90 I) rfl ?_
    have g3 := rg_90_7 I
    refine ov_blk (ls2 := [(0, ov_r 90), (1, ov_i (h 96 348))]) (st2 := [ov_i ((h 90 7) + 1), ov_r 90]) (pc2 := 27) b_224_25_2 rfl rfl ?_
    refine ov_putf (x := ((h 90 7) + 1)) d_224_27 fl_Mo_177 (zb_90 I) (zs_90 I) rfl nk_0 rfl ?_
    have I4 := up_90_7 (x := ((h 90 7) + 1)) I (by omega)
    refine ov_blk (ls2 := [(0, ov_r 90), (1, ov_i (h 96 348)), (2, ov_i 0), (3, ov_i 0)]) (st2 := []) (pc2 := 34) b_224_30_4 rfl rfl ?_
    have L8 : ∀ (n5 : Nat) (x2 : Int) (x3 : Int) (q7 : (x2 = 0 ∨ x2 = 1) ∧ 0 ≤ x3 ∧ x3 ≤ 4), 4 - x3 < (n5 : Int) → ov_R u d ov_m224 34 [(0, ov_r 90), (1, ov_i (h 96 348)), (2, ov_i x2), (3, ov_i x3)] [] z (ov_up h 90 7 ((h 90 7) + 1)) (P_Mo_readRule_90 F z h n) := by
      intro n5
      induction n5 with
      | zero =>
        intro x2 x3 q7 hn9
        exact absurd hn9 (by omega)
      | succ n5 ih6 =>
        intro x2 x3 q7 hn9
        refine ov_blk (ls2 := [(0, ov_r 90), (1, ov_i (h 96 348)), (2, ov_i x2), (3, ov_i x3)]) (st2 := [ov_i (h 96 348), ov_i x3]) (pc2 := 36) b_224_34_2 rfl rfl ?_
        refine ov_icge (tgt := 81) d_224_36 (by decide) (by omega) (by omega) (fun c10 => ?_) (fun c10 => ?_)
        · skip
          refine ov_blk (ls2 := [(0, ov_r 90), (1, ov_i (h 96 348)), (2, ov_i x2), (3, ov_i x3)]) (st2 := [ov_r 90]) (pc2 := 82) b_224_81_1 rfl rfl ?_
          refine ov_cV (as := []) (st := []) (d2 := d - 1) d_224_82 lk_Mo_239 rfl (Nat.le_of_ble_eq_true rfl) (c := 1) (zb_90 I4) (zs_90 I4) ⟨by decide, rfl⟩ (by omega) (c_Mo_isName_90 n (d - 1) (by omega) U I4 (by show 0 ≤ n ∧ n ≤ 1000 ∧ (h 92 (n)) = 0 ∧ ((h 90 7) + 1) ≤ n; omega)) ?_
          rintro _ _ _ ⟨v12, rfl, rfl, rfl, f11⟩
          show ov_R u d ov_m224 85 [(0, ov_r 90), (1, ov_i (h 96 348)), (2, ov_i x2), (3, ov_i x3)] [ov_i v12] z (ov_up h 90 7 ((h 90 7) + 1)) (P_Mo_readRule_90 F z h n)
          have f13 : (v12 = 0 ∨ v12 = 1) ∧ (v12 = 1 → ((h 90 7) + 1) < n) := f11
          clear f11
          refine ov_ifne (tgt := 96) d_224_85 (by decide) (by omega) (fun c14 => ?_) (fun c14 => ?_)
          · skip
            have f13_ : v12 = 1 := by omega
            have f15 : ((h 90 7) + 1) < n := f13.2 (by omega)
            clear f13
            refine ov_blk (ls2 := [(0, ov_r 90), (1, ov_i (h 96 348)), (2, ov_i x2), (3, ov_i x3)]) (st2 := [ov_i x2]) (pc2 := 97) b_224_96_1 rfl rfl ?_
            refine ov_ifeq (tgt := 105) d_224_97 (by decide) (by omega) (fun c16 => ?_) (fun c16 => ?_)
            · skip
              refine ov_blk (ls2 := [(0, ov_r 90), (1, ov_i (h 96 348)), (2, ov_i x2), (3, ov_i x3)]) (st2 := [ov_r 90]) (pc2 := 106) b_224_105_1 rfl rfl ?_
              refine ov_getf (v := ov_i (h 90 8)) d_224_106 fl_Mo_180 (zb_90 I4) (zs_90 I4) rfl ?_
              have g17 := rg_90_8 I
              refine ov_ifle (tgt := 113) d_224_109 (by decide) (by omega) (fun c18 => ?_) (fun c18 => ?_)
              · skip
                refine ov_blk (ls2 := [(0, ov_r 90), (1, ov_i (h 96 348)), (2, ov_i x2), (3, ov_i x3)]) (st2 := [ov_r 90]) (pc2 := 114) b_224_113_1 rfl rfl ?_
                refine ov_getf (v := ov_r 99) d_224_114 fl_Mo_90 (zb_90 I4) (zs_90 I4) (congrArg ov_r (rg_90_14 I4)) ?_
                refine ov_blk (ls2 := [(0, ov_r 90), (1, ov_i (h 96 348)), (2, ov_i x2), (3, ov_i x3)]) (st2 := [ov_r 90, ov_i (h 96 348), ov_r 99]) (pc2 := 119) b_224_117_2 rfl rfl ?_
                refine ov_getf (v := ov_r 94) d_224_119 fl_Mo_30 (zb_90 I4) (zs_90 I4) (congrArg ov_r (rg_90_6 I4)) ?_
                refine ov_blk (ls2 := [(0, ov_r 90), (1, ov_i (h 96 348)), (2, ov_i x2), (3, ov_i x3)]) (st2 := [ov_r 90, ov_r 94, ov_i (h 96 348), ov_r 99]) (pc2 := 123) b_224_122_1 rfl rfl ?_
                refine ov_getf (v := ov_i ((h 90 7) + 1)) d_224_123 fl_Mo_177 (zb_90 I4) (zs_90 I4) rfl ?_
                refine ov_lald d_224_126 (zb_94 I4) (zs_94 I4) (by omega) ?_
                show ov_R u d ov_m224 127 [(0, ov_r 90), (1, ov_i (h 96 348)), (2, ov_i x2), (3, ov_i x3)] [ov_l (h 94 ((h 90 7) + 1)), ov_i (h 96 348), ov_r 99] z (ov_up h 90 7 ((h 90 7) + 1)) (P_Mo_readRule_90 F z h n)
                have g19 := ra_94 I ((h 90 7) + 1)
                refine ov_last d_224_127 (zb_99 I4) (zs_99 I4) (by omega) ?_
                have I20 := ua_99 (k := (h 96 348)) (x := (h 94 ((h 90 7) + 1))) I4
                refine ov_blk (ls2 := [(0, ov_r 90), (1, ov_i (h 96 348)), (2, ov_i x2), (3, ov_i x3)]) (st2 := [ov_r 90, ov_r 90]) (pc2 := 130) b_224_128_2 rfl rfl ?_
                refine ov_getf (v := ov_i ((h 90 7) + 1)) d_224_130 fl_Mo_177 (zb_90 I20) (zs_90 I20) rfl ?_
                refine ov_blk (ls2 := [(0, ov_r 90), (1, ov_i (h 96 348)), (2, ov_i x2), (3, ov_i x3)]) (st2 := [ov_i (((h 90 7) + 1) + 1), ov_r 90]) (pc2 := 135) b_224_133_2 rfl rfl ?_
                refine ov_putf (x := (((h 90 7) + 1) + 1)) d_224_135 fl_Mo_177 (zb_90 I20) (zs_90 I20) rfl nk_0 rfl ?_
                have I21 := up_90_7 (x := (((h 90 7) + 1) + 1)) I20 (by omega)
                refine ov_blk (ls2 := [(0, ov_r 90), (1, ov_i (h 96 348)), (2, ov_i x2), (3, ov_i x3)]) (st2 := [ov_r 90]) (pc2 := 139) b_224_138_1 rfl rfl ?_
                refine ov_getf (v := ov_r 96) d_224_139 fl_Mo_81 (zb_90 I21) (zs_90 I21) (congrArg ov_r (rg_90_10 I21)) ?_
                refine ov_blk (ls2 := [(0, ov_r 90), (1, ov_i (h 96 348)), (2, ov_i x2), (3, ov_i x3)]) (st2 := [ov_r 90, ov_i (620 + (h 96 348)), ov_r 96]) (pc2 := 148) b_224_142_4 rfl rfl ?_
                refine ov_getf (v := ov_i (h 90 13)) d_224_148 fl_Mo_208 (zb_90 I21) (zs_90 I21) rfl ?_
                have g22 := rg_90_13 I
                refine ov_iast d_224_151 (zb_96 I21) (zs_96 I21) (by omega) ?_
                have I23 := ua_96 (k := (620 + (h 96 348))) (x := (h 90 13)) I21 (by refine ⟨?_, ?_, ?_, ?_, ?_, ?_, ?_, ?_, ?_, ?_, ?_, ?_, ?_, ?_, ?_, ?_, ?_, ?_, ?_, ?_, ?_, ?_, ?_, ?_, ?_, ?_, ?_, ?_, ?_⟩ <;> omega)
                refine ov_blk (ls2 := [(0, ov_r 90), (1, ov_i (h 96 348)), (2, ov_i x2), (3, ov_i x3)]) (st2 := [ov_i 0, ov_r 90]) (pc2 := 154) b_224_152_2 rfl rfl ?_
                refine ov_cV (as := [ov_i 0]) (st := []) (d2 := d - 1) d_224_154 lk_Mo_243 rfl (Nat.le_of_ble_eq_true rfl) (c := 1) (zb_90 I23) (zs_90 I23) ⟨by decide, rfl⟩ (by omega) (c_Mo_all_90_all n 5 (d - 1) (by omega) U I23 0 (by omega) (by show 0 ≤ n ∧ n ≤ 1000 ∧ (h 92 (n)) = 0 ∧ (((h 90 7) + 1) + 1) ≤ n; omega) (by omega) (by show (h 90 13) ≤ (((h 90 7) + 1) + 1); omega)) ?_
                rintro _ z39 h40 ⟨rfl, I41, f24, e25, e26, e27, e28, e29, e30, e31, e32, e33, e34, e35, e36, y37, y38⟩
                have E42 : h40 92 = h 92 := e25
                have E43 : h40 93 = h 93 := e26
                have E44 : h40 94 = h 94 := e27
                have E45 : h40 95 = h 95 := e28
                have E46 : h40 100 = h 100 := e31
                have E47 : h40 103 = h 103 := e32
                have E48 : h40 105 = h 105 := e33
                have E49 : h40 106 = h 106 := e34
                have E50 : h40 109 = h 109 := e35
                have E51 : h40 114 = h 114 := e36
                show ov_R u d ov_m224 157 [(0, ov_r 90), (1, ov_i (h 96 348)), (2, ov_i x2), (3, ov_i x3)] [] z39 h40 (P_Mo_readRule_90 F z h n)
                have f52 : (h40 90 2) = (h 90 2) ∧ (h40 90 20) = (h 90 20) ∧ (h40 90 22) = (h 90 22) ∧ (h40 90 25) = (h 90 25) ∧ (h40 90 26) = (h 90 26) ∧ (h40 90 28) = (h 90 28) ∧ (h40 90 29) = (h 90 29) ∧ (h40 90 30) = (h 90 30) ∧ (h40 90 34) = (h 90 34) ∧ (((h 90 7) + 1) + 1) ≤ (h40 90 7) ∧ (h40 90 7) ≤ n ∧ (h 90 8) ≤ (h40 90 8) ∧ (h 90 13) ≤ (h40 90 13) ∧ (h40 90 13) - (h 90 13) ≤ (h40 90 7) - (((h 90 7) + 1) + 1) := f24
                clear f24
                have y37_ : ∀ j : Int, j < 1100 + (h 90 13) → (h40 97) j = (h 97) j ∧ (h40 98) j = (h 98) j := y37
                have y38_ : (h40 90 8) = 0 → ov_sg (h40 97) (h40 98) (h 90 13) (h40 90 13) := y38
                refine ov_blk (ls2 := [(0, ov_r 90), (1, ov_i (h 96 348)), (2, ov_i x2), (3, ov_i x3)]) (st2 := [ov_i 0, ov_i 0, ov_r 90]) (pc2 := 160) b_224_157_3 rfl rfl ?_
                refine ov_cV (as := [ov_i 0, ov_i 0]) (st := []) (d2 := d - 1) d_224_160 lk_Mo_246 rfl (Nat.le_of_ble_eq_true rfl) (c := 1) (zb_90 I41) (zs_90 I41) ⟨by decide, rfl⟩ (by omega) (c_Mo_emit_90 (d - 1) (by omega) U I41 0 0 (by omega) (by omega) (by omega) (by show (h40 90 13) ≤ 999; omega)) ?_
                rintro _ z68 h69 ⟨rfl, I70, f53, e54, e55, e56, e57, e58, e59, e60, e61, e62, e63, e64, e65, y66, y67⟩
                have E71 : h69 92 = h 92 := Eq.trans e54 E42
                have E72 : h69 93 = h 93 := Eq.trans e55 E43
                have E73 : h69 94 = h 94 := Eq.trans e56 E44
                have E74 : h69 95 = h 95 := Eq.trans e57 E45
                have E75 : h69 96 = h40 96 := e58
                have E76 : h69 99 = h40 99 := e59
                have E77 : h69 100 = h 100 := Eq.trans e60 E46
                have E78 : h69 103 = h 103 := Eq.trans e61 E47
                have E79 : h69 105 = h 105 := Eq.trans e62 E48
                have E80 : h69 106 = h 106 := Eq.trans e63 E49
                have E81 : h69 109 = h 109 := Eq.trans e64 E50
                have E82 : h69 114 = h 114 := Eq.trans e65 E51
                show ov_R u d ov_m224 163 [(0, ov_r 90), (1, ov_i (h 96 348)), (2, ov_i x2), (3, ov_i x3)] [] z68 h69 (P_Mo_readRule_90 F z h n)
                have f83 : (h69 90 2) = (h40 90 2) ∧ (h69 90 7) = (h40 90 7) ∧ (h69 90 8) = (h40 90 8) ∧ (h69 90 20) = (h40 90 20) ∧ (h69 90 22) = (h40 90 22) ∧ (h69 90 25) = (h40 90 25) ∧ (h69 90 26) = (h40 90 26) ∧ (h69 90 28) = (h40 90 28) ∧ (h69 90 29) = (h40 90 29) ∧ (h69 90 30) = (h40 90 30) ∧ (h69 90 34) = (h40 90 34) ∧ (h69 90 13) = (h40 90 13) + 1 := f53
                clear f53
                have y66_ : (h69 97) = ov_rs (h40 97) (1100 + (h40 90 13)) (0 : Int) := y66
                have y67_ : (h69 98) = ov_rs (h40 98) (1100 + (h40 90 13)) (0 : Int) := y67
                refine ov_blk (ls2 := [(0, ov_r 90), (1, ov_i (h 96 348)), (2, ov_i x2), (3, ov_i x3)]) (st2 := [ov_r 90]) (pc2 := 164) b_224_163_1 rfl rfl ?_
                refine ov_getf (v := ov_r 96) d_224_164 fl_Mo_81 (zb_90 I70) (zs_90 I70) (congrArg ov_r (rg_90_10 I70)) ?_
                refine ov_blk (ls2 := [(0, ov_r 90), (1, ov_i (h 96 348)), (2, ov_i x2), (3, ov_i x3)]) (st2 := [ov_i 348, ov_r 96, ov_i 348, ov_r 96]) (pc2 := 171) b_224_167_2 rfl rfl ?_
                refine ov_iald d_224_171 (zb_96 I70) (zs_96 I70) (by omega) ?_
                rw [show h69 96 = h40 96 from E75]
                have g84 := t96_348 I41
                refine ov_blk (ls2 := [(0, ov_r 90), (1, ov_i (h 96 348)), (2, ov_i x2), (3, ov_i x3)]) (st2 := [ov_i ((h40 96 348) + 1), ov_i 348, ov_r 96]) (pc2 := 174) b_224_172_2 rfl rfl ?_
                refine ov_iast d_224_174 (zb_96 I70) (zs_96 I70) (by omega) ?_
                have I85 := ua_96 (k := 348) (x := ((h40 96 348) + 1)) I70 (by refine ⟨?_, ?_, ?_, ?_, ?_, ?_, ?_, ?_, ?_, ?_, ?_, ?_, ?_, ?_, ?_, ?_, ?_, ?_, ?_, ?_, ?_, ?_, ?_, ?_, ?_, ?_, ?_, ?_, ?_⟩ <;> omega)
                have q1 : (ov_up (ov_up (ov_up (ov_up h 90 7 ((h 90 7) + 1)) 99 (h 96 348) (h 94 ((h 90 7) + 1))) 90 7 (((h 90 7) + 1) + 1)) 96 (620 + (h 96 348)) (h 90 13)) 96 = ov_rs (h 96) (620 + (h 96 348)) (h 90 13) := by rw [ov_up_row]; rfl
                have q2 : (ov_up h69 96 348 ((h40 96 348) + 1)) 96 = ov_rs (ov_rs (h 96) (620 + (h 96 348)) (h 90 13)) 348 ((h40 96 348) + 1) := by rw [ov_up_row, e58, e29, q1]
                have q3 : h69 96 = ov_rs (h 96) (620 + (h 96 348)) (h 90 13) := by rw [e58, e29, q1]
                have q4 := t96_348 I
                have q5 : h69 96 348 = h 96 348 := by rw [q3, ov_rs_ne (by omega)]
                have k1 : ∀ j : Int, j < 1100 + (h 90 13) → h40 97 j = h 97 j ∧ h40 98 j = h 98 j := fun j hj => y37_ j (by omega)
                have l340 : (ov_up h69 96 348 ((h40 96 348) + 1)) 96 340 = h 96 340 := by rw [q2, ov_rs_ne (by omega), ov_rs_ne (by omega)]
                have l341 : (ov_up h69 96 348 ((h40 96 348) + 1)) 96 341 = h 96 341 := by rw [q2, ov_rs_ne (by omega), ov_rs_ne (by omega)]
                have l342 : (ov_up h69 96 348 ((h40 96 348) + 1)) 96 342 = h 96 342 := by rw [q2, ov_rs_ne (by omega), ov_rs_ne (by omega)]
                have l349 : (ov_up h69 96 348 ((h40 96 348) + 1)) 96 349 = h 96 349 := by rw [q2, ov_rs_ne (by omega), ov_rs_ne (by omega)]
                exact ov_retv (st := []) d_224_175 rfl ⟨rfl, I85, (by show (h69 90 2) = (h 90 2) ∧ (h69 90 20) = (h 90 20) ∧ (h69 90 22) = (h 90 22) ∧ (h69 90 25) = (h 90 25) ∧ (h69 90 26) = (h 90 26) ∧ (h69 90 28) = (h 90 28) ∧ (h69 90 29) = (h 90 29) ∧ (h69 90 30) = (h 90 30) ∧ (h69 90 34) = (h 90 34) ∧ (h 90 7) ≤ (h69 90 7) ∧ (h69 90 7) ≤ n ∧ (h 90 13) ≤ (h69 90 13) ∧ (h69 90 13) - (h 90 13) ≤ (h69 90 7) - (h 90 7) ∧ (h40 96 340) = (h 96 340) ∧ (h40 96 341) = (h 96 341) ∧ ((h69 90 8) = 0 → 1 ≤ (h 96 342) → 1 ≤ (h40 96 342)) ∧ (1 ≤ (h 96 349) → 1 ≤ (h40 96 349)); omega), E71, E72, E73, E74, E77, E78, E79, E80, E81, E82, (by show ov_MK (h 96) (h 97) (h 98) ((ov_up h69 96 348 ((h40 96 348) + 1)) 96) (h69 97) (h69 98); rw [q2]; exact ⟨(ov_MK_1 (k := 348) (ov_MK_1 (ov_MK_refl (h 96) (h 97) (h 98)) (by omega)) (by decide)).1, fun j hj => (ov_kpe k1 y66_ y67_ (by omega) j (by omega)).1, fun j hj => (ov_kpe k1 y66_ y67_ (by omega) j (by omega)).2⟩), (fun w => by show ov_WS ((ov_up h69 96 348 ((h40 96 348) + 1)) 96); rw [q2]; exact ov_WS_o (ov_WS_o w (by omega)) (by decide)), (fun e w => by have e0 : (h69 90 8) = 0 := e; have s2 := y38_ (by omega); rw [show (h 90 13) = h 90 13 by omega] at s2; show ov_CS ((ov_up h69 96 348 ((h40 96 348) + 1)) 96) (h69 97) (h69 98) (h69 90 13); rw [show (h69 90 13) = h40 90 13 + 1 by omega, q2]; exact ov_CS_r w (by omega) (by omega) (by rw [ov_rs_ne (by omega), show 620 + h 96 348 = 620 + (h 96 348) by omega, ov_rs_eq]) (fun r a b => by rw [ov_rs_ne (by omega), ov_rs_ne (by omega)]) (by rw [ov_rs_eq]; omega) k1 s2 y66_ y67_)⟩
              · skip
                have R86 : ov_RD (h 96) (h 97) (h 98) (h 90 13) ((ov_up h 90 7 ((h 90 7) + 1)) 96) ((ov_up h 90 7 ((h 90 7) + 1)) 97) ((ov_up h 90 7 ((h 90 7) + 1)) 98) (h 90 13) := by exact ov_RD_refl _ _ _ _
                exact ov_retv (st := []) d_224_112 rfl ⟨rfl, I4, ⟨rfl, rfl, rfl, rfl, rfl, rfl, rfl, rfl, rfl, (by show (h 90 7) ≤ ((h 90 7) + 1) ∧ ((h 90 7) + 1) ≤ n ∧ (h 90 13) ≤ (h 90 13) ∧ (h 90 13) - (h 90 13) ≤ ((h 90 7) + 1) - (h 90 7) ∧ (h 96 340) = (h 96 340) ∧ (h 96 341) = (h 96 341) ∧ ((h 90 8) = 0 → 1 ≤ (h 96 342) → 1 ≤ (h 96 342)) ∧ (1 ≤ (h 96 349) → 1 ≤ (h 96 349)); omega)⟩, rfl, rfl, rfl, rfl, rfl, rfl, rfl, rfl, rfl, rfl, R86.1, R86.2.1, (fun _ w => by show ov_CS ((ov_up h 90 7 ((h 90 7) + 1)) 96) ((ov_up h 90 7 ((h 90 7) + 1)) 97) ((ov_up h 90 7 ((h 90 7) + 1)) 98) (h 90 13); rw [show (h 90 13) = h 90 13 by omega]; exact R86.2.2 w)⟩
            · skip
              refine ov_blk (ls2 := [(0, ov_r 90), (1, ov_i (h 96 348)), (2, ov_i x2), (3, ov_i x3)]) (st2 := [ov_i 3, ov_r 90]) (pc2 := 102) b_224_100_2 rfl rfl ?_
              refine ov_cV (as := [ov_i 3]) (st := []) (d2 := d - 1) d_224_102 lk_Mo_186 rfl (Nat.le_of_ble_eq_true rfl) (c := 1) (zb_90 I4) (zs_90 I4) ⟨by decide, rfl⟩ (by omega) (c_Mo_wrong_90 (d - 1) (by omega) U I4 3 (by omega) (by omega)) ?_
              rintro _ z102 h103 ⟨rfl, I104, f87, e88, e89, e90, e91, e92, e93, e94, e95, e96, e97, e98, e99, e100, e101⟩
              have E105 : h103 92 = h 92 := e88
              have E106 : h103 93 = h 93 := e89
              have E107 : h103 94 = h 94 := e90
              have E108 : h103 95 = h 95 := e91
              have E109 : h103 96 = h 96 := e92
              have E110 : h103 97 = h 97 := e93
              have E111 : h103 98 = h 98 := e94
              have E112 : h103 99 = h 99 := e95
              have E113 : h103 100 = h 100 := e96
              have E114 : h103 103 = h 103 := e97
              have E115 : h103 105 = h 105 := e98
              have E116 : h103 106 = h 106 := e99
              have E117 : h103 109 = h 109 := e100
              have E118 : h103 114 = h 114 := e101
              show ov_R u d ov_m224 105 [(0, ov_r 90), (1, ov_i (h 96 348)), (2, ov_i x2), (3, ov_i x3)] [] z102 h103 (P_Mo_readRule_90 F z h n)
              have f119 : (h103 90 2) = (h 90 2) ∧ (h103 90 7) = ((h 90 7) + 1) ∧ (h103 90 13) = (h 90 13) ∧ (h103 90 20) = (h 90 20) ∧ (h103 90 22) = (h 90 22) ∧ (h103 90 25) = (h 90 25) ∧ (h103 90 26) = (h 90 26) ∧ (h103 90 28) = (h 90 28) ∧ (h103 90 29) = (h 90 29) ∧ (h103 90 30) = (h 90 30) ∧ (h103 90 34) = (h 90 34) ∧ 0 < (h103 90 8) ∧ (h 90 8) ≤ (h103 90 8) := f87
              clear f87
              refine ov_blk (ls2 := [(0, ov_r 90), (1, ov_i (h 96 348)), (2, ov_i x2), (3, ov_i x3)]) (st2 := [ov_r 90]) (pc2 := 106) b_224_105_1 rfl rfl ?_
              refine ov_getf (v := ov_i (h103 90 8)) d_224_106 fl_Mo_180 (zb_90 I104) (zs_90 I104) rfl ?_
              have g120 := rg_90_8 I104
              refine ov_ifle (tgt := 113) d_224_109 (by decide) (by omega) (fun c121 => ?_) (fun c121 => ?_)
              · omega
              · skip
                have R122 : ov_RD (h 96) (h 97) (h 98) (h 90 13) (h103 96) (h103 97) (h103 98) (h 90 13) := by rw [show h103 96 = h 96 from E109, show h103 97 = h 97 from E110, show h103 98 = h 98 from E111]; exact ov_RD_refl _ _ _ _
                exact ov_retv (st := []) d_224_112 rfl ⟨rfl, I104, (by show (h103 90 2) = (h 90 2) ∧ (h103 90 20) = (h 90 20) ∧ (h103 90 22) = (h 90 22) ∧ (h103 90 25) = (h 90 25) ∧ (h103 90 26) = (h 90 26) ∧ (h103 90 28) = (h 90 28) ∧ (h103 90 29) = (h 90 29) ∧ (h103 90 30) = (h 90 30) ∧ (h103 90 34) = (h 90 34) ∧ (h 90 7) ≤ (h103 90 7) ∧ (h103 90 7) ≤ n ∧ (h 90 13) ≤ (h103 90 13) ∧ (h103 90 13) - (h 90 13) ≤ (h103 90 7) - (h 90 7) ∧ (h 96 340) = (h 96 340) ∧ (h 96 341) = (h 96 341) ∧ ((h103 90 8) = 0 → 1 ≤ (h 96 342) → 1 ≤ (h 96 342)) ∧ (1 ≤ (h 96 349) → 1 ≤ (h 96 349)); omega), E105, E106, E107, E108, E113, E114, E115, E116, E117, E118, R122.1, R122.2.1, (fun _ w => by show ov_CS (h103 96) (h103 97) (h103 98) (h103 90 13); rw [show (h103 90 13) = h 90 13 by omega]; exact R122.2.2 w)⟩
          · skip
            have f13_ : v12 = 0 := by omega
            clear f13
            refine ov_blk (ls2 := [(0, ov_r 90), (1, ov_i (h 96 348)), (2, ov_i x2), (3, ov_i x3)]) (st2 := [ov_i 1, ov_r 90]) (pc2 := 90) b_224_88_2 rfl rfl ?_
            refine ov_cV (as := [ov_i 1]) (st := []) (d2 := d - 1) d_224_90 lk_Mo_186 rfl (Nat.le_of_ble_eq_true rfl) (c := 1) (zb_90 I4) (zs_90 I4) ⟨by decide, rfl⟩ (by omega) (c_Mo_wrong_90 (d - 1) (by omega) U I4 1 (by omega) (by omega)) ?_
            rintro _ z138 h139 ⟨rfl, I140, f123, e124, e125, e126, e127, e128, e129, e130, e131, e132, e133, e134, e135, e136, e137⟩
            have E141 : h139 92 = h 92 := e124
            have E142 : h139 93 = h 93 := e125
            have E143 : h139 94 = h 94 := e126
            have E144 : h139 95 = h 95 := e127
            have E145 : h139 96 = h 96 := e128
            have E146 : h139 97 = h 97 := e129
            have E147 : h139 98 = h 98 := e130
            have E148 : h139 99 = h 99 := e131
            have E149 : h139 100 = h 100 := e132
            have E150 : h139 103 = h 103 := e133
            have E151 : h139 105 = h 105 := e134
            have E152 : h139 106 = h 106 := e135
            have E153 : h139 109 = h 109 := e136
            have E154 : h139 114 = h 114 := e137
            show ov_R u d ov_m224 93 [(0, ov_r 90), (1, ov_i (h 96 348)), (2, ov_i x2), (3, ov_i x3)] [] z138 h139 (P_Mo_readRule_90 F z h n)
            have f155 : (h139 90 2) = (h 90 2) ∧ (h139 90 7) = ((h 90 7) + 1) ∧ (h139 90 13) = (h 90 13) ∧ (h139 90 20) = (h 90 20) ∧ (h139 90 22) = (h 90 22) ∧ (h139 90 25) = (h 90 25) ∧ (h139 90 26) = (h 90 26) ∧ (h139 90 28) = (h 90 28) ∧ (h139 90 29) = (h 90 29) ∧ (h139 90 30) = (h 90 30) ∧ (h139 90 34) = (h 90 34) ∧ 0 < (h139 90 8) ∧ (h 90 8) ≤ (h139 90 8) := f123
            clear f123
            refine ov_goto (tgt := 105) d_224_93 (by decide) ?_
            refine ov_blk (ls2 := [(0, ov_r 90), (1, ov_i (h 96 348)), (2, ov_i x2), (3, ov_i x3)]) (st2 := [ov_r 90]) (pc2 := 106) b_224_105_1 rfl rfl ?_
            refine ov_getf (v := ov_i (h139 90 8)) d_224_106 fl_Mo_180 (zb_90 I140) (zs_90 I140) rfl ?_
            have g156 := rg_90_8 I140
            refine ov_ifle (tgt := 113) d_224_109 (by decide) (by omega) (fun c157 => ?_) (fun c157 => ?_)
            · omega
            · skip
              have R158 : ov_RD (h 96) (h 97) (h 98) (h 90 13) (h139 96) (h139 97) (h139 98) (h 90 13) := by rw [show h139 96 = h 96 from E145, show h139 97 = h 97 from E146, show h139 98 = h 98 from E147]; exact ov_RD_refl _ _ _ _
              exact ov_retv (st := []) d_224_112 rfl ⟨rfl, I140, (by show (h139 90 2) = (h 90 2) ∧ (h139 90 20) = (h 90 20) ∧ (h139 90 22) = (h 90 22) ∧ (h139 90 25) = (h 90 25) ∧ (h139 90 26) = (h 90 26) ∧ (h139 90 28) = (h 90 28) ∧ (h139 90 29) = (h 90 29) ∧ (h139 90 30) = (h 90 30) ∧ (h139 90 34) = (h 90 34) ∧ (h 90 7) ≤ (h139 90 7) ∧ (h139 90 7) ≤ n ∧ (h 90 13) ≤ (h139 90 13) ∧ (h139 90 13) - (h 90 13) ≤ (h139 90 7) - (h 90 7) ∧ (h 96 340) = (h 96 340) ∧ (h 96 341) = (h 96 341) ∧ ((h139 90 8) = 0 → 1 ≤ (h 96 342) → 1 ≤ (h 96 342)) ∧ (1 ≤ (h 96 349) → 1 ≤ (h 96 349)); omega), E141, E142, E143, E144, E149, E150, E151, E152, E153, E154, R158.1, R158.2.1, (fun _ w => by show ov_CS (h139 96) (h139 97) (h139 98) (h139 90 13); rw [show (h139 90 13) = h 90 13 by omega]; exact R158.2.2 w)⟩
        · skip
          refine ov_blk (ls2 := [(0, ov_r 90), (1, ov_i (h 96 348)), (2, ov_i x2), (3, ov_i x3)]) (st2 := [ov_r 90]) (pc2 := 40) b_224_39_1 rfl rfl ?_
          refine ov_getf (v := ov_i (h 90 8)) d_224_40 fl_Mo_180 (zb_90 I4) (zs_90 I4) rfl ?_
          have g159 := rg_90_8 I
          refine ov_ifne (tgt := 81) d_224_43 (by decide) (by omega) (fun c160 => ?_) (fun c160 => ?_)
          · skip
            refine ov_blk (ls2 := [(0, ov_r 90), (1, ov_i (h 96 348)), (2, ov_i x2), (3, ov_i x3)]) (st2 := [ov_r 90]) (pc2 := 82) b_224_81_1 rfl rfl ?_
            refine ov_cV (as := []) (st := []) (d2 := d - 1) d_224_82 lk_Mo_239 rfl (Nat.le_of_ble_eq_true rfl) (c := 1) (zb_90 I4) (zs_90 I4) ⟨by decide, rfl⟩ (by omega) (c_Mo_isName_90 n (d - 1) (by omega) U I4 (by show 0 ≤ n ∧ n ≤ 1000 ∧ (h 92 (n)) = 0 ∧ ((h 90 7) + 1) ≤ n; omega)) ?_
            rintro _ _ _ ⟨v162, rfl, rfl, rfl, f161⟩
            show ov_R u d ov_m224 85 [(0, ov_r 90), (1, ov_i (h 96 348)), (2, ov_i x2), (3, ov_i x3)] [ov_i v162] z (ov_up h 90 7 ((h 90 7) + 1)) (P_Mo_readRule_90 F z h n)
            have f163 : (v162 = 0 ∨ v162 = 1) ∧ (v162 = 1 → ((h 90 7) + 1) < n) := f161
            clear f161
            refine ov_ifne (tgt := 96) d_224_85 (by decide) (by omega) (fun c164 => ?_) (fun c164 => ?_)
            · skip
              have f163_ : v162 = 1 := by omega
              have f165 : ((h 90 7) + 1) < n := f163.2 (by omega)
              clear f163
              refine ov_blk (ls2 := [(0, ov_r 90), (1, ov_i (h 96 348)), (2, ov_i x2), (3, ov_i x3)]) (st2 := [ov_i x2]) (pc2 := 97) b_224_96_1 rfl rfl ?_
              refine ov_ifeq (tgt := 105) d_224_97 (by decide) (by omega) (fun c166 => ?_) (fun c166 => ?_)
              · skip
                refine ov_blk (ls2 := [(0, ov_r 90), (1, ov_i (h 96 348)), (2, ov_i x2), (3, ov_i x3)]) (st2 := [ov_r 90]) (pc2 := 106) b_224_105_1 rfl rfl ?_
                refine ov_getf (v := ov_i (h 90 8)) d_224_106 fl_Mo_180 (zb_90 I4) (zs_90 I4) rfl ?_
                refine ov_ifle (tgt := 113) d_224_109 (by decide) (by omega) (fun c168 => ?_) (fun c168 => ?_)
                · omega
                · skip
                  have R169 : ov_RD (h 96) (h 97) (h 98) (h 90 13) ((ov_up h 90 7 ((h 90 7) + 1)) 96) ((ov_up h 90 7 ((h 90 7) + 1)) 97) ((ov_up h 90 7 ((h 90 7) + 1)) 98) (h 90 13) := by exact ov_RD_refl _ _ _ _
                  exact ov_retv (st := []) d_224_112 rfl ⟨rfl, I4, ⟨rfl, rfl, rfl, rfl, rfl, rfl, rfl, rfl, rfl, (by show (h 90 7) ≤ ((h 90 7) + 1) ∧ ((h 90 7) + 1) ≤ n ∧ (h 90 13) ≤ (h 90 13) ∧ (h 90 13) - (h 90 13) ≤ ((h 90 7) + 1) - (h 90 7) ∧ (h 96 340) = (h 96 340) ∧ (h 96 341) = (h 96 341) ∧ ((h 90 8) = 0 → 1 ≤ (h 96 342) → 1 ≤ (h 96 342)) ∧ (1 ≤ (h 96 349) → 1 ≤ (h 96 349)); omega)⟩, rfl, rfl, rfl, rfl, rfl, rfl, rfl, rfl, rfl, rfl, R169.1, R169.2.1, (fun _ w => by show ov_CS ((ov_up h 90 7 ((h 90 7) + 1)) 96) ((ov_up h 90 7 ((h 90 7) + 1)) 97) ((ov_up h 90 7 ((h 90 7) + 1)) 98) (h 90 13); rw [show (h 90 13) = h 90 13 by omega]; exact R169.2.2 w)⟩
              · skip
                refine ov_blk (ls2 := [(0, ov_r 90), (1, ov_i (h 96 348)), (2, ov_i x2), (3, ov_i x3)]) (st2 := [ov_i 3, ov_r 90]) (pc2 := 102) b_224_100_2 rfl rfl ?_
                refine ov_cV (as := [ov_i 3]) (st := []) (d2 := d - 1) d_224_102 lk_Mo_186 rfl (Nat.le_of_ble_eq_true rfl) (c := 1) (zb_90 I4) (zs_90 I4) ⟨by decide, rfl⟩ (by omega) (c_Mo_wrong_90 (d - 1) (by omega) U I4 3 (by omega) (by omega)) ?_
                rintro _ z185 h186 ⟨rfl, I187, f170, e171, e172, e173, e174, e175, e176, e177, e178, e179, e180, e181, e182, e183, e184⟩
                have E188 : h186 92 = h 92 := e171
                have E189 : h186 93 = h 93 := e172
                have E190 : h186 94 = h 94 := e173
                have E191 : h186 95 = h 95 := e174
                have E192 : h186 96 = h 96 := e175
                have E193 : h186 97 = h 97 := e176
                have E194 : h186 98 = h 98 := e177
                have E195 : h186 99 = h 99 := e178
                have E196 : h186 100 = h 100 := e179
                have E197 : h186 103 = h 103 := e180
                have E198 : h186 105 = h 105 := e181
                have E199 : h186 106 = h 106 := e182
                have E200 : h186 109 = h 109 := e183
                have E201 : h186 114 = h 114 := e184
                show ov_R u d ov_m224 105 [(0, ov_r 90), (1, ov_i (h 96 348)), (2, ov_i x2), (3, ov_i x3)] [] z185 h186 (P_Mo_readRule_90 F z h n)
                have f202 : (h186 90 2) = (h 90 2) ∧ (h186 90 7) = ((h 90 7) + 1) ∧ (h186 90 13) = (h 90 13) ∧ (h186 90 20) = (h 90 20) ∧ (h186 90 22) = (h 90 22) ∧ (h186 90 25) = (h 90 25) ∧ (h186 90 26) = (h 90 26) ∧ (h186 90 28) = (h 90 28) ∧ (h186 90 29) = (h 90 29) ∧ (h186 90 30) = (h 90 30) ∧ (h186 90 34) = (h 90 34) ∧ 0 < (h186 90 8) ∧ (h 90 8) ≤ (h186 90 8) := f170
                clear f170
                refine ov_blk (ls2 := [(0, ov_r 90), (1, ov_i (h 96 348)), (2, ov_i x2), (3, ov_i x3)]) (st2 := [ov_r 90]) (pc2 := 106) b_224_105_1 rfl rfl ?_
                refine ov_getf (v := ov_i (h186 90 8)) d_224_106 fl_Mo_180 (zb_90 I187) (zs_90 I187) rfl ?_
                have g203 := rg_90_8 I187
                refine ov_ifle (tgt := 113) d_224_109 (by decide) (by omega) (fun c204 => ?_) (fun c204 => ?_)
                · omega
                · skip
                  have R205 : ov_RD (h 96) (h 97) (h 98) (h 90 13) (h186 96) (h186 97) (h186 98) (h 90 13) := by rw [show h186 96 = h 96 from E192, show h186 97 = h 97 from E193, show h186 98 = h 98 from E194]; exact ov_RD_refl _ _ _ _
                  exact ov_retv (st := []) d_224_112 rfl ⟨rfl, I187, (by show (h186 90 2) = (h 90 2) ∧ (h186 90 20) = (h 90 20) ∧ (h186 90 22) = (h 90 22) ∧ (h186 90 25) = (h 90 25) ∧ (h186 90 26) = (h 90 26) ∧ (h186 90 28) = (h 90 28) ∧ (h186 90 29) = (h 90 29) ∧ (h186 90 30) = (h 90 30) ∧ (h186 90 34) = (h 90 34) ∧ (h 90 7) ≤ (h186 90 7) ∧ (h186 90 7) ≤ n ∧ (h 90 13) ≤ (h186 90 13) ∧ (h186 90 13) - (h 90 13) ≤ (h186 90 7) - (h 90 7) ∧ (h 96 340) = (h 96 340) ∧ (h 96 341) = (h 96 341) ∧ ((h186 90 8) = 0 → 1 ≤ (h 96 342) → 1 ≤ (h 96 342)) ∧ (1 ≤ (h 96 349) → 1 ≤ (h 96 349)); omega), E188, E189, E190, E191, E196, E197, E198, E199, E200, E201, R205.1, R205.2.1, (fun _ w => by show ov_CS (h186 96) (h186 97) (h186 98) (h186 90 13); rw [show (h186 90 13) = h 90 13 by omega]; exact R205.2.2 w)⟩
            · skip
              have f163_ : v162 = 0 := by omega
              clear f163
              refine ov_blk (ls2 := [(0, ov_r 90), (1, ov_i (h 96 348)), (2, ov_i x2), (3, ov_i x3)]) (st2 := [ov_i 1, ov_r 90]) (pc2 := 90) b_224_88_2 rfl rfl ?_
              refine ov_cV (as := [ov_i 1]) (st := []) (d2 := d - 1) d_224_90 lk_Mo_186 rfl (Nat.le_of_ble_eq_true rfl) (c := 1) (zb_90 I4) (zs_90 I4) ⟨by decide, rfl⟩ (by omega) (c_Mo_wrong_90 (d - 1) (by omega) U I4 1 (by omega) (by omega)) ?_
              rintro _ z221 h222 ⟨rfl, I223, f206, e207, e208, e209, e210, e211, e212, e213, e214, e215, e216, e217, e218, e219, e220⟩
              have E224 : h222 92 = h 92 := e207
              have E225 : h222 93 = h 93 := e208
              have E226 : h222 94 = h 94 := e209
              have E227 : h222 95 = h 95 := e210
              have E228 : h222 96 = h 96 := e211
              have E229 : h222 97 = h 97 := e212
              have E230 : h222 98 = h 98 := e213
              have E231 : h222 99 = h 99 := e214
              have E232 : h222 100 = h 100 := e215
              have E233 : h222 103 = h 103 := e216
              have E234 : h222 105 = h 105 := e217
              have E235 : h222 106 = h 106 := e218
              have E236 : h222 109 = h 109 := e219
              have E237 : h222 114 = h 114 := e220
              show ov_R u d ov_m224 93 [(0, ov_r 90), (1, ov_i (h 96 348)), (2, ov_i x2), (3, ov_i x3)] [] z221 h222 (P_Mo_readRule_90 F z h n)
              have f238 : (h222 90 2) = (h 90 2) ∧ (h222 90 7) = ((h 90 7) + 1) ∧ (h222 90 13) = (h 90 13) ∧ (h222 90 20) = (h 90 20) ∧ (h222 90 22) = (h 90 22) ∧ (h222 90 25) = (h 90 25) ∧ (h222 90 26) = (h 90 26) ∧ (h222 90 28) = (h 90 28) ∧ (h222 90 29) = (h 90 29) ∧ (h222 90 30) = (h 90 30) ∧ (h222 90 34) = (h 90 34) ∧ 0 < (h222 90 8) ∧ (h 90 8) ≤ (h222 90 8) := f206
              clear f206
              refine ov_goto (tgt := 105) d_224_93 (by decide) ?_
              refine ov_blk (ls2 := [(0, ov_r 90), (1, ov_i (h 96 348)), (2, ov_i x2), (3, ov_i x3)]) (st2 := [ov_r 90]) (pc2 := 106) b_224_105_1 rfl rfl ?_
              refine ov_getf (v := ov_i (h222 90 8)) d_224_106 fl_Mo_180 (zb_90 I223) (zs_90 I223) rfl ?_
              have g239 := rg_90_8 I223
              refine ov_ifle (tgt := 113) d_224_109 (by decide) (by omega) (fun c240 => ?_) (fun c240 => ?_)
              · omega
              · skip
                have R241 : ov_RD (h 96) (h 97) (h 98) (h 90 13) (h222 96) (h222 97) (h222 98) (h 90 13) := by rw [show h222 96 = h 96 from E228, show h222 97 = h 97 from E229, show h222 98 = h 98 from E230]; exact ov_RD_refl _ _ _ _
                exact ov_retv (st := []) d_224_112 rfl ⟨rfl, I223, (by show (h222 90 2) = (h 90 2) ∧ (h222 90 20) = (h 90 20) ∧ (h222 90 22) = (h 90 22) ∧ (h222 90 25) = (h 90 25) ∧ (h222 90 26) = (h 90 26) ∧ (h222 90 28) = (h 90 28) ∧ (h222 90 29) = (h 90 29) ∧ (h222 90 30) = (h 90 30) ∧ (h222 90 34) = (h 90 34) ∧ (h 90 7) ≤ (h222 90 7) ∧ (h222 90 7) ≤ n ∧ (h 90 13) ≤ (h222 90 13) ∧ (h222 90 13) - (h 90 13) ≤ (h222 90 7) - (h 90 7) ∧ (h 96 340) = (h 96 340) ∧ (h 96 341) = (h 96 341) ∧ ((h222 90 8) = 0 → 1 ≤ (h 96 342) → 1 ≤ (h 96 342)) ∧ (1 ≤ (h 96 349) → 1 ≤ (h 96 349)); omega), E224, E225, E226, E227, E232, E233, E234, E235, E236, E237, R241.1, R241.2.1, (fun _ w => by show ov_CS (h222 96) (h222 97) (h222 98) (h222 90 13); rw [show (h222 90 13) = h 90 13 by omega]; exact R241.2.2 w)⟩
          · skip
            refine ov_blk (ls2 := [(0, ov_r 90), (1, ov_i (h 96 348)), (2, ov_i x2), (3, ov_i x3)]) (st2 := [ov_i x2]) (pc2 := 47) b_224_46_1 rfl rfl ?_
            refine ov_ifne (tgt := 69) d_224_47 (by decide) (by omega) (fun c242 => ?_) (fun c242 => ?_)
            · skip
              refine ov_blk (ls2 := [(0, ov_r 90), (1, ov_i (h 96 348)), (2, ov_i x2), (3, ov_i x3)]) (st2 := [ov_i 1]) (pc2 := 70) b_224_69_1 rfl rfl ?_
              refine ov_goto (tgt := 74) d_224_70 (by decide) ?_
              refine ov_blk (ls2 := [(0, ov_r 90), (1, ov_i (h 96 348)), (2, ov_i 1), (3, ov_i (x3 + 1))]) (st2 := []) (pc2 := 78) b_224_74_2 rfl rfl ?_
              refine ov_goto (tgt := 34) d_224_78 (by decide) ?_
              exact ih6 1 (x3 + 1) (by show (1 = 0 ∨ 1 = 1) ∧ 0 ≤ (x3 + 1) ∧ (x3 + 1) ≤ 4; omega) (by omega)
            · skip
              refine ov_blk (ls2 := [(0, ov_r 90), (1, ov_i (h 96 348)), (2, ov_i x2), (3, ov_i x3)]) (st2 := [ov_r 90]) (pc2 := 51) b_224_50_1 rfl rfl ?_
              refine ov_getf (v := ov_r 99) d_224_51 fl_Mo_90 (zb_90 I4) (zs_90 I4) (congrArg ov_r (rg_90_14 I4)) ?_
              refine ov_blk (ls2 := [(0, ov_r 90), (1, ov_i (h 96 348)), (2, ov_i x2), (3, ov_i x3)]) (st2 := [ov_i x3, ov_r 99]) (pc2 := 55) b_224_54_1 rfl rfl ?_
              refine ov_lald d_224_55 (zb_99 I4) (zs_99 I4) (by omega) ?_
              show ov_R u d ov_m224 56 [(0, ov_r 90), (1, ov_i (h 96 348)), (2, ov_i x2), (3, ov_i x3)] [ov_l (h 99 x3)] z (ov_up h 90 7 ((h 90 7) + 1)) (P_Mo_readRule_90 F z h n)
              refine ov_blk (ls2 := [(0, ov_r 90), (1, ov_i (h 96 348)), (2, ov_i x2), (3, ov_i x3)]) (st2 := [ov_r 90, ov_l (h 99 x3)]) (pc2 := 57) b_224_56_1 rfl rfl ?_
              refine ov_getf (v := ov_r 94) d_224_57 fl_Mo_30 (zb_90 I4) (zs_90 I4) (congrArg ov_r (rg_90_6 I4)) ?_
              refine ov_blk (ls2 := [(0, ov_r 90), (1, ov_i (h 96 348)), (2, ov_i x2), (3, ov_i x3)]) (st2 := [ov_r 90, ov_r 94, ov_l (h 99 x3)]) (pc2 := 61) b_224_60_1 rfl rfl ?_
              refine ov_getf (v := ov_i ((h 90 7) + 1)) d_224_61 fl_Mo_177 (zb_90 I4) (zs_90 I4) rfl ?_
              refine ov_lald d_224_64 (zb_94 I4) (zs_94 I4) (by omega) ?_
              show ov_R u d ov_m224 65 [(0, ov_r 90), (1, ov_i (h 96 348)), (2, ov_i x2), (3, ov_i x3)] [ov_l (h 94 ((h 90 7) + 1)), ov_l (h 99 x3)] z (ov_up h 90 7 ((h 90 7) + 1)) (P_Mo_readRule_90 F z h n)
              have g243 := ra_94 I ((h 90 7) + 1)
              refine ov_blk (ls2 := [(0, ov_r 90), (1, ov_i (h 96 348)), (2, ov_i x2), (3, ov_i x3)]) (st2 := [ov_i (ov_lcmp (h 99 x3) (h 94 ((h 90 7) + 1)))]) (pc2 := 66) b_224_65_1 rfl rfl ?_
              have g244 := ov_lcg (h 99 x3) (h 94 ((h 90 7) + 1))
              refine ov_ifne (tgt := 73) d_224_66 (by decide) (by omega) (fun c245 => ?_) (fun c245 => ?_)
              · skip
                refine ov_blk (ls2 := [(0, ov_r 90), (1, ov_i (h 96 348)), (2, ov_i 0), (3, ov_i (x3 + 1))]) (st2 := []) (pc2 := 78) b_224_73_3 rfl rfl ?_
                refine ov_goto (tgt := 34) d_224_78 (by decide) ?_
                exact ih6 0 (x3 + 1) (by show (0 = 0 ∨ 0 = 1) ∧ 0 ≤ (x3 + 1) ∧ (x3 + 1) ≤ 4; omega) (by omega)
              · skip
                refine ov_blk (ls2 := [(0, ov_r 90), (1, ov_i (h 96 348)), (2, ov_i x2), (3, ov_i x3)]) (st2 := [ov_i 1]) (pc2 := 70) b_224_69_1 rfl rfl ?_
                refine ov_goto (tgt := 74) d_224_70 (by decide) ?_
                refine ov_blk (ls2 := [(0, ov_r 90), (1, ov_i (h 96 348)), (2, ov_i 1), (3, ov_i (x3 + 1))]) (st2 := []) (pc2 := 78) b_224_74_2 rfl rfl ?_
                refine ov_goto (tgt := 34) d_224_78 (by decide) ?_
                exact ih6 1 (x3 + 1) (by show (1 = 0 ∨ 1 = 1) ∧ 0 ≤ (x3 + 1) ∧ (x3 + 1) ≤ 4; omega) (by omega)
    exact L8 5 0 0 (by show (0 = 0 ∨ 0 = 1) ∧ 0 ≤ 0 ∧ 0 ≤ 4; omega) (by omega)
  · skip
    refine ov_blk (ls2 := [(0, ov_r 90), (1, ov_i (h 96 348))]) (st2 := [ov_i 5, ov_r 90]) (pc2 := 16) b_224_14_2 rfl rfl ?_
    refine ov_cV (as := [ov_i 5]) (st := []) (d2 := d - 1) d_224_16 lk_Mo_186 rfl (Nat.le_of_ble_eq_true rfl) (c := 1) (zb_90 I) (zs_90 I) ⟨by decide, rfl⟩ (by omega) (c_Mo_wrong_90 (d - 1) (by omega) U I 5 (by omega) (by omega)) ?_
    rintro _ z261 h262 ⟨rfl, I263, f246, e247, e248, e249, e250, e251, e252, e253, e254, e255, e256, e257, e258, e259, e260⟩
    have E264 : h262 92 = h 92 := e247
    have E265 : h262 93 = h 93 := e248
    have E266 : h262 94 = h 94 := e249
    have E267 : h262 95 = h 95 := e250
    have E268 : h262 96 = h 96 := e251
    have E269 : h262 97 = h 97 := e252
    have E270 : h262 98 = h 98 := e253
    have E271 : h262 99 = h 99 := e254
    have E272 : h262 100 = h 100 := e255
    have E273 : h262 103 = h 103 := e256
    have E274 : h262 105 = h 105 := e257
    have E275 : h262 106 = h 106 := e258
    have E276 : h262 109 = h 109 := e259
    have E277 : h262 114 = h 114 := e260
    show ov_R u d ov_m224 19 [(0, ov_r 90), (1, ov_i (h 96 348))] [] z261 h262 (P_Mo_readRule_90 F z h n)
    have f278 : (h262 90 2) = (h 90 2) ∧ (h262 90 7) = (h 90 7) ∧ (h262 90 13) = (h 90 13) ∧ (h262 90 20) = (h 90 20) ∧ (h262 90 22) = (h 90 22) ∧ (h262 90 25) = (h 90 25) ∧ (h262 90 26) = (h 90 26) ∧ (h262 90 28) = (h 90 28) ∧ (h262 90 29) = (h 90 29) ∧ (h262 90 30) = (h 90 30) ∧ (h262 90 34) = (h 90 34) ∧ 0 < (h262 90 8) ∧ (h 90 8) ≤ (h262 90 8) := f246
    clear f246
    have R279 : ov_RD (h 96) (h 97) (h 98) (h 90 13) (h262 96) (h262 97) (h262 98) (h 90 13) := by rw [show h262 96 = h 96 from E268, show h262 97 = h 97 from E269, show h262 98 = h 98 from E270]; exact ov_RD_refl _ _ _ _
    exact ov_retv (st := []) d_224_19 rfl ⟨rfl, I263, (by show (h262 90 2) = (h 90 2) ∧ (h262 90 20) = (h 90 20) ∧ (h262 90 22) = (h 90 22) ∧ (h262 90 25) = (h 90 25) ∧ (h262 90 26) = (h 90 26) ∧ (h262 90 28) = (h 90 28) ∧ (h262 90 29) = (h 90 29) ∧ (h262 90 30) = (h 90 30) ∧ (h262 90 34) = (h 90 34) ∧ (h 90 7) ≤ (h262 90 7) ∧ (h262 90 7) ≤ n ∧ (h 90 13) ≤ (h262 90 13) ∧ (h262 90 13) - (h 90 13) ≤ (h262 90 7) - (h 90 7) ∧ (h 96 340) = (h 96 340) ∧ (h 96 341) = (h 96 341) ∧ ((h262 90 8) = 0 → 1 ≤ (h 96 342) → 1 ≤ (h 96 342)) ∧ (1 ≤ (h 96 349) → 1 ≤ (h 96 349)); omega), E264, E265, E266, E267, E272, E273, E274, E275, E276, E277, R279.1, R279.2.1, (fun _ w => by show ov_CS (h262 96) (h262 97) (h262 98) (h262 90 13); rw [show (h262 90 13) = h 90 13 by omega]; exact R279.2.2 w)⟩
